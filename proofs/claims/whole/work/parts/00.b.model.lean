def f7_error (x1 : Int32) (m_errors : (Nat → Int32)) : Option (Int32 × (Nat → Int32)) :=
  q_ld m_errors 7 x1 fun t6 =>
  q_st m_errors 7 x1 (t6 + ((1 : Int32))) fun m_errors_9 =>
  some (((-1000000 : Int32)) - x1, m_errors_9)
def f7_in_15 (s0 : Int32) : Option (Int32) :=
  q_bz s0 <|
  some s0
def f7_in_14  : Option (Int32) :=
  f7_in_15  ((0 : Int32))
def f7_in (x0 : Int32) (x1 : Int32) (x2 : Int32) : Option (Int32) :=
  if x0 < x1 then (
    f7_in_14 
  ) else (
    if x2 < x0 then (
      f7_in_14 
    ) else (
      f7_in_15  ((1 : Int32))
    )
  )
def f7_isWriter (x0 : Int32) : Option (Int32) :=
  q_c (f7_in x0 ((0 : Int32)) ((7 : Int32))) fun t4 =>
  q_bz t4 <|
  some t4
def f7_isAct (x1 : Int32) (m_s : (Nat → Int32)) : Option (Int32) :=
  q_ld m_s 3974 ((1 : Int32)) fun t7 =>
  q_c (f7_in x1 ((0 : Int32)) (t7 - ((1 : Int32)))) fun t10 =>
  q_bz t10 <|
  some t10
def f7_isVersion (x1 : Int32) (m_s : (Nat → Int32)) : Option (Int32) :=
  q_ld m_s 3974 ((1 : Int32)) fun t7 =>
  q_c (f7_in x1 ((0 : Int32)) t7) fun t8 =>
  q_bz t8 <|
  some t8
def f7_actIs1 (x1 : Int32) (x2 : Int32) (m_s : (Nat → Int32)) : Option (Int32) :=
  q_ld m_s 3974 ((((10 : Int32)) + (((5 : Int32)) * x1)) + x2) fun t12 =>
  some t12
def f7_sizeOf (x1 : Int32) (m_s : (Nat → Int32)) : Option (Int32) :=
  q_ld m_s 3974 (((310 : Int32)) + x1) fun t9 =>
  some t9
def f7_wordAt (x1 : Int32) (x2 : Int32) (m_s : (Nat → Int32)) : Option (Int32) :=
  q_ld m_s 3974 ((((380 : Int32)) + (((20 : Int32)) * x1)) + x2) fun t14 =>
  some t14
def f7_originAt (x1 : Int32) (x2 : Int32) (m_s : (Nat → Int32)) : Option (Int32) :=
  q_ld m_s 3974 ((((1600 : Int32)) + (((20 : Int32)) * x1)) + x2) fun t14 =>
  some t14
def f7_page (m_s : (Nat → Int32)) : Option (Int32) :=
  q_ld m_s 3974 ((1 : Int32)) fun t6 =>
  q_c (f7_sizeOf t6 m_s) fun t7 =>
  some t7
def f7_isUnder_39 (s0 : Int32) : Option (Int32) :=
  q_bz s0 <|
  some s0
def f7_isUnder_38  : Option (Int32) :=
  f7_isUnder_39  ((0 : Int32))
def f7_isUnder_34  : Option (Int32) :=
  f7_isUnder_39  ((1 : Int32))
def f7_isUnder_24 (x0 : Int32) (x1 : Int32) : Option (Int32) :=
  if x1 = ((2 : Int32)) then (
    if x0 = ((3 : Int32)) then (
      f7_isUnder_34 
    ) else (
      f7_isUnder_38 
    )
  ) else (
    f7_isUnder_38 
  )
def f7_isUnder (x0 : Int32) (x1 : Int32) : Option (Int32) :=
  if x1 = 0 then (
    f7_isUnder_34 
  ) else (
    if x0 = x1 then (
      f7_isUnder_34 
    ) else (
      if x1 = ((1 : Int32)) then (
        if x0 = ((4 : Int32)) then (
          f7_isUnder_34 
        ) else (
          if x0 = ((5 : Int32)) then (
            f7_isUnder_34 
          ) else (
            f7_isUnder_24  x0 x1
          )
        )
      ) else (
        f7_isUnder_24  x0 x1
      )
    )
  )
def f7_go (x1 : Int32) (m_s : (Nat → Int32)) (m_errors : (Nat → Int32)) : Option (Int32 × (Nat → Int32) × (Nat → Int32)) :=
  q_c (f7_in x1 ((1 : Int32)) ((9999 : Int32))) fun t5 =>
  if t5 = 0 then (
    q_c2 (f7_error ((1 : Int32)) m_errors) fun t13 m_errors_13 =>
    some (t13, m_s, m_errors_13)
  ) else (
    q_ld m_s 3974 ((0 : Int32)) fun t22 =>
    if (t22 + x1) ≤ ((29999 : Int32)) then (
      q_ld m_s 3974 ((0 : Int32)) fun t43 =>
      q_st m_s 3974 ((0 : Int32)) (t43 + x1) fun m_s_46 =>
      q_ld m_s_46 3974 ((0 : Int32)) fun t52 =>
      some (t52, m_s_46, m_errors)
    ) else (
      q_c2 (f7_error ((3 : Int32)) m_errors) fun t33 m_errors_33 =>
      some (t33, m_s, m_errors_33)
    )
  )
def f7_backsOf_62 (n : Nat) (m_s : (Nat → Int32)) (k4 : Int32 → Int32 → Int32 → Option (Int32)) (x1 : Int32) (x3 : Int32) (s0 : Int32) (s1 : Int32) : Option (Int32) :=
  q_lt (s0 + s1) fun x2_63 =>
  q_lt (x3 + (1 : Int32)) fun x3_64 =>
  k4 x1 x2_63 x3_64
def f7_backsOf_61 (n : Nat) (m_s : (Nat → Int32)) (k4 : Int32 → Int32 → Int32 → Option (Int32)) (x1 : Int32) (x3 : Int32) (s0 : Int32) : Option (Int32) :=
  f7_backsOf_62 n m_s k4 x1 x3 s0 ((0 : Int32))
def f7_backsOf_4 (n : Nat) (m_s : (Nat → Int32)) : Nat → Int32 → Int32 → Int32 → Option (Int32)
  | 0, _, _, _ => none
  | kk + 1, x1, x2, x3 =>
    q_ld m_s 3974 ((1 : Int32)) fun t10 =>
    if t10 ≤ x3 then (
      some x2
    ) else (
      q_c (f7_actIs1 x3 ((1 : Int32)) m_s) fun t18 =>
      if t18 = x1 then (
        q_c (f7_actIs1 x3 ((0 : Int32)) m_s) fun t28 =>
        q_c (f7_isUnder t28 ((2 : Int32))) fun t32 =>
        if t32 = 0 then (
          f7_backsOf_61 n m_s (f7_backsOf_4 n m_s kk) x1 x3 x2
        ) else (
          q_c (f7_actIs1 x3 ((2 : Int32)) m_s) fun t41 =>
          q_ld m_s 3974 ((0 : Int32)) fun t49 =>
          if t41 ≤ (t49 - ((1440 : Int32))) then (
            f7_backsOf_61 n m_s (f7_backsOf_4 n m_s kk) x1 x3 x2
          ) else (
            f7_backsOf_62 n m_s (f7_backsOf_4 n m_s kk) x1 x3 x2 ((1 : Int32))
          )
        )
      ) else (
        f7_backsOf_61 n m_s (f7_backsOf_4 n m_s kk) x1 x3 x2
      )
    )
def f7_backsOf (n : Nat) (x1 : Int32) (m_s : (Nat → Int32)) : Option (Int32) :=
  f7_backsOf_4 n m_s n x1 ((0 : Int32)) ((0 : Int32))
def f7_actsOf_30 (n : Nat) (m_s : (Nat → Int32)) (k4 : Int32 → Int32 → Int32 → Option (Int32)) (x1 : Int32) (x3 : Int32) (s0 : Int32) (s1 : Int32) : Option (Int32) :=
  q_lt (s0 + s1) fun x2_31 =>
  q_lt (x3 + (1 : Int32)) fun x3_32 =>
  k4 x1 x2_31 x3_32
def f7_actsOf_4 (n : Nat) (m_s : (Nat → Int32)) : Nat → Int32 → Int32 → Int32 → Option (Int32)
  | 0, _, _, _ => none
  | kk + 1, x1, x2, x3 =>
    q_ld m_s 3974 ((1 : Int32)) fun t10 =>
    if t10 ≤ x3 then (
      some x2
    ) else (
      q_c (f7_actIs1 x3 ((1 : Int32)) m_s) fun t18 =>
      if t18 = x1 then (
        f7_actsOf_30 n m_s (f7_actsOf_4 n m_s kk) x1 x3 x2 ((1 : Int32))
      ) else (
        f7_actsOf_30 n m_s (f7_actsOf_4 n m_s kk) x1 x3 x2 ((0 : Int32))
      )
    )
def f7_actsOf (n : Nat) (x1 : Int32) (m_s : (Nat → Int32)) : Option (Int32) :=
  f7_actsOf_4 n m_s n x1 ((0 : Int32)) ((0 : Int32))
def f7_hasText_21 (m_s : (Nat → Int32)) (s0 : Int32) : Option (Int32) :=
  q_bz s0 <|
  some s0
def f7_hasText (x1 : Int32) (m_s : (Nat → Int32)) : Option (Int32) :=
  q_ld m_s 3974 (((2890 : Int32)) + (((125 : Int32)) * x1)) fun t12 =>
  if t12 ≤ 0 then (
    f7_hasText_21 m_s ((0 : Int32))
  ) else (
    f7_hasText_21 m_s ((1 : Int32))
  )
def f7_joined_231 (s0 : Int32) : Option (Int32) :=
  some s0
def f7_joined_226  : Option (Int32) :=
  f7_joined_231  ((1 : Int32))
def f7_joined_218 (x1 : Int32) (x2 : Int32) : Option (Int32) :=
  if x1 = 0 then (
    if x2 = 0 then (
      f7_joined_231  ((0 : Int32))
    ) else (
      f7_joined_226 
    )
  ) else (
    f7_joined_226 
  )
def f7_joined_217 (s0 : Int32) : Option (Int32) :=
  some s0
def f7_joined_216  : Option (Int32) :=
  f7_joined_217  ((0 : Int32))
def f7_joined_203 (s0 : Int32) : Option (Int32) :=
  some s0
def f7_joined_192 (s0 : Int32) : Option (Int32) :=
  some s0
def f7_joined_181 (s0 : Int32) : Option (Int32) :=
  some s0
def f7_joined_170 (s0 : Int32) : Option (Int32) :=
  some s0
def f7_joined_163  : Option (Int32) :=
  f7_joined_170  ((0 : Int32))
def f7_joined_153 (s0 : Int32) : Option (Int32) :=
  some s0
def f7_joined (x0 : Int32) (x1 : Int32) (x2 : Int32) : Option (Int32) :=
  if x0 = (37 : Int32) then (
    if x2 = 0 then (
      f7_joined_163 
    ) else (
      if x2 = ((-1 : Int32)) then (
        f7_joined_163 
      ) else (
        q_dv x2 <|
        f7_joined_170  (x1 - x1 / x2 * x2)
      )
    )
  ) else (
  if x0 = (38 : Int32) then (
    if x1 = 0 then (
      f7_joined_216 
    ) else (
      if x2 = 0 then (
        f7_joined_216 
      ) else (
        f7_joined_217  ((1 : Int32))
      )
    )
  ) else (
  if x0 = (39 : Int32) then (
    f7_joined_218  x1 x2
  ) else (
  if x0 = (40 : Int32) then (
    f7_joined_218  x1 x2
  ) else (
  if x0 = (41 : Int32) then (
    f7_joined_218  x1 x2
  ) else (
  if x0 = (42 : Int32) then (
    some (x1 * x2)
  ) else (
  if x0 = (43 : Int32) then (
    some (x1 + x2)
  ) else (
  if x0 = (44 : Int32) then (
    f7_joined_218  x1 x2
  ) else (
  if x0 = (45 : Int32) then (
    some (x1 - x2)
  ) else (
  if x0 = (46 : Int32) then (
    f7_joined_218  x1 x2
  ) else (
  if x0 = (47 : Int32) then (
    if x2 = 0 then (
      f7_joined_153  ((0 : Int32))
    ) else (
      if x2 = ((-1 : Int32)) then (
        f7_joined_153  (-x1)
      ) else (
        q_dv x2 <|
        f7_joined_153  (x1 / x2)
      )
    )
  ) else (
  if x0 = (48 : Int32) then (
    f7_joined_218  x1 x2
  ) else (
  if x0 = (49 : Int32) then (
    f7_joined_218  x1 x2
  ) else (
  if x0 = (50 : Int32) then (
    f7_joined_218  x1 x2
  ) else (
  if x0 = (51 : Int32) then (
    f7_joined_218  x1 x2
  ) else (
  if x0 = (52 : Int32) then (
    f7_joined_218  x1 x2
  ) else (
  if x0 = (53 : Int32) then (
    f7_joined_218  x1 x2
  ) else (
  if x0 = (54 : Int32) then (
    f7_joined_218  x1 x2
  ) else (
  if x0 = (55 : Int32) then (
    f7_joined_218  x1 x2
  ) else (
  if x0 = (56 : Int32) then (
    f7_joined_218  x1 x2
  ) else (
  if x0 = (57 : Int32) then (
    f7_joined_218  x1 x2
  ) else (
  if x0 = (58 : Int32) then (
    f7_joined_218  x1 x2
  ) else (
  if x0 = (59 : Int32) then (
    f7_joined_218  x1 x2
  ) else (
  if x0 = (60 : Int32) then (
    if x2 ≤ x1 then (
      f7_joined_181  ((0 : Int32))
    ) else (
      f7_joined_181  ((1 : Int32))
    )
  ) else (
  if x0 = (61 : Int32) then (
    if x1 = x2 then (
      f7_joined_203  ((1 : Int32))
    ) else (
      f7_joined_203  ((0 : Int32))
    )
  ) else (
  if x0 = (62 : Int32) then (
    if x1 ≤ x2 then (
      f7_joined_192  ((0 : Int32))
    ) else (
      f7_joined_192  ((1 : Int32))
    )
  ) else (
    f7_joined_218  x1 x2
  ))))))))))))))))))))))))))
def f7_worked_158 (n : Nat) (m_s : (Nat → Int32)) (m_named : (Nat → Int32)) (k14 : Int32 → Int32 → Int32 → (Nat → Int32) → Option (Int32 × (Nat → Int32))) (x2 : Int32) (x3 : Int32) (x4 : Int32) (m_pile : (Nat → Int32)) : Option (Int32 × (Nat → Int32)) :=
  q_lt (x4 + (1 : Int32)) fun x4_158 =>
  k14 x2 x3 x4_158 m_pile
def f7_worked_124 (n : Nat) (m_s : (Nat → Int32)) (m_named : (Nat → Int32)) (k14 : Int32 → Int32 → Int32 → (Nat → Int32) → Option (Int32 × (Nat → Int32))) (x2 : Int32) (x3 : Int32) (x4 : Int32) (s1 : Int32) (s2 : Int32) (m_pile : (Nat → Int32)) : Option (Int32 × (Nat → Int32)) :=
  q_st m_pile 64 s1 s2 fun m_pile_124 =>
  f7_worked_158 n m_s m_named k14 x2 x3 x4 m_pile_124
def f7_worked_88 (n : Nat) (m_s : (Nat → Int32)) (m_named : (Nat → Int32)) (k14 : Int32 → Int32 → Int32 → (Nat → Int32) → Option (Int32 × (Nat → Int32))) (x2 : Int32) (x3 : Int32) (x4 : Int32) (s1 : Int32) (s2 : Int32) (m_pile : (Nat → Int32)) : Option (Int32 × (Nat → Int32)) :=
  q_st m_pile 64 s1 s2 fun m_pile_88 =>
  q_lt (x3 + (1 : Int32)) fun x3_89 =>
  f7_worked_158 n m_s m_named k14 x2 x3_89 x4 m_pile_88
def f7_worked_66 (n : Nat) (m_s : (Nat → Int32)) (m_named : (Nat → Int32)) (k14 : Int32 → Int32 → Int32 → (Nat → Int32) → Option (Int32 × (Nat → Int32))) (x2 : Int32) (x3 : Int32) (x4 : Int32) (x5 : Int32) (x6 : Int32) (m_pile : (Nat → Int32)) : Option (Int32 × (Nat → Int32)) :=
  if x5 = 0 then (
    f7_worked_88 n m_s m_named k14 x2 x3 x4 x3 x6 m_pile
  ) else (
    q_ld m_named 128 x6 fun t87 =>
    f7_worked_88 n m_s m_named k14 x2 x3 x4 x3 t87 m_pile
  )
def f7_worked_14 (n : Nat) (m_s : (Nat → Int32)) (m_named : (Nat → Int32)) : Nat → Int32 → Int32 → Int32 → (Nat → Int32) → Option (Int32 × (Nat → Int32))
  | 0, _, _, _, _ => none
  | kk + 1, x2, x3, x4, m_pile =>
    q_ld m_s 3974 x2 fun t21 =>
    if t21 ≤ x4 then (
      q_ld m_pile 64 ((0 : Int32)) fun t169 =>
      some (t169, m_pile)
    ) else (
      q_ld m_s 3974 ((x2 + ((1 : Int32))) + (((2 : Int32)) * x4)) fun t37 =>
      q_ld m_s 3974 ((x2 + ((2 : Int32))) + (((2 : Int32)) * x4)) fun t52 =>
      if t37 = 0 then (
        f7_worked_66 n m_s m_named (f7_worked_14 n m_s m_named kk) x2 x3 x4 t37 t52 m_pile
      ) else (
        if t37 = ((1 : Int32)) then (
          f7_worked_66 n m_s m_named (f7_worked_14 n m_s m_named kk) x2 x3 x4 t37 t52 m_pile
        ) else (
          if t37 = ((2 : Int32)) then (
            q_ld m_pile 64 (x3 - ((1 : Int32))) fun t115 =>
            if t115 = 0 then (
              f7_worked_124 n m_s m_named (f7_worked_14 n m_s m_named kk) x2 x3 x4 (x3 - ((1 : Int32))) ((1 : Int32)) m_pile
            ) else (
              f7_worked_124 n m_s m_named (f7_worked_14 n m_s m_named kk) x2 x3 x4 (x3 - ((1 : Int32))) ((0 : Int32)) m_pile
            )
          ) else (
            q_lt (x3 + (-1 : Int32)) fun x3_128 =>
            q_ld m_pile 64 (x3_128 - ((1 : Int32))) fun t147 =>
            q_ld m_pile 64 x3_128 fun t153 =>
            q_c (f7_joined t52 t147 t153) fun t154 =>
            q_st m_pile 64 (x3_128 - ((1 : Int32))) t154 fun m_pile_157 =>
            f7_worked_158 n m_s m_named (f7_worked_14 n m_s m_named kk) x2 x3_128 x4 m_pile_157
          )
        )
      )
    )
def f7_worked (n : Nat) (x1 : Int32) (m_s : (Nat → Int32)) (m_named : (Nat → Int32)) (m_pile : (Nat → Int32)) : Option (Int32 × (Nat → Int32)) :=
  q_lt (((2890 : Int32)) + (((125 : Int32)) * x1)) fun x2_8 =>
  f7_worked_14 n m_s m_named n x2_8 ((0 : Int32)) ((0 : Int32)) m_pile
def f7_mayAct_110 (n : Nat) (m_s : (Nat → Int32)) (s0 : Int32) (m_named : (Nat → Int32)) (m_pile : (Nat → Int32)) : Option (Int32 × (Nat → Int32) × (Nat → Int32)) :=
  q_bz s0 <|
  some (s0, m_named, m_pile)
def f7_mayAct_27 (n : Nat) (m_s : (Nat → Int32)) (x1 : Int32) (m_named : (Nat → Int32)) (m_pile : (Nat → Int32)) : Option (Int32 × (Nat → Int32) × (Nat → Int32)) :=
  q_c (f7_hasText ((0 : Int32)) m_s) fun t29 =>
  if t29 = 0 then (
    q_bz ((1 : Int32)) <|
    some ((1 : Int32), m_named, m_pile)
  ) else (
    q_c (f7_backsOf n x1 m_s) fun t45 =>
    q_st m_named 128 ((98 : Int32)) t45 fun m_named_48 =>
    q_st m_named_48 128 ((119 : Int32)) x1 fun m_named_56 =>
    q_ld m_s 3974 ((0 : Int32)) fun t68 =>
    q_dv ((1440 : Int32)) <|
    q_st m_named_56 128 ((109 : Int32)) (t68 - t68 / ((1440 : Int32)) * ((1440 : Int32))) fun m_named_73 =>
    q_c (f7_page m_s) fun t81 =>
    q_st m_named_73 128 ((108 : Int32)) t81 fun m_named_84 =>
    q_c (f7_actsOf n x1 m_s) fun t93 =>
    q_st m_named_84 128 ((97 : Int32)) t93 fun m_named_96 =>
    q_c2 (f7_worked n ((0 : Int32)) m_s m_named_96 m_pile) fun t99 m_pile_99 =>
    if t99 = 0 then (
      f7_mayAct_110 n m_s ((0 : Int32)) m_named_96 m_pile_99
    ) else (
      f7_mayAct_110 n m_s ((1 : Int32)) m_named_96 m_pile_99
    )
  )
def f7_mayAct (n : Nat) (x1 : Int32) (m_s : (Nat → Int32)) (m_named : (Nat → Int32)) (m_pile : (Nat → Int32)) : Option (Int32 × (Nat → Int32) × (Nat → Int32)) :=
  q_ld m_s 3974 ((0 : Int32)) fun t5 =>
  q_ld m_s 3974 ((2 : Int32)) fun t11 =>
  if t11 ≤ t5 then (
    f7_mayAct_27 n m_s x1 m_named m_pile
  ) else (
    q_ld m_s 3974 ((3 : Int32)) fun t20 =>
    if t20 = x1 then (
      f7_mayAct_27 n m_s x1 m_named m_pile
    ) else (
      q_bz ((0 : Int32)) <|
      some ((0 : Int32), m_named, m_pile)
    )
  )
def f7_takeOver_3 (n : Nat) (m_s : (Nat → Int32)) : Nat → Int32 → Int32 → Int32 → Int32 → (Nat → Int32) → (Nat → Int32) → Option (Int32 × (Nat → Int32) × (Nat → Int32))
  | 0, _, _, _, _, _, _ => none
  | kk + 1, x1, x3, x4, m_newMany, m_newWord, m_newOrigin =>
    if x3 ≤ x4 then (
      some (m_newMany, m_newWord, m_newOrigin)
    ) else (
      q_c (f7_wordAt x1 x4 m_s) fun t21 =>
      q_st m_newWord 40 m_newMany t21 fun m_newWord_24 =>
      q_c (f7_originAt x1 x4 m_s) fun t37 =>
      q_st m_newOrigin 40 m_newMany t37 fun m_newOrigin_40 =>
      q_lt (m_newMany + ((1 : Int32))) fun m_newMany_48 =>
      q_lt (x4 + (1 : Int32)) fun x4_51 =>
      f7_takeOver_3 n m_s kk x1 x3 x4_51 m_newMany_48 m_newWord_24 m_newOrigin_40
    )
def f7_takeOver (n : Nat) (x1 : Int32) (x2 : Int32) (x3 : Int32) (m_newMany : Int32) (m_s : (Nat → Int32)) (m_newWord : (Nat → Int32)) (m_newOrigin : (Nat → Int32)) : Option (Int32 × (Nat → Int32) × (Nat → Int32)) :=
  f7_takeOver_3 n m_s n x1 x3 x2 m_newMany m_newWord m_newOrigin
def f7_putNew (x1 : Int32) (m_newMany : Int32) (m_newWord : (Nat → Int32)) (m_newOrigin : (Nat → Int32)) : Option (Int32 × (Nat → Int32) × (Nat → Int32)) :=
  q_st m_newWord 40 m_newMany x1 fun m_newWord_9 =>
  q_st m_newOrigin 40 m_newMany ((-1 : Int32)) fun m_newOrigin_19 =>
  q_lt (m_newMany + ((1 : Int32))) fun m_newMany_27 =>
  some (m_newMany_27, m_newWord_9, m_newOrigin_19)
def f7_done_167 (n : Nat) (m_newMany : Int32) (m_newWord : (Nat → Int32)) (m_newOrigin : (Nat → Int32)) (k92 : Int32 → Int32 → (Nat → Int32) → Option (Int32 × (Nat → Int32))) (x4 : Int32) (x6 : Int32) (s1 : Int32) (s2 : Int32) (m_s : (Nat → Int32)) : Option (Int32 × (Nat → Int32)) :=
  q_st m_s 3974 s1 s2 fun m_s_167 =>
  q_lt (x6 + (1 : Int32)) fun x6_168 =>
  k92 x4 x6_168 m_s_167
def f7_done_92 (n : Nat) (m_newMany : Int32) (m_newWord : (Nat → Int32)) (m_newOrigin : (Nat → Int32)) : Nat → Int32 → Int32 → (Nat → Int32) → Option (Int32 × (Nat → Int32))
  | 0, _, _, _ => none
  | kk + 1, x4, x6, m_s =>
    if m_newMany ≤ x6 then (
      q_ld m_s 3974 ((1 : Int32)) fun t180 =>
      q_st m_s 3974 ((1 : Int32)) (t180 + ((1 : Int32))) fun m_s_183 =>
      some (x4, m_s_183)
    ) else (
      q_ld m_newWord 40 x6 fun t125 =>
      q_st m_s 3974 ((((380 : Int32)) + (((20 : Int32)) * (x4 + ((1 : Int32))))) + x6) t125 fun m_s_126 =>
      q_ld m_newOrigin 40 x6 fun t151 =>
      if 0 ≤ t151 then (
        q_ld m_newOrigin 40 x6 fun t166 =>
        f7_done_167 n m_newMany m_newWord m_newOrigin (f7_done_92 n m_newMany m_newWord m_newOrigin kk) x4 x6 ((((1600 : Int32)) + (((20 : Int32)) * (x4 + ((1 : Int32))))) + x6) t166 m_s_126
      ) else (
        f7_done_167 n m_newMany m_newWord m_newOrigin (f7_done_92 n m_newMany m_newWord m_newOrigin kk) x4 x6 ((((1600 : Int32)) + (((20 : Int32)) * (x4 + ((1 : Int32))))) + x6) x4 m_s_126
      )
    )
def f7_done (n : Nat) (x1 : Int32) (x2 : Int32) (x3 : Int32) (m_newMany : Int32) (m_s : (Nat → Int32)) (m_newWord : (Nat → Int32)) (m_newOrigin : (Nat → Int32)) : Option (Int32 × (Nat → Int32)) :=
  q_ld m_s 3974 ((1 : Int32)) fun t5 =>
  q_lt (((10 : Int32)) + (((5 : Int32)) * t5)) fun x5_15 =>
  q_st m_s 3974 (x5_15 + ((0 : Int32))) x1 fun m_s_26 =>
  q_st m_s_26 3974 (x5_15 + ((1 : Int32))) x2 fun m_s_36 =>
  q_ld m_s_36 3974 ((0 : Int32)) fun t50 =>
  q_st m_s_36 3974 (x5_15 + ((2 : Int32))) t50 fun m_s_51 =>
  q_st m_s_51 3974 (x5_15 + ((3 : Int32))) x3 fun m_s_61 =>
  q_st m_s_61 3974 (x5_15 + ((4 : Int32))) ((-1 : Int32)) fun m_s_71 =>
  q_st m_s_71 3974 ((((310 : Int32)) + t5) + ((1 : Int32))) m_newMany fun m_s_88 =>
  f7_done_92 n m_newMany m_newWord m_newOrigin n t5 ((0 : Int32)) m_s_88
def f7_areAlike_65 (n : Nat) (m_s : (Nat → Int32)) (x3 : Int32) : Option (Int32) :=
  q_bz x3 <|
  some x3
def f7_areAlike_58 (n : Nat) (m_s : (Nat → Int32)) (k22 : Int32 → Int32 → Int32 → Int32 → Option (Int32)) (x1 : Int32) (x2 : Int32) (x4 : Int32) (s0 : Int32) : Option (Int32) :=
  q_lt (x4 + (1 : Int32)) fun x4_59 =>
  k22 x1 x2 s0 x4_59
def f7_areAlike_22 (n : Nat) (m_s : (Nat → Int32)) : Nat → Int32 → Int32 → Int32 → Int32 → Option (Int32)
  | 0, _, _, _, _ => none
  | kk + 1, x1, x2, x3, x4 =>
    q_c (f7_sizeOf x1 m_s) fun t26 =>
    if t26 ≤ x4 then (
      f7_areAlike_65 n m_s x3
    ) else (
      if x3 = 0 then (
        f7_areAlike_65 n m_s x3
      ) else (
        q_c (f7_wordAt x1 x4 m_s) fun t40 =>
        q_c (f7_wordAt x2 x4 m_s) fun t47 =>
        if t40 = t47 then (
          f7_areAlike_58 n m_s (f7_areAlike_22 n m_s kk) x1 x2 x4 ((1 : Int32))
        ) else (
          f7_areAlike_58 n m_s (f7_areAlike_22 n m_s kk) x1 x2 x4 ((0 : Int32))
        )
      )
    )
def f7_areAlike_18 (n : Nat) (m_s : (Nat → Int32)) (x1 : Int32) (x2 : Int32) (s0 : Int32) : Option (Int32) :=
  f7_areAlike_22 n m_s n x1 x2 s0 ((0 : Int32))
def f7_areAlike (n : Nat) (x1 : Int32) (x2 : Int32) (m_s : (Nat → Int32)) : Option (Int32) :=
  q_c (f7_sizeOf x1 m_s) fun t2 =>
  q_c (f7_sizeOf x2 m_s) fun t7 =>
  if t2 = t7 then (
    f7_areAlike_18 n m_s x1 x2 ((1 : Int32))
  ) else (
    f7_areAlike_18 n m_s x1 x2 ((0 : Int32))
  )
def f7_findUndone_91 (n : Nat) (m_s : (Nat → Int32)) (k2 : Int32 → (Nat → Int32) → Option ((Nat → Int32))) (k40 : Int32 → Int32 → Int32 → (Nat → Int32) → Option ((Nat → Int32))) (x1 : Int32) (m_undoneBy : (Nat → Int32)) : Option ((Nat → Int32)) :=
  q_lt (x1 + (1 : Int32)) fun x1_91 =>
  k2 x1_91 m_undoneBy
def f7_findUndone_84 (n : Nat) (m_s : (Nat → Int32)) (k2 : Int32 → (Nat → Int32) → Option ((Nat → Int32))) (k40 : Int32 → Int32 → Int32 → (Nat → Int32) → Option ((Nat → Int32))) (x1 : Int32) (x2 : Int32) (x3 : Int32) (s1 : Int32) (s2 : Int32) (m_undoneBy : (Nat → Int32)) : Option ((Nat → Int32)) :=
  q_st m_undoneBy 60 s1 s2 fun m_undoneBy_84 =>
  q_lt (x3 + (1 : Int32)) fun x3_85 =>
  k40 x1 x2 x3_85 m_undoneBy_84
def f7_findUndone_40 (n : Nat) (m_s : (Nat → Int32)) (k2 : Int32 → (Nat → Int32) → Option ((Nat → Int32))) : Nat → Int32 → Int32 → Int32 → (Nat → Int32) → Option ((Nat → Int32))
  | 0, _, _, _, _ => none
  | kk + 1, x1, x2, x3, m_undoneBy =>
    q_ld m_s 3974 ((1 : Int32)) fun t46 =>
    if t46 ≤ x3 then (
      f7_findUndone_91 n m_s k2 (f7_findUndone_40 n m_s k2 kk) x1 m_undoneBy
    ) else (
      if x2 = 0 then (
        f7_findUndone_91 n m_s k2 (f7_findUndone_40 n m_s k2 kk) x1 m_undoneBy
      ) else (
        q_ld m_undoneBy 60 x1 fun t59 =>
        if 0 ≤ t59 then (
          f7_findUndone_91 n m_s k2 (f7_findUndone_40 n m_s k2 kk) x1 m_undoneBy
        ) else (
          q_c (f7_areAlike n x1 (x3 + ((1 : Int32))) m_s) fun t73 =>
          if t73 = 0 then (
            f7_findUndone_84 n m_s k2 (f7_findUndone_40 n m_s k2 kk) x1 x2 x3 x1 ((-1 : Int32)) m_undoneBy
          ) else (
            f7_findUndone_84 n m_s k2 (f7_findUndone_40 n m_s k2 kk) x1 x2 x3 x1 x3 m_undoneBy
          )
        )
      )
    )
def f7_findUndone_35 (n : Nat) (m_s : (Nat → Int32)) (k2 : Int32 → (Nat → Int32) → Option ((Nat → Int32))) (x1 : Int32) (s0 : Int32) (m_undoneBy : (Nat → Int32)) : Option ((Nat → Int32)) :=
  q_lt (x1 + ((1 : Int32))) fun x3_39 =>
  f7_findUndone_40 n m_s k2 n x1 s0 x3_39 m_undoneBy
def f7_findUndone_2 (n : Nat) (m_s : (Nat → Int32)) : Nat → Int32 → (Nat → Int32) → Option ((Nat → Int32))
  | 0, _, _ => none
  | kk + 1, x1, m_undoneBy =>
    q_ld m_s 3974 ((1 : Int32)) fun t8 =>
    if t8 ≤ x1 then (
      some (m_undoneBy)
    ) else (
      q_st m_undoneBy 60 x1 ((-1 : Int32)) fun m_undoneBy_18 =>
      q_c (f7_areAlike n x1 (x1 + ((1 : Int32))) m_s) fun t24 =>
      if t24 = 0 then (
        f7_findUndone_35 n m_s (f7_findUndone_2 n m_s kk) x1 ((1 : Int32)) m_undoneBy_18
      ) else (
        f7_findUndone_35 n m_s (f7_findUndone_2 n m_s kk) x1 ((0 : Int32)) m_undoneBy_18
      )
    )
def f7_findUndone (n : Nat) (m_s : (Nat → Int32)) (m_undoneBy : (Nat → Int32)) : Option ((Nat → Int32)) :=
  f7_findUndone_2 n m_s n ((0 : Int32)) m_undoneBy
def f7_seen_179 (n : Nat) (x1 : Int32) (m_newMany : Int32) (m_s : (Nat → Int32)) (m_newWord : (Nat → Int32)) (m_newOrigin : (Nat → Int32)) (m_named : (Nat → Int32)) (m_pile : (Nat → Int32)) (m_undoneBy : (Nat → Int32)) : Option (Int32 × Int32 × (Nat → Int32) × (Nat → Int32) × (Nat → Int32) × (Nat → Int32) × (Nat → Int32) × (Nat → Int32)) :=
  some (x1, m_newMany, m_s, m_newWord, m_newOrigin, m_named, m_pile, m_undoneBy)
def f7_seen_50 (n : Nat) (k29 : Int32 → Int32 → Int32 → Int32 → (Nat → Int32) → (Nat → Int32) → (Nat → Int32) → (Nat → Int32) → (Nat → Int32) → (Nat → Int32) → Option (Int32 × Int32 × (Nat → Int32) × (Nat → Int32) × (Nat → Int32) × (Nat → Int32) × (Nat → Int32) × (Nat → Int32))) (x1 : Int32) (x3 : Int32) (s0 : Int32) (s1 : Int32) (m_newMany : Int32) (m_s : (Nat → Int32)) (m_newWord : (Nat → Int32)) (m_newOrigin : (Nat → Int32)) (m_named : (Nat → Int32)) (m_pile : (Nat → Int32)) (m_undoneBy : (Nat → Int32)) : Option (Int32 × Int32 × (Nat → Int32) × (Nat → Int32) × (Nat → Int32) × (Nat → Int32) × (Nat → Int32) × (Nat → Int32)) :=
  q_lt (s0 + s1) fun x2_51 =>
  q_lt (x3 + (1 : Int32)) fun x3_52 =>
  k29 x1 x2_51 x3_52 m_newMany m_s m_newWord m_newOrigin m_named m_pile m_undoneBy
def f7_seen_29 (n : Nat) : Nat → Int32 → Int32 → Int32 → Int32 → (Nat → Int32) → (Nat → Int32) → (Nat → Int32) → (Nat → Int32) → (Nat → Int32) → (Nat → Int32) → Option (Int32 × Int32 × (Nat → Int32) × (Nat → Int32) × (Nat → Int32) × (Nat → Int32) × (Nat → Int32) × (Nat → Int32))
  | 0, _, _, _, _, _, _, _, _, _, _ => none
  | kk + 1, x1, x2, x3, m_newMany, m_s, m_newWord, m_newOrigin, m_named, m_pile, m_undoneBy =>
    if x1 ≤ x3 then (
      q_c (f7_actIs1 x1 ((0 : Int32)) m_s) fun t67 =>
      q_st m_named 128 ((107 : Int32)) t67 fun m_named_70 =>
      q_c (f7_actIs1 x1 ((1 : Int32)) m_s) fun t80 =>
      q_st m_named_70 128 ((119 : Int32)) t80 fun m_named_83 =>
      q_c (f7_sizeOf (x1 + ((1 : Int32))) m_s) fun t94 =>
      q_st m_named_83 128 ((108 : Int32)) t94 fun m_named_97 =>
      q_c (f7_sizeOf (x1 + ((1 : Int32))) m_s) fun t108 =>
      q_c (f7_sizeOf x1 m_s) fun t113 =>
      q_st m_named_97 128 ((100 : Int32)) (t108 - t113) fun m_named_117 =>
      q_st m_named_117 128 ((117 : Int32)) x2 fun m_named_125 =>
      q_c2 (f7_worked n ((1 : Int32)) m_s m_named_125 m_pile) fun t128 m_pile_128 =>
      if t128 = 0 then (
        f7_seen_179 n x1 m_newMany m_s m_newWord m_newOrigin m_named_125 m_pile_128 m_undoneBy
      ) else (
        q_ld m_s 3974 ((1 : Int32)) fun t139 =>
        if ((60 : Int32)) ≤ t139 then (
          f7_seen_179 n x1 m_newMany m_s m_newWord m_newOrigin m_named_125 m_pile_128 m_undoneBy
        ) else (
          q_c3 (f7_mayAct n ((7 : Int32)) m_s m_named_125 m_pile_128) fun t148 m_named_148 m_pile_148 =>
          if t148 = 0 then (
            f7_seen_179 n x1 m_newMany m_s m_newWord m_newOrigin m_named_148 m_pile_148 m_undoneBy
          ) else (
            q_c (f7_sizeOf x1 m_s) fun t164 =>
            q_c3 (f7_takeOver n x1 ((0 : Int32)) t164 ((0 : Int32)) m_s m_newWord m_newOrigin) fun m_newMany_167 m_newWord_167 m_newOrigin_167 =>
            q_c2 (f7_done n ((2 : Int32)) ((7 : Int32)) x1 m_newMany_167 m_s m_newWord_167 m_newOrigin_167) fun t175 m_s_175 =>
            f7_seen_179 n x1 m_newMany_167 m_s_175 m_newWord_167 m_newOrigin_167 m_named_148 m_pile_148 m_undoneBy
          )
        )
      )
    ) else (
      q_ld m_undoneBy 60 x3 fun t40 =>
      if t40 = x1 then (
        f7_seen_50 n (f7_seen_29 n kk) x1 x3 x2 ((1 : Int32)) m_newMany m_s m_newWord m_newOrigin m_named m_pile m_undoneBy
      ) else (
        f7_seen_50 n (f7_seen_29 n kk) x1 x3 x2 ((0 : Int32)) m_newMany m_s m_newWord m_newOrigin m_named m_pile m_undoneBy
      )
    )
def f7_seen_19 (n : Nat) (x1 : Int32) (m_newMany : Int32) (m_s : (Nat → Int32)) (m_newWord : (Nat → Int32)) (m_newOrigin : (Nat → Int32)) (m_named : (Nat → Int32)) (m_pile : (Nat → Int32)) (m_undoneBy : (Nat → Int32)) : Option (Int32 × Int32 × (Nat → Int32) × (Nat → Int32) × (Nat → Int32) × (Nat → Int32) × (Nat → Int32) × (Nat → Int32)) :=
  some (x1, m_newMany, m_s, m_newWord, m_newOrigin, m_named, m_pile, m_undoneBy)
def f7_seen (n : Nat) (x1 : Int32) (m_newMany : Int32) (m_s : (Nat → Int32)) (m_newWord : (Nat → Int32)) (m_newOrigin : (Nat → Int32)) (m_named : (Nat → Int32)) (m_pile : (Nat → Int32)) (m_undoneBy : (Nat → Int32)) : Option (Int32 × Int32 × (Nat → Int32) × (Nat → Int32) × (Nat → Int32) × (Nat → Int32) × (Nat → Int32) × (Nat → Int32)) :=
  q_c (f7_actIs1 x1 ((1 : Int32)) m_s) fun t3 =>
  if t3 = ((7 : Int32)) then (
    f7_seen_19 n x1 m_newMany m_s m_newWord m_newOrigin m_named m_pile m_undoneBy
  ) else (
    q_c (f7_hasText ((1 : Int32)) m_s) fun t13 =>
    if t13 = 0 then (
      f7_seen_19 n x1 m_newMany m_s m_newWord m_newOrigin m_named m_pile m_undoneBy
    ) else (
      q_c1 (f7_findUndone n m_s m_undoneBy) fun m_undoneBy_22 =>
      f7_seen_29 n n x1 ((0 : Int32)) ((0 : Int32)) m_newMany m_s m_newWord m_newOrigin m_named m_pile m_undoneBy_22
    )
  )
def f7_isFull_16 (m_s : (Nat → Int32)) (s0 : Int32) : Option (Int32) :=
  q_bz s0 <|
  some s0
def f7_isFull (m_s : (Nat → Int32)) : Option (Int32) :=
  q_ld m_s 3974 ((1 : Int32)) fun t5 =>
  if t5 = ((60 : Int32)) then (
    f7_isFull_16 m_s ((1 : Int32))
  ) else (
    f7_isFull_16 m_s ((0 : Int32))
  )
def f7_writes_42 (n : Nat) (x1 : Int32) (x2 : Int32) (x4 : Int32) (s1 : Int32) (s2 : Int32) (m_newMany : Int32) (m_s : (Nat → Int32)) (m_newWord : (Nat → Int32)) (m_newOrigin : (Nat → Int32)) (m_named : (Nat → Int32)) (m_pile : (Nat → Int32)) (m_undoneBy : (Nat → Int32)) : Option (Int32 × Int32 × (Nat → Int32) × (Nat → Int32) × (Nat → Int32) × (Nat → Int32) × (Nat → Int32) × (Nat → Int32)) :=
  q_c (f7_page m_s) fun t43 =>
  q_c3 (f7_takeOver n s1 s2 t43 m_newMany m_s m_newWord m_newOrigin) fun m_newMany_46 m_newWord_46 m_newOrigin_46 =>
  q_c2 (f7_done n x1 x2 x4 m_newMany_46 m_s m_newWord_46 m_newOrigin_46) fun t55 m_s_55 =>
  q_c8 (f7_seen n t55 m_newMany_46 m_s_55 m_newWord_46 m_newOrigin_46 m_named m_pile m_undoneBy) fun t58 m_newMany_58 m_s_58 m_newWord_58 m_newOrigin_58 m_named_58 m_pile_58 m_undoneBy_58 =>
  some (t58, m_newMany_58, m_s_58, m_newWord_58, m_newOrigin_58, m_named_58, m_pile_58, m_undoneBy_58)
def f7_writes (n : Nat) (x1 : Int32) (x2 : Int32) (x3 : Int32) (x4 : Int32) (m_newMany : Int32) (m_s : (Nat → Int32)) (m_newWord : (Nat → Int32)) (m_newOrigin : (Nat → Int32)) (m_named : (Nat → Int32)) (m_pile : (Nat → Int32)) (m_undoneBy : (Nat → Int32)) : Option (Int32 × Int32 × (Nat → Int32) × (Nat → Int32) × (Nat → Int32) × (Nat → Int32) × (Nat → Int32) × (Nat → Int32)) :=
  q_ld m_s 3974 ((1 : Int32)) fun t5 =>
  q_c3 (f7_takeOver n t5 ((0 : Int32)) x3 ((0 : Int32)) m_s m_newWord m_newOrigin) fun m_newMany_18 m_newWord_18 m_newOrigin_18 =>
  q_c3 (f7_putNew x4 m_newMany_18 m_newWord_18 m_newOrigin_18) fun m_newMany_24 m_newWord_24 m_newOrigin_24 =>
  if x1 = ((5 : Int32)) then (
    f7_writes_42 n x1 x2 x4 t5 (x3 + ((1 : Int32))) m_newMany_24 m_s m_newWord_24 m_newOrigin_24 m_named m_pile m_undoneBy
  ) else (
    f7_writes_42 n x1 x2 x4 t5 x3 m_newMany_24 m_s m_newWord_24 m_newOrigin_24 m_named m_pile m_undoneBy
  )
def f7_write_126 (n : Nat) (x1 : Int32) (x2 : Int32) (x3 : Int32) (m_newMany : Int32) (m_s : (Nat → Int32)) (m_errors : (Nat → Int32)) (m_newWord : (Nat → Int32)) (m_newOrigin : (Nat → Int32)) (m_named : (Nat → Int32)) (m_pile : (Nat → Int32)) (m_undoneBy : (Nat → Int32)) : Option (Int32 × Int32 × (Nat → Int32) × (Nat → Int32) × (Nat → Int32) × (Nat → Int32) × (Nat → Int32) × (Nat → Int32) × (Nat → Int32)) :=
  q_dv ((100 : Int32)) <|
  q_dv ((100 : Int32)) <|
  q_c8 (f7_writes n x1 (x2 / ((100 : Int32))) (x2 - x2 / ((100 : Int32)) * ((100 : Int32))) x3 m_newMany m_s m_newWord m_newOrigin m_named m_pile m_undoneBy) fun t137 m_newMany_137 m_s_137 m_newWord_137 m_newOrigin_137 m_named_137 m_pile_137 m_undoneBy_137 =>
  some (t137, m_newMany_137, m_s_137, m_errors, m_newWord_137, m_newOrigin_137, m_named_137, m_pile_137, m_undoneBy_137)
def f7_write_120 (n : Nat) (m_newMany : Int32) (m_s : (Nat → Int32)) (m_errors : (Nat → Int32)) (m_newWord : (Nat → Int32)) (m_newOrigin : (Nat → Int32)) (m_named : (Nat → Int32)) (m_pile : (Nat → Int32)) (m_undoneBy : (Nat → Int32)) : Option (Int32 × Int32 × (Nat → Int32) × (Nat → Int32) × (Nat → Int32) × (Nat → Int32) × (Nat → Int32) × (Nat → Int32) × (Nat → Int32)) :=
  q_c2 (f7_error ((4 : Int32)) m_errors) fun t122 m_errors_122 =>
  some (t122, m_newMany, m_s, m_errors_122, m_newWord, m_newOrigin, m_named, m_pile, m_undoneBy)
def f7_write_76 (n : Nat) (m_newMany : Int32) (m_s : (Nat → Int32)) (m_errors : (Nat → Int32)) (m_newWord : (Nat → Int32)) (m_newOrigin : (Nat → Int32)) (m_named : (Nat → Int32)) (m_pile : (Nat → Int32)) (m_undoneBy : (Nat → Int32)) : Option (Int32 × Int32 × (Nat → Int32) × (Nat → Int32) × (Nat → Int32) × (Nat → Int32) × (Nat → Int32) × (Nat → Int32) × (Nat → Int32)) :=
  q_c2 (f7_error ((1 : Int32)) m_errors) fun t78 m_errors_78 =>
  some (t78, m_newMany, m_s, m_errors_78, m_newWord, m_newOrigin, m_named, m_pile, m_undoneBy)
def f7_write_73 (n : Nat) (x1 : Int32) (x2 : Int32) (x3 : Int32) (s0 : Int32) (s1 : Int32) (m_newMany : Int32) (m_s : (Nat → Int32)) (m_errors : (Nat → Int32)) (m_newWord : (Nat → Int32)) (m_newOrigin : (Nat → Int32)) (m_named : (Nat → Int32)) (m_pile : (Nat → Int32)) (m_undoneBy : (Nat → Int32)) : Option (Int32 × Int32 × (Nat → Int32) × (Nat → Int32) × (Nat → Int32) × (Nat → Int32) × (Nat → Int32) × (Nat → Int32) × (Nat → Int32)) :=
  if s0 ≤ s1 then (
    q_dv ((100 : Int32)) <|
    q_c3 (f7_mayAct n (x2 / ((100 : Int32))) m_s m_named m_pile) fun t87 m_named_87 m_pile_87 =>
    if t87 = 0 then (
      q_c2 (f7_error ((3 : Int32)) m_errors) fun t95 m_errors_95 =>
      some (t95, m_newMany, m_s, m_errors_95, m_newWord, m_newOrigin, m_named_87, m_pile_87, m_undoneBy)
    ) else (
      q_c (f7_isFull m_s) fun t100 =>
      if t100 = 0 then (
        if x1 = ((5 : Int32)) then (
          f7_write_126 n x1 x2 x3 m_newMany m_s m_errors m_newWord m_newOrigin m_named_87 m_pile_87 m_undoneBy
        ) else (
          q_c (f7_page m_s) fun t112 =>
          if t112 = ((20 : Int32)) then (
            f7_write_120 n m_newMany m_s m_errors m_newWord m_newOrigin m_named_87 m_pile_87 m_undoneBy
          ) else (
            f7_write_126 n x1 x2 x3 m_newMany m_s m_errors m_newWord m_newOrigin m_named_87 m_pile_87 m_undoneBy
          )
        )
      ) else (
        f7_write_120 n m_newMany m_s m_errors m_newWord m_newOrigin m_named_87 m_pile_87 m_undoneBy
      )
    )
  ) else (
    f7_write_76 n m_newMany m_s m_errors m_newWord m_newOrigin m_named m_pile m_undoneBy
  )
def f7_write_44 (n : Nat) (x1 : Int32) (x2 : Int32) (x3 : Int32) (s0 : Int32) (m_newMany : Int32) (m_s : (Nat → Int32)) (m_errors : (Nat → Int32)) (m_newWord : (Nat → Int32)) (m_newOrigin : (Nat → Int32)) (m_named : (Nat → Int32)) (m_pile : (Nat → Int32)) (m_undoneBy : (Nat → Int32)) : Option (Int32 × Int32 × (Nat → Int32) × (Nat → Int32) × (Nat → Int32) × (Nat → Int32) × (Nat → Int32) × (Nat → Int32) × (Nat → Int32)) :=
  if s0 = 0 then (
    f7_write_76 n m_newMany m_s m_errors m_newWord m_newOrigin m_named m_pile m_undoneBy
  ) else (
    q_dv ((100 : Int32)) <|
    if x1 = ((5 : Int32)) then (
      q_c (f7_page m_s) fun t61 =>
      f7_write_73 n x1 x2 x3 (x2 - x2 / ((100 : Int32)) * ((100 : Int32))) (t61 - ((1 : Int32))) m_newMany m_s m_errors m_newWord m_newOrigin m_named m_pile m_undoneBy
    ) else (
      q_c (f7_page m_s) fun t70 =>
      f7_write_73 n x1 x2 x3 (x2 - x2 / ((100 : Int32)) * ((100 : Int32))) t70 m_newMany m_s m_errors m_newWord m_newOrigin m_named m_pile m_undoneBy
    )
  )
def f7_write_43 (n : Nat) (x1 : Int32) (x2 : Int32) (x3 : Int32) (m_newMany : Int32) (m_s : (Nat → Int32)) (m_errors : (Nat → Int32)) (m_newWord : (Nat → Int32)) (m_newOrigin : (Nat → Int32)) (m_named : (Nat → Int32)) (m_pile : (Nat → Int32)) (m_undoneBy : (Nat → Int32)) : Option (Int32 × Int32 × (Nat → Int32) × (Nat → Int32) × (Nat → Int32) × (Nat → Int32) × (Nat → Int32) × (Nat → Int32) × (Nat → Int32)) :=
  f7_write_44 n x1 x2 x3 ((0 : Int32)) m_newMany m_s m_errors m_newWord m_newOrigin m_named m_pile m_undoneBy
def f7_write_15 (n : Nat) (x1 : Int32) (x2 : Int32) (x3 : Int32) (m_newMany : Int32) (m_s : (Nat → Int32)) (m_errors : (Nat → Int32)) (m_newWord : (Nat → Int32)) (m_newOrigin : (Nat → Int32)) (m_named : (Nat → Int32)) (m_pile : (Nat → Int32)) (m_undoneBy : (Nat → Int32)) : Option (Int32 × Int32 × (Nat → Int32) × (Nat → Int32) × (Nat → Int32) × (Nat → Int32) × (Nat → Int32) × (Nat → Int32) × (Nat → Int32)) :=
  if x2 < 0 then (
    f7_write_43 n x1 x2 x3 m_newMany m_s m_errors m_newWord m_newOrigin m_named m_pile m_undoneBy
  ) else (
    q_dv ((100 : Int32)) <|
    q_c (f7_isWriter (x2 / ((100 : Int32)))) fun t23 =>
    if t23 = 0 then (
      f7_write_43 n x1 x2 x3 m_newMany m_s m_errors m_newWord m_newOrigin m_named m_pile m_undoneBy
    ) else (
      q_c (f7_in x3 ((1 : Int32)) ((60 : Int32))) fun t33 =>
      if t33 = 0 then (
        f7_write_43 n x1 x2 x3 m_newMany m_s m_errors m_newWord m_newOrigin m_named m_pile m_undoneBy
      ) else (
        f7_write_44 n x1 x2 x3 ((1 : Int32)) m_newMany m_s m_errors m_newWord m_newOrigin m_named m_pile m_undoneBy
      )
    )
  )
def f7_write (n : Nat) (x1 : Int32) (x2 : Int32) (x3 : Int32) (m_newMany : Int32) (m_s : (Nat → Int32)) (m_errors : (Nat → Int32)) (m_newWord : (Nat → Int32)) (m_newOrigin : (Nat → Int32)) (m_named : (Nat → Int32)) (m_pile : (Nat → Int32)) (m_undoneBy : (Nat → Int32)) : Option (Int32 × Int32 × (Nat → Int32) × (Nat → Int32) × (Nat → Int32) × (Nat → Int32) × (Nat → Int32) × (Nat → Int32) × (Nat → Int32)) :=
  if x1 = ((1 : Int32)) then (
    f7_write_15 n x1 x2 x3 m_newMany m_s m_errors m_newWord m_newOrigin m_named m_pile m_undoneBy
  ) else (
    if x1 = ((4 : Int32)) then (
      f7_write_15 n x1 x2 x3 m_newMany m_s m_errors m_newWord m_newOrigin m_named m_pile m_undoneBy
    ) else (
      if x1 = ((5 : Int32)) then (
        f7_write_15 n x1 x2 x3 m_newMany m_s m_errors m_newWord m_newOrigin m_named m_pile m_undoneBy
      ) else (
        f7_write_43 n x1 x2 x3 m_newMany m_s m_errors m_newWord m_newOrigin m_named m_pile m_undoneBy
      )
    )
  )
def f7_cuts (n : Nat) (x1 : Int32) (x2 : Int32) (m_newMany : Int32) (m_s : (Nat → Int32)) (m_newWord : (Nat → Int32)) (m_newOrigin : (Nat → Int32)) (m_named : (Nat → Int32)) (m_pile : (Nat → Int32)) (m_undoneBy : (Nat → Int32)) : Option (Int32 × Int32 × (Nat → Int32) × (Nat → Int32) × (Nat → Int32) × (Nat → Int32) × (Nat → Int32) × (Nat → Int32)) :=
  q_ld m_s 3974 ((1 : Int32)) fun t5 =>
  q_c (f7_wordAt t5 x2 m_s) fun t10 =>
  q_c3 (f7_takeOver n t5 ((0 : Int32)) x2 ((0 : Int32)) m_s m_newWord m_newOrigin) fun m_newMany_24 m_newWord_24 m_newOrigin_24 =>
  q_c (f7_page m_s) fun t33 =>
  q_c3 (f7_takeOver n t5 (x2 + ((1 : Int32))) t33 m_newMany_24 m_s m_newWord_24 m_newOrigin_24) fun m_newMany_36 m_newWord_36 m_newOrigin_36 =>
  q_c2 (f7_done n ((0 : Int32)) x1 t10 m_newMany_36 m_s m_newWord_36 m_newOrigin_36) fun t45 m_s_45 =>
  q_c8 (f7_seen n t45 m_newMany_36 m_s_45 m_newWord_36 m_newOrigin_36 m_named m_pile m_undoneBy) fun t48 m_newMany_48 m_s_48 m_newWord_48 m_newOrigin_48 m_named_48 m_pile_48 m_undoneBy_48 =>
  some (t48, m_newMany_48, m_s_48, m_newWord_48, m_newOrigin_48, m_named_48, m_pile_48, m_undoneBy_48)
def f7_cut_75 (n : Nat) (s0 : Int32) (m_newMany : Int32) (m_s : (Nat → Int32)) (m_errors : (Nat → Int32)) (m_newWord : (Nat → Int32)) (m_newOrigin : (Nat → Int32)) (m_named : (Nat → Int32)) (m_pile : (Nat → Int32)) (m_undoneBy : (Nat → Int32)) : Option (Int32 × Int32 × (Nat → Int32) × (Nat → Int32) × (Nat → Int32) × (Nat → Int32) × (Nat → Int32) × (Nat → Int32) × (Nat → Int32)) :=
  some (s0, m_newMany, m_s, m_errors, m_newWord, m_newOrigin, m_named, m_pile, m_undoneBy)
def f7_cut_25 (n : Nat) (m_newMany : Int32) (m_s : (Nat → Int32)) (m_errors : (Nat → Int32)) (m_newWord : (Nat → Int32)) (m_newOrigin : (Nat → Int32)) (m_named : (Nat → Int32)) (m_pile : (Nat → Int32)) (m_undoneBy : (Nat → Int32)) : Option (Int32 × Int32 × (Nat → Int32) × (Nat → Int32) × (Nat → Int32) × (Nat → Int32) × (Nat → Int32) × (Nat → Int32) × (Nat → Int32)) :=
  q_c2 (f7_error ((1 : Int32)) m_errors) fun t27 m_errors_27 =>
  some (t27, m_newMany, m_s, m_errors_27, m_newWord, m_newOrigin, m_named, m_pile, m_undoneBy)
def f7_cut (n : Nat) (x1 : Int32) (m_newMany : Int32) (m_s : (Nat → Int32)) (m_errors : (Nat → Int32)) (m_newWord : (Nat → Int32)) (m_newOrigin : (Nat → Int32)) (m_named : (Nat → Int32)) (m_pile : (Nat → Int32)) (m_undoneBy : (Nat → Int32)) : Option (Int32 × Int32 × (Nat → Int32) × (Nat → Int32) × (Nat → Int32) × (Nat → Int32) × (Nat → Int32) × (Nat → Int32) × (Nat → Int32)) :=
  if x1 < 0 then (
    f7_cut_25 n m_newMany m_s m_errors m_newWord m_newOrigin m_named m_pile m_undoneBy
  ) else (
    q_dv ((100 : Int32)) <|
    q_c (f7_isWriter (x1 / ((100 : Int32)))) fun t8 =>
    if t8 = 0 then (
      f7_cut_25 n m_newMany m_s m_errors m_newWord m_newOrigin m_named m_pile m_undoneBy
    ) else (
      q_dv ((100 : Int32)) <|
      q_c (f7_page m_s) fun t19 =>
      if (x1 - x1 / ((100 : Int32)) * ((100 : Int32))) < t19 then (
        q_dv ((100 : Int32)) <|
        q_c3 (f7_mayAct n (x1 / ((100 : Int32))) m_s m_named m_pile) fun t36 m_named_36 m_pile_36 =>
        if t36 = 0 then (
          q_c2 (f7_error ((3 : Int32)) m_errors) fun t44 m_errors_44 =>
          some (t44, m_newMany, m_s, m_errors_44, m_newWord, m_newOrigin, m_named_36, m_pile_36, m_undoneBy)
        ) else (
          q_c (f7_isFull m_s) fun t49 =>
          if t49 = 0 then (
            q_dv ((100 : Int32)) <|
            q_dv ((100 : Int32)) <|
            q_c8 (f7_cuts n (x1 / ((100 : Int32))) (x1 - x1 / ((100 : Int32)) * ((100 : Int32))) m_newMany m_s m_newWord m_newOrigin m_named_36 m_pile_36 m_undoneBy) fun t72 m_newMany_72 m_s_72 m_newWord_72 m_newOrigin_72 m_named_72 m_pile_72 m_undoneBy_72 =>
            f7_cut_75 n t72 m_newMany_72 m_s_72 m_errors m_newWord_72 m_newOrigin_72 m_named_72 m_pile_72 m_undoneBy_72
          ) else (
            q_c2 (f7_error ((4 : Int32)) m_errors) fun t57 m_errors_57 =>
            f7_cut_75 n t57 m_newMany m_s m_errors_57 m_newWord m_newOrigin m_named_36 m_pile_36 m_undoneBy
          )
        )
      ) else (
        f7_cut_25 n m_newMany m_s m_errors m_newWord m_newOrigin m_named m_pile m_undoneBy
      )
    )
  )
def f7_goesBack (n : Nat) (x1 : Int32) (x2 : Int32) (m_newMany : Int32) (m_s : (Nat → Int32)) (m_newWord : (Nat → Int32)) (m_newOrigin : (Nat → Int32)) (m_named : (Nat → Int32)) (m_pile : (Nat → Int32)) (m_undoneBy : (Nat → Int32)) : Option (Int32 × Int32 × (Nat → Int32) × (Nat → Int32) × (Nat → Int32) × (Nat → Int32) × (Nat → Int32) × (Nat → Int32)) :=
  q_c (f7_sizeOf x2 m_s) fun t10 =>
  q_c3 (f7_takeOver n x2 ((0 : Int32)) t10 ((0 : Int32)) m_s m_newWord m_newOrigin) fun m_newMany_13 m_newWord_13 m_newOrigin_13 =>
  q_c2 (f7_done n ((2 : Int32)) x1 x2 m_newMany_13 m_s m_newWord_13 m_newOrigin_13) fun t21 m_s_21 =>
  q_c8 (f7_seen n t21 m_newMany_13 m_s_21 m_newWord_13 m_newOrigin_13 m_named m_pile m_undoneBy) fun t24 m_newMany_24 m_s_24 m_newWord_24 m_newOrigin_24 m_named_24 m_pile_24 m_undoneBy_24 =>
  some (t24, m_newMany_24, m_s_24, m_newWord_24, m_newOrigin_24, m_named_24, m_pile_24, m_undoneBy_24)
def f7_back_56 (n : Nat) (s0 : Int32) (m_newMany : Int32) (m_s : (Nat → Int32)) (m_errors : (Nat → Int32)) (m_newWord : (Nat → Int32)) (m_newOrigin : (Nat → Int32)) (m_named : (Nat → Int32)) (m_pile : (Nat → Int32)) (m_undoneBy : (Nat → Int32)) : Option (Int32 × Int32 × (Nat → Int32) × (Nat → Int32) × (Nat → Int32) × (Nat → Int32) × (Nat → Int32) × (Nat → Int32) × (Nat → Int32)) :=
  some (s0, m_newMany, m_s, m_errors, m_newWord, m_newOrigin, m_named, m_pile, m_undoneBy)
def f7_back_15 (n : Nat) (m_newMany : Int32) (m_s : (Nat → Int32)) (m_errors : (Nat → Int32)) (m_newWord : (Nat → Int32)) (m_newOrigin : (Nat → Int32)) (m_named : (Nat → Int32)) (m_pile : (Nat → Int32)) (m_undoneBy : (Nat → Int32)) : Option (Int32 × Int32 × (Nat → Int32) × (Nat → Int32) × (Nat → Int32) × (Nat → Int32) × (Nat → Int32) × (Nat → Int32) × (Nat → Int32)) :=
  q_c2 (f7_error ((1 : Int32)) m_errors) fun t17 m_errors_17 =>
  some (t17, m_newMany, m_s, m_errors_17, m_newWord, m_newOrigin, m_named, m_pile, m_undoneBy)
def f7_back (n : Nat) (x1 : Int32) (x2 : Int32) (m_newMany : Int32) (m_s : (Nat → Int32)) (m_errors : (Nat → Int32)) (m_newWord : (Nat → Int32)) (m_newOrigin : (Nat → Int32)) (m_named : (Nat → Int32)) (m_pile : (Nat → Int32)) (m_undoneBy : (Nat → Int32)) : Option (Int32 × Int32 × (Nat → Int32) × (Nat → Int32) × (Nat → Int32) × (Nat → Int32) × (Nat → Int32) × (Nat → Int32) × (Nat → Int32)) :=
  q_c (f7_isWriter x1) fun t1 =>
  if t1 = 0 then (
    f7_back_15 n m_newMany m_s m_errors m_newWord m_newOrigin m_named m_pile m_undoneBy
  ) else (
    q_c (f7_isVersion x2 m_s) fun t9 =>
    if t9 = 0 then (
      f7_back_15 n m_newMany m_s m_errors m_newWord m_newOrigin m_named m_pile m_undoneBy
    ) else (
      q_c3 (f7_mayAct n x1 m_s m_named m_pile) fun t23 m_named_23 m_pile_23 =>
      if t23 = 0 then (
        q_c2 (f7_error ((3 : Int32)) m_errors) fun t31 m_errors_31 =>
        some (t31, m_newMany, m_s, m_errors_31, m_newWord, m_newOrigin, m_named_23, m_pile_23, m_undoneBy)
      ) else (
        q_c (f7_isFull m_s) fun t36 =>
        if t36 = 0 then (
          q_c8 (f7_goesBack n x1 x2 m_newMany m_s m_newWord m_newOrigin m_named_23 m_pile_23 m_undoneBy) fun t53 m_newMany_53 m_s_53 m_newWord_53 m_newOrigin_53 m_named_53 m_pile_53 m_undoneBy_53 =>
          f7_back_56 n t53 m_newMany_53 m_s_53 m_errors m_newWord_53 m_newOrigin_53 m_named_53 m_pile_53 m_undoneBy_53
        ) else (
          q_c2 (f7_error ((4 : Int32)) m_errors) fun t44 m_errors_44 =>
          f7_back_56 n t44 m_newMany m_s m_errors_44 m_newWord m_newOrigin m_named_23 m_pile_23 m_undoneBy
        )
      )
    )
  )
def f7_half_105 (n : Nat) (m_newMany : Int32) (m_s : (Nat → Int32)) (m_errors : (Nat → Int32)) (m_newWord : (Nat → Int32)) (m_newOrigin : (Nat → Int32)) (m_named : (Nat → Int32)) (m_pile : (Nat → Int32)) (m_undoneBy : (Nat → Int32)) : Option (Int32 × Int32 × (Nat → Int32) × (Nat → Int32) × (Nat → Int32) × (Nat → Int32) × (Nat → Int32) × (Nat → Int32) × (Nat → Int32)) :=
  q_c2 (f7_error ((4 : Int32)) m_errors) fun t107 m_errors_107 =>
  some (t107, m_newMany, m_s, m_errors_107, m_newWord, m_newOrigin, m_named, m_pile, m_undoneBy)
def f7_half_71 (n : Nat) (x1 : Int32) (x2 : Int32) (x3 : Int32) (s1 : Int32) (s2 : Int32) (s3 : Int32) (m_newMany : Int32) (m_s : (Nat → Int32)) (m_errors : (Nat → Int32)) (m_newWord : (Nat → Int32)) (m_newOrigin : (Nat → Int32)) (m_named : (Nat → Int32)) (m_pile : (Nat → Int32)) (m_undoneBy : (Nat → Int32)) : Option (Int32 × Int32 × (Nat → Int32) × (Nat → Int32) × (Nat → Int32) × (Nat → Int32) × (Nat → Int32) × (Nat → Int32) × (Nat → Int32)) :=
  q_c3 (f7_takeOver n s1 s2 s3 m_newMany m_s m_newWord m_newOrigin) fun m_newMany_71 m_newWord_71 m_newOrigin_71 =>
  q_ld m_s 3974 ((1 : Int32)) fun t80 =>
  q_c (f7_page m_s) fun t83 =>
  q_c3 (f7_takeOver n t80 x3 t83 m_newMany_71 m_s m_newWord_71 m_newOrigin_71) fun m_newMany_86 m_newWord_86 m_newOrigin_86 =>
  q_c (f7_isFull m_s) fun t90 =>
  if t90 = 0 then (
    if m_newMany_86 ≤ ((20 : Int32)) then (
      q_c2 (f7_done n ((3 : Int32)) x1 x2 m_newMany_86 m_s m_newWord_86 m_newOrigin_86) fun t116 m_s_116 =>
      q_c8 (f7_seen n t116 m_newMany_86 m_s_116 m_newWord_86 m_newOrigin_86 m_named m_pile m_undoneBy) fun t119 m_newMany_119 m_s_119 m_newWord_119 m_newOrigin_119 m_named_119 m_pile_119 m_undoneBy_119 =>
      some (t119, m_newMany_119, m_s_119, m_errors, m_newWord_119, m_newOrigin_119, m_named_119, m_pile_119, m_undoneBy_119)
    ) else (
      f7_half_105 n m_newMany_86 m_s m_errors m_newWord_86 m_newOrigin_86 m_named m_pile m_undoneBy
    )
  ) else (
    f7_half_105 n m_newMany_86 m_s m_errors m_newWord_86 m_newOrigin_86 m_named m_pile m_undoneBy
  )
def f7_half_25 (n : Nat) (m_newMany : Int32) (m_s : (Nat → Int32)) (m_errors : (Nat → Int32)) (m_newWord : (Nat → Int32)) (m_newOrigin : (Nat → Int32)) (m_named : (Nat → Int32)) (m_pile : (Nat → Int32)) (m_undoneBy : (Nat → Int32)) : Option (Int32 × Int32 × (Nat → Int32) × (Nat → Int32) × (Nat → Int32) × (Nat → Int32) × (Nat → Int32) × (Nat → Int32) × (Nat → Int32)) :=
  q_c2 (f7_error ((1 : Int32)) m_errors) fun t27 m_errors_27 =>
  some (t27, m_newMany, m_s, m_errors_27, m_newWord, m_newOrigin, m_named, m_pile, m_undoneBy)
def f7_half (n : Nat) (x1 : Int32) (x2 : Int32) (x3 : Int32) (m_newMany : Int32) (m_s : (Nat → Int32)) (m_errors : (Nat → Int32)) (m_newWord : (Nat → Int32)) (m_newOrigin : (Nat → Int32)) (m_named : (Nat → Int32)) (m_pile : (Nat → Int32)) (m_undoneBy : (Nat → Int32)) : Option (Int32 × Int32 × (Nat → Int32) × (Nat → Int32) × (Nat → Int32) × (Nat → Int32) × (Nat → Int32) × (Nat → Int32) × (Nat → Int32)) :=
  q_c (f7_isWriter x1) fun t1 =>
  if t1 = 0 then (
    f7_half_25 n m_newMany m_s m_errors m_newWord m_newOrigin m_named m_pile m_undoneBy
  ) else (
    q_c (f7_isVersion x2 m_s) fun t9 =>
    if t9 = 0 then (
      f7_half_25 n m_newMany m_s m_errors m_newWord m_newOrigin m_named m_pile m_undoneBy
    ) else (
      q_c (f7_in x3 ((0 : Int32)) ((20 : Int32))) fun t19 =>
      if t19 = 0 then (
        f7_half_25 n m_newMany m_s m_errors m_newWord m_newOrigin m_named m_pile m_undoneBy
      ) else (
        q_c3 (f7_mayAct n x1 m_s m_named m_pile) fun t33 m_named_33 m_pile_33 =>
        if t33 = 0 then (
          q_c2 (f7_error ((3 : Int32)) m_errors) fun t41 m_errors_41 =>
          some (t41, m_newMany, m_s, m_errors_41, m_newWord, m_newOrigin, m_named_33, m_pile_33, m_undoneBy)
        ) else (
          q_c (f7_sizeOf x2 m_s) fun t56 =>
          if t56 ≤ x3 then (
            q_c (f7_sizeOf x2 m_s) fun t68 =>
            f7_half_71 n x1 x2 x3 x2 ((0 : Int32)) t68 ((0 : Int32)) m_s m_errors m_newWord m_newOrigin m_named_33 m_pile_33 m_undoneBy
          ) else (
            f7_half_71 n x1 x2 x3 x2 ((0 : Int32)) x3 ((0 : Int32)) m_s m_errors m_newWord m_newOrigin m_named_33 m_pile_33 m_undoneBy
          )
        )
      )
    )
  )
def f7_staysSo (n : Nat) (m_newMany : Int32) (m_s : (Nat → Int32)) (m_newWord : (Nat → Int32)) (m_newOrigin : (Nat → Int32)) : Option (Int32 × (Nat → Int32) × (Nat → Int32)) :=
  q_ld m_s 3974 ((1 : Int32)) fun t11 =>
  q_c (f7_page m_s) fun t14 =>
  q_c3 (f7_takeOver n t11 ((0 : Int32)) t14 ((0 : Int32)) m_s m_newWord m_newOrigin) fun m_newMany_17 m_newWord_17 m_newOrigin_17 =>
  some (m_newMany_17, m_newWord_17, m_newOrigin_17)
def f7_shut_18 (n : Nat) (m_newMany : Int32) (m_s : (Nat → Int32)) (m_errors : (Nat → Int32)) (m_newWord : (Nat → Int32)) (m_newOrigin : (Nat → Int32)) (m_named : (Nat → Int32)) (m_pile : (Nat → Int32)) (m_undoneBy : (Nat → Int32)) : Option (Int32 × Int32 × (Nat → Int32) × (Nat → Int32) × (Nat → Int32) × (Nat → Int32) × (Nat → Int32) × (Nat → Int32) × (Nat → Int32)) :=
  q_c2 (f7_error ((1 : Int32)) m_errors) fun t20 m_errors_20 =>
  some (t20, m_newMany, m_s, m_errors_20, m_newWord, m_newOrigin, m_named, m_pile, m_undoneBy)
def f7_shut (n : Nat) (x1 : Int32) (x2 : Int32) (m_newMany : Int32) (m_s : (Nat → Int32)) (m_errors : (Nat → Int32)) (m_newWord : (Nat → Int32)) (m_newOrigin : (Nat → Int32)) (m_named : (Nat → Int32)) (m_pile : (Nat → Int32)) (m_undoneBy : (Nat → Int32)) : Option (Int32 × Int32 × (Nat → Int32) × (Nat → Int32) × (Nat → Int32) × (Nat → Int32) × (Nat → Int32) × (Nat → Int32) × (Nat → Int32)) :=
  q_c (f7_isWriter x1) fun t1 =>
  if t1 = 0 then (
    f7_shut_18 n m_newMany m_s m_errors m_newWord m_newOrigin m_named m_pile m_undoneBy
  ) else (
    q_c (f7_in x2 ((1 : Int32)) ((9999 : Int32))) fun t12 =>
    if t12 = 0 then (
      f7_shut_18 n m_newMany m_s m_errors m_newWord m_newOrigin m_named m_pile m_undoneBy
    ) else (
      q_c3 (f7_mayAct n x1 m_s m_named m_pile) fun t26 m_named_26 m_pile_26 =>
      if t26 = 0 then (
        q_c2 (f7_error ((3 : Int32)) m_errors) fun t34 m_errors_34 =>
        some (t34, m_newMany, m_s, m_errors_34, m_newWord, m_newOrigin, m_named_26, m_pile_26, m_undoneBy)
      ) else (
        q_c (f7_isFull m_s) fun t39 =>
        if t39 = 0 then (
          q_c3 (f7_staysSo n m_newMany m_s m_newWord m_newOrigin) fun m_newMany_52 m_newWord_52 m_newOrigin_52 =>
          q_ld m_s 3974 ((0 : Int32)) fun t65 =>
          q_st m_s 3974 ((2 : Int32)) (t65 + x2) fun m_s_68 =>
          q_st m_s_68 3974 ((3 : Int32)) x1 fun m_s_75 =>
          q_ld m_s_75 3974 ((2 : Int32)) fun t86 =>
          q_c2 (f7_done n ((6 : Int32)) x1 t86 m_newMany_52 m_s_75 m_newWord_52 m_newOrigin_52) fun t87 m_s_87 =>
          q_c8 (f7_seen n t87 m_newMany_52 m_s_87 m_newWord_52 m_newOrigin_52 m_named_26 m_pile_26 m_undoneBy) fun t90 m_newMany_90 m_s_90 m_newWord_90 m_newOrigin_90 m_named_90 m_pile_90 m_undoneBy_90 =>
          some (t90, m_newMany_90, m_s_90, m_errors, m_newWord_90, m_newOrigin_90, m_named_90, m_pile_90, m_undoneBy_90)
        ) else (
          q_c2 (f7_error ((4 : Int32)) m_errors) fun t47 m_errors_47 =>
          some (t47, m_newMany, m_s, m_errors_47, m_newWord, m_newOrigin, m_named_26, m_pile_26, m_undoneBy)
        )
      )
    )
  )
def f7_talk_18 (n : Nat) (m_newMany : Int32) (m_s : (Nat → Int32)) (m_errors : (Nat → Int32)) (m_newWord : (Nat → Int32)) (m_newOrigin : (Nat → Int32)) (m_named : (Nat → Int32)) (m_pile : (Nat → Int32)) (m_undoneBy : (Nat → Int32)) : Option (Int32 × Int32 × (Nat → Int32) × (Nat → Int32) × (Nat → Int32) × (Nat → Int32) × (Nat → Int32) × (Nat → Int32) × (Nat → Int32)) :=
  q_c2 (f7_error ((1 : Int32)) m_errors) fun t20 m_errors_20 =>
  some (t20, m_newMany, m_s, m_errors_20, m_newWord, m_newOrigin, m_named, m_pile, m_undoneBy)
def f7_talk (n : Nat) (x1 : Int32) (x2 : Int32) (m_newMany : Int32) (m_s : (Nat → Int32)) (m_errors : (Nat → Int32)) (m_newWord : (Nat → Int32)) (m_newOrigin : (Nat → Int32)) (m_named : (Nat → Int32)) (m_pile : (Nat → Int32)) (m_undoneBy : (Nat → Int32)) : Option (Int32 × Int32 × (Nat → Int32) × (Nat → Int32) × (Nat → Int32) × (Nat → Int32) × (Nat → Int32) × (Nat → Int32) × (Nat → Int32)) :=
  q_c (f7_isWriter x1) fun t1 =>
  if t1 = 0 then (
    f7_talk_18 n m_newMany m_s m_errors m_newWord m_newOrigin m_named m_pile m_undoneBy
  ) else (
    q_c (f7_in x2 ((1 : Int32)) ((999 : Int32))) fun t12 =>
    if t12 = 0 then (
      f7_talk_18 n m_newMany m_s m_errors m_newWord m_newOrigin m_named m_pile m_undoneBy
    ) else (
      q_c3 (f7_mayAct n x1 m_s m_named m_pile) fun t26 m_named_26 m_pile_26 =>
      if t26 = 0 then (
        q_c2 (f7_error ((3 : Int32)) m_errors) fun t34 m_errors_34 =>
        some (t34, m_newMany, m_s, m_errors_34, m_newWord, m_newOrigin, m_named_26, m_pile_26, m_undoneBy)
      ) else (
        q_c (f7_isFull m_s) fun t39 =>
        if t39 = 0 then (
          q_c3 (f7_staysSo n m_newMany m_s m_newWord m_newOrigin) fun m_newMany_52 m_newWord_52 m_newOrigin_52 =>
          q_c2 (f7_done n ((7 : Int32)) x1 x2 m_newMany_52 m_s m_newWord_52 m_newOrigin_52) fun t61 m_s_61 =>
          q_c8 (f7_seen n t61 m_newMany_52 m_s_61 m_newWord_52 m_newOrigin_52 m_named_26 m_pile_26 m_undoneBy) fun t64 m_newMany_64 m_s_64 m_newWord_64 m_newOrigin_64 m_named_64 m_pile_64 m_undoneBy_64 =>
          some (t64, m_newMany_64, m_s_64, m_errors, m_newWord_64, m_newOrigin_64, m_named_64, m_pile_64, m_undoneBy_64)
        ) else (
          q_c2 (f7_error ((4 : Int32)) m_errors) fun t47 m_errors_47 =>
          some (t47, m_newMany, m_s, m_errors_47, m_newWord, m_newOrigin, m_named_26, m_pile_26, m_undoneBy)
        )
      )
    )
  )
def f7_actIs_51 (n : Nat) (m_s : (Nat → Int32)) (s1 : Int32) (s2 : Int32) (m_errors : (Nat → Int32)) (m_undoneBy : (Nat → Int32)) : Option (Int32 × (Nat → Int32) × (Nat → Int32)) :=
  q_c (f7_actIs1 s1 s2 m_s) fun t51 =>
  some (t51, m_errors, m_undoneBy)
def f7_actIs_17 (n : Nat) (m_s : (Nat → Int32)) (m_errors : (Nat → Int32)) (m_undoneBy : (Nat → Int32)) : Option (Int32 × (Nat → Int32) × (Nat → Int32)) :=
  q_c2 (f7_error ((1 : Int32)) m_errors) fun t19 m_errors_19 =>
  some (t19, m_errors_19, m_undoneBy)
def f7_actIs (n : Nat) (x1 : Int32) (x2 : Int32) (m_s : (Nat → Int32)) (m_errors : (Nat → Int32)) (m_undoneBy : (Nat → Int32)) : Option (Int32 × (Nat → Int32) × (Nat → Int32)) :=
  q_c (f7_isAct x1 m_s) fun t2 =>
  if t2 = 0 then (
    f7_actIs_17 n m_s m_errors m_undoneBy
  ) else (
    q_c (f7_in x2 ((0 : Int32)) ((5 : Int32))) fun t11 =>
    if t11 = 0 then (
      f7_actIs_17 n m_s m_errors m_undoneBy
    ) else (
      if x2 = ((4 : Int32)) then (
        q_c1 (f7_findUndone n m_s m_undoneBy) fun m_undoneBy_29 =>
        q_ld m_undoneBy_29 60 x1 fun t37 =>
        some (t37, m_errors, m_undoneBy_29)
      ) else (
        if x2 = ((5 : Int32)) then (
          f7_actIs_51 n m_s x1 ((4 : Int32)) m_errors m_undoneBy
        ) else (
          f7_actIs_51 n m_s x1 x2 m_errors m_undoneBy
        )
      )
    )
  )
def f7_as_51 (m_s : (Nat → Int32)) (s0 : Int32) (m_errors : (Nat → Int32)) : Option (Int32 × (Nat → Int32)) :=
  some (s0, m_errors)
def f7_as_18 (m_s : (Nat → Int32)) (m_errors : (Nat → Int32)) : Option (Int32 × (Nat → Int32)) :=
  q_c2 (f7_error ((1 : Int32)) m_errors) fun t20 m_errors_20 =>
  some (t20, m_errors_20)
def f7_as (x1 : Int32) (x2 : Int32) (m_s : (Nat → Int32)) (m_errors : (Nat → Int32)) : Option (Int32 × (Nat → Int32)) :=
  q_c (f7_isAct x1 m_s) fun t2 =>
  if t2 = 0 then (
    f7_as_18 m_s m_errors
  ) else (
    q_c (f7_in x2 ((0 : Int32)) ((7 : Int32))) fun t12 =>
    if t12 = 0 then (
      f7_as_18 m_s m_errors
    ) else (
      q_c (f7_actIs1 x1 ((0 : Int32)) m_s) fun t27 =>
      q_c (f7_isUnder t27 x2) fun t31 =>
      if t31 = 0 then (
        q_c2 (f7_error ((5 : Int32)) m_errors) fun t48 m_errors_48 =>
        f7_as_51 m_s t48 m_errors_48
      ) else (
        q_c (f7_actIs1 x1 ((1 : Int32)) m_s) fun t40 =>
        f7_as_51 m_s t40 m_errors
      )
    )
  )
def f7_word_47 (m_s : (Nat → Int32)) (s0 : Int32) (m_errors : (Nat → Int32)) : Option (Int32 × (Nat → Int32)) :=
  some (s0, m_errors)
def f7_word_23 (m_s : (Nat → Int32)) (m_errors : (Nat → Int32)) : Option (Int32 × (Nat → Int32)) :=
  q_c2 (f7_error ((1 : Int32)) m_errors) fun t25 m_errors_25 =>
  some (t25, m_errors_25)
def f7_word (x1 : Int32) (x2 : Int32) (m_s : (Nat → Int32)) (m_errors : (Nat → Int32)) : Option (Int32 × (Nat → Int32)) :=
  q_c (f7_isVersion x1 m_s) fun t2 =>
  if t2 = 0 then (
    f7_word_23 m_s m_errors
  ) else (
    q_c (f7_sizeOf x1 m_s) fun t12 =>
    q_c (f7_in x2 ((-1 : Int32)) (t12 - ((1 : Int32)))) fun t17 =>
    if t17 = 0 then (
      f7_word_23 m_s m_errors
    ) else (
      if 0 ≤ x2 then (
        q_c (f7_wordAt x1 x2 m_s) fun t44 =>
        f7_word_47 m_s t44 m_errors
      ) else (
        q_c (f7_sizeOf x1 m_s) fun t35 =>
        f7_word_47 m_s t35 m_errors
      )
    )
  )
def f7_origin_37 (m_s : (Nat → Int32)) (s0 : Int32) (m_errors : (Nat → Int32)) : Option (Int32 × (Nat → Int32)) :=
  some (s0, m_errors)
def f7_origin_32 (m_s : (Nat → Int32)) (m_errors : (Nat → Int32)) : Option (Int32 × (Nat → Int32)) :=
  q_c2 (f7_error ((1 : Int32)) m_errors) fun t34 m_errors_34 =>
  f7_origin_37 m_s t34 m_errors_34
def f7_origin (x1 : Int32) (x2 : Int32) (m_s : (Nat → Int32)) (m_errors : (Nat → Int32)) : Option (Int32 × (Nat → Int32)) :=
  q_c (f7_isVersion x1 m_s) fun t2 =>
  if t2 = 0 then (
    f7_origin_32 m_s m_errors
  ) else (
    q_c (f7_sizeOf x1 m_s) fun t12 =>
    q_c (f7_in x2 ((0 : Int32)) (t12 - ((1 : Int32)))) fun t17 =>
    if t17 = 0 then (
      f7_origin_32 m_s m_errors
    ) else (
      q_c (f7_originAt x1 x2 m_s) fun t26 =>
      f7_origin_37 m_s t26 m_errors
    )
  )
def f7_may_28 (n : Nat) (m_s : (Nat → Int32)) (s0 : Int32) (m_errors : (Nat → Int32)) (m_named : (Nat → Int32)) (m_pile : (Nat → Int32)) : Option (Int32 × (Nat → Int32) × (Nat → Int32) × (Nat → Int32)) :=
  some (s0, m_errors, m_named, m_pile)
def f7_may (n : Nat) (x1 : Int32) (m_s : (Nat → Int32)) (m_errors : (Nat → Int32)) (m_named : (Nat → Int32)) (m_pile : (Nat → Int32)) : Option (Int32 × (Nat → Int32) × (Nat → Int32) × (Nat → Int32)) :=
  q_c (f7_isWriter x1) fun t1 =>
  if t1 = 0 then (
    q_c2 (f7_error ((1 : Int32)) m_errors) fun t9 m_errors_9 =>
    f7_may_28 n m_s t9 m_errors_9 m_named m_pile
  ) else (
    q_c3 (f7_mayAct n x1 m_s m_named m_pile) fun t17 m_named_17 m_pile_17 =>
    if t17 = 0 then (
      f7_may_28 n m_s ((0 : Int32)) m_errors m_named_17 m_pile_17
    ) else (
      f7_may_28 n m_s ((1 : Int32)) m_errors m_named_17 m_pile_17
    )
  )
def f7_feed_38 (n : Nat) : Nat → Int64 → Int32 → Int32 → (Nat → Int32) → (Nat → Int32) → Option (Int32 × (Nat → Int32) × (Nat → Int32))
  | 0, _, _, _, _, _ => none
  | kk + 1, x1, x3, x4, m_s, m_errors =>
    if x3 ≤ x4 then (
      q_ld m_s 3974 ((4 : Int32)) fun t92 =>
      some (t92, m_s, m_errors)
    ) else (
      q_ld m_s 3974 ((4 : Int32)) fun t56 =>
      q_st m_s 3974 (((3890 : Int32)) + t56) (((x1 >>> ((((8 : Int32)) * x4).toInt64 &&& 63)) &&& ((255 : Int64))).toInt32) fun m_s_70 =>
      q_ld m_s_70 3974 ((4 : Int32)) fun t77 =>
      q_st m_s_70 3974 ((4 : Int32)) (t77 + ((1 : Int32))) fun m_s_80 =>
      q_lt (x4 + (1 : Int32)) fun x4_81 =>
      f7_feed_38 n kk x1 x3 x4_81 m_s_80 m_errors
    )
def f7_feed (n : Nat) (x1 : Int64) (x3 : Int32) (m_s : (Nat → Int32)) (m_errors : (Nat → Int32)) : Option (Int32 × (Nat → Int32) × (Nat → Int32)) :=
  q_c (f7_in x3 ((1 : Int32)) ((8 : Int32))) fun t4 =>
  if t4 = 0 then (
    q_c2 (f7_error ((1 : Int32)) m_errors) fun t12 m_errors_12 =>
    some (t12, m_s, m_errors_12)
  ) else (
    q_ld m_s 3974 ((4 : Int32)) fun t21 =>
    if (t21 + x3) ≤ ((60 : Int32)) then (
      f7_feed_38 n n x1 x3 ((0 : Int32)) m_s m_errors
    ) else (
      q_c2 (f7_error ((4 : Int32)) m_errors) fun t31 m_errors_31 =>
      some (t31, m_s, m_errors_31)
    )
  )
def f7_look_30 (m_at : Int32) (m_s : (Nat → Int32)) (s0 : Int32) : Option (Int32) :=
  some s0
def f7_look (m_at : Int32) (m_s : (Nat → Int32)) : Option (Int32) :=
  q_ld m_s 3974 ((4 : Int32)) fun t9 =>
  if t9 ≤ m_at then (
    f7_look_30 m_at m_s ((-1 : Int32))
  ) else (
    q_ld m_s 3974 (((3890 : Int32)) + m_at) fun t25 =>
    f7_look_30 m_at m_s t25
  )
def f7_isName_112 (m_use : Int32) (s0 : Int32) : Option (Int32) :=
  q_bz s0 <|
  some s0
def f7_isName_107 (m_use : Int32) : Option (Int32) :=
  f7_isName_112 m_use ((1 : Int32))
def f7_isName_82 (m_use : Int32) (s0 : Int32) : Option (Int32) :=
  q_bz s0 <|
  some s0
def f7_isName_77 (m_use : Int32) : Option (Int32) :=
  f7_isName_82 m_use ((1 : Int32))
def f7_isName_44 (m_use : Int32) (s0 : Int32) : Option (Int32) :=
  q_bz s0 <|
  some s0
def f7_isName_39 (m_use : Int32) : Option (Int32) :=
  f7_isName_44 m_use ((1 : Int32))
def f7_isName (x1 : Int32) (m_use : Int32) : Option (Int32) :=
  if x1 = ((108 : Int32)) then (
    q_bz ((1 : Int32)) <|
    some ((1 : Int32))
  ) else (
    if m_use = 0 then (
      if x1 = ((98 : Int32)) then (
        f7_isName_39 m_use
      ) else (
        if x1 = ((119 : Int32)) then (
          f7_isName_39 m_use
        ) else (
          if x1 = ((109 : Int32)) then (
            f7_isName_39 m_use
          ) else (
            if x1 = ((97 : Int32)) then (
              f7_isName_39 m_use
            ) else (
              f7_isName_44 m_use ((0 : Int32))
            )
          )
        )
      )
    ) else (
      if m_use = ((1 : Int32)) then (
        if x1 = ((107 : Int32)) then (
          f7_isName_77 m_use
        ) else (
          if x1 = ((119 : Int32)) then (
            f7_isName_77 m_use
          ) else (
            if x1 = ((100 : Int32)) then (
              f7_isName_77 m_use
            ) else (
              if x1 = ((117 : Int32)) then (
                f7_isName_77 m_use
              ) else (
                f7_isName_82 m_use ((0 : Int32))
              )
            )
          )
        )
      ) else (
        if x1 = ((109 : Int32)) then (
          f7_isName_107 m_use
        ) else (
          if x1 = ((98 : Int32)) then (
            f7_isName_107 m_use
          ) else (
            if x1 = ((111 : Int32)) then (
              f7_isName_107 m_use
            ) else (
              if x1 = ((114 : Int32)) then (
                f7_isName_107 m_use
              ) else (
                f7_isName_112 m_use ((0 : Int32))
              )
            )
          )
        )
      )
    )
  )
def f7_lay (x1 : Int32) (x2 : Int32) (m_steps : Int32) (m_step : (Nat → Int32)) : Option (Int32 × (Nat → Int32)) :=
  q_st m_step 124 (((2 : Int32)) * m_steps) x1 fun m_step_11 =>
  q_st m_step_11 124 ((((2 : Int32)) * m_steps) + ((1 : Int32))) x2 fun m_step_25 =>
  q_lt (m_steps + ((1 : Int32))) fun m_steps_33 =>
  some (m_steps_33, m_step_25)
def f7_opens (m_at : Int32) (m_open : Int32) : Option (Int32 × Int32 × Int32) :=
  if m_open = ((5 : Int32)) then (
    q_bz ((0 : Int32)) <|
    some ((0 : Int32), m_at, m_open)
  ) else (
    q_lt (m_open + ((1 : Int32))) fun m_open_17 =>
    q_lt (m_at + ((1 : Int32))) fun m_at_27 =>
    q_bz ((1 : Int32)) <|
    some ((1 : Int32), m_at_27, m_open_17)
  )
def g7_product_36 (n : Nat) (FS : Int32 → Int32 → Int32 → Int32 → (Nat → Int32) → (Nat → Int32) → Option (Int32 × Int32 × Int32 × Int32 × (Nat → Int32))) (m_use : Int32) (m_s : (Nat → Int32)) (k9 : Int32 → Int32 → Int32 → (Nat → Int32) → Option (Int32 × Int32 × Int32 × Int32 × (Nat → Int32))) (m_at : Int32) (m_open : Int32) (m_steps : Int32) (m_step : (Nat → Int32)) : Option (Int32 × Int32 × Int32 × Int32 × (Nat → Int32)) :=
  q_c (f7_look m_at m_s) fun t37 =>
  q_lt (m_at + ((1 : Int32))) fun m_at_48 =>
  q_c5 (FS m_at_48 m_open m_steps m_use m_s m_step) fun t52 m_at_52 m_open_52 m_steps_52 m_step_52 =>
  if t52 = 0 then (
    q_bz ((0 : Int32)) <|
    some ((0 : Int32), m_at_52, m_open_52, m_steps_52, m_step_52)
  ) else (
    q_c2 (f7_lay ((3 : Int32)) t37 m_steps_52 m_step_52) fun m_steps_63 m_step_63 =>
    k9 m_at_52 m_open_52 m_steps_63 m_step_63
  )
def g7_product_9 (n : Nat) (FS : Int32 → Int32 → Int32 → Int32 → (Nat → Int32) → (Nat → Int32) → Option (Int32 × Int32 × Int32 × Int32 × (Nat → Int32))) (m_use : Int32) (m_s : (Nat → Int32)) : Nat → Int32 → Int32 → Int32 → (Nat → Int32) → Option (Int32 × Int32 × Int32 × Int32 × (Nat → Int32))
  | 0, _, _, _, _ => none
  | kk + 1, m_at, m_open, m_steps, m_step =>
    q_c (f7_look m_at m_s) fun t10 =>
    if t10 = ((42 : Int32)) then (
      g7_product_36 n FS m_use m_s (g7_product_9 n FS m_use m_s kk) m_at m_open m_steps m_step
    ) else (
      q_c (f7_look m_at m_s) fun t19 =>
      if t19 = ((47 : Int32)) then (
        g7_product_36 n FS m_use m_s (g7_product_9 n FS m_use m_s kk) m_at m_open m_steps m_step
      ) else (
        q_c (f7_look m_at m_s) fun t28 =>
        if t28 = ((37 : Int32)) then (
          g7_product_36 n FS m_use m_s (g7_product_9 n FS m_use m_s kk) m_at m_open m_steps m_step
        ) else (
          q_bz ((1 : Int32)) <|
          some ((1 : Int32), m_at, m_open, m_steps, m_step)
        )
      )
    )
def g7_product (n : Nat) (FS : Int32 → Int32 → Int32 → Int32 → (Nat → Int32) → (Nat → Int32) → Option (Int32 × Int32 × Int32 × Int32 × (Nat → Int32))) (m_at : Int32) (m_open : Int32) (m_steps : Int32) (m_use : Int32) (m_s : (Nat → Int32)) (m_step : (Nat → Int32)) : Option (Int32 × Int32 × Int32 × Int32 × (Nat → Int32)) :=
  q_c5 (FS m_at m_open m_steps m_use m_s m_step) fun t1 m_at_1 m_open_1 m_steps_1 m_step_1 =>
  if t1 = 0 then (
    q_bz ((0 : Int32)) <|
    some ((0 : Int32), m_at_1, m_open_1, m_steps_1, m_step_1)
  ) else (
    g7_product_9 n FS m_use m_s n m_at_1 m_open_1 m_steps_1 m_step_1
  )
def g7_sum_27 (n : Nat) (FS : Int32 → Int32 → Int32 → Int32 → (Nat → Int32) → (Nat → Int32) → Option (Int32 × Int32 × Int32 × Int32 × (Nat → Int32))) (m_use : Int32) (m_s : (Nat → Int32)) (k9 : Int32 → Int32 → Int32 → (Nat → Int32) → Option (Int32 × Int32 × Int32 × Int32 × (Nat → Int32))) (m_at : Int32) (m_open : Int32) (m_steps : Int32) (m_step : (Nat → Int32)) : Option (Int32 × Int32 × Int32 × Int32 × (Nat → Int32)) :=
  q_c (f7_look m_at m_s) fun t28 =>
  q_lt (m_at + ((1 : Int32))) fun m_at_39 =>
  q_c5 (g7_product n FS m_at_39 m_open m_steps m_use m_s m_step) fun t43 m_at_43 m_open_43 m_steps_43 m_step_43 =>
  if t43 = 0 then (
    q_bz ((0 : Int32)) <|
    some ((0 : Int32), m_at_43, m_open_43, m_steps_43, m_step_43)
  ) else (
    q_c2 (f7_lay ((3 : Int32)) t28 m_steps_43 m_step_43) fun m_steps_54 m_step_54 =>
    k9 m_at_43 m_open_43 m_steps_54 m_step_54
  )
def g7_sum_9 (n : Nat) (FS : Int32 → Int32 → Int32 → Int32 → (Nat → Int32) → (Nat → Int32) → Option (Int32 × Int32 × Int32 × Int32 × (Nat → Int32))) (m_use : Int32) (m_s : (Nat → Int32)) : Nat → Int32 → Int32 → Int32 → (Nat → Int32) → Option (Int32 × Int32 × Int32 × Int32 × (Nat → Int32))
  | 0, _, _, _, _ => none
  | kk + 1, m_at, m_open, m_steps, m_step =>
    q_c (f7_look m_at m_s) fun t10 =>
    if t10 = ((43 : Int32)) then (
      g7_sum_27 n FS m_use m_s (g7_sum_9 n FS m_use m_s kk) m_at m_open m_steps m_step
    ) else (
      q_c (f7_look m_at m_s) fun t19 =>
      if t19 = ((45 : Int32)) then (
        g7_sum_27 n FS m_use m_s (g7_sum_9 n FS m_use m_s kk) m_at m_open m_steps m_step
      ) else (
        q_bz ((1 : Int32)) <|
        some ((1 : Int32), m_at, m_open, m_steps, m_step)
      )
    )
def g7_sum (n : Nat) (FS : Int32 → Int32 → Int32 → Int32 → (Nat → Int32) → (Nat → Int32) → Option (Int32 × Int32 × Int32 × Int32 × (Nat → Int32))) (m_at : Int32) (m_open : Int32) (m_steps : Int32) (m_use : Int32) (m_s : (Nat → Int32)) (m_step : (Nat → Int32)) : Option (Int32 × Int32 × Int32 × Int32 × (Nat → Int32)) :=
  q_c5 (g7_product n FS m_at m_open m_steps m_use m_s m_step) fun t1 m_at_1 m_open_1 m_steps_1 m_step_1 =>
  if t1 = 0 then (
    q_bz ((0 : Int32)) <|
    some ((0 : Int32), m_at_1, m_open_1, m_steps_1, m_step_1)
  ) else (
    g7_sum_9 n FS m_use m_s n m_at_1 m_open_1 m_steps_1 m_step_1
  )
def g7_compared_34 (n : Nat) (FS : Int32 → Int32 → Int32 → Int32 → (Nat → Int32) → (Nat → Int32) → Option (Int32 × Int32 × Int32 × Int32 × (Nat → Int32))) (m_use : Int32) (m_s : (Nat → Int32)) (x1 : Int32) (m_at : Int32) (m_open : Int32) (m_steps : Int32) (m_step : (Nat → Int32)) : Option (Int32 × Int32 × Int32 × Int32 × (Nat → Int32)) :=
  q_lt (m_at + ((1 : Int32))) fun m_at_41 =>
  q_c5 (g7_sum n FS m_at_41 m_open m_steps m_use m_s m_step) fun t45 m_at_45 m_open_45 m_steps_45 m_step_45 =>
  if t45 = 0 then (
    q_bz ((0 : Int32)) <|
    some ((0 : Int32), m_at_45, m_open_45, m_steps_45, m_step_45)
  ) else (
    q_c2 (f7_lay ((3 : Int32)) x1 m_steps_45 m_step_45) fun m_steps_56 m_step_56 =>
    q_bz ((1 : Int32)) <|
    some ((1 : Int32), m_at_45, m_open_45, m_steps_56, m_step_56)
  )
def g7_compared (n : Nat) (FS : Int32 → Int32 → Int32 → Int32 → (Nat → Int32) → (Nat → Int32) → Option (Int32 × Int32 × Int32 × Int32 × (Nat → Int32))) (m_at : Int32) (m_open : Int32) (m_steps : Int32) (m_use : Int32) (m_s : (Nat → Int32)) (m_step : (Nat → Int32)) : Option (Int32 × Int32 × Int32 × Int32 × (Nat → Int32)) :=
  q_c5 (g7_sum n FS m_at m_open m_steps m_use m_s m_step) fun t1 m_at_1 m_open_1 m_steps_1 m_step_1 =>
  if t1 = 0 then (
    q_bz ((0 : Int32)) <|
    some ((0 : Int32), m_at_1, m_open_1, m_steps_1, m_step_1)
  ) else (
    q_c (f7_look m_at_1 m_s) fun t10 =>
    if t10 = ((60 : Int32)) then (
      g7_compared_34 n FS m_use m_s t10 m_at_1 m_open_1 m_steps_1 m_step_1
    ) else (
      if t10 = ((61 : Int32)) then (
        g7_compared_34 n FS m_use m_s t10 m_at_1 m_open_1 m_steps_1 m_step_1
      ) else (
        if t10 = ((62 : Int32)) then (
          g7_compared_34 n FS m_use m_s t10 m_at_1 m_open_1 m_steps_1 m_step_1
        ) else (
          q_bz ((1 : Int32)) <|
          some ((1 : Int32), m_at_1, m_open_1, m_steps_1, m_step_1)
        )
      )
    )
  )
def g7_both_9 (n : Nat) (FS : Int32 → Int32 → Int32 → Int32 → (Nat → Int32) → (Nat → Int32) → Option (Int32 × Int32 × Int32 × Int32 × (Nat → Int32))) (m_use : Int32) (m_s : (Nat → Int32)) : Nat → Int32 → Int32 → Int32 → (Nat → Int32) → Option (Int32 × Int32 × Int32 × Int32 × (Nat → Int32))
  | 0, _, _, _, _ => none
  | kk + 1, m_at, m_open, m_steps, m_step =>
    q_c (f7_look m_at m_s) fun t10 =>
    if t10 = ((38 : Int32)) then (
      q_lt (m_at + ((1 : Int32))) fun m_at_25 =>
      q_c5 (g7_compared n FS m_at_25 m_open m_steps m_use m_s m_step) fun t29 m_at_29 m_open_29 m_steps_29 m_step_29 =>
      if t29 = 0 then (
        q_bz ((0 : Int32)) <|
        some ((0 : Int32), m_at_29, m_open_29, m_steps_29, m_step_29)
      ) else (
        q_c2 (f7_lay ((3 : Int32)) ((38 : Int32)) m_steps_29 m_step_29) fun m_steps_41 m_step_41 =>
        g7_both_9 n FS m_use m_s kk m_at_29 m_open_29 m_steps_41 m_step_41
      )
    ) else (
      q_bz ((1 : Int32)) <|
      some ((1 : Int32), m_at, m_open, m_steps, m_step)
    )
def g7_both (n : Nat) (FS : Int32 → Int32 → Int32 → Int32 → (Nat → Int32) → (Nat → Int32) → Option (Int32 × Int32 × Int32 × Int32 × (Nat → Int32))) (m_at : Int32) (m_open : Int32) (m_steps : Int32) (m_use : Int32) (m_s : (Nat → Int32)) (m_step : (Nat → Int32)) : Option (Int32 × Int32 × Int32 × Int32 × (Nat → Int32)) :=
  q_c5 (g7_compared n FS m_at m_open m_steps m_use m_s m_step) fun t1 m_at_1 m_open_1 m_steps_1 m_step_1 =>
  if t1 = 0 then (
    q_bz ((0 : Int32)) <|
    some ((0 : Int32), m_at_1, m_open_1, m_steps_1, m_step_1)
  ) else (
    g7_both_9 n FS m_use m_s n m_at_1 m_open_1 m_steps_1 m_step_1
  )
def g7_whole_9 (n : Nat) (FS : Int32 → Int32 → Int32 → Int32 → (Nat → Int32) → (Nat → Int32) → Option (Int32 × Int32 × Int32 × Int32 × (Nat → Int32))) (m_use : Int32) (m_s : (Nat → Int32)) : Nat → Int32 → Int32 → Int32 → (Nat → Int32) → Option (Int32 × Int32 × Int32 × Int32 × (Nat → Int32))
  | 0, _, _, _, _ => none
  | kk + 1, m_at, m_open, m_steps, m_step =>
    q_c (f7_look m_at m_s) fun t10 =>
    if t10 = ((124 : Int32)) then (
      q_lt (m_at + ((1 : Int32))) fun m_at_25 =>
      q_c5 (g7_both n FS m_at_25 m_open m_steps m_use m_s m_step) fun t29 m_at_29 m_open_29 m_steps_29 m_step_29 =>
      if t29 = 0 then (
        q_bz ((0 : Int32)) <|
        some ((0 : Int32), m_at_29, m_open_29, m_steps_29, m_step_29)
      ) else (
        q_c2 (f7_lay ((3 : Int32)) ((124 : Int32)) m_steps_29 m_step_29) fun m_steps_41 m_step_41 =>
        g7_whole_9 n FS m_use m_s kk m_at_29 m_open_29 m_steps_41 m_step_41
      )
    ) else (
      q_bz ((1 : Int32)) <|
      some ((1 : Int32), m_at, m_open, m_steps, m_step)
    )
def g7_whole (n : Nat) (FS : Int32 → Int32 → Int32 → Int32 → (Nat → Int32) → (Nat → Int32) → Option (Int32 × Int32 × Int32 × Int32 × (Nat → Int32))) (m_at : Int32) (m_open : Int32) (m_steps : Int32) (m_use : Int32) (m_s : (Nat → Int32)) (m_step : (Nat → Int32)) : Option (Int32 × Int32 × Int32 × Int32 × (Nat → Int32)) :=
  q_c5 (g7_both n FS m_at m_open m_steps m_use m_s m_step) fun t1 m_at_1 m_open_1 m_steps_1 m_step_1 =>
  if t1 = 0 then (
    q_bz ((0 : Int32)) <|
    some ((0 : Int32), m_at_1, m_open_1, m_steps_1, m_step_1)
  ) else (
    g7_whole_9 n FS m_use m_s n m_at_1 m_open_1 m_steps_1 m_step_1
  )
def f7_one_171 (n : Nat) (FS : Int32 → Int32 → Int32 → Int32 → (Nat → Int32) → (Nat → Int32) → Option (Int32 × Int32 × Int32 × Int32 × (Nat → Int32))) (m_use : Int32) (m_s : (Nat → Int32)) (m_at : Int32) (m_open : Int32) (m_steps : Int32) (m_step : (Nat → Int32)) : Option (Int32 × Int32 × Int32 × Int32 × (Nat → Int32)) :=
  q_bz ((0 : Int32)) <|
  some ((0 : Int32), m_at, m_open, m_steps, m_step)
def f7_one_122 (n : Nat) (FS : Int32 → Int32 → Int32 → Int32 → (Nat → Int32) → (Nat → Int32) → Option (Int32 × Int32 × Int32 × Int32 × (Nat → Int32))) (m_use : Int32) (m_s : (Nat → Int32)) (m_at : Int32) (m_open : Int32) (m_steps : Int32) (m_step : (Nat → Int32)) : Option (Int32 × Int32 × Int32 × Int32 × (Nat → Int32)) :=
  q_bz ((0 : Int32)) <|
  some ((0 : Int32), m_at, m_open, m_steps, m_step)
def f7_one_94 (n : Nat) (FS : Int32 → Int32 → Int32 → Int32 → (Nat → Int32) → (Nat → Int32) → Option (Int32 × Int32 × Int32 × Int32 × (Nat → Int32))) (m_use : Int32) (m_s : (Nat → Int32)) (x2 : Int32) (m_at : Int32) (m_open : Int32) (m_steps : Int32) (m_step : (Nat → Int32)) : Option (Int32 × Int32 × Int32 × Int32 × (Nat → Int32)) :=
  q_c2 (f7_lay ((0 : Int32)) x2 m_steps m_step) fun m_steps_97 m_step_97 =>
  q_bz ((1 : Int32)) <|
  some ((1 : Int32), m_at, m_open, m_steps_97, m_step_97)
def f7_one_46 (n : Nat) (FS : Int32 → Int32 → Int32 → Int32 → (Nat → Int32) → (Nat → Int32) → Option (Int32 × Int32 × Int32 × Int32 × (Nat → Int32))) (m_use : Int32) (m_s : (Nat → Int32)) : Nat → Int32 → Int32 → Int32 → Int32 → Int32 → (Nat → Int32) → Option (Int32 × Int32 × Int32 × Int32 × (Nat → Int32))
  | 0, _, _, _, _, _, _ => none
  | kk + 1, x2, x3, m_at, m_open, m_steps, m_step =>
    if ((4 : Int32)) ≤ x3 then (
      f7_one_94 n FS m_use m_s x2 m_at m_open m_steps m_step
    ) else (
      q_c (f7_look m_at m_s) fun t52 =>
      q_c (f7_in t52 ((48 : Int32)) ((57 : Int32))) fun t59 =>
      if t59 = 0 then (
        f7_one_94 n FS m_use m_s x2 m_at m_open m_steps m_step
      ) else (
        q_c (f7_look m_at m_s) fun t70 =>
        q_lt (((((10 : Int32)) * x2) + t70) - ((48 : Int32))) fun x2_77 =>
        q_lt (m_at + ((1 : Int32))) fun m_at_85 =>
        q_lt (x3 + (1 : Int32)) fun x3_88 =>
        f7_one_46 n FS m_use m_s kk x2_77 x3_88 m_at_85 m_open m_steps m_step
      )
    )
def f7_one (n : Nat) : Nat → Int32 → Int32 → Int32 → Int32 → (Nat → Int32) → (Nat → Int32) → Option (Int32 × Int32 × Int32 × Int32 × (Nat → Int32))
  | 0, _, _, _, _, _, _ => none
  | d + 1, m_at, m_open, m_steps, m_use, m_s, m_step =>
    q_c (f7_look m_at m_s) fun t1 =>
    q_c (f7_isName t1 m_use) fun t7 =>
    if t7 = 0 then (
      q_c (f7_in t1 ((48 : Int32)) ((57 : Int32))) fun t36 =>
      if t36 = 0 then (
        if t1 = ((33 : Int32)) then (
          q_c3 (f7_opens m_at m_open) fun t109 m_at_109 m_open_109 =>
          if t109 = 0 then (
            f7_one_122 n (f7_one n d) m_use m_s m_at_109 m_open_109 m_steps m_step
          ) else (
            q_c5 ((f7_one n d) m_at_109 m_open_109 m_steps m_use m_s m_step) fun t116 m_at_116 m_open_116 m_steps_116 m_step_116 =>
            if t116 = 0 then (
              f7_one_122 n (f7_one n d) m_use m_s m_at_116 m_open_116 m_steps_116 m_step_116
            ) else (
              q_lt (m_open_116 - ((1 : Int32))) fun m_open_131 =>
              q_c2 (f7_lay ((2 : Int32)) ((0 : Int32)) m_steps_116 m_step_116) fun m_steps_137 m_step_137 =>
              q_bz ((1 : Int32)) <|
              some ((1 : Int32), m_at_116, m_open_131, m_steps_137, m_step_137)
            )
          )
        ) else (
          if t1 = ((40 : Int32)) then (
            q_c3 (f7_opens m_at m_open) fun t149 m_at_149 m_open_149 =>
            if t149 = 0 then (
              f7_one_171 n (f7_one n d) m_use m_s m_at_149 m_open_149 m_steps m_step
            ) else (
              q_c5 (g7_whole n (f7_one n d) m_at_149 m_open_149 m_steps m_use m_s m_step) fun t156 m_at_156 m_open_156 m_steps_156 m_step_156 =>
              if t156 = 0 then (
                f7_one_171 n (f7_one n d) m_use m_s m_at_156 m_open_156 m_steps_156 m_step_156
              ) else (
                q_c (f7_look m_at_156 m_s) fun t163 =>
                if t163 = ((41 : Int32)) then (
                  q_lt (m_at_156 + ((1 : Int32))) fun m_at_180 =>
                  q_lt (m_open_156 - ((1 : Int32))) fun m_open_190 =>
                  q_bz ((1 : Int32)) <|
                  some ((1 : Int32), m_at_180, m_open_190, m_steps_156, m_step_156)
                ) else (
                  f7_one_171 n (f7_one n d) m_use m_s m_at_156 m_open_156 m_steps_156 m_step_156
                )
              )
            )
          ) else (
            f7_one_171 n (f7_one n d) m_use m_s m_at m_open m_steps m_step
          )
        )
      ) else (
        f7_one_46 n (f7_one n d) m_use m_s n ((0 : Int32)) ((0 : Int32)) m_at m_open m_steps m_step
      )
    ) else (
      q_lt (m_at + ((1 : Int32))) fun m_at_20 =>
      q_c2 (f7_lay ((1 : Int32)) t1 m_steps m_step) fun m_steps_26 m_step_26 =>
      q_bz ((1 : Int32)) <|
      some ((1 : Int32), m_at_20, m_open, m_steps_26, m_step_26)
    )
def f7_text_103 (n : Nat) : Nat → Int32 → Int32 → Int32 → Int32 → Int32 → Int32 → (Nat → Int32) → (Nat → Int32) → (Nat → Int32) → Option (Int32 × Int32 × Int32 × Int32 × Int32 × (Nat → Int32) × (Nat → Int32) × (Nat → Int32))
  | 0, _, _, _, _, _, _, _, _, _ => none
  | kk + 1, x3, x4, m_at, m_open, m_steps, m_use, m_s, m_errors, m_step =>
    if (((2 : Int32)) * m_steps) ≤ x4 then (
      some ((1 : Int32), m_at, m_open, m_steps, m_use, m_s, m_errors, m_step)
    ) else (
      q_ld m_step 124 x4 fun t130 =>
      q_st m_s 3974 ((x3 + ((1 : Int32))) + x4) t130 fun m_s_131 =>
      q_lt (x4 + (1 : Int32)) fun x4_132 =>
      f7_text_103 n kk x3 x4_132 m_at m_open m_steps m_use m_s_131 m_errors m_step
    )
def f7_text_61 (n : Nat) (x1 : Int32) (s0 : Int32) (m_at : Int32) (m_open : Int32) (m_steps : Int32) (m_use : Int32) (m_s : (Nat → Int32)) (m_errors : (Nat → Int32)) (m_step : (Nat → Int32)) : Option (Int32 × Int32 × Int32 × Int32 × Int32 × (Nat → Int32) × (Nat → Int32) × (Nat → Int32)) :=
  q_st m_s 3974 ((4 : Int32)) ((0 : Int32)) fun m_s_68 =>
  if s0 = 0 then (
    some (((-10 : Int32)) - m_at, m_at, m_open, m_steps, m_use, m_s_68, m_errors, m_step)
  ) else (
    q_lt (((2890 : Int32)) + (((125 : Int32)) * x1)) fun x3_89 =>
    q_st m_s_68 3974 x3_89 m_steps fun m_s_99 =>
    f7_text_103 n n x3_89 ((0 : Int32)) m_at m_open m_steps m_use m_s_99 m_errors m_step
  )
def f7_text_60 (n : Nat) (x1 : Int32) (m_at : Int32) (m_open : Int32) (m_steps : Int32) (m_use : Int32) (m_s : (Nat → Int32)) (m_errors : (Nat → Int32)) (m_step : (Nat → Int32)) : Option (Int32 × Int32 × Int32 × Int32 × Int32 × (Nat → Int32) × (Nat → Int32) × (Nat → Int32)) :=
  f7_text_61 n x1 ((0 : Int32)) m_at m_open m_steps m_use m_s m_errors m_step
def f7_text (n : Nat) (x1 : Int32) (m_at : Int32) (m_open : Int32) (m_steps : Int32) (m_use : Int32) (m_s : (Nat → Int32)) (m_errors : (Nat → Int32)) (m_step : (Nat → Int32)) : Option (Int32 × Int32 × Int32 × Int32 × Int32 × (Nat → Int32) × (Nat → Int32) × (Nat → Int32)) :=
  q_c (f7_in x1 ((0 : Int32)) ((7 : Int32))) fun t4 =>
  if t4 = 0 then (
    q_c2 (f7_error ((1 : Int32)) m_errors) fun t12 m_errors_12 =>
    some (t12, m_at, m_open, m_steps, m_use, m_s, m_errors_12, m_step)
  ) else (
    q_c5 (g7_whole n (f7_one n 8) ((0 : Int32)) ((0 : Int32)) ((0 : Int32)) x1 m_s m_step) fun t37 m_at_37 m_open_37 m_steps_37 m_step_37 =>
    if t37 = 0 then (
      f7_text_60 n x1 m_at_37 m_open_37 m_steps_37 x1 m_s m_errors m_step_37
    ) else (
      q_ld m_s 3974 ((4 : Int32)) fun t52 =>
      if m_at_37 = t52 then (
        f7_text_61 n x1 ((1 : Int32)) m_at_37 m_open_37 m_steps_37 x1 m_s m_errors m_step_37
      ) else (
        f7_text_60 n x1 m_at_37 m_open_37 m_steps_37 x1 m_s m_errors m_step_37
      )
    )
  )
def f7_untell_29 (x1 : Int32) (s0 : Int32) (m_s : (Nat → Int32)) (m_errors : (Nat → Int32)) : Option (Int32 × (Nat → Int32) × (Nat → Int32)) :=
  q_st m_s 3974 (((2890 : Int32)) + (((125 : Int32)) * x1)) ((0 : Int32)) fun m_s_43 =>
  some (s0, m_s_43, m_errors)
def f7_untell (x1 : Int32) (m_s : (Nat → Int32)) (m_errors : (Nat → Int32)) : Option (Int32 × (Nat → Int32) × (Nat → Int32)) :=
  q_c (f7_in x1 ((0 : Int32)) ((7 : Int32))) fun t4 =>
  if t4 = 0 then (
    q_c2 (f7_error ((1 : Int32)) m_errors) fun t12 m_errors_12 =>
    some (t12, m_s, m_errors_12)
  ) else (
    q_c (f7_hasText x1 m_s) fun t18 =>
    if t18 = 0 then (
      f7_untell_29  x1 ((0 : Int32)) m_s m_errors
    ) else (
      f7_untell_29  x1 ((1 : Int32)) m_s m_errors
    )
  )
def f7_draw (m_s : (Nat → Int32)) : Option (Int32 × (Nat → Int32)) :=
  q_ld m_s 3974 ((6 : Int32)) fun t12 =>
  q_st m_s 3974 ((6 : Int32)) ((t12 * ((1103515245 : Int32))) + ((12345 : Int32))) fun m_s_20 =>
  q_ld m_s_20 3974 ((6 : Int32)) fun t27 =>
  some ((t27.toUInt32 >>> (((8 : Int32)).toUInt32 &&& Int32.toUInt32 31)).toInt32, m_s_20)
def f7_wordsOf_38 (n : Nat) (m_s : (Nat → Int32)) (k4 : Int32 → Int32 → Int32 → Option (Int32)) (x1 : Int32) (x3 : Int32) (s0 : Int32) (s1 : Int32) : Option (Int32) :=
  q_lt (s0 + s1) fun x2_39 =>
  q_lt (x3 + (1 : Int32)) fun x3_40 =>
  k4 x1 x2_39 x3_40
def f7_wordsOf_4 (n : Nat) (m_s : (Nat → Int32)) : Nat → Int32 → Int32 → Int32 → Option (Int32)
  | 0, _, _, _ => none
  | kk + 1, x1, x2, x3 =>
    q_c (f7_page m_s) fun t6 =>
    if t6 ≤ x3 then (
      some x2
    ) else (
      q_ld m_s 3974 ((1 : Int32)) fun t20 =>
      q_c (f7_originAt t20 x3 m_s) fun t22 =>
      q_c (f7_actIs1 t22 ((1 : Int32)) m_s) fun t26 =>
      if t26 = x1 then (
        f7_wordsOf_38 n m_s (f7_wordsOf_4 n m_s kk) x1 x3 x2 ((1 : Int32))
      ) else (
        f7_wordsOf_38 n m_s (f7_wordsOf_4 n m_s kk) x1 x3 x2 ((0 : Int32))
      )
    )
def f7_wordsOf (n : Nat) (x1 : Int32) (m_s : (Nat → Int32)) : Option (Int32) :=
  f7_wordsOf_4 n m_s n x1 ((0 : Int32)) ((0 : Int32))
def f7_latest_40 (n : Nat) (m_s : (Nat → Int32)) (k4 : Int32 → Int32 → Int32 → Option (Int32)) (x1 : Int32) (x3 : Int32) (s0 : Int32) : Option (Int32) :=
  q_lt (x3 + (1 : Int32)) fun x3_41 =>
  k4 x1 s0 x3_41
def f7_latest_39 (n : Nat) (m_s : (Nat → Int32)) (k4 : Int32 → Int32 → Int32 → Option (Int32)) (x1 : Int32) (x2 : Int32) (x3 : Int32) : Option (Int32) :=
  f7_latest_40 n m_s k4 x1 x3 x2
def f7_latest_4 (n : Nat) (m_s : (Nat → Int32)) : Nat → Int32 → Int32 → Int32 → Option (Int32)
  | 0, _, _, _ => none
  | kk + 1, x1, x2, x3 =>
    q_ld m_s 3974 ((1 : Int32)) fun t10 =>
    if t10 ≤ x3 then (
      some x2
    ) else (
      q_c (f7_actIs1 x3 ((1 : Int32)) m_s) fun t17 =>
      if t17 = x1 then (
        q_c (f7_actIs1 x3 ((0 : Int32)) m_s) fun t27 =>
        if ((6 : Int32)) ≤ t27 then (
          f7_latest_39 n m_s (f7_latest_4 n m_s kk) x1 x2 x3
        ) else (
          f7_latest_40 n m_s (f7_latest_4 n m_s kk) x1 x3 x3
        )
      ) else (
        f7_latest_39 n m_s (f7_latest_4 n m_s kk) x1 x2 x3
      )
    )
def f7_latest (n : Nat) (x1 : Int32) (m_s : (Nat → Int32)) : Option (Int32) :=
  f7_latest_4 n m_s n x1 ((-1 : Int32)) ((0 : Int32))
def f7_lives_207 (n : Nat) (m_newMany : Int32) (m_s : (Nat → Int32)) (m_newWord : (Nat → Int32)) (m_newOrigin : (Nat → Int32)) (m_named : (Nat → Int32)) (m_pile : (Nat → Int32)) (m_undoneBy : (Nat → Int32)) : Option (Int32 × (Nat → Int32) × (Nat → Int32) × (Nat → Int32) × (Nat → Int32) × (Nat → Int32) × (Nat → Int32)) :=
  some (m_newMany, m_s, m_newWord, m_newOrigin, m_named, m_pile, m_undoneBy)
def f7_lives_194 (n : Nat) (x1 : Int32) (x3 : Int32) (m_newMany : Int32) (m_s : (Nat → Int32)) (m_newWord : (Nat → Int32)) (m_newOrigin : (Nat → Int32)) (m_named : (Nat → Int32)) (m_pile : (Nat → Int32)) (m_undoneBy : (Nat → Int32)) : Option (Int32 × (Nat → Int32) × (Nat → Int32) × (Nat → Int32) × (Nat → Int32) × (Nat → Int32) × (Nat → Int32)) :=
  if x3 = ((4 : Int32)) then (
    q_c8 (f7_goesBack n x1 ((0 : Int32)) m_newMany m_s m_newWord m_newOrigin m_named m_pile m_undoneBy) fun t202 m_newMany_202 m_s_202 m_newWord_202 m_newOrigin_202 m_named_202 m_pile_202 m_undoneBy_202 =>
    f7_lives_207 n m_newMany_202 m_s_202 m_newWord_202 m_newOrigin_202 m_named_202 m_pile_202 m_undoneBy_202
  ) else (
    f7_lives_207 n m_newMany m_s m_newWord m_newOrigin m_named m_pile m_undoneBy
  )
def f7_lives_164 (n : Nat) (x1 : Int32) (x3 : Int32) (m_newMany : Int32) (m_s : (Nat → Int32)) (m_newWord : (Nat → Int32)) (m_newOrigin : (Nat → Int32)) (m_named : (Nat → Int32)) (m_pile : (Nat → Int32)) (m_undoneBy : (Nat → Int32)) : Option (Int32 × (Nat → Int32) × (Nat → Int32) × (Nat → Int32) × (Nat → Int32) × (Nat → Int32) × (Nat → Int32)) :=
  if x3 = ((3 : Int32)) then (
    q_c (f7_latest n x1 m_s) fun t171 =>
    if t171 < 0 then (
      f7_lives_194 n x1 x3 m_newMany m_s m_newWord m_newOrigin m_named m_pile m_undoneBy
    ) else (
      q_c (f7_latest n x1 m_s) fun t181 =>
      q_c8 (f7_goesBack n x1 (t181 + ((1 : Int32))) m_newMany m_s m_newWord m_newOrigin m_named m_pile m_undoneBy) fun t186 m_newMany_186 m_s_186 m_newWord_186 m_newOrigin_186 m_named_186 m_pile_186 m_undoneBy_186 =>
      f7_lives_207 n m_newMany_186 m_s_186 m_newWord_186 m_newOrigin_186 m_named_186 m_pile_186 m_undoneBy_186
    )
  ) else (
    f7_lives_194 n x1 x3 m_newMany m_s m_newWord m_newOrigin m_named m_pile m_undoneBy
  )
def f7_lives_136 (n : Nat) (x1 : Int32) (x3 : Int32) (m_newMany : Int32) (m_s : (Nat → Int32)) (m_newWord : (Nat → Int32)) (m_newOrigin : (Nat → Int32)) (m_named : (Nat → Int32)) (m_pile : (Nat → Int32)) (m_undoneBy : (Nat → Int32)) : Option (Int32 × (Nat → Int32) × (Nat → Int32) × (Nat → Int32) × (Nat → Int32) × (Nat → Int32) × (Nat → Int32)) :=
  if x3 = ((2 : Int32)) then (
    q_c (f7_page m_s) fun t142 =>
    if t142 ≤ 0 then (
      f7_lives_164 n x1 x3 m_newMany m_s m_newWord m_newOrigin m_named m_pile m_undoneBy
    ) else (
      q_c (f7_page m_s) fun t151 =>
      q_c8 (f7_cuts n x1 (t151 - ((1 : Int32))) m_newMany m_s m_newWord m_newOrigin m_named m_pile m_undoneBy) fun t156 m_newMany_156 m_s_156 m_newWord_156 m_newOrigin_156 m_named_156 m_pile_156 m_undoneBy_156 =>
      f7_lives_207 n m_newMany_156 m_s_156 m_newWord_156 m_newOrigin_156 m_named_156 m_pile_156 m_undoneBy_156
    )
  ) else (
    f7_lives_164 n x1 x3 m_newMany m_s m_newWord m_newOrigin m_named m_pile m_undoneBy
  )
def f7_lives_100 (n : Nat) (m_newMany : Int32) (m_s : (Nat → Int32)) (m_newWord : (Nat → Int32)) (m_newOrigin : (Nat → Int32)) (m_named : (Nat → Int32)) (m_pile : (Nat → Int32)) (m_undoneBy : (Nat → Int32)) : Option (Int32 × (Nat → Int32) × (Nat → Int32) × (Nat → Int32) × (Nat → Int32) × (Nat → Int32) × (Nat → Int32)) :=
  some (m_newMany, m_s, m_newWord, m_newOrigin, m_named, m_pile, m_undoneBy)
def f7_lives (n : Nat) (x1 : Int32) (m_newMany : Int32) (m_s : (Nat → Int32)) (m_newWord : (Nat → Int32)) (m_newOrigin : (Nat → Int32)) (m_named : (Nat → Int32)) (m_pile : (Nat → Int32)) (m_undoneBy : (Nat → Int32)) : Option (Int32 × (Nat → Int32) × (Nat → Int32) × (Nat → Int32) × (Nat → Int32) × (Nat → Int32) × (Nat → Int32)) :=
  q_c2 (f7_draw m_s) fun t1 m_s_1 =>
  q_dv ((100 : Int32)) <|
  q_lt (t1 - t1 / ((100 : Int32)) * ((100 : Int32))) fun x2_7 =>
  q_c (f7_page m_s_1) fun t15 =>
  q_st m_named 128 ((108 : Int32)) t15 fun m_named_18 =>
  q_ld m_s_1 3974 ((0 : Int32)) fun t30 =>
  q_dv ((1440 : Int32)) <|
  q_st m_named_18 128 ((109 : Int32)) (t30 - t30 / ((1440 : Int32)) * ((1440 : Int32))) fun m_named_35 =>
  q_c (f7_backsOf n x1 m_s_1) fun t44 =>
  q_st m_named_35 128 ((98 : Int32)) t44 fun m_named_47 =>
  q_c (f7_wordsOf n x1 m_s_1) fun t56 =>
  q_st m_named_47 128 ((111 : Int32)) t56 fun m_named_59 =>
  q_st m_named_59 128 ((114 : Int32)) x2_7 fun m_named_67 =>
  q_c2 (f7_worked n (((2 : Int32)) + x1) m_s_1 m_named_67 m_pile) fun t72 m_pile_72 =>
  q_c (f7_in t72 ((1 : Int32)) ((4 : Int32))) fun t79 =>
  if t79 = 0 then (
    f7_lives_100 n m_newMany m_s_1 m_newWord m_newOrigin m_named_67 m_pile_72 m_undoneBy
  ) else (
    q_c (f7_isFull m_s_1) fun t86 =>
    if t86 = 0 then (
      q_c3 (f7_mayAct n x1 m_s_1 m_named_67 m_pile_72) fun t94 m_named_94 m_pile_94 =>
      if t94 = 0 then (
        f7_lives_100 n m_newMany m_s_1 m_newWord m_newOrigin m_named_94 m_pile_94 m_undoneBy
      ) else (
        if t72 = ((1 : Int32)) then (
          q_c (f7_page m_s_1) fun t110 =>
          if ((20 : Int32)) ≤ t110 then (
            f7_lives_136 n x1 t72 m_newMany m_s_1 m_newWord m_newOrigin m_named_94 m_pile_94 m_undoneBy
          ) else (
            q_c (f7_page m_s_1) fun t122 =>
            q_c8 (f7_writes n ((1 : Int32)) x1 t122 (x1 + ((1 : Int32))) m_newMany m_s_1 m_newWord m_newOrigin m_named_94 m_pile_94 m_undoneBy) fun t128 m_newMany_128 m_s_128 m_newWord_128 m_newOrigin_128 m_named_128 m_pile_128 m_undoneBy_128 =>
            f7_lives_207 n m_newMany_128 m_s_128 m_newWord_128 m_newOrigin_128 m_named_128 m_pile_128 m_undoneBy_128
          )
        ) else (
          f7_lives_136 n x1 t72 m_newMany m_s_1 m_newWord m_newOrigin m_named_94 m_pile_94 m_undoneBy
        )
      )
    ) else (
      f7_lives_100 n m_newMany m_s_1 m_newWord m_newOrigin m_named_67 m_pile_72 m_undoneBy
    )
  )
def f7_live_66 (n : Nat) (k38 : Int32 → Int32 → Int32 → (Nat → Int32) → (Nat → Int32) → (Nat → Int32) → (Nat → Int32) → (Nat → Int32) → (Nat → Int32) → (Nat → Int32) → Option (Int32 × Int32 × (Nat → Int32) × (Nat → Int32) × (Nat → Int32) × (Nat → Int32) × (Nat → Int32) × (Nat → Int32) × (Nat → Int32))) (k45 : Int32 → Int32 → Int32 → Int32 → (Nat → Int32) → (Nat → Int32) → (Nat → Int32) → (Nat → Int32) → (Nat → Int32) → (Nat → Int32) → (Nat → Int32) → Option (Int32 × Int32 × (Nat → Int32) × (Nat → Int32) × (Nat → Int32) × (Nat → Int32) × (Nat → Int32) × (Nat → Int32) × (Nat → Int32))) (x1 : Int32) (x2 : Int32) (x3 : Int32) (m_newMany : Int32) (m_s : (Nat → Int32)) (m_errors : (Nat → Int32)) (m_newWord : (Nat → Int32)) (m_newOrigin : (Nat → Int32)) (m_named : (Nat → Int32)) (m_pile : (Nat → Int32)) (m_undoneBy : (Nat → Int32)) : Option (Int32 × Int32 × (Nat → Int32) × (Nat → Int32) × (Nat → Int32) × (Nat → Int32) × (Nat → Int32) × (Nat → Int32) × (Nat → Int32)) :=
  q_lt (x3 + (1 : Int32)) fun x3_66 =>
  k45 x1 x2 x3_66 m_newMany m_s m_errors m_newWord m_newOrigin m_named m_pile m_undoneBy
def f7_live_45 (n : Nat) (k38 : Int32 → Int32 → Int32 → (Nat → Int32) → (Nat → Int32) → (Nat → Int32) → (Nat → Int32) → (Nat → Int32) → (Nat → Int32) → (Nat → Int32) → Option (Int32 × Int32 × (Nat → Int32) × (Nat → Int32) × (Nat → Int32) × (Nat → Int32) × (Nat → Int32) × (Nat → Int32) × (Nat → Int32))) : Nat → Int32 → Int32 → Int32 → Int32 → (Nat → Int32) → (Nat → Int32) → (Nat → Int32) → (Nat → Int32) → (Nat → Int32) → (Nat → Int32) → (Nat → Int32) → Option (Int32 × Int32 × (Nat → Int32) × (Nat → Int32) × (Nat → Int32) × (Nat → Int32) × (Nat → Int32) × (Nat → Int32) × (Nat → Int32))
  | 0, _, _, _, _, _, _, _, _, _, _, _ => none
  | kk + 1, x1, x2, x3, m_newMany, m_s, m_errors, m_newWord, m_newOrigin, m_named, m_pile, m_undoneBy =>
    if ((6 : Int32)) ≤ x3 then (
      q_ld m_s 3974 ((0 : Int32)) fun t78 =>
      q_st m_s 3974 ((0 : Int32)) (t78 + ((1 : Int32))) fun m_s_81 =>
      q_lt (x2 + (1 : Int32)) fun x2_82 =>
      k38 x1 x2_82 m_newMany m_s_81 m_errors m_newWord m_newOrigin m_named m_pile m_undoneBy
    ) else (
      q_c (f7_hasText (((2 : Int32)) + x3) m_s) fun t55 =>
      if t55 = 0 then (
        f7_live_66 n k38 (f7_live_45 n k38 kk) x1 x2 x3 m_newMany m_s m_errors m_newWord m_newOrigin m_named m_pile m_undoneBy
      ) else (
        q_c7 (f7_lives n x3 m_newMany m_s m_newWord m_newOrigin m_named m_pile m_undoneBy) fun m_newMany_63 m_s_63 m_newWord_63 m_newOrigin_63 m_named_63 m_pile_63 m_undoneBy_63 =>
        f7_live_66 n k38 (f7_live_45 n k38 kk) x1 x2 x3 m_newMany_63 m_s_63 m_errors m_newWord_63 m_newOrigin_63 m_named_63 m_pile_63 m_undoneBy_63
      )
    )
def f7_live_38 (n : Nat) : Nat → Int32 → Int32 → Int32 → (Nat → Int32) → (Nat → Int32) → (Nat → Int32) → (Nat → Int32) → (Nat → Int32) → (Nat → Int32) → (Nat → Int32) → Option (Int32 × Int32 × (Nat → Int32) × (Nat → Int32) × (Nat → Int32) × (Nat → Int32) × (Nat → Int32) × (Nat → Int32) × (Nat → Int32))
  | 0, _, _, _, _, _, _, _, _, _, _ => none
  | kk + 1, x1, x2, m_newMany, m_s, m_errors, m_newWord, m_newOrigin, m_named, m_pile, m_undoneBy =>
    if x1 ≤ x2 then (
      q_ld m_s 3974 ((0 : Int32)) fun t93 =>
      some (t93, m_newMany, m_s, m_errors, m_newWord, m_newOrigin, m_named, m_pile, m_undoneBy)
    ) else (
      f7_live_45 n (f7_live_38 n kk) n x1 x2 ((0 : Int32)) m_newMany m_s m_errors m_newWord m_newOrigin m_named m_pile m_undoneBy
    )
def f7_live (n : Nat) (x1 : Int32) (m_newMany : Int32) (m_s : (Nat → Int32)) (m_errors : (Nat → Int32)) (m_newWord : (Nat → Int32)) (m_newOrigin : (Nat → Int32)) (m_named : (Nat → Int32)) (m_pile : (Nat → Int32)) (m_undoneBy : (Nat → Int32)) : Option (Int32 × Int32 × (Nat → Int32) × (Nat → Int32) × (Nat → Int32) × (Nat → Int32) × (Nat → Int32) × (Nat → Int32) × (Nat → Int32)) :=
  q_c (f7_in x1 ((1 : Int32)) ((60 : Int32))) fun t4 =>
  if t4 = 0 then (
    q_c2 (f7_error ((1 : Int32)) m_errors) fun t12 m_errors_12 =>
    some (t12, m_newMany, m_s, m_errors_12, m_newWord, m_newOrigin, m_named, m_pile, m_undoneBy)
  ) else (
    q_ld m_s 3974 ((0 : Int32)) fun t21 =>
    if (t21 + x1) ≤ ((29999 : Int32)) then (
      f7_live_38 n n x1 ((0 : Int32)) m_newMany m_s m_errors m_newWord m_newOrigin m_named m_pile m_undoneBy
    ) else (
      q_c2 (f7_error ((3 : Int32)) m_errors) fun t32 m_errors_32 =>
      some (t32, m_newMany, m_s, m_errors_32, m_newWord, m_newOrigin, m_named, m_pile, m_undoneBy)
    )
  )
def f7_seed (x1 : Int32) (m_s : (Nat → Int32)) : Option (Int32 × (Nat → Int32)) :=
  q_ld m_s 3974 ((6 : Int32)) fun t6 =>
  q_st m_s 3974 ((6 : Int32)) x1 fun m_s_15 =>
  some (t6, m_s_15)
def f7_alike_38 (n : Nat) (m_s : (Nat → Int32)) (s0 : Int32) (m_errors : (Nat → Int32)) : Option (Int32 × (Nat → Int32)) :=
  some (s0, m_errors)
def f7_alike_16 (n : Nat) (m_s : (Nat → Int32)) (m_errors : (Nat → Int32)) : Option (Int32 × (Nat → Int32)) :=
  q_c2 (f7_error ((1 : Int32)) m_errors) fun t18 m_errors_18 =>
  f7_alike_38 n m_s t18 m_errors_18
def f7_alike (n : Nat) (x1 : Int32) (x2 : Int32) (m_s : (Nat → Int32)) (m_errors : (Nat → Int32)) : Option (Int32 × (Nat → Int32)) :=
  q_c (f7_isVersion x1 m_s) fun t2 =>
  if t2 = 0 then (
    f7_alike_16 n m_s m_errors
  ) else (
    q_c (f7_isVersion x2 m_s) fun t10 =>
    if t10 = 0 then (
      f7_alike_16 n m_s m_errors
    ) else (
      q_c (f7_areAlike n x1 x2 m_s) fun t27 =>
      if t27 = 0 then (
        f7_alike_38 n m_s ((0 : Int32)) m_errors
      ) else (
        f7_alike_38 n m_s ((1 : Int32)) m_errors
      )
    )
  )
def f7_likenessOf_181 (n : Nat) (m_s : (Nat → Int32)) (s0 : Int32) (s1 : Int32) (m_common : (Nat → Int32)) : Option (Int32 × (Nat → Int32)) :=
  q_dv s1 <|
  some (s0 / s1, m_common)
def f7_likenessOf_142 (n : Nat) (m_s : (Nat → Int32)) (k50 : Int32 → Int32 → Int32 → Int32 → Int32 → (Nat → Int32) → Option (Int32 × (Nat → Int32))) (k62 : Int32 → Int32 → Int32 → Int32 → Int32 → Int32 → Int32 → (Nat → Int32) → Option (Int32 × (Nat → Int32))) (x1 : Int32) (x2 : Int32) (x3 : Int32) (x4 : Int32) (x5 : Int32) (x7 : Int32) (x8 : Int32) (s1 : Int32) (s2 : Int32) (m_common : (Nat → Int32)) : Option (Int32 × (Nat → Int32)) :=
  q_st m_common 21 s1 s2 fun m_common_142 =>
  q_lt (x7 + (1 : Int32)) fun x7_147 =>
  k62 x1 x2 x3 x4 x5 x8 x7_147 m_common_142
def f7_likenessOf_106 (n : Nat) (m_s : (Nat → Int32)) (k50 : Int32 → Int32 → Int32 → Int32 → Int32 → (Nat → Int32) → Option (Int32 × (Nat → Int32))) (k62 : Int32 → Int32 → Int32 → Int32 → Int32 → Int32 → Int32 → (Nat → Int32) → Option (Int32 × (Nat → Int32))) (x1 : Int32) (x2 : Int32) (x3 : Int32) (x4 : Int32) (x5 : Int32) (x6 : Int32) (x7 : Int32) (x8 : Int32) (s0 : Int32) (m_common : (Nat → Int32)) : Option (Int32 × (Nat → Int32)) :=
  q_c (f7_wordAt x1 x5 m_s) fun t118 =>
  q_c (f7_wordAt x2 (x7 - ((1 : Int32))) m_s) fun t127 =>
  if t118 = t127 then (
    f7_likenessOf_142 n m_s k50 k62 x1 x2 x3 x4 x5 x7 x8 x7 (x6 + ((1 : Int32))) m_common
  ) else (
    f7_likenessOf_142 n m_s k50 k62 x1 x2 x3 x4 x5 x7 x8 x7 s0 m_common
  )
def f7_likenessOf_62 (n : Nat) (m_s : (Nat → Int32)) (k50 : Int32 → Int32 → Int32 → Int32 → Int32 → (Nat → Int32) → Option (Int32 × (Nat → Int32))) : Nat → Int32 → Int32 → Int32 → Int32 → Int32 → Int32 → Int32 → (Nat → Int32) → Option (Int32 × (Nat → Int32))
  | 0, _, _, _, _, _, _, _, _ => none
  | kk + 1, x1, x2, x3, x4, x5, x6, x7, m_common =>
    if x4 < x7 then (
      q_lt (x5 + (1 : Int32)) fun x5_153 =>
      k50 x1 x2 x3 x4 x5_153 m_common
    ) else (
      q_ld m_common 21 x7 fun t75 =>
      q_ld m_common 21 (x7 - ((1 : Int32))) fun t86 =>
      if t86 ≤ t75 then (
        f7_likenessOf_106 n m_s k50 (f7_likenessOf_62 n m_s k50 kk) x1 x2 x3 x4 x5 x6 x7 t75 t75 m_common
      ) else (
        q_ld m_common 21 (x7 - ((1 : Int32))) fun t100 =>
        f7_likenessOf_106 n m_s k50 (f7_likenessOf_62 n m_s k50 kk) x1 x2 x3 x4 x5 x6 x7 t75 t100 m_common
      )
    )
def f7_likenessOf_50 (n : Nat) (m_s : (Nat → Int32)) : Nat → Int32 → Int32 → Int32 → Int32 → Int32 → (Nat → Int32) → Option (Int32 × (Nat → Int32))
  | 0, _, _, _, _, _, _ => none
  | kk + 1, x1, x2, x3, x4, x5, m_common =>
    if x3 ≤ x5 then (
      q_ld m_common 21 x4 fun t167 =>
      if x3 ≤ x4 then (
        f7_likenessOf_181 n m_s (((100 : Int32)) * t167) x4 m_common
      ) else (
        f7_likenessOf_181 n m_s (((100 : Int32)) * t167) x3 m_common
      )
    ) else (
      f7_likenessOf_62 n m_s (f7_likenessOf_50 n m_s kk) n x1 x2 x3 x4 x5 ((0 : Int32)) ((1 : Int32)) m_common
    )
def f7_likenessOf_26 (n : Nat) (m_s : (Nat → Int32)) : Nat → Int32 → Int32 → Int32 → Int32 → Int32 → (Nat → Int32) → Option (Int32 × (Nat → Int32))
  | 0, _, _, _, _, _, _ => none
  | kk + 1, x1, x2, x3, x4, x5, m_common =>
    if x4 < x5 then (
      f7_likenessOf_50 n m_s n x1 x2 x3 x4 ((0 : Int32)) m_common
    ) else (
      q_st m_common 21 x5 ((0 : Int32)) fun m_common_40 =>
      q_lt (x5 + (1 : Int32)) fun x5_41 =>
      f7_likenessOf_26 n m_s kk x1 x2 x3 x4 x5_41 m_common_40
    )
def f7_likenessOf (n : Nat) (x1 : Int32) (x2 : Int32) (m_s : (Nat → Int32)) (m_common : (Nat → Int32)) : Option (Int32 × (Nat → Int32)) :=
  q_c (f7_sizeOf x1 m_s) fun t2 =>
  q_c (f7_sizeOf x2 m_s) fun t8 =>
  if (t2 + t8) = 0 then (
    some ((100 : Int32), m_common)
  ) else (
    f7_likenessOf_26 n m_s n x1 x2 t2 t8 ((0 : Int32)) m_common
  )
def f7_likeness_30 (n : Nat) (m_s : (Nat → Int32)) (s0 : Int32) (m_errors : (Nat → Int32)) (m_common : (Nat → Int32)) : Option (Int32 × (Nat → Int32) × (Nat → Int32)) :=
  some (s0, m_errors, m_common)
def f7_likeness_25 (n : Nat) (m_s : (Nat → Int32)) (m_errors : (Nat → Int32)) (m_common : (Nat → Int32)) : Option (Int32 × (Nat → Int32) × (Nat → Int32)) :=
  q_c2 (f7_error ((1 : Int32)) m_errors) fun t27 m_errors_27 =>
  f7_likeness_30 n m_s t27 m_errors_27 m_common
def f7_likeness (n : Nat) (x1 : Int32) (x2 : Int32) (m_s : (Nat → Int32)) (m_errors : (Nat → Int32)) (m_common : (Nat → Int32)) : Option (Int32 × (Nat → Int32) × (Nat → Int32)) :=
  q_c (f7_isVersion x1 m_s) fun t2 =>
  if t2 = 0 then (
    f7_likeness_25 n m_s m_errors m_common
  ) else (
    q_c (f7_isVersion x2 m_s) fun t10 =>
    if t10 = 0 then (
      f7_likeness_25 n m_s m_errors m_common
    ) else (
      q_c2 (f7_likenessOf n x1 x2 m_s m_common) fun t19 m_common_19 =>
      f7_likeness_30 n m_s t19 m_errors m_common_19
    )
  )
def f7_from_56 (n : Nat) (m_s : (Nat → Int32)) (k29 : Int32 → Int32 → Int32 → (Nat → Int32) → (Nat → Int32) → Option (Int32 × (Nat → Int32) × (Nat → Int32))) (x1 : Int32) (x3 : Int32) (s0 : Int32) (m_errors : (Nat → Int32)) (m_common : (Nat → Int32)) : Option (Int32 × (Nat → Int32) × (Nat → Int32)) :=
  q_lt (x3 + (1 : Int32)) fun x3_57 =>
  k29 x1 s0 x3_57 m_errors m_common
def f7_from_29 (n : Nat) (m_s : (Nat → Int32)) : Nat → Int32 → Int32 → Int32 → (Nat → Int32) → (Nat → Int32) → Option (Int32 × (Nat → Int32) × (Nat → Int32))
  | 0, _, _, _, _, _ => none
  | kk + 1, x1, x2, x3, m_errors, m_common =>
    if (x1 - ((1 : Int32))) ≤ x3 then (
      some (x2, m_errors, m_common)
    ) else (
      q_c2 (f7_likenessOf n x1 x3 m_s m_common) fun t39 m_common_39 =>
      q_c2 (f7_likenessOf n x1 x2 m_s m_common_39) fun t45 m_common_45 =>
      if t39 < t45 then (
        f7_from_56 n m_s (f7_from_29 n m_s kk) x1 x3 x2 m_errors m_common_45
      ) else (
        f7_from_56 n m_s (f7_from_29 n m_s kk) x1 x3 x3 m_errors m_common_45
      )
    )
def f7_from (n : Nat) (x1 : Int32) (m_s : (Nat → Int32)) (m_errors : (Nat → Int32)) (m_common : (Nat → Int32)) : Option (Int32 × (Nat → Int32) × (Nat → Int32)) :=
  q_c (f7_isVersion x1 m_s) fun t2 =>
  if t2 = 0 then (
    q_c2 (f7_error ((1 : Int32)) m_errors) fun t10 m_errors_10 =>
    some (t10, m_errors_10, m_common)
  ) else (
    if ((2 : Int32)) ≤ x1 then (
      f7_from_29 n m_s n x1 ((0 : Int32)) ((1 : Int32)) m_errors m_common
    ) else (
      q_c2 (f7_error ((2 : Int32)) m_errors) fun t21 m_errors_21 =>
      some (t21, m_errors_21, m_common)
    )
  )
def f7_warOf_114 (n : Nat) (m_s : (Nat → Int32)) (m_undoneBy : (Nat → Int32)) (s0 : Int32) : Option (Int32) :=
  some s0
def f7_warOf_62 (n : Nat) (m_s : (Nat → Int32)) (m_undoneBy : (Nat → Int32)) (k14 : Int32 → Int32 → Int32 → Int32 → Int32 → Int32 → Option (Int32)) (x2 : Int32) (x3 : Int32) (x5 : Int32) (x7 : Int32) (s0 : Int32) (s1 : Int32) : Option (Int32) :=
  q_lt (s0 ||| s1) fun x6_63 =>
  q_lt (x3 + (1 : Int32)) fun x3_69 =>
  q_ld m_undoneBy 60 x7 fun t78 =>
  k14 x2 x3_69 x7 x5 x6_63 t78
def f7_warOf_44 (n : Nat) (m_s : (Nat → Int32)) (m_undoneBy : (Nat → Int32)) (k14 : Int32 → Int32 → Int32 → Int32 → Int32 → Int32 → Option (Int32)) (x2 : Int32) (x3 : Int32) (x6 : Int32) (x7 : Int32) (x8 : Int32) (s0 : Int32) (s1 : Int32) : Option (Int32) :=
  q_lt (s0 ||| s1) fun x5_45 =>
  q_dv ((2 : Int32)) <|
  if (x3 - x3 / ((2 : Int32)) * ((2 : Int32))) = ((1 : Int32)) then (
    f7_warOf_62 n m_s m_undoneBy k14 x2 x3 x5_45 x7 x6 x8
  ) else (
    f7_warOf_62 n m_s m_undoneBy k14 x2 x3 x5_45 x7 x6 ((0 : Int32))
  )
def f7_warOf_14 (n : Nat) (m_s : (Nat → Int32)) (m_undoneBy : (Nat → Int32)) : Nat → Int32 → Int32 → Int32 → Int32 → Int32 → Int32 → Option (Int32)
  | 0, _, _, _, _, _, _ => none
  | kk + 1, x2, x3, x4, x5, x6, x7 =>
    if x7 < 0 then (
      if x2 = 0 then (
        f7_warOf_114 n m_s m_undoneBy x3
      ) else (
        if x2 = ((1 : Int32)) then (
          f7_warOf_114 n m_s m_undoneBy x4
        ) else (
          if x2 = ((2 : Int32)) then (
            f7_warOf_114 n m_s m_undoneBy x5
          ) else (
            f7_warOf_114 n m_s m_undoneBy x6
          )
        )
      )
    ) else (
      q_c (f7_actIs1 x7 ((1 : Int32)) m_s) fun t24 =>
      q_lt (((1 : Int32)) <<< (t24 &&& 31)) fun x8_28 =>
      q_dv ((2 : Int32)) <|
      if (x3 - x3 / ((2 : Int32)) * ((2 : Int32))) = 0 then (
        f7_warOf_44 n m_s m_undoneBy (f7_warOf_14 n m_s m_undoneBy kk) x2 x3 x6 x7 x8_28 x5 x8_28
      ) else (
        f7_warOf_44 n m_s m_undoneBy (f7_warOf_14 n m_s m_undoneBy kk) x2 x3 x6 x7 x8_28 x5 ((0 : Int32))
      )
    )
def f7_warOf (n : Nat) (x1 : Int32) (x2 : Int32) (m_s : (Nat → Int32)) (m_undoneBy : (Nat → Int32)) : Option (Int32) :=
  f7_warOf_14 n m_s m_undoneBy n x2 ((0 : Int32)) x1 ((0 : Int32)) ((0 : Int32)) x1
def f7_war_17 (n : Nat) (m_s : (Nat → Int32)) (m_errors : (Nat → Int32)) (m_undoneBy : (Nat → Int32)) : Option (Int32 × (Nat → Int32) × (Nat → Int32)) :=
  q_c2 (f7_error ((1 : Int32)) m_errors) fun t19 m_errors_19 =>
  some (t19, m_errors_19, m_undoneBy)
def f7_war (n : Nat) (x1 : Int32) (x2 : Int32) (m_s : (Nat → Int32)) (m_errors : (Nat → Int32)) (m_undoneBy : (Nat → Int32)) : Option (Int32 × (Nat → Int32) × (Nat → Int32)) :=
  q_c (f7_isAct x1 m_s) fun t2 =>
  if t2 = 0 then (
    f7_war_17 n m_s m_errors m_undoneBy
  ) else (
    q_c (f7_in x2 ((0 : Int32)) ((3 : Int32))) fun t11 =>
    if t11 = 0 then (
      f7_war_17 n m_s m_errors m_undoneBy
    ) else (
      q_c1 (f7_findUndone n m_s m_undoneBy) fun m_undoneBy_24 =>
      q_c (f7_warOf n x1 x2 m_s m_undoneBy_24) fun t30 =>
      some (t30, m_errors, m_undoneBy_24)
    )
  )
def f7_longest_53 (n : Nat) (m_s : (Nat → Int32)) (k23 : Int32 → Int32 → (Nat → Int32) → (Nat → Int32) → Option (Int32 × (Nat → Int32) × (Nat → Int32))) (x2 : Int32) (s0 : Int32) (m_errors : (Nat → Int32)) (m_undoneBy : (Nat → Int32)) : Option (Int32 × (Nat → Int32) × (Nat → Int32)) :=
  q_lt (x2 + (1 : Int32)) fun x2_54 =>
  k23 s0 x2_54 m_errors m_undoneBy
def f7_longest_23 (n : Nat) (m_s : (Nat → Int32)) : Nat → Int32 → Int32 → (Nat → Int32) → (Nat → Int32) → Option (Int32 × (Nat → Int32) × (Nat → Int32))
  | 0, _, _, _, _ => none
  | kk + 1, x1, x2, m_errors, m_undoneBy =>
    q_ld m_s 3974 ((1 : Int32)) fun t29 =>
    if t29 ≤ x2 then (
      some (x1, m_errors, m_undoneBy)
    ) else (
      q_c (f7_warOf n x2 ((0 : Int32)) m_s m_undoneBy) fun t36 =>
      q_c (f7_warOf n x1 ((0 : Int32)) m_s m_undoneBy) fun t42 =>
      if t36 ≤ t42 then (
        f7_longest_53 n m_s (f7_longest_23 n m_s kk) x2 x1 m_errors m_undoneBy
      ) else (
        f7_longest_53 n m_s (f7_longest_23 n m_s kk) x2 x2 m_errors m_undoneBy
      )
    )
def f7_longest (n : Nat) (m_s : (Nat → Int32)) (m_errors : (Nat → Int32)) (m_undoneBy : (Nat → Int32)) : Option (Int32 × (Nat → Int32) × (Nat → Int32)) :=
  q_ld m_s 3974 ((1 : Int32)) fun t5 =>
  if t5 = 0 then (
    q_c2 (f7_error ((2 : Int32)) m_errors) fun t11 m_errors_11 =>
    some (t11, m_errors_11, m_undoneBy)
  ) else (
    q_c1 (f7_findUndone n m_s m_undoneBy) fun m_undoneBy_16 =>
    f7_longest_23 n m_s n ((0 : Int32)) ((1 : Int32)) m_errors m_undoneBy_16
  )
def f7_minutesOf_42 (m_s : (Nat → Int32)) (x2 : Int32) (s0 : Int32) : Option (Int32) :=
  some (s0 - x2)
def f7_minutesOf_16 (m_s : (Nat → Int32)) (x1 : Int32) (s0 : Int32) : Option (Int32) :=
  q_ld m_s 3974 ((1 : Int32)) fun t23 =>
  if x1 = t23 then (
    q_ld m_s 3974 ((0 : Int32)) fun t32 =>
    f7_minutesOf_42 m_s s0 t32
  ) else (
    q_c (f7_actIs1 x1 ((2 : Int32)) m_s) fun t39 =>
    f7_minutesOf_42 m_s s0 t39
  )
def f7_minutesOf (x1 : Int32) (m_s : (Nat → Int32)) : Option (Int32) :=
  if x1 = 0 then (
    f7_minutesOf_16 m_s x1 ((0 : Int32))
  ) else (
    q_c (f7_actIs1 (x1 - ((1 : Int32))) ((2 : Int32)) m_s) fun t13 =>
    f7_minutesOf_16 m_s x1 t13
  )
def f7_staysOf_50 (n : Nat) (m_s : (Nat → Int32)) (k6 : Int32 → Int32 → Int32 → Option (Int32)) (k19 : Int32 → Int32 → Int32 → Int32 → Option (Int32)) (x1 : Int32) (x3 : Int32) (x4 : Int32) (s0 : Int32) (s1 : Int32) : Option (Int32) :=
  q_lt (s0 + s1) fun x2_51 =>
  q_lt (x4 + (1 : Int32)) fun x4_52 =>
  k19 x1 x2_51 x3 x4_52
def f7_staysOf_19 (n : Nat) (m_s : (Nat → Int32)) (k6 : Int32 → Int32 → Int32 → Option (Int32)) : Nat → Int32 → Int32 → Int32 → Int32 → Option (Int32)
  | 0, _, _, _, _ => none
  | kk + 1, x1, x2, x3, x4 =>
    q_c (f7_sizeOf x3 m_s) fun t23 =>
    if t23 ≤ x4 then (
      q_lt (x3 + (1 : Int32)) fun x3_58 =>
      k6 x1 x2 x3_58
    ) else (
      q_c (f7_originAt x3 x4 m_s) fun t34 =>
      if t34 = x1 then (
        q_c (f7_minutesOf x3 m_s) fun t43 =>
        f7_staysOf_50 n m_s k6 (f7_staysOf_19 n m_s k6 kk) x1 x3 x4 x2 t43
      ) else (
        f7_staysOf_50 n m_s k6 (f7_staysOf_19 n m_s k6 kk) x1 x3 x4 x2 ((0 : Int32))
      )
    )
def f7_staysOf_6 (n : Nat) (m_s : (Nat → Int32)) : Nat → Int32 → Int32 → Int32 → Option (Int32)
  | 0, _, _, _ => none
  | kk + 1, x1, x2, x3 =>
    q_ld m_s 3974 ((1 : Int32)) fun t12 =>
    if t12 < x3 then (
      some x2
    ) else (
      f7_staysOf_19 n m_s (f7_staysOf_6 n m_s kk) n x1 x2 x3 ((0 : Int32))
    )
def f7_staysOf (n : Nat) (x1 : Int32) (m_s : (Nat → Int32)) : Option (Int32) :=
  q_lt (x1 + ((1 : Int32))) fun x3_5 =>
  f7_staysOf_6 n m_s n x1 ((0 : Int32)) x3_5
def f7_stays_21 (n : Nat) (m_s : (Nat → Int32)) (s0 : Int32) (m_errors : (Nat → Int32)) : Option (Int32 × (Nat → Int32)) :=
  some (s0, m_errors)
def f7_stays (n : Nat) (x1 : Int32) (m_s : (Nat → Int32)) (m_errors : (Nat → Int32)) : Option (Int32 × (Nat → Int32)) :=
  q_c (f7_isAct x1 m_s) fun t2 =>
  if t2 = 0 then (
    q_c2 (f7_error ((1 : Int32)) m_errors) fun t18 m_errors_18 =>
    f7_stays_21 n m_s t18 m_errors_18
  ) else (
    q_c (f7_staysOf n x1 m_s) fun t10 =>
    f7_stays_21 n m_s t10 m_errors
  )
def f7_offSince_69 (n : Nat) (m_s : (Nat → Int32)) (m_undoneBy : (Nat → Int32)) (k4 : Int32 → Int32 → Int32 → Option (Int32)) (k17 : Int32 → Int32 → Int32 → Int32 → Option (Int32)) (x1 : Int32) (x2 : Int32) (x3 : Int32) : Option (Int32) :=
  if x2 < ((3 : Int32)) then (
    q_lt (x3 + (1 : Int32)) fun x3_81 =>
    k4 x1 x2 x3_81
  ) else (
    q_c (f7_actIs1 x3 ((2 : Int32)) m_s) fun t77 =>
    some t77
  )
def f7_offSince_61 (n : Nat) (m_s : (Nat → Int32)) (m_undoneBy : (Nat → Int32)) (k4 : Int32 → Int32 → Int32 → Option (Int32)) (k17 : Int32 → Int32 → Int32 → Int32 → Option (Int32)) (x1 : Int32) (x3 : Int32) (x4 : Int32) (s0 : Int32) (s1 : Int32) : Option (Int32) :=
  q_lt (s0 + s1) fun x2_62 =>
  q_lt (x4 + (1 : Int32)) fun x4_63 =>
  k17 x1 x2_62 x3 x4_63
def f7_offSince_60 (n : Nat) (m_s : (Nat → Int32)) (m_undoneBy : (Nat → Int32)) (k4 : Int32 → Int32 → Int32 → Option (Int32)) (k17 : Int32 → Int32 → Int32 → Int32 → Option (Int32)) (x1 : Int32) (x3 : Int32) (x4 : Int32) (s0 : Int32) : Option (Int32) :=
  f7_offSince_61 n m_s m_undoneBy k4 k17 x1 x3 x4 s0 ((0 : Int32))
def f7_offSince_17 (n : Nat) (m_s : (Nat → Int32)) (m_undoneBy : (Nat → Int32)) (k4 : Int32 → Int32 → Int32 → Option (Int32)) : Nat → Int32 → Int32 → Int32 → Int32 → Option (Int32)
  | 0, _, _, _, _ => none
  | kk + 1, x1, x2, x3, x4 =>
    if x3 ≤ x4 then (
      f7_offSince_69 n m_s m_undoneBy k4 (f7_offSince_17 n m_s m_undoneBy k4 kk) x1 x2 x3
    ) else (
      q_c (f7_actIs1 x3 ((1 : Int32)) m_s) fun t26 =>
      if t26 = x1 then (
        f7_offSince_69 n m_s m_undoneBy k4 (f7_offSince_17 n m_s m_undoneBy k4 kk) x1 x2 x3
      ) else (
        q_ld m_undoneBy 60 x4 fun t40 =>
        if t40 = x3 then (
          q_c (f7_actIs1 x4 ((1 : Int32)) m_s) fun t49 =>
          if t49 = x1 then (
            f7_offSince_61 n m_s m_undoneBy k4 (f7_offSince_17 n m_s m_undoneBy k4 kk) x1 x3 x4 x2 ((1 : Int32))
          ) else (
            f7_offSince_60 n m_s m_undoneBy k4 (f7_offSince_17 n m_s m_undoneBy k4 kk) x1 x3 x4 x2
          )
        ) else (
          f7_offSince_60 n m_s m_undoneBy k4 (f7_offSince_17 n m_s m_undoneBy k4 kk) x1 x3 x4 x2
        )
      )
    )
def f7_offSince_4 (n : Nat) (m_s : (Nat → Int32)) (m_undoneBy : (Nat → Int32)) : Nat → Int32 → Int32 → Int32 → Option (Int32)
  | 0, _, _, _ => none
  | kk + 1, x1, x2, x3 =>
    q_ld m_s 3974 ((1 : Int32)) fun t10 =>
    if t10 ≤ x3 then (
      some ((-1 : Int32))
    ) else (
      f7_offSince_17 n m_s m_undoneBy (f7_offSince_4 n m_s m_undoneBy kk) n x1 x2 x3 ((0 : Int32))
    )
def f7_offSince (n : Nat) (x1 : Int32) (m_s : (Nat → Int32)) (m_undoneBy : (Nat → Int32)) : Option (Int32) :=
  f7_offSince_4 n m_s m_undoneBy n x1 ((0 : Int32)) ((0 : Int32))
def f7_writerIs_151 (n : Nat) (m_s : (Nat → Int32)) (k83 : Int32 → Int32 → Int32 → Int32 → (Nat → Int32) → (Nat → Int32) → Option (Int32 × (Nat → Int32) × (Nat → Int32))) (x1 : Int32) (x2 : Int32) (x4 : Int32) (s0 : Int32) (s1 : Int32) (m_errors : (Nat → Int32)) (m_undoneBy : (Nat → Int32)) : Option (Int32 × (Nat → Int32) × (Nat → Int32)) :=
  q_lt (s0 + s1) fun x3_152 =>
  q_lt (x4 + (1 : Int32)) fun x4_153 =>
  k83 x1 x2 x3_152 x4_153 m_errors m_undoneBy
def f7_writerIs_110 (n : Nat) (m_s : (Nat → Int32)) (k83 : Int32 → Int32 → Int32 → Int32 → (Nat → Int32) → (Nat → Int32) → Option (Int32 × (Nat → Int32) × (Nat → Int32))) (x1 : Int32) (x2 : Int32) (x3 : Int32) (x4 : Int32) (s0 : Int32) (m_errors : (Nat → Int32)) (m_undoneBy : (Nat → Int32)) : Option (Int32 × (Nat → Int32) × (Nat → Int32)) :=
  if s0 = 0 then (
    f7_writerIs_151 n m_s k83 x1 x2 x4 x3 ((0 : Int32)) m_errors m_undoneBy
  ) else (
    if x2 = ((1 : Int32)) then (
      q_c (f7_staysOf n x4 m_s) fun t130 =>
      f7_writerIs_151 n m_s k83 x1 x2 x4 x3 t130 m_errors m_undoneBy
    ) else (
      q_ld m_undoneBy 60 x4 fun t142 =>
      if t142 < 0 then (
        f7_writerIs_151 n m_s k83 x1 x2 x4 x3 ((0 : Int32)) m_errors m_undoneBy
      ) else (
        f7_writerIs_151 n m_s k83 x1 x2 x4 x3 ((1 : Int32)) m_errors m_undoneBy
      )
    )
  )
def f7_writerIs_83 (n : Nat) (m_s : (Nat → Int32)) : Nat → Int32 → Int32 → Int32 → Int32 → (Nat → Int32) → (Nat → Int32) → Option (Int32 × (Nat → Int32) × (Nat → Int32))
  | 0, _, _, _, _, _, _ => none
  | kk + 1, x1, x2, x3, x4, m_errors, m_undoneBy =>
    q_ld m_s 3974 ((1 : Int32)) fun t90 =>
    if t90 ≤ x4 then (
      some (x3, m_errors, m_undoneBy)
    ) else (
      q_c (f7_actIs1 x4 ((1 : Int32)) m_s) fun t98 =>
      if t98 = x1 then (
        f7_writerIs_110 n m_s (f7_writerIs_83 n m_s kk) x1 x2 x3 x4 ((1 : Int32)) m_errors m_undoneBy
      ) else (
        f7_writerIs_110 n m_s (f7_writerIs_83 n m_s kk) x1 x2 x3 x4 ((0 : Int32)) m_errors m_undoneBy
      )
    )
def f7_writerIs_77 (n : Nat) (m_s : (Nat → Int32)) (s0 : Int32) (m_errors : (Nat → Int32)) (m_undoneBy : (Nat → Int32)) : Option (Int32 × (Nat → Int32) × (Nat → Int32)) :=
  some (s0, m_errors, m_undoneBy)
def f7_writerIs_60 (n : Nat) (m_s : (Nat → Int32)) (x1 : Int32) (x2 : Int32) (m_errors : (Nat → Int32)) (m_undoneBy : (Nat → Int32)) : Option (Int32 × (Nat → Int32) × (Nat → Int32)) :=
  if x2 = 0 then (
    q_c (f7_wordsOf n x1 m_s) fun t66 =>
    f7_writerIs_77 n m_s t66 m_errors m_undoneBy
  ) else (
    q_c (f7_backsOf n x1 m_s) fun t74 =>
    f7_writerIs_77 n m_s t74 m_errors m_undoneBy
  )
def f7_writerIs_50 (n : Nat) (m_s : (Nat → Int32)) (s0 : Int32) (m_errors : (Nat → Int32)) (m_undoneBy : (Nat → Int32)) : Option (Int32 × (Nat → Int32) × (Nat → Int32)) :=
  some (s0, m_errors, m_undoneBy)
def f7_writerIs_16 (n : Nat) (m_s : (Nat → Int32)) (m_errors : (Nat → Int32)) (m_undoneBy : (Nat → Int32)) : Option (Int32 × (Nat → Int32) × (Nat → Int32)) :=
  q_c2 (f7_error ((1 : Int32)) m_errors) fun t18 m_errors_18 =>
  some (t18, m_errors_18, m_undoneBy)
def f7_writerIs (n : Nat) (x1 : Int32) (x2 : Int32) (m_s : (Nat → Int32)) (m_errors : (Nat → Int32)) (m_undoneBy : (Nat → Int32)) : Option (Int32 × (Nat → Int32) × (Nat → Int32)) :=
  q_c (f7_isWriter x1) fun t1 =>
  if t1 = 0 then (
    f7_writerIs_16 n m_s m_errors m_undoneBy
  ) else (
    q_c (f7_in x2 ((0 : Int32)) ((4 : Int32))) fun t10 =>
    if t10 = 0 then (
      f7_writerIs_16 n m_s m_errors m_undoneBy
    ) else (
      q_c1 (f7_findUndone n m_s m_undoneBy) fun m_undoneBy_23 =>
      if x2 = ((4 : Int32)) then (
        q_c (f7_offSince n x1 m_s m_undoneBy_23) fun t33 =>
        if 0 ≤ t33 then (
          f7_writerIs_50 n m_s t33 m_errors m_undoneBy_23
        ) else (
          q_c2 (f7_error ((2 : Int32)) m_errors) fun t43 m_errors_43 =>
          f7_writerIs_50 n m_s t43 m_errors_43 m_undoneBy_23
        )
      ) else (
        if x2 = 0 then (
          f7_writerIs_60 n m_s x1 x2 m_errors m_undoneBy_23
        ) else (
          if x2 = ((3 : Int32)) then (
            f7_writerIs_60 n m_s x1 x2 m_errors m_undoneBy_23
          ) else (
            f7_writerIs_83 n m_s n x1 x2 ((0 : Int32)) ((0 : Int32)) m_errors m_undoneBy_23
          )
        )
      )
    )
  )
def f7_readAt_28 (n : Nat) (m_s : (Nat → Int32)) (x2 : Int32) : Option (Int32) :=
  some x2
def f7_readAt_2 (n : Nat) (m_s : (Nat → Int32)) : Nat → Int32 → Int32 → Option (Int32)
  | 0, _, _ => none
  | kk + 1, x1, x2 =>
    q_ld m_s 3974 ((1 : Int32)) fun t8 =>
    if t8 ≤ x2 then (
      f7_readAt_28 n m_s x2
    ) else (
      q_c (f7_actIs1 x2 ((2 : Int32)) m_s) fun t15 =>
      if x1 < t15 then (
        f7_readAt_28 n m_s x2
      ) else (
        q_lt (x2 + (1 : Int32)) fun x2_22 =>
        f7_readAt_2 n m_s kk x1 x2_22
      )
    )
def f7_readAt (n : Nat) (x1 : Int32) (m_s : (Nat → Int32)) : Option (Int32) :=
  f7_readAt_2 n m_s n x1 ((0 : Int32))
def f7_read_27 (n : Nat) (m_s : (Nat → Int32)) (s0 : Int32) (m_errors : (Nat → Int32)) : Option (Int32 × (Nat → Int32)) :=
  some (s0, m_errors)
def f7_read (n : Nat) (x1 : Int32) (m_s : (Nat → Int32)) (m_errors : (Nat → Int32)) : Option (Int32 × (Nat → Int32)) :=
  q_ld m_s 3974 ((0 : Int32)) fun t7 =>
  q_c (f7_in x1 ((0 : Int32)) t7) fun t8 =>
  if t8 = 0 then (
    q_c2 (f7_error ((1 : Int32)) m_errors) fun t24 m_errors_24 =>
    f7_read_27 n m_s t24 m_errors_24
  ) else (
    q_c (f7_readAt n x1 m_s) fun t16 =>
    f7_read_27 n m_s t16 m_errors
  )
def f7_areMinutes_24 (m_s : (Nat → Int32)) (s0 : Int32) : Option (Int32) :=
  q_bz s0 <|
  some s0
def f7_areMinutes_23 (m_s : (Nat → Int32)) : Option (Int32) :=
  f7_areMinutes_24 m_s ((0 : Int32))
def f7_areMinutes (x1 : Int32) (x2 : Int32) (m_s : (Nat → Int32)) : Option (Int32) :=
  if x1 < 0 then (
    f7_areMinutes_23 m_s
  ) else (
    if x2 < x1 then (
      f7_areMinutes_23 m_s
    ) else (
      q_ld m_s 3974 ((0 : Int32)) fun t15 =>
      if t15 < x2 then (
        f7_areMinutes_23 m_s
      ) else (
        f7_areMinutes_24 m_s ((1 : Int32))
      )
    )
  )
def f7_within_89 (m_s : (Nat → Int32)) (s0 : Int32) : Option (Int32) :=
  some s0
def f7_within_71 (m_s : (Nat → Int32)) (x6 : Int32) (s0 : Int32) : Option (Int32) :=
  if s0 ≤ x6 then (
    f7_within_89 m_s ((0 : Int32))
  ) else (
    f7_within_89 m_s (s0 - x6)
  )
def f7_within_57 (m_s : (Nat → Int32)) (x3 : Int32) (x5 : Int32) (s0 : Int32) : Option (Int32) :=
  if x3 ≤ x5 then (
    f7_within_71 m_s s0 x3
  ) else (
    f7_within_71 m_s s0 x5
  )
def f7_within_43 (m_s : (Nat → Int32)) (x2 : Int32) (x3 : Int32) (x4 : Int32) (s0 : Int32) : Option (Int32) :=
  if x4 ≤ x2 then (
    f7_within_57 m_s x3 s0 x2
  ) else (
    f7_within_57 m_s x3 s0 x4
  )
def f7_within_16 (m_s : (Nat → Int32)) (x1 : Int32) (x2 : Int32) (x3 : Int32) (s0 : Int32) : Option (Int32) :=
  q_ld m_s 3974 ((1 : Int32)) fun t24 =>
  if x1 = t24 then (
    q_ld m_s 3974 ((0 : Int32)) fun t33 =>
    f7_within_43 m_s x2 x3 s0 t33
  ) else (
    q_c (f7_actIs1 x1 ((2 : Int32)) m_s) fun t40 =>
    f7_within_43 m_s x2 x3 s0 t40
  )
def f7_within (x1 : Int32) (x2 : Int32) (x3 : Int32) (m_s : (Nat → Int32)) : Option (Int32) :=
  if x1 = 0 then (
    f7_within_16 m_s x1 x2 x3 ((0 : Int32))
  ) else (
    q_c (f7_actIs1 (x1 - ((1 : Int32))) ((2 : Int32)) m_s) fun t13 =>
    f7_within_16 m_s x1 x2 x3 t13
  )
def f7_wrong_64 (n : Nat) (m_s : (Nat → Int32)) (k29 : Int32 → Int32 → Int32 → Int32 → Int32 → (Nat → Int32) → Option (Int32 × (Nat → Int32))) (x1 : Int32) (x2 : Int32) (x3 : Int32) (x5 : Int32) (s0 : Int32) (s1 : Int32) (m_errors : (Nat → Int32)) : Option (Int32 × (Nat → Int32)) :=
  q_lt (s0 + s1) fun x4_65 =>
  q_lt (x5 + (1 : Int32)) fun x5_67 =>
  k29 x1 x2 x3 x4_65 x5_67 m_errors
def f7_wrong_29 (n : Nat) (m_s : (Nat → Int32)) : Nat → Int32 → Int32 → Int32 → Int32 → Int32 → (Nat → Int32) → Option (Int32 × (Nat → Int32))
  | 0, _, _, _, _, _, _ => none
  | kk + 1, x1, x2, x3, x4, x5, m_errors =>
    q_ld m_s 3974 ((1 : Int32)) fun t36 =>
    if t36 < x5 then (
      some (x4, m_errors)
    ) else (
      q_c (f7_areAlike n x5 x1 m_s) fun t46 =>
      if t46 = 0 then (
        f7_wrong_64 n m_s (f7_wrong_29 n m_s kk) x1 x2 x3 x5 x4 ((0 : Int32)) m_errors
      ) else (
        q_c (f7_within x5 x2 x3 m_s) fun t57 =>
        f7_wrong_64 n m_s (f7_wrong_29 n m_s kk) x1 x2 x3 x5 x4 t57 m_errors
      )
    )
def f7_wrong_17 (n : Nat) (m_s : (Nat → Int32)) (m_errors : (Nat → Int32)) : Option (Int32 × (Nat → Int32)) :=
  q_c2 (f7_error ((1 : Int32)) m_errors) fun t19 m_errors_19 =>
  some (t19, m_errors_19)
def f7_wrong (n : Nat) (x1 : Int32) (x2 : Int32) (x3 : Int32) (m_s : (Nat → Int32)) (m_errors : (Nat → Int32)) : Option (Int32 × (Nat → Int32)) :=
  q_c (f7_isVersion x1 m_s) fun t2 =>
  if t2 = 0 then (
    f7_wrong_17 n m_s m_errors
  ) else (
    q_c (f7_areMinutes x2 x3 m_s) fun t11 =>
    if t11 = 0 then (
      f7_wrong_17 n m_s m_errors
    ) else (
      f7_wrong_29 n m_s n x1 x2 x3 ((0 : Int32)) ((0 : Int32)) m_errors
    )
  )
def f7_hourOf_50 (n : Nat) (m_s : (Nat → Int32)) (k5 : Int32 → Int32 → Int32 → Int32 → Option (Int32)) (x1 : Int32) (x2 : Int32) (x4 : Int32) (s0 : Int32) (s1 : Int32) : Option (Int32) :=
  q_lt (s0 + s1) fun x3_51 =>
  q_lt (x4 + (1 : Int32)) fun x4_52 =>
  k5 x1 x2 x3_51 x4_52
def f7_hourOf_49 (n : Nat) (m_s : (Nat → Int32)) (k5 : Int32 → Int32 → Int32 → Int32 → Option (Int32)) (x1 : Int32) (x2 : Int32) (x4 : Int32) (s0 : Int32) : Option (Int32) :=
  f7_hourOf_50 n m_s k5 x1 x2 x4 s0 ((0 : Int32))
def f7_hourOf_5 (n : Nat) (m_s : (Nat → Int32)) : Nat → Int32 → Int32 → Int32 → Int32 → Option (Int32)
  | 0, _, _, _, _ => none
  | kk + 1, x1, x2, x3, x4 =>
    q_ld m_s 3974 ((1 : Int32)) fun t12 =>
    if t12 ≤ x4 then (
      some x3
    ) else (
      q_c (f7_actIs1 x4 ((1 : Int32)) m_s) fun t21 =>
      if t21 = x1 then (
        q_c (f7_actIs1 x4 ((2 : Int32)) m_s) fun t32 =>
        q_dv ((60 : Int32)) <|
        q_dv ((24 : Int32)) <|
        if ((t32 / ((60 : Int32))) - (t32 / ((60 : Int32))) / ((24 : Int32)) * ((24 : Int32))) = x2 then (
          f7_hourOf_50 n m_s (f7_hourOf_5 n m_s kk) x1 x2 x4 x3 ((1 : Int32))
        ) else (
          f7_hourOf_49 n m_s (f7_hourOf_5 n m_s kk) x1 x2 x4 x3
        )
      ) else (
        f7_hourOf_49 n m_s (f7_hourOf_5 n m_s kk) x1 x2 x4 x3
      )
    )
def f7_hourOf (n : Nat) (x1 : Int32) (x2 : Int32) (m_s : (Nat → Int32)) : Option (Int32) :=
  f7_hourOf_5 n m_s n x1 x2 ((0 : Int32)) ((0 : Int32))
def f7_hand_126 (n : Nat) (m_s : (Nat → Int32)) (s0 : Int32) (s1 : Int32) (m_errors : (Nat → Int32)) : Option (Int32 × (Nat → Int32)) :=
  q_dv s1 <|
  some (s0 / s1, m_errors)
def f7_hand_100 (n : Nat) (m_s : (Nat → Int32)) (k59 : Int32 → Int32 → Int32 → Int32 → Int32 → Int32 → (Nat → Int32) → Option (Int32 × (Nat → Int32))) (x1 : Int32) (x2 : Int32) (x3 : Int32) (x4 : Int32) (x6 : Int32) (s0 : Int32) (s1 : Int32) (m_errors : (Nat → Int32)) : Option (Int32 × (Nat → Int32)) :=
  q_lt (s0 + s1) fun x5_101 =>
  q_lt (x6 + (1 : Int32)) fun x6_103 =>
  k59 x1 x2 x3 x4 x5_101 x6_103 m_errors
def f7_hand_59 (n : Nat) (m_s : (Nat → Int32)) : Nat → Int32 → Int32 → Int32 → Int32 → Int32 → Int32 → (Nat → Int32) → Option (Int32 × (Nat → Int32))
  | 0, _, _, _, _, _, _, _ => none
  | kk + 1, x1, x2, x3, x4, x5, x6, m_errors =>
    if ((24 : Int32)) ≤ x6 then (
      if x4 ≤ x3 then (
        f7_hand_126 n m_s (((100 : Int32)) * x5) x4 m_errors
      ) else (
        f7_hand_126 n m_s (((100 : Int32)) * x5) x3 m_errors
      )
    ) else (
      q_c (f7_hourOf n x1 x6 m_s) fun t70 =>
      q_c (f7_hourOf n x2 x6 m_s) fun t79 =>
      if t79 ≤ t70 then (
        f7_hand_100 n m_s (f7_hand_59 n m_s kk) x1 x2 x3 x4 x6 x5 t79 m_errors
      ) else (
        f7_hand_100 n m_s (f7_hand_59 n m_s kk) x1 x2 x3 x4 x6 x5 t70 m_errors
      )
    )
def f7_hand_47 (n : Nat) (m_s : (Nat → Int32)) (m_errors : (Nat → Int32)) : Option (Int32 × (Nat → Int32)) :=
  q_c2 (f7_error ((2 : Int32)) m_errors) fun t49 m_errors_49 =>
  some (t49, m_errors_49)
def f7_hand_19 (n : Nat) (m_s : (Nat → Int32)) (m_errors : (Nat → Int32)) : Option (Int32 × (Nat → Int32)) :=
  q_c2 (f7_error ((1 : Int32)) m_errors) fun t21 m_errors_21 =>
  some (t21, m_errors_21)
def f7_hand (n : Nat) (x1 : Int32) (x2 : Int32) (m_s : (Nat → Int32)) (m_errors : (Nat → Int32)) : Option (Int32 × (Nat → Int32)) :=
  q_c (f7_isWriter x1) fun t1 =>
  if t1 = 0 then (
    f7_hand_19 n m_s m_errors
  ) else (
    q_c (f7_isWriter x2) fun t8 =>
    if t8 = 0 then (
      f7_hand_19 n m_s m_errors
    ) else (
      if x1 = x2 then (
        f7_hand_19 n m_s m_errors
      ) else (
        q_c (f7_actsOf n x1 m_s) fun t27 =>
        q_c (f7_actsOf n x2 m_s) fun t33 =>
        if t27 = 0 then (
          f7_hand_47 n m_s m_errors
        ) else (
          if t33 = 0 then (
            f7_hand_47 n m_s m_errors
          ) else (
            f7_hand_59 n m_s n x1 x2 t27 t33 ((0 : Int32)) ((0 : Int32)) m_errors
          )
        )
      )
    )
  )
def f7_score_18 (m_s : (Nat → Int32)) (m_errors : (Nat → Int32)) : Option (Int32 × (Nat → Int32) × (Nat → Int32)) :=
  q_c2 (f7_error ((1 : Int32)) m_errors) fun t20 m_errors_20 =>
  some (t20, m_s, m_errors_20)
def f7_score (x1 : Int32) (x2 : Int32) (m_s : (Nat → Int32)) (m_errors : (Nat → Int32)) : Option (Int32 × (Nat → Int32) × (Nat → Int32)) :=
  q_c (f7_isAct x1 m_s) fun t2 =>
  if t2 = 0 then (
    f7_score_18  m_s m_errors
  ) else (
    q_c (f7_in x2 ((-1 : Int32)) ((100 : Int32))) fun t12 =>
    if t12 = 0 then (
      f7_score_18  m_s m_errors
    ) else (
      q_c (f7_actIs1 x1 ((4 : Int32)) m_s) fun t27 =>
      q_st m_s 3974 ((((10 : Int32)) + (((5 : Int32)) * x1)) + ((4 : Int32))) x2 fun m_s_44 =>
      some (t27, m_s_44, m_errors)
    )
  )
def f7_costs_84 (n : Nat) (m_s : (Nat → Int32)) (k6 : Int32 → Int32 → Int32 → Int32 → Int32 → Option (Int32)) (x1 : Int32) (x2 : Int32) (x3 : Int32) (x5 : Int32) (s0 : Int32) (s1 : Int32) : Option (Int32) :=
  q_lt (s0 + s1) fun x4_85 =>
  q_lt (x5 + (1 : Int32)) fun x5_87 =>
  k6 x1 x2 x3 x4_85 x5_87
def f7_costs_42 (n : Nat) (m_s : (Nat → Int32)) (k6 : Int32 → Int32 → Int32 → Int32 → Int32 → Option (Int32)) (x1 : Int32) (x2 : Int32) (x3 : Int32) (x4 : Int32) (x5 : Int32) (x6 : Int32) (s0 : Int32) : Option (Int32) :=
  if 0 ≤ x6 then (
    if x6 < x1 then (
      if s0 = 0 then (
        f7_costs_84 n m_s k6 x1 x2 x3 x5 x4 ((0 : Int32))
      ) else (
        f7_costs_84 n m_s k6 x1 x2 x3 x5 x4 x3
      )
    ) else (
      if s0 = 0 then (
        f7_costs_84 n m_s k6 x1 x2 x3 x5 x4 x2
      ) else (
        f7_costs_84 n m_s k6 x1 x2 x3 x5 x4 ((0 : Int32))
      )
    )
  ) else (
    f7_costs_84 n m_s k6 x1 x2 x3 x5 x4 ((0 : Int32))
  )
def f7_costs_6 (n : Nat) (m_s : (Nat → Int32)) : Nat → Int32 → Int32 → Int32 → Int32 → Int32 → Option (Int32)
  | 0, _, _, _, _, _ => none
  | kk + 1, x1, x2, x3, x4, x5 =>
    q_ld m_s 3974 ((1 : Int32)) fun t13 =>
    if t13 ≤ x5 then (
      some x4
    ) else (
      q_c (f7_actIs1 x5 ((4 : Int32)) m_s) fun t21 =>
      q_c (f7_actIs1 x5 ((0 : Int32)) m_s) fun t30 =>
      if t30 = ((4 : Int32)) then (
        f7_costs_42 n m_s (f7_costs_6 n m_s kk) x1 x2 x3 x4 x5 t21 ((1 : Int32))
      ) else (
        f7_costs_42 n m_s (f7_costs_6 n m_s kk) x1 x2 x3 x4 x5 t21 ((0 : Int32))
      )
    )
def f7_costs (n : Nat) (x1 : Int32) (x2 : Int32) (x3 : Int32) (m_s : (Nat → Int32)) : Option (Int32) :=
  f7_costs_6 n m_s n x1 x2 x3 ((0 : Int32)) ((0 : Int32))
def f7_line_99 (n : Nat) (m_s : (Nat → Int32)) (s0 : Int32) (m_errors : (Nat → Int32)) : Option (Int32 × (Nat → Int32)) :=
  some (s0, m_errors)
def f7_line_74 (n : Nat) (m_s : (Nat → Int32)) (k41 : Int32 → Int32 → Int32 → Int32 → Int32 → (Nat → Int32) → Option (Int32 × (Nat → Int32))) (x1 : Int32) (x2 : Int32) (x3 : Int32) (x5 : Int32) (s0 : Int32) (m_errors : (Nat → Int32)) : Option (Int32 × (Nat → Int32)) :=
  q_lt (x5 + (1 : Int32)) fun x5_76 =>
  k41 x1 x2 x3 s0 x5_76 m_errors
def f7_line_41 (n : Nat) (m_s : (Nat → Int32)) : Nat → Int32 → Int32 → Int32 → Int32 → Int32 → (Nat → Int32) → Option (Int32 × (Nat → Int32))
  | 0, _, _, _, _, _, _ => none
  | kk + 1, x1, x2, x3, x4, x5, m_errors =>
    if ((101 : Int32)) < x5 then (
      if x3 = 0 then (
        f7_line_99 n m_s x4 m_errors
      ) else (
        q_c (f7_costs n x4 x1 x2 m_s) fun t96 =>
        f7_line_99 n m_s t96 m_errors
      )
    ) else (
      q_c (f7_costs n x5 x1 x2 m_s) fun t53 =>
      q_c (f7_costs n x4 x1 x2 m_s) fun t61 =>
      if t61 < t53 then (
        f7_line_74 n m_s (f7_line_41 n m_s kk) x1 x2 x3 x5 x4 m_errors
      ) else (
        f7_line_74 n m_s (f7_line_41 n m_s kk) x1 x2 x3 x5 x5 m_errors
      )
    )
def f7_line_29 (n : Nat) (m_s : (Nat → Int32)) (m_errors : (Nat → Int32)) : Option (Int32 × (Nat → Int32)) :=
  q_c2 (f7_error ((1 : Int32)) m_errors) fun t31 m_errors_31 =>
  some (t31, m_errors_31)
def f7_line (n : Nat) (x1 : Int32) (x2 : Int32) (x3 : Int32) (m_s : (Nat → Int32)) (m_errors : (Nat → Int32)) : Option (Int32 × (Nat → Int32)) :=
  q_c (f7_in x1 ((0 : Int32)) ((99 : Int32))) fun t4 =>
  if t4 = 0 then (
    f7_line_29 n m_s m_errors
  ) else (
    q_c (f7_in x2 ((0 : Int32)) ((99 : Int32))) fun t14 =>
    if t14 = 0 then (
      f7_line_29 n m_s m_errors
    ) else (
      q_c (f7_in x3 ((0 : Int32)) ((1 : Int32))) fun t23 =>
      if t23 = 0 then (
        f7_line_29 n m_s m_errors
      ) else (
        f7_line_41 n m_s n x1 x2 x3 ((0 : Int32)) ((1 : Int32)) m_errors
      )
    )
  )
def f7_worth_21 (m_s : (Nat → Int32)) (m_errors : (Nat → Int32)) : Option (Int32 × (Nat → Int32) × (Nat → Int32)) :=
  q_c2 (f7_error ((1 : Int32)) m_errors) fun t23 m_errors_23 =>
  some (t23, m_s, m_errors_23)
def f7_worth (x1 : Int32) (x2 : Int32) (m_s : (Nat → Int32)) (m_errors : (Nat → Int32)) : Option (Int32 × (Nat → Int32) × (Nat → Int32)) :=
  q_c (f7_in x1 ((1 : Int32)) ((60 : Int32))) fun t4 =>
  if t4 = 0 then (
    f7_worth_21  m_s m_errors
  ) else (
    q_c (f7_in x2 ((-9 : Int32)) ((9 : Int32))) fun t15 =>
    if t15 = 0 then (
      f7_worth_21  m_s m_errors
    ) else (
      q_ld m_s 3974 (((2820 : Int32)) + x1) fun t36 =>
      q_st m_s 3974 (((2820 : Int32)) + x1) x2 fun m_s_48 =>
      some (t36, m_s_48, m_errors)
    )
  )
def f7_valueOf_4 (n : Nat) (m_s : (Nat → Int32)) : Nat → Int32 → Int32 → Int32 → Option (Int32)
  | 0, _, _, _ => none
  | kk + 1, x1, x2, x3 =>
    q_c (f7_sizeOf x1 m_s) fun t7 =>
    if t7 ≤ x3 then (
      some x2
    ) else (
      q_c (f7_wordAt x1 x3 m_s) fun t24 =>
      q_ld m_s 3974 (((2820 : Int32)) + t24) fun t28 =>
      q_lt (x2 + t28) fun x2_30 =>
      q_lt (x3 + (1 : Int32)) fun x3_31 =>
      f7_valueOf_4 n m_s kk x1 x2_30 x3_31
    )
def f7_valueOf (n : Nat) (x1 : Int32) (m_s : (Nat → Int32)) : Option (Int32) :=
  f7_valueOf_4 n m_s n x1 ((0 : Int32)) ((0 : Int32))
def f7_value_21 (n : Nat) (m_s : (Nat → Int32)) (s0 : Int32) (m_errors : (Nat → Int32)) : Option (Int32 × (Nat → Int32)) :=
  some (s0, m_errors)
def f7_value (n : Nat) (x1 : Int32) (m_s : (Nat → Int32)) (m_errors : (Nat → Int32)) : Option (Int32 × (Nat → Int32)) :=
  q_c (f7_isVersion x1 m_s) fun t2 =>
  if t2 = 0 then (
    q_c2 (f7_error ((1 : Int32)) m_errors) fun t18 m_errors_18 =>
    f7_value_21 n m_s t18 m_errors_18
  ) else (
    q_c (f7_valueOf n x1 m_s) fun t10 =>
    f7_value_21 n m_s t10 m_errors
  )
def f7_best_32 (n : Nat) (m_s : (Nat → Int32)) (k4 : Int32 → Int32 → Option (Int32)) (x2 : Int32) (s0 : Int32) : Option (Int32) :=
  q_lt (x2 + (1 : Int32)) fun x2_33 =>
  k4 s0 x2_33
def f7_best_4 (n : Nat) (m_s : (Nat → Int32)) : Nat → Int32 → Int32 → Option (Int32)
  | 0, _, _ => none
  | kk + 1, x1, x2 =>
    q_ld m_s 3974 ((1 : Int32)) fun t10 =>
    if t10 < x2 then (
      some x1
    ) else (
      q_c (f7_valueOf n x2 m_s) fun t16 =>
      q_c (f7_valueOf n x1 m_s) fun t21 =>
      if t16 ≤ t21 then (
        f7_best_32 n m_s (f7_best_4 n m_s kk) x2 x1
      ) else (
        f7_best_32 n m_s (f7_best_4 n m_s kk) x2 x2
      )
    )
def f7_best (n : Nat) (m_s : (Nat → Int32)) : Option (Int32) :=
  f7_best_4 n m_s n ((0 : Int32)) ((1 : Int32))
def f7_got_20 (n : Nat) (m_s : (Nat → Int32)) : Nat → Int32 → Int32 → Int32 → Int32 → (Nat → Int32) → Option (Int32 × (Nat → Int32))
  | 0, _, _, _, _, _ => none
  | kk + 1, x1, x2, x3, x4, m_errors =>
    q_ld m_s 3974 ((1 : Int32)) fun t27 =>
    if t27 < x4 then (
      some (x3, m_errors)
    ) else (
      q_c (f7_valueOf n x4 m_s) fun t35 =>
      q_c (f7_within x4 x1 x2 m_s) fun t43 =>
      q_lt (x3 + (t35 * t43)) fun x3_48 =>
      q_lt (x4 + (1 : Int32)) fun x4_49 =>
      f7_got_20 n m_s kk x1 x2 x3_48 x4_49 m_errors
    )
def f7_got (n : Nat) (x1 : Int32) (x2 : Int32) (m_s : (Nat → Int32)) (m_errors : (Nat → Int32)) : Option (Int32 × (Nat → Int32)) :=
  q_c (f7_areMinutes x1 x2 m_s) fun t3 =>
  if t3 = 0 then (
    q_c2 (f7_error ((1 : Int32)) m_errors) fun t11 m_errors_11 =>
    some (t11, m_errors_11)
  ) else (
    f7_got_20 n m_s n x1 x2 ((0 : Int32)) ((0 : Int32)) m_errors
  )
def f7_begins_29 (m_traced : Int32) (m_trace : (Nat → Int32)) : Option (Int32 × (Nat → Int32)) :=
  some (m_traced, m_trace)
def f7_begins (x1 : Int32) (m_traced : Int32) (m_trace : (Nat → Int32)) : Option (Int32 × (Nat → Int32)) :=
  if ((30 : Int32)) ≤ m_traced then (
    f7_begins_29  m_traced m_trace
  ) else (
    q_st m_trace 30 m_traced x1 fun m_trace_18 =>
    q_lt (m_traced + ((1 : Int32))) fun m_traced_26 =>
    f7_begins_29  m_traced_26 m_trace_18
  )
def f7_above_24 (s0 : Int32) : Option (Int32) :=
  some s0
def f7_above_10  : Option (Int32) :=
  f7_above_24  ((1 : Int32))
def f7_above (x0 : Int32) : Option (Int32) :=
  if x0 = ((4 : Int32)) then (
    f7_above_10 
  ) else (
    if x0 = ((5 : Int32)) then (
      f7_above_10 
    ) else (
      if x0 = ((3 : Int32)) then (
        f7_above_24  ((2 : Int32))
      ) else (
        f7_above_24  ((0 : Int32))
      )
    )
  )
def f7_kindNow (m_speaks : Int32) (m_s : (Nat → Int32)) : Option (Int32) :=
  q_c (f7_actIs1 m_speaks ((0 : Int32)) m_s) fun t6 =>
  some t6
def f7_writerNow (m_speaks : Int32) (m_s : (Nat → Int32)) : Option (Int32) :=
  q_c (f7_actIs1 m_speaks ((1 : Int32)) m_s) fun t6 =>
  some t6
def f7_does_101 (FS : Int32 → Int32 → Int32 → Int32 → (Nat → Int32) → (Nat → Int32) → Option (Int32 × Int32 × (Nat → Int32))) (m_speaks : Int32) (m_s : (Nat → Int32)) (x1 : Int32) (x2 : Int32) (m_traced : Int32) (m_trace : (Nat → Int32)) : Option (Int32 × Int32 × (Nat → Int32)) :=
  q_c (f7_above x1) fun t103 =>
  q_c3 (FS t103 x2 m_traced m_speaks m_s m_trace) fun t107 m_traced_107 m_trace_107 =>
  some (t107, m_traced_107, m_trace_107)
def f7_does  : Nat → Int32 → Int32 → Int32 → Int32 → (Nat → Int32) → (Nat → Int32) → Option (Int32 × Int32 × (Nat → Int32))
  | 0, _, _, _, _, _, _ => none
  | d + 1, x1, x2, m_traced, m_speaks, m_s, m_trace =>
    if x1 = (0 : Int32) then (
      q_c2 (f7_begins ((10 : Int32)) m_traced m_trace) fun m_traced_47 m_trace_47 =>
      q_c (f7_writerNow m_speaks m_s) fun t52 =>
      some (x2 + t52, m_traced_47, m_trace_47)
    ) else (
    if x1 = (1 : Int32) then (
      q_c2 (f7_begins ((20 : Int32)) m_traced m_trace) fun m_traced_60 m_trace_60 =>
      q_c (f7_above ((1 : Int32))) fun t65 =>
      q_c3 ((f7_does d) t65 x2 m_traced_60 m_speaks m_s m_trace_60) fun t69 m_traced_69 m_trace_69 =>
      some (t69 + ((3 : Int32)), m_traced_69, m_trace_69)
    ) else (
    if x1 = (2 : Int32) then (
      f7_does_101 (f7_does d) m_speaks m_s x1 x2 m_traced m_trace
    ) else (
    if x1 = (3 : Int32) then (
      f7_does_101 (f7_does d) m_speaks m_s x1 x2 m_traced m_trace
    ) else (
    if x1 = (4 : Int32) then (
      q_c2 (f7_begins ((50 : Int32)) m_traced m_trace) fun m_traced_78 m_trace_78 =>
      q_c (f7_above ((4 : Int32))) fun t83 =>
      q_c3 ((f7_does d) t83 x2 m_traced_78 m_speaks m_s m_trace_78) fun t87 m_traced_87 m_trace_87 =>
      some (t87 * ((3 : Int32)), m_traced_87, m_trace_87)
    ) else (
    if x1 = (5 : Int32) then (
      f7_does_101 (f7_does d) m_speaks m_s x1 x2 m_traced m_trace
    ) else (
    if x1 = (6 : Int32) then (
      q_c2 (f7_begins ((70 : Int32)) m_traced m_trace) fun m_traced_96 m_trace_96 =>
      some ((0 : Int32), m_traced_96, m_trace_96)
    ) else (
      f7_does_101 (f7_does d) m_speaks m_s x1 x2 m_traced m_trace
    )))))))
def f7_undoes_124 (FS : Int32 → Int32 → Int32 → Int32 → (Nat → Int32) → (Nat → Int32) → Option (Int32 × Int32 × (Nat → Int32))) (m_speaks : Int32) (m_s : (Nat → Int32)) (x1 : Int32) (x2 : Int32) (m_traced : Int32) (m_trace : (Nat → Int32)) : Option (Int32 × Int32 × (Nat → Int32)) :=
  q_c (f7_above x1) fun t126 =>
  q_c3 (FS t126 x2 m_traced m_speaks m_s m_trace) fun t130 m_traced_130 m_trace_130 =>
  some (t130, m_traced_130, m_trace_130)
def f7_undoes  : Nat → Int32 → Int32 → Int32 → Int32 → (Nat → Int32) → (Nat → Int32) → Option (Int32 × Int32 × (Nat → Int32))
  | 0, _, _, _, _, _, _ => none
  | d + 1, x1, x2, m_traced, m_speaks, m_s, m_trace =>
    if x1 = (0 : Int32) then (
      q_c2 (f7_begins ((11 : Int32)) m_traced m_trace) fun m_traced_51 m_trace_51 =>
      q_c (f7_kindNow m_speaks m_s) fun t56 =>
      q_c3 (f7_does 8 t56 x2 m_traced_51 m_speaks m_s m_trace_51) fun t60 m_traced_60 m_trace_60 =>
      some (t60 * ((2 : Int32)), m_traced_60, m_trace_60)
    ) else (
    if x1 = (1 : Int32) then (
      f7_undoes_124 (f7_undoes d) m_speaks m_s x1 x2 m_traced m_trace
    ) else (
    if x1 = (2 : Int32) then (
      q_c2 (f7_begins ((30 : Int32)) m_traced m_trace) fun m_traced_69 m_trace_69 =>
      q_c (f7_above ((2 : Int32))) fun t75 =>
      q_c3 ((f7_undoes d) t75 x2 m_traced_69 m_speaks m_s m_trace_69) fun t79 m_traced_79 m_trace_79 =>
      some (((0 : Int32)) - t79, m_traced_79, m_trace_79)
    ) else (
    if x1 = (3 : Int32) then (
      q_c2 (f7_begins ((40 : Int32)) m_traced m_trace) fun m_traced_87 m_trace_87 =>
      q_c (f7_above ((3 : Int32))) fun t92 =>
      q_dv ((2 : Int32)) <|
      q_c3 ((f7_undoes d) t92 (x2 / ((2 : Int32))) m_traced_87 m_speaks m_s m_trace_87) fun t98 m_traced_98 m_trace_98 =>
      some (t98, m_traced_98, m_trace_98)
    ) else (
    if x1 = (4 : Int32) then (
      f7_undoes_124 (f7_undoes d) m_speaks m_s x1 x2 m_traced m_trace
    ) else (
    if x1 = (5 : Int32) then (
      f7_undoes_124 (f7_undoes d) m_speaks m_s x1 x2 m_traced m_trace
    ) else (
    if x1 = (6 : Int32) then (
      f7_undoes_124 (f7_undoes d) m_speaks m_s x1 x2 m_traced m_trace
    ) else (
    if x1 = (7 : Int32) then (
      q_c2 (f7_begins ((80 : Int32)) m_traced m_trace) fun m_traced_105 m_trace_105 =>
      q_c (f7_above ((7 : Int32))) fun t111 =>
      q_c3 ((f7_undoes d) t111 x2 m_traced_105 m_speaks m_s m_trace_105) fun t115 m_traced_115 m_trace_115 =>
      some (t115 + m_speaks, m_traced_115, m_trace_115)
    ) else (
      f7_undoes_124 (f7_undoes d) m_speaks m_s x1 x2 m_traced m_trace
    ))))))))
def f7_lasts_128 (FS : Int32 → Int32 → Int32 → Int32 → (Nat → Int32) → (Nat → Int32) → Option (Int32 × Int32 × (Nat → Int32))) (m_speaks : Int32) (m_s : (Nat → Int32)) (x1 : Int32) (x2 : Int32) (m_traced : Int32) (m_trace : (Nat → Int32)) : Option (Int32 × Int32 × (Nat → Int32)) :=
  q_c (f7_above x1) fun t130 =>
  q_c3 (FS t130 x2 m_traced m_speaks m_s m_trace) fun t134 m_traced_134 m_trace_134 =>
  some (t134, m_traced_134, m_trace_134)
def f7_lasts  : Nat → Int32 → Int32 → Int32 → Int32 → (Nat → Int32) → (Nat → Int32) → Option (Int32 × Int32 × (Nat → Int32))
  | 0, _, _, _, _, _, _ => none
  | d + 1, x1, x2, m_traced, m_speaks, m_s, m_trace =>
    if x1 = (0 : Int32) then (
      q_c2 (f7_begins ((12 : Int32)) m_traced m_trace) fun m_traced_43 m_trace_43 =>
      q_c (f7_kindNow m_speaks m_s) fun t48 =>
      q_c3 (f7_undoes 8 t48 x2 m_traced_43 m_speaks m_s m_trace_43) fun t52 m_traced_52 m_trace_52 =>
      some (t52 - m_speaks, m_traced_52, m_trace_52)
    ) else (
    if x1 = (1 : Int32) then (
      q_c2 (f7_begins ((21 : Int32)) m_traced m_trace) fun m_traced_64 m_trace_64 =>
      q_c (f7_above ((1 : Int32))) fun t69 =>
      q_c3 ((f7_lasts d) t69 x2 m_traced_64 m_speaks m_s m_trace_64) fun t73 m_traced_73 m_trace_73 =>
      q_c (f7_writerNow m_speaks m_s) fun t77 =>
      some (t73 ^^^ t77, m_traced_73, m_trace_73)
    ) else (
    if x1 = (2 : Int32) then (
      f7_lasts_128 (f7_lasts d) m_speaks m_s x1 x2 m_traced m_trace
    ) else (
    if x1 = (3 : Int32) then (
      q_c2 (f7_begins ((41 : Int32)) m_traced m_trace) fun m_traced_85 m_trace_85 =>
      q_c (f7_above ((3 : Int32))) fun t90 =>
      q_c3 ((f7_lasts d) t90 x2 m_traced_85 m_speaks m_s m_trace_85) fun t94 m_traced_94 m_trace_94 =>
      q_c (f7_kindNow m_speaks m_s) fun t101 =>
      q_c3 (f7_undoes 8 t101 ((2 : Int32)) m_traced_94 m_speaks m_s m_trace_94) fun t105 m_traced_105 m_trace_105 =>
      some (t94 - t105, m_traced_105, m_trace_105)
    ) else (
    if x1 = (4 : Int32) then (
      f7_lasts_128 (f7_lasts d) m_speaks m_s x1 x2 m_traced m_trace
    ) else (
    if x1 = (5 : Int32) then (
      q_c2 (f7_begins ((60 : Int32)) m_traced m_trace) fun m_traced_113 m_trace_113 =>
      q_c (f7_above ((5 : Int32))) fun t118 =>
      q_c3 ((f7_lasts d) t118 (x2 + ((1 : Int32))) m_traced_113 m_speaks m_s m_trace_113) fun t124 m_traced_124 m_trace_124 =>
      some (t124, m_traced_124, m_trace_124)
    ) else (
      f7_lasts_128 (f7_lasts d) m_speaks m_s x1 x2 m_traced m_trace
    ))))))
def f7_tells_187 (FS : Int32 → Int32 → Int32 → Int32 → Int32 → (Nat → Int32) → (Nat → Int32) → Option (Int32 × Int32 × Int32 × (Nat → Int32))) (m_speaks : Int32) (m_s : (Nat → Int32)) (x1 : Int32) (x2 : Int32) (m_traced : Int32) (m_isParted : Int32) (m_trace : (Nat → Int32)) : Option (Int32 × Int32 × Int32 × (Nat → Int32)) :=
  q_c (f7_above x1) fun t189 =>
  q_c4 (FS t189 x2 m_traced m_speaks m_isParted m_s m_trace) fun t193 m_traced_193 m_isParted_193 m_trace_193 =>
  some (t193, m_traced_193, m_isParted_193, m_trace_193)
def f7_tells_139 (FS : Int32 → Int32 → Int32 → Int32 → Int32 → (Nat → Int32) → (Nat → Int32) → Option (Int32 × Int32 × Int32 × (Nat → Int32))) (m_speaks : Int32) (m_s : (Nat → Int32)) (s0 : Int32) (m_traced : Int32) (m_isParted : Int32) (m_trace : (Nat → Int32)) : Option (Int32 × Int32 × Int32 × (Nat → Int32)) :=
  some (s0, m_traced, m_isParted, m_trace)
def f7_tells_100 (FS : Int32 → Int32 → Int32 → Int32 → Int32 → (Nat → Int32) → (Nat → Int32) → Option (Int32 × Int32 × Int32 × (Nat → Int32))) (m_speaks : Int32) (m_s : (Nat → Int32)) (s0 : Int32) (m_traced : Int32) (m_isParted : Int32) (m_trace : (Nat → Int32)) : Option (Int32 × Int32 × Int32 × (Nat → Int32)) :=
  some (s0, m_traced, m_isParted, m_trace)
def f7_tells_73 (FS : Int32 → Int32 → Int32 → Int32 → Int32 → (Nat → Int32) → (Nat → Int32) → Option (Int32 × Int32 × Int32 × (Nat → Int32))) (m_speaks : Int32) (m_s : (Nat → Int32)) (x2 : Int32) (x4 : Int32) (s1 : Int32) (m_traced : Int32) (m_isParted : Int32) (m_trace : (Nat → Int32)) : Option (Int32 × Int32 × Int32 × (Nat → Int32)) :=
  q_bz s1 <|
  if x4 = 0 then (
    f7_tells_100 FS m_speaks m_s ((0 : Int32)) m_traced s1 m_trace
  ) else (
    if x4 = ((-1 : Int32)) then (
      f7_tells_100 FS m_speaks m_s (-x2) m_traced s1 m_trace
    ) else (
      q_dv x4 <|
      f7_tells_100 FS m_speaks m_s (x2 / x4) m_traced s1 m_trace
    )
  )
def f7_tells  : Nat → Int32 → Int32 → Int32 → Int32 → Int32 → (Nat → Int32) → (Nat → Int32) → Option (Int32 × Int32 × Int32 × (Nat → Int32))
  | 0, _, _, _, _, _, _, _ => none
  | d + 1, x1, x2, m_traced, m_speaks, m_isParted, m_s, m_trace =>
    if x1 = (0 : Int32) then (
      q_c2 (f7_begins ((13 : Int32)) m_traced m_trace) fun m_traced_51 m_trace_51 =>
      q_lt (m_speaks - ((2 : Int32))) fun x4_60 =>
      if x4_60 = 0 then (
        f7_tells_73 (f7_tells d) m_speaks m_s x2 x4_60 ((1 : Int32)) m_traced_51 m_isParted m_trace_51
      ) else (
        f7_tells_73 (f7_tells d) m_speaks m_s x2 x4_60 ((0 : Int32)) m_traced_51 m_isParted m_trace_51
      )
    ) else (
    if x1 = (1 : Int32) then (
      f7_tells_187 (f7_tells d) m_speaks m_s x1 x2 m_traced m_isParted m_trace
    ) else (
    if x1 = (2 : Int32) then (
      q_c2 (f7_begins ((31 : Int32)) m_traced m_trace) fun m_traced_104 m_trace_104 =>
      q_c (f7_above ((2 : Int32))) fun t109 =>
      q_c4 ((f7_tells d) t109 x2 m_traced_104 m_speaks m_isParted m_s m_trace_104) fun t113 m_traced_113 m_isParted_113 m_trace_113 =>
      if m_isParted_113 = 0 then (
        q_c (f7_kindNow m_speaks m_s) fun t131 =>
        q_c3 (f7_does 8 t131 ((1 : Int32)) m_traced_113 m_speaks m_s m_trace_113) fun t135 m_traced_135 m_trace_135 =>
        f7_tells_139 (f7_tells d) m_speaks m_s (t113 + t135) m_traced_135 m_isParted_113 m_trace_135
      ) else (
        f7_tells_139 (f7_tells d) m_speaks m_s ((0 : Int32)) m_traced_113 m_isParted_113 m_trace_113
      )
    ) else (
    if x1 = (3 : Int32) then (
      f7_tells_187 (f7_tells d) m_speaks m_s x1 x2 m_traced m_isParted m_trace
    ) else (
    if x1 = (4 : Int32) then (
      f7_tells_187 (f7_tells d) m_speaks m_s x1 x2 m_traced m_isParted m_trace
    ) else (
    if x1 = (5 : Int32) then (
      q_c2 (f7_begins ((61 : Int32)) m_traced m_trace) fun m_traced_143 m_trace_143 =>
      q_c (f7_kindNow m_speaks m_s) fun t148 =>
      q_c3 (f7_lasts 8 t148 x2 m_traced_143 m_speaks m_s m_trace_143) fun t152 m_traced_152 m_trace_152 =>
      q_c (f7_above ((5 : Int32))) fun t159 =>
      q_c4 ((f7_tells d) t159 x2 m_traced_152 m_speaks m_isParted m_s m_trace_152) fun t163 m_traced_163 m_isParted_163 m_trace_163 =>
      some (t152 - t163, m_traced_163, m_isParted_163, m_trace_163)
    ) else (
    if x1 = (6 : Int32) then (
      f7_tells_187 (f7_tells d) m_speaks m_s x1 x2 m_traced m_isParted m_trace
    ) else (
    if x1 = (7 : Int32) then (
      q_c2 (f7_begins ((81 : Int32)) m_traced m_trace) fun m_traced_171 m_trace_171 =>
      q_c (f7_above ((7 : Int32))) fun t177 =>
      q_c4 ((f7_tells d) t177 x2 m_traced_171 m_speaks m_isParted m_s m_trace_171) fun t181 m_traced_181 m_isParted_181 m_trace_181 =>
      some (t181 ^^^ ((5 : Int32)), m_traced_181, m_isParted_181, m_trace_181)
    ) else (
      f7_tells_187 (f7_tells d) m_speaks m_s x1 x2 m_traced m_isParted m_trace
    ))))))))
def f7_voice_115 (m_s : (Nat → Int32)) (s0 : Int32) (m_traced : Int32) (m_speaks : Int32) (m_isParted : Int32) (m_errors : (Nat → Int32)) (m_trace : (Nat → Int32)) : Option (Int32 × Int32 × Int32 × Int32 × (Nat → Int32) × (Nat → Int32)) :=
  some (s0, m_traced, m_speaks, m_isParted, m_errors, m_trace)
def f7_voice_95 (m_s : (Nat → Int32)) (s0 : Int32) (m_traced : Int32) (m_speaks : Int32) (m_isParted : Int32) (m_errors : (Nat → Int32)) (m_trace : (Nat → Int32)) : Option (Int32 × Int32 × Int32 × Int32 × (Nat → Int32) × (Nat → Int32)) :=
  if m_isParted = 0 then (
    f7_voice_115 m_s s0 m_traced m_speaks m_isParted m_errors m_trace
  ) else (
    q_c2 (f7_error ((6 : Int32)) m_errors) fun t107 m_errors_107 =>
    f7_voice_115 m_s t107 m_traced m_speaks m_isParted m_errors_107 m_trace
  )
def f7_voice_17 (m_s : (Nat → Int32)) (m_traced : Int32) (m_speaks : Int32) (m_isParted : Int32) (m_errors : (Nat → Int32)) (m_trace : (Nat → Int32)) : Option (Int32 × Int32 × Int32 × Int32 × (Nat → Int32) × (Nat → Int32)) :=
  q_c2 (f7_error ((1 : Int32)) m_errors) fun t19 m_errors_19 =>
  some (t19, m_traced, m_speaks, m_isParted, m_errors_19, m_trace)
def f7_voice (x1 : Int32) (x2 : Int32) (x3 : Int32) (m_traced : Int32) (m_speaks : Int32) (m_isParted : Int32) (m_s : (Nat → Int32)) (m_errors : (Nat → Int32)) (m_trace : (Nat → Int32)) : Option (Int32 × Int32 × Int32 × Int32 × (Nat → Int32) × (Nat → Int32)) :=
  q_c (f7_isAct x1 m_s) fun t2 =>
  if t2 = 0 then (
    f7_voice_17 m_s m_traced m_speaks m_isParted m_errors m_trace
  ) else (
    q_c (f7_in x2 ((0 : Int32)) ((3 : Int32))) fun t11 =>
    if t11 = 0 then (
      f7_voice_17 m_s m_traced m_speaks m_isParted m_errors m_trace
    ) else (
      q_bz ((0 : Int32)) <|
      q_c (f7_kindNow x1 m_s) fun t39 =>
      if x2 = 0 then (
        q_c3 (f7_does 8 t39 x3 ((0 : Int32)) x1 m_s m_trace) fun t52 m_traced_52 m_trace_52 =>
        f7_voice_95 m_s t52 m_traced_52 x1 ((0 : Int32)) m_errors m_trace_52
      ) else (
        if x2 = ((1 : Int32)) then (
          q_c3 (f7_undoes 8 t39 x3 ((0 : Int32)) x1 m_s m_trace) fun t67 m_traced_67 m_trace_67 =>
          f7_voice_95 m_s t67 m_traced_67 x1 ((0 : Int32)) m_errors m_trace_67
        ) else (
          if x2 = ((2 : Int32)) then (
            q_c3 (f7_lasts 8 t39 x3 ((0 : Int32)) x1 m_s m_trace) fun t82 m_traced_82 m_trace_82 =>
            f7_voice_95 m_s t82 m_traced_82 x1 ((0 : Int32)) m_errors m_trace_82
          ) else (
            q_c4 (f7_tells 8 t39 x3 ((0 : Int32)) x1 ((0 : Int32)) m_s m_trace) fun t92 m_traced_92 m_isParted_92 m_trace_92 =>
            f7_voice_95 m_s t92 m_traced_92 x1 m_isParted_92 m_errors m_trace_92
          )
        )
      )
    )
  )
def f7_body_28 (m_traced : Int32) (m_trace : (Nat → Int32)) (s0 : Int32) (m_errors : (Nat → Int32)) : Option (Int32 × (Nat → Int32)) :=
  some (s0, m_errors)
def f7_body (x1 : Int32) (m_traced : Int32) (m_errors : (Nat → Int32)) (m_trace : (Nat → Int32)) : Option (Int32 × (Nat → Int32)) :=
  q_c (f7_in x1 ((0 : Int32)) (m_traced - ((1 : Int32)))) fun t8 =>
  if t8 = 0 then (
    q_c2 (f7_error ((2 : Int32)) m_errors) fun t25 m_errors_25 =>
    f7_body_28 m_traced m_trace t25 m_errors_25
  ) else (
    q_ld m_trace 30 x1 fun t19 =>
    f7_body_28 m_traced m_trace t19 m_errors
  )
def f7_isSheet (x0 : Int32) : Option (Int32) :=
  q_c (f7_in x0 ((0 : Int32)) ((3 : Int32))) fun t3 =>
  q_bz t3 <|
  some t3
def f7_sheet_90 (n : Nat) : Nat → Int32 → Int32 → (Nat → Int32) → (Nat → Int32) → (Nat → Int32) → (Nat → Int32) → Option (Int32 × (Nat → Int32) × (Nat → Int32) × (Nat → Int32) × (Nat → Int32))
  | 0, _, _, _, _, _, _ => none
  | kk + 1, x1, x4, m_errors, m_bits, m_sizes, m_number =>
    if ((24 : Int32)) ≤ x4 then (
      some ((1 : Int32), m_errors, m_bits, m_sizes, m_number)
    ) else (
      q_st m_number 96 ((((24 : Int32)) * x1) + x4) ((0 : Int32)) fun m_number_109 =>
      q_lt (x4 + (1 : Int32)) fun x4_110 =>
      f7_sheet_90 n kk x1 x4_110 m_errors m_bits m_sizes m_number_109
    )
def f7_sheet_86 (n : Nat) (x1 : Int32) (s1 : Int32) (s2 : Int32) (m_errors : (Nat → Int32)) (m_bits : (Nat → Int32)) (m_sizes : (Nat → Int32)) (m_number : (Nat → Int32)) : Option (Int32 × (Nat → Int32) × (Nat → Int32) × (Nat → Int32) × (Nat → Int32)) :=
  q_st m_sizes 4 s1 s2 fun m_sizes_86 =>
  f7_sheet_90 n n x1 ((0 : Int32)) m_errors m_bits m_sizes_86 m_number
def f7_sheet_65 (n : Nat) (x1 : Int32) (x2 : Int32) (x3 : Int32) (m_errors : (Nat → Int32)) (m_bits : (Nat → Int32)) (m_sizes : (Nat → Int32)) (m_number : (Nat → Int32)) : Option (Int32 × (Nat → Int32) × (Nat → Int32) × (Nat → Int32) × (Nat → Int32)) :=
  q_st m_bits 4 x1 x2 fun m_bits_71 =>
  if x2 = 0 then (
    f7_sheet_86 n x1 x1 ((0 : Int32)) m_errors m_bits_71 m_sizes m_number
  ) else (
    f7_sheet_86 n x1 x1 x3 m_errors m_bits_71 m_sizes m_number
  )
def f7_sheet_49 (n : Nat) (x1 : Int32) (x2 : Int32) (x3 : Int32) (m_errors : (Nat → Int32)) (m_bits : (Nat → Int32)) (m_sizes : (Nat → Int32)) (m_number : (Nat → Int32)) : Option (Int32 × (Nat → Int32) × (Nat → Int32) × (Nat → Int32) × (Nat → Int32)) :=
  if x2 = 0 then (
    f7_sheet_65 n x1 x2 x3 m_errors m_bits m_sizes m_number
  ) else (
    if x3 ≤ ((24 : Int32)) then (
      f7_sheet_65 n x1 x2 x3 m_errors m_bits m_sizes m_number
    ) else (
      q_c2 (f7_error ((1 : Int32)) m_errors) fun t61 m_errors_61 =>
      some (t61, m_errors_61, m_bits, m_sizes, m_number)
    )
  )
def f7_sheet_35 (n : Nat) (x1 : Int32) (x2 : Int32) (x3 : Int32) (m_errors : (Nat → Int32)) (m_bits : (Nat → Int32)) (m_sizes : (Nat → Int32)) (m_number : (Nat → Int32)) : Option (Int32 × (Nat → Int32) × (Nat → Int32) × (Nat → Int32) × (Nat → Int32)) :=
  if x2 = 0 then (
    f7_sheet_49 n x1 x2 x3 m_errors m_bits m_sizes m_number
  ) else (
    if 0 ≤ x3 then (
      f7_sheet_49 n x1 x2 x3 m_errors m_bits m_sizes m_number
    ) else (
      q_c2 (f7_error ((3 : Int32)) m_errors) fun t45 m_errors_45 =>
      some (t45, m_errors_45, m_bits, m_sizes, m_number)
    )
  )
def f7_sheet_29 (n : Nat) (m_errors : (Nat → Int32)) (m_bits : (Nat → Int32)) (m_sizes : (Nat → Int32)) (m_number : (Nat → Int32)) : Option (Int32 × (Nat → Int32) × (Nat → Int32) × (Nat → Int32) × (Nat → Int32)) :=
  q_c2 (f7_error ((1 : Int32)) m_errors) fun t31 m_errors_31 =>
  some (t31, m_errors_31, m_bits, m_sizes, m_number)
def f7_sheet (n : Nat) (x1 : Int32) (x2 : Int32) (x3 : Int32) (m_errors : (Nat → Int32)) (m_bits : (Nat → Int32)) (m_sizes : (Nat → Int32)) (m_number : (Nat → Int32)) : Option (Int32 × (Nat → Int32) × (Nat → Int32) × (Nat → Int32) × (Nat → Int32)) :=
  q_c (f7_isSheet x1) fun t1 =>
  if t1 = 0 then (
    f7_sheet_29 n m_errors m_bits m_sizes m_number
  ) else (
    if x2 = 0 then (
      f7_sheet_35 n x1 x2 x3 m_errors m_bits m_sizes m_number
    ) else (
      if x2 = ((8 : Int32)) then (
        f7_sheet_35 n x1 x2 x3 m_errors m_bits m_sizes m_number
      ) else (
        if x2 = ((16 : Int32)) then (
          f7_sheet_35 n x1 x2 x3 m_errors m_bits m_sizes m_number
        ) else (
          if x2 = ((32 : Int32)) then (
            f7_sheet_35 n x1 x2 x3 m_errors m_bits m_sizes m_number
          ) else (
            f7_sheet_29 n m_errors m_bits m_sizes m_number
          )
        )
      )
    )
  )
def f7_put (x1 : Int32) (x2 : Int32) (x3 : Int32) (m_errors : (Nat → Int32)) (m_bits : (Nat → Int32)) (m_sizes : (Nat → Int32)) (m_number : (Nat → Int32)) : Option (Int32 × (Nat → Int32) × (Nat → Int32)) :=
  q_c (f7_isSheet x1) fun t1 =>
  if t1 = 0 then (
    q_c2 (f7_error ((1 : Int32)) m_errors) fun t9 m_errors_9 =>
    some (t9, m_errors_9, m_number)
  ) else (
    q_ld m_bits 4 x1 fun t18 =>
    if t18 = 0 then (
      q_c2 (f7_error ((2 : Int32)) m_errors) fun t24 m_errors_24 =>
      some (t24, m_errors_24, m_number)
    ) else (
      q_ld m_sizes 4 x1 fun t35 =>
      q_c (f7_in x2 ((0 : Int32)) (t35 - ((1 : Int32)))) fun t38 =>
      if t38 = 0 then (
        q_c2 (f7_error ((1 : Int32)) m_errors) fun t46 m_errors_46 =>
        some (t46, m_errors_46, m_number)
      ) else (
        q_ld m_bits 4 x1 fun t57 =>
        q_lt (((32 : Int32)) - t57) fun x4_59 =>
        q_st m_number 96 ((((24 : Int32)) * x1) + x2) ((x3 <<< (x4_59 &&& 31)) >>> (x4_59 &&& 31)) fun m_number_78 =>
        some ((1 : Int32), m_errors, m_number_78)
      )
    )
  )
def f7_move_152 (n : Nat) (m_bits : (Nat → Int32)) (m_sizes : (Nat → Int32)) : Nat → Int32 → Int32 → Int32 → Int32 → (Nat → Int32) → (Nat → Int32) → (Nat → Int32) → Option (Int32 × (Nat → Int32) × (Nat → Int32) × (Nat → Int32))
  | 0, _, _, _, _, _, _, _ => none
  | kk + 1, x3, x4, x5, x6, m_errors, m_number, m_aside =>
    if x5 ≤ x6 then (
      some (x5, m_errors, m_number, m_aside)
    ) else (
      q_ld m_aside 24 x6 fun t179 =>
      q_st m_number 96 (((((24 : Int32)) * x3) + x4) + x6) t179 fun m_number_180 =>
      q_lt (x6 + (1 : Int32)) fun x6_181 =>
      f7_move_152 n m_bits m_sizes kk x3 x4 x5 x6_181 m_errors m_number_180 m_aside
    )
def f7_move_115 (n : Nat) (m_bits : (Nat → Int32)) (m_sizes : (Nat → Int32)) : Nat → Int32 → Int32 → Int32 → Int32 → Int32 → Int32 → (Nat → Int32) → (Nat → Int32) → (Nat → Int32) → Option (Int32 × (Nat → Int32) × (Nat → Int32) × (Nat → Int32))
  | 0, _, _, _, _, _, _, _, _, _ => none
  | kk + 1, x1, x2, x3, x4, x5, x6, m_errors, m_number, m_aside =>
    if x5 ≤ x6 then (
      f7_move_152 n m_bits m_sizes n x3 x4 x5 ((0 : Int32)) m_errors m_number m_aside
    ) else (
      q_ld m_number 96 (((((24 : Int32)) * x1) + x2) + x6) fun t141 =>
      q_st m_aside 24 x6 t141 fun m_aside_142 =>
      q_lt (x6 + (1 : Int32)) fun x6_143 =>
      f7_move_115 n m_bits m_sizes kk x1 x2 x3 x4 x5 x6_143 m_errors m_number m_aside_142
    )
def f7_move_106 (n : Nat) (m_bits : (Nat → Int32)) (m_sizes : (Nat → Int32)) (m_errors : (Nat → Int32)) (m_number : (Nat → Int32)) (m_aside : (Nat → Int32)) : Option (Int32 × (Nat → Int32) × (Nat → Int32) × (Nat → Int32)) :=
  q_c2 (f7_error ((1 : Int32)) m_errors) fun t108 m_errors_108 =>
  some (t108, m_errors_108, m_number, m_aside)
def f7_move_38 (n : Nat) (m_bits : (Nat → Int32)) (m_sizes : (Nat → Int32)) (m_errors : (Nat → Int32)) (m_number : (Nat → Int32)) (m_aside : (Nat → Int32)) : Option (Int32 × (Nat → Int32) × (Nat → Int32) × (Nat → Int32)) :=
  q_c2 (f7_error ((2 : Int32)) m_errors) fun t40 m_errors_40 =>
  some (t40, m_errors_40, m_number, m_aside)
def f7_move_14 (n : Nat) (m_bits : (Nat → Int32)) (m_sizes : (Nat → Int32)) (m_errors : (Nat → Int32)) (m_number : (Nat → Int32)) (m_aside : (Nat → Int32)) : Option (Int32 × (Nat → Int32) × (Nat → Int32) × (Nat → Int32)) :=
  q_c2 (f7_error ((1 : Int32)) m_errors) fun t16 m_errors_16 =>
  some (t16, m_errors_16, m_number, m_aside)
def f7_move (n : Nat) (x1 : Int32) (x2 : Int32) (x3 : Int32) (x4 : Int32) (x5 : Int32) (m_errors : (Nat → Int32)) (m_bits : (Nat → Int32)) (m_sizes : (Nat → Int32)) (m_number : (Nat → Int32)) (m_aside : (Nat → Int32)) : Option (Int32 × (Nat → Int32) × (Nat → Int32) × (Nat → Int32)) :=
  q_c (f7_isSheet x1) fun t1 =>
  if t1 = 0 then (
    f7_move_14 n m_bits m_sizes m_errors m_number m_aside
  ) else (
    q_c (f7_isSheet x3) fun t8 =>
    if t8 = 0 then (
      f7_move_14 n m_bits m_sizes m_errors m_number m_aside
    ) else (
      q_ld m_bits 4 x1 fun t25 =>
      if t25 = 0 then (
        f7_move_38 n m_bits m_sizes m_errors m_number m_aside
      ) else (
        q_ld m_bits 4 x3 fun t34 =>
        if t34 = 0 then (
          f7_move_38 n m_bits m_sizes m_errors m_number m_aside
        ) else (
          q_ld m_bits 4 x1 fun t49 =>
          q_ld m_bits 4 x3 fun t55 =>
          if t49 = t55 then (
            if x5 < 0 then (
              f7_move_106 n m_bits m_sizes m_errors m_number m_aside
            ) else (
              if x2 < 0 then (
                f7_move_106 n m_bits m_sizes m_errors m_number m_aside
              ) else (
                if x4 < 0 then (
                  f7_move_106 n m_bits m_sizes m_errors m_number m_aside
                ) else (
                  q_ld m_sizes 4 x1 fun t85 =>
                  if (t85 - x5) < x2 then (
                    f7_move_106 n m_bits m_sizes m_errors m_number m_aside
                  ) else (
                    q_ld m_sizes 4 x3 fun t99 =>
                    if x4 ≤ (t99 - x5) then (
                      f7_move_115 n m_bits m_sizes n x1 x2 x3 x4 x5 ((0 : Int32)) m_errors m_number m_aside
                    ) else (
                      f7_move_106 n m_bits m_sizes m_errors m_number m_aside
                    )
                  )
                )
              )
            )
          ) else (
            q_c2 (f7_error ((5 : Int32)) m_errors) fun t61 m_errors_61 =>
            some (t61, m_errors_61, m_number, m_aside)
          )
        )
      )
    )
  )
def f7_words_143 (n : Nat) (m_bits : (Nat → Int32)) (m_sizes : (Nat → Int32)) (m_number : (Nat → Int32)) (x3 : Int32) (m_newMany : Int32) (m_s : (Nat → Int32)) (m_errors : (Nat → Int32)) (m_newWord : (Nat → Int32)) (m_newOrigin : (Nat → Int32)) (m_named : (Nat → Int32)) (m_pile : (Nat → Int32)) (m_undoneBy : (Nat → Int32)) : Option (Int32 × Int32 × (Nat → Int32) × (Nat → Int32) × (Nat → Int32) × (Nat → Int32) × (Nat → Int32) × (Nat → Int32) × (Nat → Int32)) :=
  some (x3, m_newMany, m_s, m_errors, m_newWord, m_newOrigin, m_named, m_pile, m_undoneBy)
def f7_words_137 (n : Nat) (m_bits : (Nat → Int32)) (m_sizes : (Nat → Int32)) (m_number : (Nat → Int32)) (k43 : Int32 → Int32 → Int32 → Int32 → Int32 → Int32 → (Nat → Int32) → (Nat → Int32) → (Nat → Int32) → (Nat → Int32) → (Nat → Int32) → (Nat → Int32) → (Nat → Int32) → Option (Int32 × Int32 × (Nat → Int32) × (Nat → Int32) × (Nat → Int32) × (Nat → Int32) × (Nat → Int32) × (Nat → Int32) × (Nat → Int32))) (x1 : Int32) (x2 : Int32) (x3 : Int32) (x4 : Int32) (x5 : Int32) (m_newMany : Int32) (m_s : (Nat → Int32)) (m_errors : (Nat → Int32)) (m_newWord : (Nat → Int32)) (m_newOrigin : (Nat → Int32)) (m_named : (Nat → Int32)) (m_pile : (Nat → Int32)) (m_undoneBy : (Nat → Int32)) : Option (Int32 × Int32 × (Nat → Int32) × (Nat → Int32) × (Nat → Int32) × (Nat → Int32) × (Nat → Int32) × (Nat → Int32) × (Nat → Int32)) :=
  q_lt (x5 + (1 : Int32)) fun x5_137 =>
  k43 x1 x2 x3 x4 x5_137 m_newMany m_s m_errors m_newWord m_newOrigin m_named m_pile m_undoneBy
def f7_words_113 (n : Nat) (m_bits : (Nat → Int32)) (m_sizes : (Nat → Int32)) (m_number : (Nat → Int32)) (k43 : Int32 → Int32 → Int32 → Int32 → Int32 → Int32 → (Nat → Int32) → (Nat → Int32) → (Nat → Int32) → (Nat → Int32) → (Nat → Int32) → (Nat → Int32) → (Nat → Int32) → Option (Int32 × Int32 × (Nat → Int32) × (Nat → Int32) × (Nat → Int32) × (Nat → Int32) × (Nat → Int32) × (Nat → Int32) × (Nat → Int32))) (x1 : Int32) (x2 : Int32) (x3 : Int32) (x5 : Int32) (x6 : Int32) (s0 : Int32) (m_newMany : Int32) (m_s : (Nat → Int32)) (m_errors : (Nat → Int32)) (m_newWord : (Nat → Int32)) (m_newOrigin : (Nat → Int32)) (m_named : (Nat → Int32)) (m_pile : (Nat → Int32)) (m_undoneBy : (Nat → Int32)) : Option (Int32 × Int32 × (Nat → Int32) × (Nat → Int32) × (Nat → Int32) × (Nat → Int32) × (Nat → Int32) × (Nat → Int32) × (Nat → Int32)) :=
  if s0 = 0 then (
    f7_words_137 n m_bits m_sizes m_number k43 x1 x2 x3 s0 x5 m_newMany m_s m_errors m_newWord m_newOrigin m_named m_pile m_undoneBy
  ) else (
    q_c (f7_page m_s) fun t124 =>
    q_c8 (f7_writes n ((1 : Int32)) x2 t124 x6 m_newMany m_s m_newWord m_newOrigin m_named m_pile m_undoneBy) fun t129 m_newMany_129 m_s_129 m_newWord_129 m_newOrigin_129 m_named_129 m_pile_129 m_undoneBy_129 =>
    q_lt (x3 + (1 : Int32)) fun x3_134 =>
    f7_words_137 n m_bits m_sizes m_number k43 x1 x2 x3_134 s0 x5 m_newMany_129 m_s_129 m_errors m_newWord_129 m_newOrigin_129 m_named_129 m_pile_129 m_undoneBy_129
  )
def f7_words_112 (n : Nat) (m_bits : (Nat → Int32)) (m_sizes : (Nat → Int32)) (m_number : (Nat → Int32)) (k43 : Int32 → Int32 → Int32 → Int32 → Int32 → Int32 → (Nat → Int32) → (Nat → Int32) → (Nat → Int32) → (Nat → Int32) → (Nat → Int32) → (Nat → Int32) → (Nat → Int32) → Option (Int32 × Int32 × (Nat → Int32) × (Nat → Int32) × (Nat → Int32) × (Nat → Int32) × (Nat → Int32) × (Nat → Int32) × (Nat → Int32))) (x1 : Int32) (x2 : Int32) (x3 : Int32) (x5 : Int32) (x6 : Int32) (m_newMany : Int32) (m_s : (Nat → Int32)) (m_errors : (Nat → Int32)) (m_newWord : (Nat → Int32)) (m_newOrigin : (Nat → Int32)) (m_named : (Nat → Int32)) (m_pile : (Nat → Int32)) (m_undoneBy : (Nat → Int32)) : Option (Int32 × Int32 × (Nat → Int32) × (Nat → Int32) × (Nat → Int32) × (Nat → Int32) × (Nat → Int32) × (Nat → Int32) × (Nat → Int32)) :=
  f7_words_113 n m_bits m_sizes m_number k43 x1 x2 x3 x5 x6 ((0 : Int32)) m_newMany m_s m_errors m_newWord m_newOrigin m_named m_pile m_undoneBy
def f7_words_43 (n : Nat) (m_bits : (Nat → Int32)) (m_sizes : (Nat → Int32)) (m_number : (Nat → Int32)) : Nat → Int32 → Int32 → Int32 → Int32 → Int32 → Int32 → (Nat → Int32) → (Nat → Int32) → (Nat → Int32) → (Nat → Int32) → (Nat → Int32) → (Nat → Int32) → (Nat → Int32) → Option (Int32 × Int32 × (Nat → Int32) × (Nat → Int32) × (Nat → Int32) × (Nat → Int32) × (Nat → Int32) × (Nat → Int32) × (Nat → Int32))
  | 0, _, _, _, _, _, _, _, _, _, _, _, _, _ => none
  | kk + 1, x1, x2, x3, x4, x5, m_newMany, m_s, m_errors, m_newWord, m_newOrigin, m_named, m_pile, m_undoneBy =>
    q_ld m_sizes 4 x1 fun t50 =>
    if t50 ≤ x5 then (
      f7_words_143 n m_bits m_sizes m_number x3 m_newMany m_s m_errors m_newWord m_newOrigin m_named m_pile m_undoneBy
    ) else (
      if x4 = 0 then (
        f7_words_143 n m_bits m_sizes m_number x3 m_newMany m_s m_errors m_newWord m_newOrigin m_named m_pile m_undoneBy
      ) else (
        q_ld m_number 96 ((((24 : Int32)) * x1) + x5) fun t70 =>
        q_c (f7_in t70 ((1 : Int32)) ((60 : Int32))) fun t78 =>
        if t78 = 0 then (
          f7_words_112 n m_bits m_sizes m_number (f7_words_43 n m_bits m_sizes m_number kk) x1 x2 x3 x5 t70 m_newMany m_s m_errors m_newWord m_newOrigin m_named m_pile m_undoneBy
        ) else (
          q_c3 (f7_mayAct n x2 m_s m_named m_pile) fun t86 m_named_86 m_pile_86 =>
          if t86 = 0 then (
            f7_words_112 n m_bits m_sizes m_number (f7_words_43 n m_bits m_sizes m_number kk) x1 x2 x3 x5 t70 m_newMany m_s m_errors m_newWord m_newOrigin m_named_86 m_pile_86 m_undoneBy
          ) else (
            q_c (f7_isFull m_s) fun t93 =>
            if t93 = 0 then (
              q_c (f7_page m_s) fun t100 =>
              if ((20 : Int32)) ≤ t100 then (
                f7_words_112 n m_bits m_sizes m_number (f7_words_43 n m_bits m_sizes m_number kk) x1 x2 x3 x5 t70 m_newMany m_s m_errors m_newWord m_newOrigin m_named_86 m_pile_86 m_undoneBy
              ) else (
                f7_words_113 n m_bits m_sizes m_number (f7_words_43 n m_bits m_sizes m_number kk) x1 x2 x3 x5 t70 ((1 : Int32)) m_newMany m_s m_errors m_newWord m_newOrigin m_named_86 m_pile_86 m_undoneBy
              )
            ) else (
              f7_words_112 n m_bits m_sizes m_number (f7_words_43 n m_bits m_sizes m_number kk) x1 x2 x3 x5 t70 m_newMany m_s m_errors m_newWord m_newOrigin m_named_86 m_pile_86 m_undoneBy
            )
          )
        )
      )
    )
def f7_words_14 (n : Nat) (m_bits : (Nat → Int32)) (m_sizes : (Nat → Int32)) (m_number : (Nat → Int32)) (m_newMany : Int32) (m_s : (Nat → Int32)) (m_errors : (Nat → Int32)) (m_newWord : (Nat → Int32)) (m_newOrigin : (Nat → Int32)) (m_named : (Nat → Int32)) (m_pile : (Nat → Int32)) (m_undoneBy : (Nat → Int32)) : Option (Int32 × Int32 × (Nat → Int32) × (Nat → Int32) × (Nat → Int32) × (Nat → Int32) × (Nat → Int32) × (Nat → Int32) × (Nat → Int32)) :=
  q_c2 (f7_error ((1 : Int32)) m_errors) fun t16 m_errors_16 =>
  some (t16, m_newMany, m_s, m_errors_16, m_newWord, m_newOrigin, m_named, m_pile, m_undoneBy)
def f7_words (n : Nat) (x1 : Int32) (x2 : Int32) (m_newMany : Int32) (m_s : (Nat → Int32)) (m_errors : (Nat → Int32)) (m_newWord : (Nat → Int32)) (m_newOrigin : (Nat → Int32)) (m_named : (Nat → Int32)) (m_pile : (Nat → Int32)) (m_undoneBy : (Nat → Int32)) (m_bits : (Nat → Int32)) (m_sizes : (Nat → Int32)) (m_number : (Nat → Int32)) : Option (Int32 × Int32 × (Nat → Int32) × (Nat → Int32) × (Nat → Int32) × (Nat → Int32) × (Nat → Int32) × (Nat → Int32) × (Nat → Int32)) :=
  q_c (f7_isSheet x1) fun t1 =>
  if t1 = 0 then (
    f7_words_14 n m_bits m_sizes m_number m_newMany m_s m_errors m_newWord m_newOrigin m_named m_pile m_undoneBy
  ) else (
    q_c (f7_isWriter x2) fun t8 =>
    if t8 = 0 then (
      f7_words_14 n m_bits m_sizes m_number m_newMany m_s m_errors m_newWord m_newOrigin m_named m_pile m_undoneBy
    ) else (
      q_ld m_bits 4 x1 fun t25 =>
      if t25 = 0 then (
        q_c2 (f7_error ((2 : Int32)) m_errors) fun t31 m_errors_31 =>
        some (t31, m_newMany, m_s, m_errors_31, m_newWord, m_newOrigin, m_named, m_pile, m_undoneBy)
      ) else (
        f7_words_43 n m_bits m_sizes m_number n x1 x2 ((0 : Int32)) ((1 : Int32)) ((0 : Int32)) m_newMany m_s m_errors m_newWord m_newOrigin m_named m_pile m_undoneBy
      )
    )
  )
def f7_image_2 (n : Nat) (m_s : (Nat → Int32)) : Nat → Int32 → Int32 → (Nat → Int32) → Option (Int32 × Int32 × (Nat → Int32))
  | 0, _, _, _ => none
  | kk + 1, x1, m_images, m_kept =>
    if ((3974 : Int32)) ≤ x1 then (
      q_lt (m_images + ((1 : Int32))) fun m_images_34 =>
      some (m_images_34, m_images_34, m_kept)
    ) else (
      q_ld m_s 3974 x1 fun t19 =>
      q_st m_kept 3974 x1 t19 fun m_kept_20 =>
      q_lt (x1 + (1 : Int32)) fun x1_21 =>
      f7_image_2 n m_s kk x1_21 m_images m_kept_20
    )
def f7_image (n : Nat) (m_images : Int32) (m_s : (Nat → Int32)) (m_kept : (Nat → Int32)) : Option (Int32 × Int32 × (Nat → Int32)) :=
  f7_image_2 n m_s n ((0 : Int32)) m_images m_kept
def f7_restore_15 (n : Nat) (m_images : Int32) (m_kept : (Nat → Int32)) : Nat → Int32 → (Nat → Int32) → (Nat → Int32) → Option (Int32 × (Nat → Int32) × (Nat → Int32))
  | 0, _, _, _ => none
  | kk + 1, x1, m_s, m_errors =>
    if ((3974 : Int32)) ≤ x1 then (
      q_ld m_s 3974 ((0 : Int32)) fun t45 =>
      some (t45, m_s, m_errors)
    ) else (
      q_ld m_kept 3974 x1 fun t32 =>
      q_st m_s 3974 x1 t32 fun m_s_33 =>
      q_lt (x1 + (1 : Int32)) fun x1_34 =>
      f7_restore_15 n m_images m_kept kk x1_34 m_s_33 m_errors
    )
def f7_restore (n : Nat) (m_images : Int32) (m_s : (Nat → Int32)) (m_kept : (Nat → Int32)) (m_errors : (Nat → Int32)) : Option (Int32 × (Nat → Int32) × (Nat → Int32)) :=
  if m_images = 0 then (
    q_c2 (f7_error ((2 : Int32)) m_errors) fun t9 m_errors_9 =>
    some (t9, m_s, m_errors_9)
  ) else (
    f7_restore_15 n m_images m_kept n ((0 : Int32)) m_s m_errors
  )
def f7_tell (x1 : Int32) (m_s : (Nat → Int32)) (m_errors : (Nat → Int32)) : Option (Int32 × (Nat → Int32) × (Nat → Int32)) :=
  q_ld m_s 3974 ((5 : Int32)) fun t5 =>
  if t5 = ((24 : Int32)) then (
    q_c2 (f7_error ((4 : Int32)) m_errors) fun t13 m_errors_13 =>
    some (t13, m_s, m_errors_13)
  ) else (
    q_ld m_s 3974 ((5 : Int32)) fun t29 =>
    q_st m_s 3974 (((3950 : Int32)) + t29) x1 fun m_s_32 =>
    q_ld m_s_32 3974 ((5 : Int32)) fun t39 =>
    q_st m_s_32 3974 ((5 : Int32)) (t39 + ((1 : Int32))) fun m_s_42 =>
    q_ld m_s_42 3974 ((5 : Int32)) fun t48 =>
    some (t48, m_s_42, m_errors)
  )
def f7_check_90 (n : Nat) (s0 : Int32) (m_s : (Nat → Int32)) (m_errors : (Nat → Int32)) : Option (Int32 × (Nat → Int32) × (Nat → Int32)) :=
  some (s0, m_s, m_errors)
def f7_check_87 (n : Nat) (x3 : Int32) (m_s : (Nat → Int32)) (m_errors : (Nat → Int32)) : Option (Int32 × (Nat → Int32) × (Nat → Int32)) :=
  f7_check_90 n (((1 : Int32)) + x3) m_s m_errors
def f7_check_69 (n : Nat) (x1 : Int32) (x2 : Int32) (x3 : Int32) (m_s : (Nat → Int32)) (m_errors : (Nat → Int32)) : Option (Int32 × (Nat → Int32) × (Nat → Int32)) :=
  if x3 = x2 then (
    q_c (f7_sizeOf x1 m_s) fun t77 =>
    if x3 = t77 then (
      f7_check_90 n ((0 : Int32)) m_s m_errors
    ) else (
      f7_check_87 n x3 m_s m_errors
    )
  ) else (
    f7_check_87 n x3 m_s m_errors
  )
def f7_check_30 (n : Nat) : Nat → Int32 → Int32 → Int32 → (Nat → Int32) → (Nat → Int32) → Option (Int32 × (Nat → Int32) × (Nat → Int32))
  | 0, _, _, _, _, _ => none
  | kk + 1, x1, x2, x3, m_s, m_errors =>
    if x2 ≤ x3 then (
      f7_check_69 n x1 x2 x3 m_s m_errors
    ) else (
      q_c (f7_sizeOf x1 m_s) fun t38 =>
      if t38 ≤ x3 then (
        f7_check_69 n x1 x2 x3 m_s m_errors
      ) else (
        q_ld m_s 3974 (((3950 : Int32)) + x3) fun t53 =>
        q_c (f7_wordAt x1 x3 m_s) fun t57 =>
        if t53 = t57 then (
          q_lt (x3 + (1 : Int32)) fun x3_63 =>
          f7_check_30 n kk x1 x2 x3_63 m_s m_errors
        ) else (
          f7_check_69 n x1 x2 x3 m_s m_errors
        )
      )
    )
def f7_check (n : Nat) (x1 : Int32) (m_s : (Nat → Int32)) (m_errors : (Nat → Int32)) : Option (Int32 × (Nat → Int32) × (Nat → Int32)) :=
  q_ld m_s 3974 ((5 : Int32)) fun t5 =>
  q_st m_s 3974 ((5 : Int32)) ((0 : Int32)) fun m_s_13 =>
  q_c (f7_isVersion x1 m_s_13) fun t16 =>
  if t16 = 0 then (
    q_c2 (f7_error ((1 : Int32)) m_errors) fun t24 m_errors_24 =>
    some (t24, m_s_13, m_errors_24)
  ) else (
    f7_check_30 n n x1 t5 ((0 : Int32)) m_s_13 m_errors
  )
def f7_count (x1 : Int32) (m_traced : Int32) (m_s : (Nat → Int32)) (m_errors : (Nat → Int32)) : Option (Int32 × (Nat → Int32)) :=
  if x1 = (0 : Int32) then (
    q_ld m_s 3974 ((0 : Int32)) fun t53 =>
    some (t53, m_errors)
  ) else (
  if x1 = (1 : Int32) then (
    q_ld m_s 3974 ((1 : Int32)) fun t60 =>
    some (t60, m_errors)
  ) else (
  if x1 = (2 : Int32) then (
    q_c (f7_page m_s) fun t63 =>
    some (t63, m_errors)
  ) else (
  if x1 = (3 : Int32) then (
    q_ld m_s 3974 ((2 : Int32)) fun t72 =>
    some (t72, m_errors)
  ) else (
  if x1 = (4 : Int32) then (
    q_ld m_s 3974 ((4 : Int32)) fun t79 =>
    some (t79, m_errors)
  ) else (
  if x1 = (5 : Int32) then (
    q_ld m_s 3974 ((5 : Int32)) fun t86 =>
    some (t86, m_errors)
  ) else (
  if x1 = (6 : Int32) then (
    some (m_traced, m_errors)
  ) else (
  if x1 = (7 : Int32) then (
    q_ld m_s 3974 ((6 : Int32)) fun t99 =>
    some (t99, m_errors)
  ) else (
    q_c2 (f7_error ((1 : Int32)) m_errors) fun t103 m_errors_103 =>
    some (t103, m_errors_103)
  ))))))))
def f7_told_24 (s0 : Int32) (m_errors : (Nat → Int32)) : Option (Int32 × (Nat → Int32)) :=
  some (s0, m_errors)
def f7_told (x1 : Int32) (m_errors : (Nat → Int32)) : Option (Int32 × (Nat → Int32)) :=
  q_c (f7_in x1 ((1 : Int32)) ((6 : Int32))) fun t4 =>
  if t4 = 0 then (
    q_c2 (f7_error ((1 : Int32)) m_errors) fun t21 m_errors_21 =>
    f7_told_24  t21 m_errors_21
  ) else (
    q_ld m_errors 7 x1 fun t15 =>
    f7_told_24  t15 m_errors
  )
