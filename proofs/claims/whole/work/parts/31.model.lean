set_option maxHeartbeats 4000000 in
set_option maxRecDepth 100000 in
theorem kX4_in (l : Launch) (D : va_G) (ty : zTy) (ws : va_W) (x p q : Int32) : zv_ct l D ty yX4_in cX4_in 3 (some .boolean) (zR 0 0) [.int x, .int p, .int q] (ws) (fun v_ w_ => v_ = some (.int (zB (p ≤ x ∧ x ≤ q))) ∧ w_ = ws) := by
  refine zv_open (by decide) rfl rfl [some (.int x), some (.int p), some (.int q)] (by simp [zv_one, Value.category]) (zle rfl) rfl ?_
  intro k K T
  refine zv_iload_n K 1 dX4_in_0 rfl rfl ?_
  refine zv_iload_n K 2 dX4_in_1 rfl rfl ?_
  refine zv_icmp_lt K 14 5 dX4_in_2 (by decide) rfl (fun h1 => ?_) (fun h1 => ?_)
  · skip
    refine zv_iconst K 0 15 dX4_in_14 rfl (by decide) ?_
    exact zv_zret K T dX4_in_15 rfl (⟨congrArg (fun z => some (Value.int z)) (Eq.symm (zB_f (by simp only [Int32.lt_iff_toInt_lt, Int32.le_iff_toInt_le] at *; omega))), rfl⟩)
  · skip
    refine zv_iload_n K 6 dX4_in_5 rfl rfl ?_
    refine zv_iload_n K 7 dX4_in_6 rfl rfl ?_
    refine zv_icmp_gt K 14 10 dX4_in_7 (by decide) rfl (fun h2 => ?_) (fun h2 => ?_)
    · skip
      refine zv_iconst K 0 15 dX4_in_14 rfl (by decide) ?_
      exact zv_zret K T dX4_in_15 rfl (⟨congrArg (fun z => some (Value.int z)) (Eq.symm (zB_f (by simp only [Int32.lt_iff_toInt_lt, Int32.le_iff_toInt_le] at *; omega))), rfl⟩)
    · skip
      refine zv_iconst K 1 11 dX4_in_10 rfl (by decide) ?_
      refine zv_goto K 15 dX4_in_11 (by decide) ?_
      exact zv_zret K T dX4_in_15 rfl (⟨congrArg (fun z => some (Value.int z)) (Eq.symm (zB_t (by simp only [Int32.lt_iff_toInt_lt, Int32.le_iff_toInt_le] at *; omega))), rfl⟩)

set_option maxHeartbeats 4000000 in
set_option maxRecDepth 100000 in
theorem kX4_isVein (l : Launch) (D : va_G) (ty : zTy) (ws : va_W) (x : Int32) : zv_ct l D ty yX4_isVein cX4_isVein 1 (some .boolean) (zR 1 22) [.int x] (ws) (fun v_ w_ => v_ = some (.int (zB (0 ≤ x ∧ x ≤ 3))) ∧ w_ = ws) := by
  refine zv_open (by decide) rfl rfl [some (.int x)] (by simp [zv_one, Value.category]) (zle rfl) rfl ?_
  intro k K T
  refine zv_iload_n K 1 dX4_isVein_0 rfl rfl ?_
  refine zv_iconst K 0 2 dX4_isVein_1 rfl (by decide) ?_
  refine zv_iconst K 3 3 dX4_isVein_2 rfl (by decide) ?_
  refine zv_cS1 K (As := [.int x, .int 0, .int 3]) (rest := []) 3 6 (kX4_in l D ty (ws) x 0 3) dX4_isVein_3 rfl zw_3_47 zw_3_48 zw_1_5 zw_3_49 ⟨rfl, rfl⟩ zh_yX4_in ⟨by decide, by decide⟩ rfl rfl (zle rfl) rfl ?_
  exact zv_zret K T dX4_isVein_6 zB_nar (⟨rfl, rfl⟩)

set_option maxHeartbeats 4000000 in
set_option maxRecDepth 100000 in
theorem kX4_isFoot (l : Launch) (D : va_G) (ty : zTy) (ws : va_W) (x : Int32) : zv_ct l D ty yX4_isFoot cX4_isFoot 1 (some .boolean) (zR 1 22) [.int x] (ws) (fun v_ w_ => v_ = some (.int (zB (0 ≤ x ∧ x ≤ 59))) ∧ w_ = ws) := by
  refine zv_open (by decide) rfl rfl [some (.int x)] (by simp [zv_one, Value.category]) (zle rfl) rfl ?_
  intro k K T
  refine zv_iload_n K 1 dX4_isFoot_0 rfl rfl ?_
  refine zv_iconst K 0 2 dX4_isFoot_1 rfl (by decide) ?_
  refine zv_bipush K 59 4 dX4_isFoot_2 rfl (by decide) ?_
  refine zv_cS1 K (As := [.int x, .int 0, .int 59]) (rest := []) 3 7 (kX4_in l D ty (ws) x 0 59) dX4_isFoot_4 rfl zw_3_47 zw_3_48 zw_1_5 zw_3_49 ⟨rfl, rfl⟩ zh_yX4_in ⟨by decide, by decide⟩ rfl rfl (zle rfl) rfl ?_
  exact zv_zret K T dX4_isFoot_7 zB_nar (⟨rfl, rfl⟩)

set_option maxHeartbeats 4000000 in
set_option maxRecDepth 100000 in
theorem kX4_isMiner (l : Launch) (D : va_G) (ty : zTy) (ws : va_W) (x : Int32) : zv_ct l D ty yX4_isMiner cX4_isMiner 1 (some .boolean) (zR 1 22) [.int x] (ws) (fun v_ w_ => v_ = some (.int (zB (0 ≤ x ∧ x ≤ 9))) ∧ w_ = ws) := by
  refine zv_open (by decide) rfl rfl [some (.int x)] (by simp [zv_one, Value.category]) (zle rfl) rfl ?_
  intro k K T
  refine zv_iload_n K 1 dX4_isMiner_0 rfl rfl ?_
  refine zv_iconst K 0 2 dX4_isMiner_1 rfl (by decide) ?_
  refine zv_bipush K 9 4 dX4_isMiner_2 rfl (by decide) ?_
  refine zv_cS1 K (As := [.int x, .int 0, .int 9]) (rest := []) 3 7 (kX4_in l D ty (ws) x 0 9) dX4_isMiner_4 rfl zw_3_47 zw_3_48 zw_1_5 zw_3_49 ⟨rfl, rfl⟩ zh_yX4_in ⟨by decide, by decide⟩ rfl rfl (zle rfl) rfl ?_
  exact zv_zret K T dX4_isMiner_7 zB_nar (⟨rfl, rfl⟩)

set_option maxHeartbeats 4000000 in
set_option maxRecDepth 100000 in
theorem kX4_isDay (l : Launch) (D : va_G) (ty : zTy) (ws : va_W) (x : Int32) : zv_ct l D ty yX4_isDay cX4_isDay 1 (some .boolean) (zR 1 22) [.int x] (ws) (fun v_ w_ => v_ = some (.int (zB (0 ≤ x ∧ x ≤ 999))) ∧ w_ = ws) := by
  refine zv_open (by decide) rfl rfl [some (.int x)] (by simp [zv_one, Value.category]) (zle rfl) rfl ?_
  intro k K T
  refine zv_iload_n K 1 dX4_isDay_0 rfl rfl ?_
  refine zv_iconst K 0 2 dX4_isDay_1 rfl (by decide) ?_
  refine zv_sipush K 999 5 dX4_isDay_2 rfl (by decide) ?_
  refine zv_cS1 K (As := [.int x, .int 0, .int 999]) (rest := []) 3 8 (kX4_in l D ty (ws) x 0 999) dX4_isDay_5 rfl zw_3_47 zw_3_48 zw_1_5 zw_3_49 ⟨rfl, rfl⟩ zh_yX4_in ⟨by decide, by decide⟩ rfl rfl (zle rfl) rfl ?_
  exact zv_zret K T dX4_isDay_8 zB_nar (⟨rfl, rfl⟩)

theorem zm_has {x : Int32} {n : Nat} (hn : n ≤ 90) : (0 ≤ x ∧ x ≤ nI n - 1) ↔ (0 ≤ x ∧ x < nI n) := by
  have e1 : (nI n).toInt = n := nI_toInt (by omega)
  have e2 : (nI n - 1).toInt = (n : Int) - 1 := by
    show (nI n - nI 1).toInt = (n : Int) - 1
    exact pk_sub_toInt (a := n) (b := 1) (by omega) (by decide)
  rw [Int32.le_iff_toInt_le, Int32.le_iff_toInt_le, Int32.lt_iff_toInt_lt, e1, e2]
  omega
theorem zm_hs {τ : zM} {n : Nat} (hn : n ≤ 90) (hc : τ.1 3 = nI n) {x : Int32} (h : 0 ≤ x ∧ x < τ.1 3) : x = nI x.toNatClampNeg ∧ x.toNatClampNeg < 90 := by
  have e := z_cl0 h.1
  obtain ⟨j, hj, e2⟩ := z_nat h.1 (by rw [← hc]; exact h.2) (by omega)
  refine ⟨e, ?_⟩
  rw [e2, nI_clamp (by omega)]
  omega
set_option maxHeartbeats 4000000 in
set_option maxRecDepth 100000 in
theorem kX4_isFact (l : Launch) (D : va_G) (ty : zTy) (b : Nat → Nat) (τ : zM) (n : Nat) (hn : n ≤ 90) (hc : τ.1 3 = nI n) (x : Int32) : zv_ct l D ty yX4_isFact cX4_isFact 2 (some .boolean) (zR 1 22) [.ref (b 0), .int x] (zm b ty τ) (fun v_ w_ => v_ = some (.int (zB (0 ≤ x ∧ x < τ.1 3))) ∧ w_ = zm b ty τ) := by
  refine zv_open (by decide) rfl rfl [some (.ref (b 0)), some (.int x)] (by simp [zv_one, Value.category]) (zle rfl) rfl ?_
  intro k K T
  refine zv_iload_n K 1 dX4_isFact_0 rfl rfl ?_
  refine zv_iconst K 0 2 dX4_isFact_1 rfl (by decide) ?_
  refine zv_aload_n K 3 dX4_isFact_2 rfl rfl ?_
  refine zm_get (v := .int (τ.1 3)) K 3 6 dX4_isFact_3 rfl (by decide) zw_2_191 rfl ?_
  refine zv_iconst K 1 7 dX4_isFact_6 rfl (by decide) ?_
  refine zv_isub K 8 dX4_isFact_7 rfl ?_
  refine zv_cS1 K (As := [.int x, .int 0, .int ((τ.1 3) - 1)]) (rest := []) 3 11 (kX4_in l D ty (zm b ty τ) x 0 ((τ.1 3) - 1)) dX4_isFact_8 rfl zw_3_47 zw_3_48 zw_1_5 zw_3_49 ⟨rfl, rfl⟩ zh_yX4_in ⟨by decide, by decide⟩ rfl rfl (zle rfl) rfl ?_
  exact zv_zret K T dX4_isFact_11 zB_nar (⟨by rw [hc]; exact congrArg (fun z => some (Value.int z)) (zB_iff (zm_has hn)), rfl⟩)

def fX4_day (τ : zM) (x : Int32) : Int32 × zM :=
  if (0 ≤ x ∧ x ≤ 100) then
    if ((τ.1 0) + x) ≤ 999 then
      ((τ.1 0) + x, (zmO τ 0 ((τ.1 0) + x)))
    else
      ((-1), τ)
  else
    ((-1), τ)
set_option maxHeartbeats 4000000 in
set_option maxRecDepth 100000 in
theorem kX4_day (l : Launch) (D : va_G) (ty : zTy) (b : Nat → Nat) (τ : zM) (x : Int32) : zv_ct l D ty yX4_day cX4_day 2 (some .int) (zR 1 22) [.ref (b 0), .int x] (zm b ty τ) (fun v_ w_ => v_ = some (.int (fX4_day τ x).1) ∧ w_ = zm b ty (fX4_day τ x).2) := by
  refine zv_open (by decide) rfl rfl [some (.ref (b 0)), some (.int x)] (by simp [zv_one, Value.category]) (zle rfl) rfl ?_
  intro k K T
  refine zv_iload_n K 1 dX4_day_0 rfl rfl ?_
  refine zv_iconst K 0 2 dX4_day_1 rfl (by decide) ?_
  refine zv_bipush K 100 4 dX4_day_2 rfl (by decide) ?_
  refine zv_cS1 K (As := [.int x, .int 0, .int 100]) (rest := []) 3 7 (kX4_in l D ty (zm b ty τ) x 0 100) dX4_day_4 rfl zw_3_47 zw_3_48 zw_1_5 zw_3_49 ⟨rfl, rfl⟩ zh_yX4_in ⟨by decide, by decide⟩ rfl rfl (zle rfl) rfl ?_
  refine zv_ifB_eq K 22 10 dX4_day_7 (by decide) rfl (fun h1 => ?_) (fun h1 => ?_)
  · skip
    refine zv_iconst K (-1) 23 dX4_day_22 rfl (by decide) ?_
    exact zv_iret K T dX4_day_23 (⟨by simp only [fX4_day, if_neg h1], by simp only [fX4_day, if_neg h1]⟩)
  · skip
    refine zv_aload_n K 11 dX4_day_10 rfl rfl ?_
    refine zm_get (v := .int (τ.1 0)) K 0 14 dX4_day_11 rfl (by decide) zw_2_188 rfl ?_
    refine zv_iload_n K 15 dX4_day_14 rfl rfl ?_
    refine zv_iadd K 16 dX4_day_15 rfl ?_
    refine zv_sipush K 999 19 dX4_day_16 rfl (by decide) ?_
    refine zv_icmp_le K 24 22 dX4_day_19 (by decide) rfl (fun h2 => ?_) (fun h2 => ?_)
    · skip
      refine zv_aload_n K 25 dX4_day_24 rfl rfl ?_
      refine zv_dup K 26 dX4_day_25 rfl rfl ?_
      refine zm_get (v := .int (τ.1 0)) K 0 29 dX4_day_26 rfl (by decide) zw_2_188 rfl ?_
      refine zv_iload_n K 30 dX4_day_29 rfl rfl ?_
      refine zv_iadd K 31 dX4_day_30 rfl ?_
      refine zm_put K 0 34 (zmO τ 0 ((τ.1 0) + x)) dX4_day_31 rfl (by decide) zw_2_188 rfl rfl rfl rfl zm_O0 ?_
      refine zv_aload_n K 35 dX4_day_34 rfl rfl ?_
      refine zm_get (v := .int ((τ.1 0) + x)) K 0 38 dX4_day_35 rfl (by decide) zw_2_188 rfl ?_
      exact zv_iret K T dX4_day_38 (⟨by simp only [fX4_day, if_pos h1, if_pos h2], by simp only [fX4_day, if_pos h1, if_pos h2]⟩)
    · skip
      refine zv_iconst K (-1) 23 dX4_day_22 rfl (by decide) ?_
      exact zv_iret K T dX4_day_23 (⟨by simp only [fX4_day, if_pos h1, if_neg h2], by simp only [fX4_day, if_pos h1, if_neg h2]⟩)

def fX4_rule (τ : zM) (x : Int32) (y : Int32) : Int32 × zM :=
  if (0 ≤ x ∧ x ≤ 1) then
    if x = 0 then
      if (1 ≤ y ∧ y ≤ 10) then
        if x = 1 then
          (τ.1 1, (zmO (zmO τ 1 y) 2 y))
        else
          (τ.1 1, (zmO (zmO τ 1 y) 2 (τ.1 2)))
      else
        ((-1), τ)
    else
      if (1 ≤ y ∧ y ≤ 30) then
        if x = 1 then
          (τ.1 2, (zmO (zmO τ 1 (τ.1 1)) 2 y))
        else
          (τ.1 2, (zmO (zmO τ 1 (τ.1 1)) 2 (τ.1 2)))
      else
        ((-1), τ)
  else
    ((-1), τ)
set_option maxHeartbeats 4000000 in
set_option maxRecDepth 100000 in
theorem kX4_rule (l : Launch) (D : va_G) (ty : zTy) (b : Nat → Nat) (τ : zM) (x y : Int32) : zv_ct l D ty yX4_rule cX4_rule 4 (some .int) (zR 1 22) [.ref (b 0), .int x, .int y] (zm b ty τ) (fun v_ w_ => v_ = some (.int (fX4_rule τ x y).1) ∧ w_ = zm b ty (fX4_rule τ x y).2) := by
  refine zv_open (by decide) rfl rfl [some (.ref (b 0)), some (.int x), some (.int y), none] (by simp [zv_one, Value.category]) (zle rfl) rfl ?_
  intro k K T
  refine zv_iload_n K 1 dX4_rule_0 rfl rfl ?_
  refine zv_iconst K 0 2 dX4_rule_1 rfl (by decide) ?_
  refine zv_iconst K 1 3 dX4_rule_2 rfl (by decide) ?_
  refine zv_cS1 K (As := [.int x, .int 0, .int 1]) (rest := []) 3 6 (kX4_in l D ty (zm b ty τ) x 0 1) dX4_rule_3 rfl zw_3_47 zw_3_48 zw_1_5 zw_3_49 ⟨rfl, rfl⟩ zh_yX4_in ⟨by decide, by decide⟩ rfl rfl (zle rfl) rfl ?_
  refine zv_ifB_eq K 28 9 dX4_rule_6 (by decide) rfl (fun h1 => ?_) (fun h1 => ?_)
  · skip
    refine zv_iconst K (-1) 29 dX4_rule_28 rfl (by decide) ?_
    exact zv_iret K T dX4_rule_29 (⟨by simp only [fX4_rule, if_neg h1], by simp only [fX4_rule, if_neg h1]⟩)
  · skip
    refine zv_iload_n K 10 dX4_rule_9 rfl rfl ?_
    refine zv_iconst K 1 11 dX4_rule_10 rfl (by decide) ?_
    refine zv_iload_n K 12 dX4_rule_11 rfl rfl ?_
    refine zv_if_ne K 20 15 dX4_rule_12 (by decide) rfl (fun h2 => ?_) (fun h2 => ?_)
    · skip
      refine zv_bipush K 30 22 dX4_rule_20 rfl (by decide) ?_
      refine zv_cS1 K (As := [.int y, .int 1, .int 30]) (rest := []) 3 25 (kX4_in l D ty (zm b ty τ) y 1 30) dX4_rule_22 rfl zw_3_47 zw_3_48 zw_1_5 zw_3_49 ⟨rfl, rfl⟩ zh_yX4_in ⟨by decide, by decide⟩ rfl rfl (zle rfl) rfl ?_
      refine zv_ifB_ne K 30 28 dX4_rule_25 (by decide) rfl (fun h3 => ?_) (fun h3 => ?_)
      · skip
        refine zv_iload_n K 31 dX4_rule_30 rfl rfl ?_
        refine zv_if_ne K 41 34 dX4_rule_31 (by decide) rfl (fun h4 => ?_) (fun h4 => ?_)
        rotate_left
        · exact absurd h4 h2
        · skip
          refine zv_aload_n K 42 dX4_rule_41 rfl rfl ?_
          refine zm_get (v := .int (τ.1 2)) K 2 45 dX4_rule_42 rfl (by decide) zw_2_190 rfl ?_
          refine zv_istore_n K [some (.ref (b 0)), some (.int x), some (.int y), some (.int (τ.1 2))] 46 dX4_rule_45 rfl rfl (zlt rfl) ?_
          refine zv_aload_n K 47 dX4_rule_46 rfl rfl ?_
          refine zv_iload_n K 48 dX4_rule_47 rfl rfl ?_
          refine zv_if_ne K 55 51 dX4_rule_48 (by decide) rfl (fun h5 => ?_) (fun h5 => ?_)
          rotate_left
          · exact absurd h5 h2
          · skip
            refine zv_aload_n K 56 dX4_rule_55 rfl rfl ?_
            refine zm_get (v := .int (τ.1 1)) K 1 59 dX4_rule_56 rfl (by decide) zw_2_189 rfl ?_
            refine zm_put K 1 62 (zmO τ 1 (τ.1 1)) dX4_rule_59 rfl (by decide) zw_2_189 rfl rfl rfl rfl zm_O1 ?_
            refine zv_aload_n K 63 dX4_rule_62 rfl rfl ?_
            refine zv_iload_n K 64 dX4_rule_63 rfl rfl ?_
            refine zv_iconst K 1 65 dX4_rule_64 rfl (by decide) ?_
            refine zv_icmp_ne K 72 68 dX4_rule_65 (by decide) rfl (fun h6 => ?_) (fun h6 => ?_)
            · skip
              refine zv_aload_n K 73 dX4_rule_72 rfl rfl ?_
              refine zm_get (v := .int (τ.1 2)) K 2 76 dX4_rule_73 rfl (by decide) zw_2_190 rfl ?_
              refine zm_put K 2 79 (zmO (zmO τ 1 (τ.1 1)) 2 (τ.1 2)) dX4_rule_76 rfl (by decide) zw_2_190 rfl rfl rfl rfl zm_O2 ?_
              refine zv_iload_n K 80 dX4_rule_79 rfl rfl ?_
              exact zv_iret K T dX4_rule_80 (⟨by simp only [fX4_rule, if_pos h1, if_neg h2, if_pos h3, if_neg h6], by simp only [fX4_rule, if_pos h1, if_neg h2, if_pos h3, if_neg h6]⟩)
            · skip
              refine zv_iload_n K 69 dX4_rule_68 rfl rfl ?_
              refine zv_goto K 76 dX4_rule_69 (by decide) ?_
              refine zm_put K 2 79 (zmO (zmO τ 1 (τ.1 1)) 2 y) dX4_rule_76 rfl (by decide) zw_2_190 rfl rfl rfl rfl zm_O2 ?_
              refine zv_iload_n K 80 dX4_rule_79 rfl rfl ?_
              exact zv_iret K T dX4_rule_80 (⟨by simp only [fX4_rule, if_pos h1, if_neg h2, if_pos h3, if_pos h6], by simp only [fX4_rule, if_pos h1, if_neg h2, if_pos h3, if_pos h6]⟩)
      · skip
        refine zv_iconst K (-1) 29 dX4_rule_28 rfl (by decide) ?_
        exact zv_iret K T dX4_rule_29 (⟨by simp only [fX4_rule, if_pos h1, if_neg h2, if_neg h3], by simp only [fX4_rule, if_pos h1, if_neg h2, if_neg h3]⟩)
    · skip
      refine zv_bipush K 10 17 dX4_rule_15 rfl (by decide) ?_
      refine zv_goto K 22 dX4_rule_17 (by decide) ?_
      refine zv_cS1 K (As := [.int y, .int 1, .int 10]) (rest := []) 3 25 (kX4_in l D ty (zm b ty τ) y 1 10) dX4_rule_22 rfl zw_3_47 zw_3_48 zw_1_5 zw_3_49 ⟨rfl, rfl⟩ zh_yX4_in ⟨by decide, by decide⟩ rfl rfl (zle rfl) rfl ?_
      refine zv_ifB_ne K 30 28 dX4_rule_25 (by decide) rfl (fun h7 => ?_) (fun h7 => ?_)
      · skip
        refine zv_iload_n K 31 dX4_rule_30 rfl rfl ?_
        refine zv_if_ne K 41 34 dX4_rule_31 (by decide) rfl (fun h8 => ?_) (fun h8 => ?_)
        · exact absurd h2 h8
        · skip
          refine zv_aload_n K 35 dX4_rule_34 rfl rfl ?_
          refine zm_get (v := .int (τ.1 1)) K 1 38 dX4_rule_35 rfl (by decide) zw_2_189 rfl ?_
          refine zv_goto K 45 dX4_rule_38 (by decide) ?_
          refine zv_istore_n K [some (.ref (b 0)), some (.int x), some (.int y), some (.int (τ.1 1))] 46 dX4_rule_45 rfl rfl (zlt rfl) ?_
          refine zv_aload_n K 47 dX4_rule_46 rfl rfl ?_
          refine zv_iload_n K 48 dX4_rule_47 rfl rfl ?_
          refine zv_if_ne K 55 51 dX4_rule_48 (by decide) rfl (fun h9 => ?_) (fun h9 => ?_)
          · exact absurd h2 h9
          · skip
            refine zv_iload_n K 52 dX4_rule_51 rfl rfl ?_
            refine zv_goto K 59 dX4_rule_52 (by decide) ?_
            refine zm_put K 1 62 (zmO τ 1 y) dX4_rule_59 rfl (by decide) zw_2_189 rfl rfl rfl rfl zm_O1 ?_
            refine zv_aload_n K 63 dX4_rule_62 rfl rfl ?_
            refine zv_iload_n K 64 dX4_rule_63 rfl rfl ?_
            refine zv_iconst K 1 65 dX4_rule_64 rfl (by decide) ?_
            refine zv_icmp_ne K 72 68 dX4_rule_65 (by decide) rfl (fun h10 => ?_) (fun h10 => ?_)
            · skip
              refine zv_aload_n K 73 dX4_rule_72 rfl rfl ?_
              refine zm_get (v := .int (τ.1 2)) K 2 76 dX4_rule_73 rfl (by decide) zw_2_190 rfl ?_
              refine zm_put K 2 79 (zmO (zmO τ 1 y) 2 (τ.1 2)) dX4_rule_76 rfl (by decide) zw_2_190 rfl rfl rfl rfl zm_O2 ?_
              refine zv_iload_n K 80 dX4_rule_79 rfl rfl ?_
              exact zv_iret K T dX4_rule_80 (⟨by simp only [fX4_rule, if_pos h1, if_pos h2, if_pos h7, if_neg h10], by simp only [fX4_rule, if_pos h1, if_pos h2, if_pos h7, if_neg h10]⟩)
            · skip
              refine zv_iload_n K 69 dX4_rule_68 rfl rfl ?_
              refine zv_goto K 76 dX4_rule_69 (by decide) ?_
              refine zm_put K 2 79 (zmO (zmO τ 1 y) 2 y) dX4_rule_76 rfl (by decide) zw_2_190 rfl rfl rfl rfl zm_O2 ?_
              refine zv_iload_n K 80 dX4_rule_79 rfl rfl ?_
              exact zv_iret K T dX4_rule_80 (⟨by simp only [fX4_rule, if_pos h1, if_pos h2, if_pos h7, if_pos h10], by simp only [fX4_rule, if_pos h1, if_pos h2, if_pos h7, if_pos h10]⟩)
      · skip
        refine zv_iconst K (-1) 29 dX4_rule_28 rfl (by decide) ?_
        exact zv_iret K T dX4_rule_29 (⟨by simp only [fX4_rule, if_pos h1, if_pos h2, if_neg h7], by simp only [fX4_rule, if_pos h1, if_pos h2, if_neg h7]⟩)

def fX4_tell (τ : zM) (n : Nat) (kd : Int32) (ab : Int32) (x : Int32) (m : Int32) : Int32 × zM :=
  if x < 0 then
    (nI n, (zmO (zmF (zmF (zmF (zmF (zmF (zmF (zmF (zmF (zmF (zmF (zmF τ 5 n kd) 6 n ab) 7 n (τ.1 0)) 8 n (-4)) 15 n x) 9 n 0) 10 n m) 11 n (-4)) 12 n (-4)) 13 n (-4)) 14 n 0) 3 (nI (n + 1))))
  else
    (nI n, (zmO (zmF (zmF (zmF (zmF (zmF (zmF (zmF (zmF (zmF (zmF (zmF τ 5 n kd) 6 n ab) 7 n (τ.1 0)) 8 n (-4)) 15 n x) 9 n (τ.2 9 x.toNatClampNeg)) 10 n m) 11 n (-4)) 12 n (-4)) 13 n (-4)) 14 n 0) 3 (nI (n + 1))))
set_option maxHeartbeats 4000000 in
set_option maxRecDepth 100000 in
theorem kX4_tell (l : Launch) (D : va_G) (ty : zTy) (b : Nat → Nat) (τ : zM) (n : Nat) (hn : n < 90) (hc : τ.1 3 = nI n) (kd ab x m : Int32) (hcl : ¬ x < 0 → x = nI x.toNatClampNeg ∧ x.toNatClampNeg < 90) : zv_ct l D ty yX4_tell cX4_tell 5 (some .int) (zR 0 0) [.ref (b 0), .int kd, .int ab, .int x, .int m] (zm b ty τ) (fun v_ w_ => v_ = some (.int (fX4_tell τ n kd ab x m).1) ∧ w_ = zm b ty (fX4_tell τ n kd ab x m).2) := by
  refine zv_open (by decide) rfl rfl [some (.ref (b 0)), some (.int kd), some (.int ab), some (.int x), some (.int m)] (by simp [zv_one, Value.category]) (zle rfl) rfl ?_
  intro k K T
  refine zv_aload_n K 1 dX4_tell_0 rfl rfl ?_
  refine zm_get (v := .ref (b 5)) K 5 4 dX4_tell_1 rfl (by decide) zw_2_193 rfl ?_
  refine zv_aload_n K 5 dX4_tell_4 rfl rfl ?_
  refine zm_get (v := .int (τ.1 3)) K 3 8 dX4_tell_5 rfl (by decide) zw_2_191 rfl ?_
  refine zv_iload_n K 9 dX4_tell_8 rfl rfl ?_
  refine zv_iast K 1 n 10 (zm b ty (zmF τ 5 n kd)) dX4_tell_9 rfl (zm_at (p := 1) (j := 5) rfl) hc hn (by decide) (zm_F 5 n rfl (by decide) rfl) ?_
  refine zv_aload_n K 11 dX4_tell_10 rfl rfl ?_
  refine zm_get (v := .ref (b 6)) K 6 14 dX4_tell_11 rfl (by decide) zw_2_194 rfl ?_
  refine zv_aload_n K 15 dX4_tell_14 rfl rfl ?_
  refine zm_get (v := .int (τ.1 3)) K 3 18 dX4_tell_15 rfl (by decide) zw_2_191 rfl ?_
  refine zv_iload_n K 19 dX4_tell_18 rfl rfl ?_
  refine zv_iast K 2 n 20 (zm b ty (zmF (zmF τ 5 n kd) 6 n ab)) dX4_tell_19 rfl (zm_at (p := 2) (j := 6) rfl) hc hn (by decide) (zm_F 6 n rfl (by decide) rfl) ?_
  refine zv_aload_n K 21 dX4_tell_20 rfl rfl ?_
  refine zm_get (v := .ref (b 7)) K 7 24 dX4_tell_21 rfl (by decide) zw_2_195 rfl ?_
  refine zv_aload_n K 25 dX4_tell_24 rfl rfl ?_
  refine zm_get (v := .int (τ.1 3)) K 3 28 dX4_tell_25 rfl (by decide) zw_2_191 rfl ?_
  refine zv_aload_n K 29 dX4_tell_28 rfl rfl ?_
  refine zm_get (v := .int (τ.1 0)) K 0 32 dX4_tell_29 rfl (by decide) zw_2_188 rfl ?_
  refine zv_iast K 3 n 33 (zm b ty (zmF (zmF (zmF τ 5 n kd) 6 n ab) 7 n (τ.1 0))) dX4_tell_32 rfl (zm_at (p := 3) (j := 7) rfl) hc hn (by decide) (zm_F 7 n rfl (by decide) rfl) ?_
  refine zv_aload_n K 34 dX4_tell_33 rfl rfl ?_
  refine zm_get (v := .ref (b 8)) K 8 37 dX4_tell_34 rfl (by decide) zw_2_196 rfl ?_
  refine zv_aload_n K 38 dX4_tell_37 rfl rfl ?_
  refine zm_get (v := .int (τ.1 3)) K 3 41 dX4_tell_38 rfl (by decide) zw_2_191 rfl ?_
  refine zv_bipush K (-4) 43 dX4_tell_41 rfl (by decide) ?_
  refine zv_iast K 4 n 44 (zm b ty (zmF (zmF (zmF (zmF τ 5 n kd) 6 n ab) 7 n (τ.1 0)) 8 n (-4))) dX4_tell_43 rfl (zm_at (p := 4) (j := 8) rfl) hc hn (by decide) (zm_F 8 n rfl (by decide) rfl) ?_
  refine zv_aload_n K 45 dX4_tell_44 rfl rfl ?_
  refine zm_get (v := .ref (b 15)) K 15 48 dX4_tell_45 rfl (by decide) zw_2_203 rfl ?_
  refine zv_aload_n K 49 dX4_tell_48 rfl rfl ?_
  refine zm_get (v := .int (τ.1 3)) K 3 52 dX4_tell_49 rfl (by decide) zw_2_191 rfl ?_
  refine zv_iload_n K 53 dX4_tell_52 rfl rfl ?_
  refine zv_iast K 11 n 54 (zm b ty (zmF (zmF (zmF (zmF (zmF τ 5 n kd) 6 n ab) 7 n (τ.1 0)) 8 n (-4)) 15 n x)) dX4_tell_53 rfl (zm_at (p := 11) (j := 15) rfl) hc hn (by decide) (zm_F 15 n rfl (by decide) rfl) ?_
  refine zv_aload_n K 55 dX4_tell_54 rfl rfl ?_
  refine zm_get (v := .ref (b 9)) K 9 58 dX4_tell_55 rfl (by decide) zw_2_197 rfl ?_
  refine zv_aload_n K 59 dX4_tell_58 rfl rfl ?_
  refine zm_get (v := .int (τ.1 3)) K 3 62 dX4_tell_59 rfl (by decide) zw_2_191 rfl ?_
  refine zv_iload_n K 63 dX4_tell_62 rfl rfl ?_
  refine zv_if_lt K 75 66 dX4_tell_63 (by decide) rfl (fun h1 => ?_) (fun h1 => ?_)
  · skip
    refine zv_iconst K 0 76 dX4_tell_75 rfl (by decide) ?_
    refine zv_iast K 5 n 77 (zm b ty (zmF (zmF (zmF (zmF (zmF (zmF τ 5 n kd) 6 n ab) 7 n (τ.1 0)) 8 n (-4)) 15 n x) 9 n 0)) dX4_tell_76 rfl (zm_at (p := 5) (j := 9) rfl) hc hn (by decide) (zm_F 9 n rfl (by decide) rfl) ?_
    refine zv_aload_n K 78 dX4_tell_77 rfl rfl ?_
    refine zm_get (v := .ref (b 10)) K 10 81 dX4_tell_78 rfl (by decide) zw_2_198 rfl ?_
    refine zv_aload_n K 82 dX4_tell_81 rfl rfl ?_
    refine zm_get (v := .int (τ.1 3)) K 3 85 dX4_tell_82 rfl (by decide) zw_2_191 rfl ?_
    refine zv_iload K 87 dX4_tell_85 rfl rfl ?_
    refine zv_iast K 6 n 88 (zm b ty (zmF (zmF (zmF (zmF (zmF (zmF (zmF τ 5 n kd) 6 n ab) 7 n (τ.1 0)) 8 n (-4)) 15 n x) 9 n 0) 10 n m)) dX4_tell_87 rfl (zm_at (p := 6) (j := 10) rfl) hc hn (by decide) (zm_F 10 n rfl (by decide) rfl) ?_
    refine zv_aload_n K 89 dX4_tell_88 rfl rfl ?_
    refine zm_get (v := .ref (b 11)) K 11 92 dX4_tell_89 rfl (by decide) zw_2_199 rfl ?_
    refine zv_aload_n K 93 dX4_tell_92 rfl rfl ?_
    refine zm_get (v := .int (τ.1 3)) K 3 96 dX4_tell_93 rfl (by decide) zw_2_191 rfl ?_
    refine zv_bipush K (-4) 98 dX4_tell_96 rfl (by decide) ?_
    refine zv_iast K 7 n 99 (zm b ty (zmF (zmF (zmF (zmF (zmF (zmF (zmF (zmF τ 5 n kd) 6 n ab) 7 n (τ.1 0)) 8 n (-4)) 15 n x) 9 n 0) 10 n m) 11 n (-4))) dX4_tell_98 rfl (zm_at (p := 7) (j := 11) rfl) hc hn (by decide) (zm_F 11 n rfl (by decide) rfl) ?_
    refine zv_aload_n K 100 dX4_tell_99 rfl rfl ?_
    refine zm_get (v := .ref (b 12)) K 12 103 dX4_tell_100 rfl (by decide) zw_2_200 rfl ?_
    refine zv_aload_n K 104 dX4_tell_103 rfl rfl ?_
    refine zm_get (v := .int (τ.1 3)) K 3 107 dX4_tell_104 rfl (by decide) zw_2_191 rfl ?_
    refine zv_bipush K (-4) 109 dX4_tell_107 rfl (by decide) ?_
    refine zv_iast K 8 n 110 (zm b ty (zmF (zmF (zmF (zmF (zmF (zmF (zmF (zmF (zmF τ 5 n kd) 6 n ab) 7 n (τ.1 0)) 8 n (-4)) 15 n x) 9 n 0) 10 n m) 11 n (-4)) 12 n (-4))) dX4_tell_109 rfl (zm_at (p := 8) (j := 12) rfl) hc hn (by decide) (zm_F 12 n rfl (by decide) rfl) ?_
    refine zv_aload_n K 111 dX4_tell_110 rfl rfl ?_
    refine zm_get (v := .ref (b 13)) K 13 114 dX4_tell_111 rfl (by decide) zw_2_201 rfl ?_
    refine zv_aload_n K 115 dX4_tell_114 rfl rfl ?_
    refine zm_get (v := .int (τ.1 3)) K 3 118 dX4_tell_115 rfl (by decide) zw_2_191 rfl ?_
    refine zv_bipush K (-4) 120 dX4_tell_118 rfl (by decide) ?_
    refine zv_iast K 9 n 121 (zm b ty (zmF (zmF (zmF (zmF (zmF (zmF (zmF (zmF (zmF (zmF τ 5 n kd) 6 n ab) 7 n (τ.1 0)) 8 n (-4)) 15 n x) 9 n 0) 10 n m) 11 n (-4)) 12 n (-4)) 13 n (-4))) dX4_tell_120 rfl (zm_at (p := 9) (j := 13) rfl) hc hn (by decide) (zm_F 13 n rfl (by decide) rfl) ?_
    refine zv_aload_n K 122 dX4_tell_121 rfl rfl ?_
    refine zm_get (v := .ref (b 14)) K 14 125 dX4_tell_122 rfl (by decide) zw_2_202 rfl ?_
    refine zv_aload_n K 126 dX4_tell_125 rfl rfl ?_
    refine zm_get (v := .int (τ.1 3)) K 3 129 dX4_tell_126 rfl (by decide) zw_2_191 rfl ?_
    refine zv_iconst K 0 130 dX4_tell_129 rfl (by decide) ?_
    refine zv_iast K 10 n 131 (zm b ty (zmF (zmF (zmF (zmF (zmF (zmF (zmF (zmF (zmF (zmF (zmF τ 5 n kd) 6 n ab) 7 n (τ.1 0)) 8 n (-4)) 15 n x) 9 n 0) 10 n m) 11 n (-4)) 12 n (-4)) 13 n (-4)) 14 n 0)) dX4_tell_130 rfl (zm_at (p := 10) (j := 14) rfl) hc hn (by decide) (zm_F 14 n rfl (by decide) rfl) ?_
    refine zv_aload_n K 132 dX4_tell_131 rfl rfl ?_
    refine zv_dup K 133 dX4_tell_132 rfl rfl ?_
    refine zm_get (v := .int (τ.1 3)) K 3 136 dX4_tell_133 rfl (by decide) zw_2_191 rfl ?_
    refine zv_topi (nI n) hc ?_
    refine zv_iconst K 1 137 dX4_tell_136 rfl (by decide) ?_
    refine zv_iadd K 138 dX4_tell_137 rfl ?_
    refine zv_topi (nI (n + 1)) (nI_1 n) ?_
    refine zm_put K 3 141 (zmO (zmF (zmF (zmF (zmF (zmF (zmF (zmF (zmF (zmF (zmF (zmF τ 5 n kd) 6 n ab) 7 n (τ.1 0)) 8 n (-4)) 15 n x) 9 n 0) 10 n m) 11 n (-4)) 12 n (-4)) 13 n (-4)) 14 n 0) 3 (nI (n + 1))) dX4_tell_138 rfl (by decide) zw_2_191 rfl rfl rfl rfl zm_O3 ?_
    refine zv_aload_n K 142 dX4_tell_141 rfl rfl ?_
    refine zm_get (v := .int (nI (n + 1))) K 3 145 dX4_tell_142 rfl (by decide) zw_2_191 rfl ?_
    refine zv_iconst K 1 146 dX4_tell_145 rfl (by decide) ?_
    refine zv_isub K 147 dX4_tell_146 rfl ?_
    refine zv_topi (nI n) (nI_pred n) ?_
    exact zv_iret K T dX4_tell_147 (⟨by simp only [fX4_tell, if_pos h1], by simp only [fX4_tell, if_pos h1]⟩)
  · skip
    refine zv_aload_n K 67 dX4_tell_66 rfl rfl ?_
    refine zm_get (v := .ref (b 9)) K 9 70 dX4_tell_67 rfl (by decide) zw_2_197 rfl ?_
    refine zv_iload_n K 71 dX4_tell_70 rfl rfl ?_
    refine zv_iald (F := τ.2 9) K 5 x.toNatClampNeg 72 dX4_tell_71 rfl (zm_at (p := 5) (j := 9) rfl) ((hcl h1).1) ((hcl h1).2) (by decide) ?_
    refine zv_goto K 76 dX4_tell_72 (by decide) ?_
    refine zv_iast K 5 n 77 (zm b ty (zmF (zmF (zmF (zmF (zmF (zmF τ 5 n kd) 6 n ab) 7 n (τ.1 0)) 8 n (-4)) 15 n x) 9 n (τ.2 9 x.toNatClampNeg))) dX4_tell_76 rfl (zm_at (p := 5) (j := 9) rfl) hc hn (by decide) (zm_F 9 n rfl (by decide) rfl) ?_
    refine zv_aload_n K 78 dX4_tell_77 rfl rfl ?_
    refine zm_get (v := .ref (b 10)) K 10 81 dX4_tell_78 rfl (by decide) zw_2_198 rfl ?_
    refine zv_aload_n K 82 dX4_tell_81 rfl rfl ?_
    refine zm_get (v := .int (τ.1 3)) K 3 85 dX4_tell_82 rfl (by decide) zw_2_191 rfl ?_
    refine zv_iload K 87 dX4_tell_85 rfl rfl ?_
    refine zv_iast K 6 n 88 (zm b ty (zmF (zmF (zmF (zmF (zmF (zmF (zmF τ 5 n kd) 6 n ab) 7 n (τ.1 0)) 8 n (-4)) 15 n x) 9 n (τ.2 9 x.toNatClampNeg)) 10 n m)) dX4_tell_87 rfl (zm_at (p := 6) (j := 10) rfl) hc hn (by decide) (zm_F 10 n rfl (by decide) rfl) ?_
    refine zv_aload_n K 89 dX4_tell_88 rfl rfl ?_
    refine zm_get (v := .ref (b 11)) K 11 92 dX4_tell_89 rfl (by decide) zw_2_199 rfl ?_
    refine zv_aload_n K 93 dX4_tell_92 rfl rfl ?_
    refine zm_get (v := .int (τ.1 3)) K 3 96 dX4_tell_93 rfl (by decide) zw_2_191 rfl ?_
    refine zv_bipush K (-4) 98 dX4_tell_96 rfl (by decide) ?_
    refine zv_iast K 7 n 99 (zm b ty (zmF (zmF (zmF (zmF (zmF (zmF (zmF (zmF τ 5 n kd) 6 n ab) 7 n (τ.1 0)) 8 n (-4)) 15 n x) 9 n (τ.2 9 x.toNatClampNeg)) 10 n m) 11 n (-4))) dX4_tell_98 rfl (zm_at (p := 7) (j := 11) rfl) hc hn (by decide) (zm_F 11 n rfl (by decide) rfl) ?_
    refine zv_aload_n K 100 dX4_tell_99 rfl rfl ?_
    refine zm_get (v := .ref (b 12)) K 12 103 dX4_tell_100 rfl (by decide) zw_2_200 rfl ?_
    refine zv_aload_n K 104 dX4_tell_103 rfl rfl ?_
    refine zm_get (v := .int (τ.1 3)) K 3 107 dX4_tell_104 rfl (by decide) zw_2_191 rfl ?_
    refine zv_bipush K (-4) 109 dX4_tell_107 rfl (by decide) ?_
    refine zv_iast K 8 n 110 (zm b ty (zmF (zmF (zmF (zmF (zmF (zmF (zmF (zmF (zmF τ 5 n kd) 6 n ab) 7 n (τ.1 0)) 8 n (-4)) 15 n x) 9 n (τ.2 9 x.toNatClampNeg)) 10 n m) 11 n (-4)) 12 n (-4))) dX4_tell_109 rfl (zm_at (p := 8) (j := 12) rfl) hc hn (by decide) (zm_F 12 n rfl (by decide) rfl) ?_
    refine zv_aload_n K 111 dX4_tell_110 rfl rfl ?_
    refine zm_get (v := .ref (b 13)) K 13 114 dX4_tell_111 rfl (by decide) zw_2_201 rfl ?_
    refine zv_aload_n K 115 dX4_tell_114 rfl rfl ?_
    refine zm_get (v := .int (τ.1 3)) K 3 118 dX4_tell_115 rfl (by decide) zw_2_191 rfl ?_
    refine zv_bipush K (-4) 120 dX4_tell_118 rfl (by decide) ?_
    refine zv_iast K 9 n 121 (zm b ty (zmF (zmF (zmF (zmF (zmF (zmF (zmF (zmF (zmF (zmF τ 5 n kd) 6 n ab) 7 n (τ.1 0)) 8 n (-4)) 15 n x) 9 n (τ.2 9 x.toNatClampNeg)) 10 n m) 11 n (-4)) 12 n (-4)) 13 n (-4))) dX4_tell_120 rfl (zm_at (p := 9) (j := 13) rfl) hc hn (by decide) (zm_F 13 n rfl (by decide) rfl) ?_
    refine zv_aload_n K 122 dX4_tell_121 rfl rfl ?_
    refine zm_get (v := .ref (b 14)) K 14 125 dX4_tell_122 rfl (by decide) zw_2_202 rfl ?_
    refine zv_aload_n K 126 dX4_tell_125 rfl rfl ?_
    refine zm_get (v := .int (τ.1 3)) K 3 129 dX4_tell_126 rfl (by decide) zw_2_191 rfl ?_
    refine zv_iconst K 0 130 dX4_tell_129 rfl (by decide) ?_
    refine zv_iast K 10 n 131 (zm b ty (zmF (zmF (zmF (zmF (zmF (zmF (zmF (zmF (zmF (zmF (zmF τ 5 n kd) 6 n ab) 7 n (τ.1 0)) 8 n (-4)) 15 n x) 9 n (τ.2 9 x.toNatClampNeg)) 10 n m) 11 n (-4)) 12 n (-4)) 13 n (-4)) 14 n 0)) dX4_tell_130 rfl (zm_at (p := 10) (j := 14) rfl) hc hn (by decide) (zm_F 14 n rfl (by decide) rfl) ?_
    refine zv_aload_n K 132 dX4_tell_131 rfl rfl ?_
    refine zv_dup K 133 dX4_tell_132 rfl rfl ?_
    refine zm_get (v := .int (τ.1 3)) K 3 136 dX4_tell_133 rfl (by decide) zw_2_191 rfl ?_
    refine zv_topi (nI n) hc ?_
    refine zv_iconst K 1 137 dX4_tell_136 rfl (by decide) ?_
    refine zv_iadd K 138 dX4_tell_137 rfl ?_
    refine zv_topi (nI (n + 1)) (nI_1 n) ?_
    refine zm_put K 3 141 (zmO (zmF (zmF (zmF (zmF (zmF (zmF (zmF (zmF (zmF (zmF (zmF τ 5 n kd) 6 n ab) 7 n (τ.1 0)) 8 n (-4)) 15 n x) 9 n (τ.2 9 x.toNatClampNeg)) 10 n m) 11 n (-4)) 12 n (-4)) 13 n (-4)) 14 n 0) 3 (nI (n + 1))) dX4_tell_138 rfl (by decide) zw_2_191 rfl rfl rfl rfl zm_O3 ?_
    refine zv_aload_n K 142 dX4_tell_141 rfl rfl ?_
    refine zm_get (v := .int (nI (n + 1))) K 3 145 dX4_tell_142 rfl (by decide) zw_2_191 rfl ?_
    refine zv_iconst K 1 146 dX4_tell_145 rfl (by decide) ?_
    refine zv_isub K 147 dX4_tell_146 rfl ?_
    refine zv_topi (nI n) (nI_pred n) ?_
    exact zv_iret K T dX4_tell_147 (⟨by simp only [fX4_tell, if_neg h1], by simp only [fX4_tell, if_neg h1]⟩)

theorem fX4_tell_1 (τ : zM) (n : Nat) (kd ab x m : Int32) : (fX4_tell τ n kd ab x m).1 = nI n := by unfold fX4_tell; split <;> rfl
theorem fX4_tell_s (τ : zM) (n : Nat) (kd ab x m : Int32) {f : Nat} (hf : f ≠ 3) : (fX4_tell τ n kd ab x m).2.1 f = τ.1 f := by unfold fX4_tell; split <;> simp [zmF, zmO, upd, hf]
def fX4_wrong (τ : zM) (ab : Int32) (x : Int32) (g : Int32) : Int32 :=
  if (0 ≤ ab ∧ ab ≤ (τ.1 0)) then
    if (0 ≤ x ∧ x < τ.1 3) then
      if g = 0 then
        (-1)
      else
        if (τ.2 5 x.toNatClampNeg) = 0 then
          if (τ.1 3) = 90 then
            (-2)
          else
            0
        else
          (-3)
    else
      (-1)
  else
    (-1)
set_option maxHeartbeats 4000000 in
set_option maxRecDepth 100000 in
theorem kX4_wrong (l : Launch) (D : va_G) (ty : zTy) (b : Nat → Nat) (τ : zM) (n : Nat) (hn : n ≤ 90) (hc : τ.1 3 = nI n) (ab x g : Int32) : zv_ct l D ty yX4_wrong cX4_wrong 4 (some .int) (zR 2 43) [.ref (b 0), .int ab, .int x, .int g] (zm b ty τ) (fun v_ w_ => v_ = some (.int (fX4_wrong τ ab x g)) ∧ w_ = zm b ty τ) := by
  refine zv_open (by decide) rfl rfl [some (.ref (b 0)), some (.int ab), some (.int x), some (.int g)] (by simp [zv_one, Value.category]) (zle rfl) rfl ?_
  intro k K T
  refine zv_iload_n K 1 dX4_wrong_0 rfl rfl ?_
  refine zv_iconst K 0 2 dX4_wrong_1 rfl (by decide) ?_
  refine zv_aload_n K 3 dX4_wrong_2 rfl rfl ?_
  refine zm_get (v := .int (τ.1 0)) K 0 6 dX4_wrong_3 rfl (by decide) zw_2_188 rfl ?_
  refine zv_cS1 K (As := [.int ab, .int 0, .int (τ.1 0)]) (rest := []) 3 9 (kX4_in l D ty (zm b ty τ) ab 0 (τ.1 0)) dX4_wrong_6 rfl zw_3_47 zw_3_48 zw_1_5 zw_3_49 ⟨rfl, rfl⟩ zh_yX4_in ⟨by decide, by decide⟩ rfl rfl (zle rfl) rfl ?_
  refine zv_ifB_eq K 24 12 dX4_wrong_9 (by decide) rfl (fun h1 => ?_) (fun h1 => ?_)
  · skip
    refine zv_iconst K (-1) 25 dX4_wrong_24 rfl (by decide) ?_
    exact zv_iret K T dX4_wrong_25 (⟨by simp only [fX4_wrong, if_neg h1], rfl⟩)
  · skip
    refine zv_aload_n K 13 dX4_wrong_12 rfl rfl ?_
    refine zv_iload_n K 14 dX4_wrong_13 rfl rfl ?_
    refine zv_cV1 K (q0 := 0) (As := [.int x]) (rest := []) 1 17 (kX4_isFact l D ty b τ n hn hc x) dX4_wrong_14 rfl zw_3_79 zw_3_81 zw_p2_2 zw_1_5 zw_3_82 ⟨rfl, rfl⟩ zh_yX4_isFact ⟨by decide, by decide⟩ (zm_at (p := 0) (j := 0) rfl) rfl rfl rfl (zle rfl) rfl ?_
    refine zv_ifB_eq K 24 20 dX4_wrong_17 (by decide) rfl (fun hh => ?_) (fun hh => ?_)
    · skip
      refine zv_iconst K (-1) 25 dX4_wrong_24 rfl (by decide) ?_
      exact zv_iret K T dX4_wrong_25 (⟨by simp only [fX4_wrong, if_pos h1, if_neg hh], rfl⟩)
    · skip
      refine zv_iload_n K 21 dX4_wrong_20 rfl rfl ?_
      refine zv_if_ne K 26 24 dX4_wrong_21 (by decide) rfl (fun h3 => ?_) (fun h3 => ?_)
      · skip
        obtain ⟨hx, hf⟩ := zm_hs hn hc hh
        refine zv_aload_n K 27 dX4_wrong_26 rfl rfl ?_
        refine zm_get (v := .ref (b 5)) K 5 30 dX4_wrong_27 rfl (by decide) zw_2_193 rfl ?_
        refine zv_iload_n K 31 dX4_wrong_30 rfl rfl ?_
        refine zv_iald (F := τ.2 5) K 1 x.toNatClampNeg 32 dX4_wrong_31 rfl (zm_at (p := 1) (j := 5) rfl) hx hf (by decide) ?_
        refine zv_if_eq K 38 35 dX4_wrong_32 (by decide) rfl (fun h4 => ?_) (fun h4 => ?_)
        · skip
          refine zv_aload_n K 39 dX4_wrong_38 rfl rfl ?_
          refine zm_get (v := .int (τ.1 3)) K 3 42 dX4_wrong_39 rfl (by decide) zw_2_191 rfl ?_
          refine zv_bipush K 90 44 dX4_wrong_42 rfl (by decide) ?_
          refine zv_icmp_ne K 52 47 dX4_wrong_44 (by decide) rfl (fun h5 => ?_) (fun h5 => ?_)
          · skip
            refine zv_iconst K 0 53 dX4_wrong_52 rfl (by decide) ?_
            exact zv_iret K T dX4_wrong_53 (⟨by simp only [fX4_wrong, if_pos h1, if_pos hh, if_neg h3, if_pos h4, if_neg h5], rfl⟩)
          · skip
            refine zv_bipush K (-2) 49 dX4_wrong_47 rfl (by decide) ?_
            refine zv_goto K 53 dX4_wrong_49 (by decide) ?_
            exact zv_iret K T dX4_wrong_53 (⟨by simp only [fX4_wrong, if_pos h1, if_pos hh, if_neg h3, if_pos h4, if_pos h5], rfl⟩)
        · skip
          refine zv_bipush K (-3) 37 dX4_wrong_35 rfl (by decide) ?_
          exact zv_iret K T dX4_wrong_37 (⟨by simp only [fX4_wrong, if_pos h1, if_pos hh, if_neg h3, if_neg h4], rfl⟩)
      · skip
        refine zv_iconst K (-1) 25 dX4_wrong_24 rfl (by decide) ?_
        exact zv_iret K T dX4_wrong_25 (⟨by simp only [fX4_wrong, if_pos h1, if_pos hh, if_pos h3], rfl⟩)

theorem zm_wr {τ : zM} {ab x g : Int32} (h : ¬ fX4_wrong τ ab x g < 0) : (0 ≤ ab ∧ ab ≤ τ.1 0) ∧ (0 ≤ x ∧ x < τ.1 3) ∧ (¬ g = 0) ∧ τ.2 5 x.toNatClampNeg = 0 ∧ ¬ τ.1 3 = 90 := by
  unfold fX4_wrong at h
  split at h
  · split at h
    · split at h
      · exact absurd (show (-1 : Int32) < 0 by decide) h
      · split at h
        · split at h
          · exact absurd (show (-2 : Int32) < 0 by decide) h
          · exact ⟨by assumption, by assumption, by assumption, by assumption, by assumption⟩
        · exact absurd (show (-3 : Int32) < 0 by decide) h
    · exact absurd (show (-1 : Int32) < 0 by decide) h
  · exact absurd (show (-1 : Int32) < 0 by decide) h
theorem zm_n9 {τ : zM} {n : Nat} (hn : n ≤ 90) (hc : τ.1 3 = nI n) (h : ¬ τ.1 3 = 90) : n < 90 := by
  rcases Nat.lt_or_ge n 90 with q | q
  · exact q
  · have : n = 90 := by omega
    subst this
    exact absurd hc h
def fX4_work (τ : zM) (n : Nat) (ab : Int32) (x : Int32) : Int32 × zM :=
  if 0 ≤ (fX4_wrong τ ab x 1) then
    (nI n, (fX4_tell τ n 1 ab x (-4)).2)
  else
    (fX4_wrong τ ab x 1, τ)
set_option maxHeartbeats 4000000 in
set_option maxRecDepth 100000 in
theorem kX4_work (l : Launch) (D : va_G) (ty : zTy) (b : Nat → Nat) (τ : zM) (n : Nat) (hn : n ≤ 90) (hc : τ.1 3 = nI n) (ab x : Int32) : zv_ct l D ty yX4_work cX4_work 4 (some .int) (zR 3 66) [.ref (b 0), .int ab, .int x] (zm b ty τ) (fun v_ w_ => v_ = some (.int (fX4_work τ n ab x).1) ∧ w_ = zm b ty (fX4_work τ n ab x).2) := by
  refine zv_open (by decide) rfl rfl [some (.ref (b 0)), some (.int ab), some (.int x), none] (by simp [zv_one, Value.category]) (zle rfl) rfl ?_
  intro k K T
  refine zv_aload_n K 1 dX4_work_0 rfl rfl ?_
  refine zv_iload_n K 2 dX4_work_1 rfl rfl ?_
  refine zv_iload_n K 3 dX4_work_2 rfl rfl ?_
  refine zv_iconst K 1 4 dX4_work_3 rfl (by decide) ?_
  refine zv_cV1 K (q0 := 0) (As := [.int ab, .int x, .int 1]) (rest := []) 3 7 (kX4_wrong l D ty b τ n hn hc ab x 1) dX4_work_4 rfl zw_3_75 zw_3_77 zw_p2_1 zw_1_5 zw_3_78 ⟨rfl, rfl⟩ zh_yX4_wrong ⟨by decide, by decide⟩ (zm_at (p := 0) (j := 0) rfl) rfl rfl rfl (zle rfl) rfl ?_
  refine zv_istore_n K [some (.ref (b 0)), some (.int ab), some (.int x), some (.int (fX4_wrong τ ab x 1))] 8 dX4_work_7 rfl rfl (zlt rfl) ?_
  refine zv_iload_n K 9 dX4_work_8 rfl rfl ?_
  refine zv_if_ge K 16 12 dX4_work_9 (by decide) rfl (fun hr => ?_) (fun hr => ?_)
  · skip
    obtain ⟨hab_, hx_, hg_, hk_, hf_⟩ := zm_wr (z_len hr)
    obtain ⟨hx, hf⟩ := zm_hs hn hc hx_
    have hn9 := zm_n9 hn hc hf_
    refine zv_aload_n K 17 dX4_work_16 rfl rfl ?_
    refine zv_iconst K 1 18 dX4_work_17 rfl (by decide) ?_
    refine zv_iload_n K 19 dX4_work_18 rfl rfl ?_
    refine zv_iload_n K 20 dX4_work_19 rfl rfl ?_
    refine zv_bipush K (-4) 22 dX4_work_20 rfl (by decide) ?_
    refine zv_cV1 K (q0 := 0) (As := [.int 1, .int ab, .int x, .int (-4)]) (rest := []) 4 25 (kX4_tell l D ty b τ n hn9 hc 1 ab x (-4) (fun _ => ⟨hx, hf⟩)) dX4_work_22 rfl zw_3_67 zw_3_69 zw_p2_0 zw_1_5 zw_3_70 ⟨rfl, rfl⟩ zh_yX4_tell ⟨by decide, by decide⟩ (zm_at (p := 0) (j := 0) rfl) rfl rfl rfl (zle rfl) rfl ?_
    refine zv_topi (nI n) (fX4_tell_1 _ _ _ _ _ _) ?_
    exact zv_iret K T dX4_work_25 (⟨by simp only [fX4_work, if_pos hr], by simp only [fX4_work, if_pos hr]⟩)
  · skip
    refine zv_iload_n K 13 dX4_work_12 rfl rfl ?_
    refine zv_goto K 25 dX4_work_13 (by decide) ?_
    exact zv_iret K T dX4_work_25 (⟨by simp only [fX4_work, if_neg hr], by simp only [fX4_work, if_neg hr]⟩)

def fX4_give (τ : zM) (n : Nat) (ab : Int32) (x : Int32) : Int32 × zM :=
  if 0 ≤ (fX4_wrong τ ab x 1) then
    (nI n, (fX4_tell τ n 3 ab x (-4)).2)
  else
    (fX4_wrong τ ab x 1, τ)
set_option maxHeartbeats 4000000 in
set_option maxRecDepth 100000 in
theorem kX4_give (l : Launch) (D : va_G) (ty : zTy) (b : Nat → Nat) (τ : zM) (n : Nat) (hn : n ≤ 90) (hc : τ.1 3 = nI n) (ab x : Int32) : zv_ct l D ty yX4_give cX4_give 4 (some .int) (zR 3 66) [.ref (b 0), .int ab, .int x] (zm b ty τ) (fun v_ w_ => v_ = some (.int (fX4_give τ n ab x).1) ∧ w_ = zm b ty (fX4_give τ n ab x).2) := by
  refine zv_open (by decide) rfl rfl [some (.ref (b 0)), some (.int ab), some (.int x), none] (by simp [zv_one, Value.category]) (zle rfl) rfl ?_
  intro k K T
  refine zv_aload_n K 1 dX4_give_0 rfl rfl ?_
  refine zv_iload_n K 2 dX4_give_1 rfl rfl ?_
  refine zv_iload_n K 3 dX4_give_2 rfl rfl ?_
  refine zv_iconst K 1 4 dX4_give_3 rfl (by decide) ?_
  refine zv_cV1 K (q0 := 0) (As := [.int ab, .int x, .int 1]) (rest := []) 3 7 (kX4_wrong l D ty b τ n hn hc ab x 1) dX4_give_4 rfl zw_3_75 zw_3_77 zw_p2_1 zw_1_5 zw_3_78 ⟨rfl, rfl⟩ zh_yX4_wrong ⟨by decide, by decide⟩ (zm_at (p := 0) (j := 0) rfl) rfl rfl rfl (zle rfl) rfl ?_
  refine zv_istore_n K [some (.ref (b 0)), some (.int ab), some (.int x), some (.int (fX4_wrong τ ab x 1))] 8 dX4_give_7 rfl rfl (zlt rfl) ?_
  refine zv_iload_n K 9 dX4_give_8 rfl rfl ?_
  refine zv_if_ge K 16 12 dX4_give_9 (by decide) rfl (fun hr => ?_) (fun hr => ?_)
  · skip
    obtain ⟨hab_, hx_, hg_, hk_, hf_⟩ := zm_wr (z_len hr)
    obtain ⟨hx, hf⟩ := zm_hs hn hc hx_
    have hn9 := zm_n9 hn hc hf_
    refine zv_aload_n K 17 dX4_give_16 rfl rfl ?_
    refine zv_iconst K 3 18 dX4_give_17 rfl (by decide) ?_
    refine zv_iload_n K 19 dX4_give_18 rfl rfl ?_
    refine zv_iload_n K 20 dX4_give_19 rfl rfl ?_
    refine zv_bipush K (-4) 22 dX4_give_20 rfl (by decide) ?_
    refine zv_cV1 K (q0 := 0) (As := [.int 3, .int ab, .int x, .int (-4)]) (rest := []) 4 25 (kX4_tell l D ty b τ n hn9 hc 3 ab x (-4) (fun _ => ⟨hx, hf⟩)) dX4_give_22 rfl zw_3_67 zw_3_69 zw_p2_0 zw_1_5 zw_3_70 ⟨rfl, rfl⟩ zh_yX4_tell ⟨by decide, by decide⟩ (zm_at (p := 0) (j := 0) rfl) rfl rfl rfl (zle rfl) rfl ?_
    refine zv_topi (nI n) (fX4_tell_1 _ _ _ _ _ _) ?_
    exact zv_iret K T dX4_give_25 (⟨by simp only [fX4_give, if_pos hr], by simp only [fX4_give, if_pos hr]⟩)
  · skip
    refine zv_iload_n K 13 dX4_give_12 rfl rfl ?_
    refine zv_goto K 25 dX4_give_13 (by decide) ?_
    exact zv_iret K T dX4_give_25 (⟨by simp only [fX4_give, if_neg hr], by simp only [fX4_give, if_neg hr]⟩)

