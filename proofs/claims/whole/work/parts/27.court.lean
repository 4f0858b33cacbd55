theorem z_cl0 {x : Int32} (h : 0 ≤ x) : x = nI x.toNatClampNeg := by
  obtain ⟨j, hj, rfl⟩ := nI_of (x := x) (fun q => by rw [Int32.lt_iff_toInt_lt] at q; rw [Int32.le_iff_toInt_le] at h; omega)
  rw [nI_clamp hj]
theorem z_has {σ : zC} {O : Nat → Nat} {n : Nat} (hI : zI σ O n) {x : Int32} (h : 0 ≤ x ∧ x < σ.1 1 1) : x = nI x.toNatClampNeg ∧ x.toNatClampNeg < 90 := by
  have e := z_cl0 h.1
  obtain ⟨j, hj, e2⟩ := z_nat h.1 (by rw [← hI.2.1]; exact h.2) (by have := hI.1; omega)
  refine ⟨e, ?_⟩
  rw [e2, nI_clamp (by have := hI.1; omega)]
  have := hI.1
  omega
theorem z_upto {x : Int32} {m : Nat} (h : 0 ≤ x ∧ x ≤ nI m) (hm : m < 2 ^ 31) : x = nI x.toNatClampNeg ∧ x.toNatClampNeg < m + 1 := by
  have e := z_cl0 h.1
  obtain ⟨j, hj, e2⟩ := z_nat2 h.1 h.2 hm
  refine ⟨e, ?_⟩
  rw [e2, nI_clamp (by omega)]
  omega
theorem z_nf {σ : zC} {O : Nat → Nat} {n : Nat} (hI : zI σ O n) (h : ¬ 90 ≤ σ.1 1 1) : n < 90 := z_lt (c := 90) (by rw [← hI.2.1]; exact h) (by have := hI.1; omega)
def fX3_day (σ : zC) (x : Int32) : Int32 × zC :=
  if (0 ≤ x ∧ x ≤ 100) then
    if ((σ.1 1 0) + x) ≤ 999 then
      ((σ.1 1 0) + x, (zO σ 1 0 ((σ.1 1 0) + x)))
    else
      ((-1), σ)
  else
    ((-1), σ)
set_option maxHeartbeats 4000000 in
set_option maxRecDepth 100000 in
theorem kX3_day (l : Launch) (D : va_G) (ty : zTy) (a : Nat → Nat) (σ : zC) (x : Int32) : zv_ct l D ty yX3_day cX3_day 2 (some .int) (zR 1 22) [.ref (a 0), .int x] (zc a ty σ) (fun v_ w_ => v_ = some (.int (fX3_day σ x).1) ∧ w_ = zc a ty (fX3_day σ x).2) := by
  refine zv_open (by decide) rfl rfl [some (.ref (a 0)), some (.int x)] (by simp [zv_one, Value.category]) (zle rfl) rfl ?_
  intro k K T
  refine zv_iload_n K 1 dX3_day_0 rfl rfl ?_
  refine zv_iconst K 0 2 dX3_day_1 rfl (by decide) ?_
  refine zv_bipush K 100 4 dX3_day_2 rfl (by decide) ?_
  refine zv_cS1 K (As := [.int x, .int 0, .int 100]) (rest := []) 3 7 (kX3_isWithin l D ty (zc a ty σ) x 0 100) dX3_day_4 rfl zw_1_145 zw_1_146 zw_1_1 zw_1_147 ⟨rfl, rfl⟩ zh_yX3_isWithin ⟨by decide, by decide⟩ rfl rfl (zle rfl) rfl ?_
  refine zv_ifB_eq K 25 10 dX3_day_7 (by decide) rfl (fun h1 => ?_) (fun h1 => ?_)
  · skip
    refine zv_iconst K (-1) 26 dX3_day_25 rfl (by decide) ?_
    exact zv_iret K T dX3_day_26 (⟨by simp only [fX3_day, if_neg h1], by simp only [fX3_day, if_neg h1]⟩)
  · skip
    refine zv_aload_n K 11 dX3_day_10 rfl rfl ?_
    refine zv_get (v := .ref (a 1)) (C := RX3) (T := TX3) (N := 7) K 0 0 14 dX3_day_11 rfl zy_X3 (zc_at (j := 0) (by decide)) rfl (by decide) zw_1_119 rfl ?_
    refine zv_getN (v := .int (σ.1 1 0)) (C := RX0) (T := TX0) (N := 5) K 1 0 17 dX3_day_14 rfl zy_X0 (zc_at (j := 1) (by decide)) rfl (by decide) zn_1 rfl ?_
    refine zv_iload_n K 18 dX3_day_17 rfl rfl ?_
    refine zv_iadd K 19 dX3_day_18 rfl ?_
    refine zv_sipush K 999 22 dX3_day_19 rfl (by decide) ?_
    refine zv_icmp_le K 27 25 dX3_day_22 (by decide) rfl (fun h2 => ?_) (fun h2 => ?_)
    · skip
      refine zv_aload_n K 28 dX3_day_27 rfl rfl ?_
      refine zv_get (v := .ref (a 1)) (C := RX3) (T := TX3) (N := 7) K 0 0 31 dX3_day_28 rfl zy_X3 (zc_at (j := 0) (by decide)) rfl (by decide) zw_1_119 rfl ?_
      refine zv_dup K 32 dX3_day_31 rfl rfl ?_
      refine zv_getN (v := .int (σ.1 1 0)) (C := RX0) (T := TX0) (N := 5) K 1 0 35 dX3_day_32 rfl zy_X0 (zc_at (j := 1) (by decide)) rfl (by decide) zn_1 rfl ?_
      refine zv_iload_n K 36 dX3_day_35 rfl rfl ?_
      refine zv_iadd K 37 dX3_day_36 rfl ?_
      refine zv_putN (C := RX0) (T := TX0) (N := 5) K 1 0 40 (zc a ty (zO σ 1 0 ((σ.1 1 0) + x))) dX3_day_37 rfl zy_X0 tyX0_ok nmX0 (zc_at (j := 1) (by decide)) rfl (by decide) zn_1 rfl rfl rfl rfl (zlt rfl) (zc_O 1 0 (by decide) rfl) ?_
      refine zv_aload_n K 41 dX3_day_40 rfl rfl ?_
      refine zv_get (v := .ref (a 1)) (C := RX3) (T := TX3) (N := 7) K 0 0 44 dX3_day_41 rfl zy_X3 (zc_at (j := 0) (by decide)) rfl (by decide) zw_1_119 rfl ?_
      refine zv_getN (v := .int ((σ.1 1 0) + x)) (C := RX0) (T := TX0) (N := 5) K 1 0 47 dX3_day_44 rfl zy_X0 (zc_at (j := 1) (by decide)) rfl (by decide) zn_1 rfl ?_
      exact zv_iret K T dX3_day_47 (⟨by simp only [fX3_day, if_pos h1, if_pos h2], by simp only [fX3_day, if_pos h1, if_pos h2]⟩)
    · skip
      refine zv_iconst K (-1) 26 dX3_day_25 rfl (by decide) ?_
      exact zv_iret K T dX3_day_26 (⟨by simp only [fX3_day, if_pos h1, if_neg h2], by simp only [fX3_day, if_pos h1, if_neg h2]⟩)

def fX3_rule (σ : zC) (x : Int32) (y : Int32) : Int32 × zC :=
  if x = 0 then
    if (1 ≤ y ∧ y ≤ 10) then
      (σ.1 0 3, (zO σ 0 3 y))
    else
      if x = 1 then
        if (1 ≤ y ∧ y ≤ 30) then
          (σ.1 0 4, (zO σ 0 4 y))
        else
          ((-1), σ)
      else
        ((-1), σ)
  else
    if x = 1 then
      if (1 ≤ y ∧ y ≤ 30) then
        (σ.1 0 4, (zO σ 0 4 y))
      else
        ((-1), σ)
    else
      ((-1), σ)
set_option maxHeartbeats 4000000 in
set_option maxRecDepth 100000 in
theorem kX3_rule (l : Launch) (D : va_G) (ty : zTy) (a : Nat → Nat) (σ : zC) (x y : Int32) : zv_ct l D ty yX3_rule cX3_rule 4 (some .int) (zR 1 22) [.ref (a 0), .int x, .int y] (zc a ty σ) (fun v_ w_ => v_ = some (.int (fX3_rule σ x y).1) ∧ w_ = zc a ty (fX3_rule σ x y).2) := by
  refine zv_open (by decide) rfl rfl [some (.ref (a 0)), some (.int x), some (.int y), none] (by simp [zv_one, Value.category]) (zle rfl) rfl ?_
  intro k K T
  refine zv_iload_n K 1 dX3_rule_0 rfl rfl ?_
  refine zv_if_ne K 26 4 dX3_rule_1 (by decide) rfl (fun h1 => ?_) (fun h1 => ?_)
  · skip
    refine zv_iload_n K 27 dX3_rule_26 rfl rfl ?_
    refine zv_iconst K 1 28 dX3_rule_27 rfl (by decide) ?_
    refine zv_icmp_ne K 53 31 dX3_rule_28 (by decide) rfl (fun h2 => ?_) (fun h2 => ?_)
    · skip
      refine zv_iconst K (-1) 54 dX3_rule_53 rfl (by decide) ?_
      exact zv_iret K T dX3_rule_54 (⟨by simp only [fX3_rule, if_neg h1, if_neg h2], by simp only [fX3_rule, if_neg h1, if_neg h2]⟩)
    · skip
      refine zv_iload_n K 32 dX3_rule_31 rfl rfl ?_
      refine zv_iconst K 1 33 dX3_rule_32 rfl (by decide) ?_
      refine zv_bipush K 30 35 dX3_rule_33 rfl (by decide) ?_
      refine zv_cS1 K (As := [.int y, .int 1, .int 30]) (rest := []) 3 38 (kX3_isWithin l D ty (zc a ty σ) y 1 30) dX3_rule_35 rfl zw_1_145 zw_1_146 zw_1_1 zw_1_147 ⟨rfl, rfl⟩ zh_yX3_isWithin ⟨by decide, by decide⟩ rfl rfl (zle rfl) rfl ?_
      refine zv_ifB_eq K 53 41 dX3_rule_38 (by decide) rfl (fun h3 => ?_) (fun h3 => ?_)
      · skip
        refine zv_iconst K (-1) 54 dX3_rule_53 rfl (by decide) ?_
        exact zv_iret K T dX3_rule_54 (⟨by simp only [fX3_rule, if_neg h1, if_pos h2, if_neg h3], by simp only [fX3_rule, if_neg h1, if_pos h2, if_neg h3]⟩)
      · skip
        refine zv_aload_n K 42 dX3_rule_41 rfl rfl ?_
        refine zv_get (v := .int (σ.1 0 4)) (C := RX3) (T := TX3) (N := 7) K 0 4 45 dX3_rule_42 rfl zy_X3 (zc_at (j := 0) (by decide)) rfl (by decide) zw_1_123 rfl ?_
        refine zv_istore_n K [some (.ref (a 0)), some (.int x), some (.int y), some (.int (σ.1 0 4))] 46 dX3_rule_45 rfl rfl (zlt rfl) ?_
        refine zv_aload_n K 47 dX3_rule_46 rfl rfl ?_
        refine zv_iload_n K 48 dX3_rule_47 rfl rfl ?_
        refine zv_put (C := RX3) (T := TX3) (N := 7) K 0 4 51 (zc a ty (zO σ 0 4 y)) dX3_rule_48 rfl zy_X3 tyX3_ok nmX3 (zc_at (j := 0) (by decide)) rfl (by decide) zw_1_123 rfl rfl rfl rfl (zlt rfl) (zc_O 0 4 (by decide) rfl) ?_
        refine zv_iload_n K 52 dX3_rule_51 rfl rfl ?_
        exact zv_iret K T dX3_rule_52 (⟨by simp only [fX3_rule, if_neg h1, if_pos h2, if_pos h3], by simp only [fX3_rule, if_neg h1, if_pos h2, if_pos h3]⟩)
  · skip
    refine zv_iload_n K 5 dX3_rule_4 rfl rfl ?_
    refine zv_iconst K 1 6 dX3_rule_5 rfl (by decide) ?_
    refine zv_bipush K 10 8 dX3_rule_6 rfl (by decide) ?_
    refine zv_cS1 K (As := [.int y, .int 1, .int 10]) (rest := []) 3 11 (kX3_isWithin l D ty (zc a ty σ) y 1 10) dX3_rule_8 rfl zw_1_145 zw_1_146 zw_1_1 zw_1_147 ⟨rfl, rfl⟩ zh_yX3_isWithin ⟨by decide, by decide⟩ rfl rfl (zle rfl) rfl ?_
    refine zv_ifB_eq K 26 14 dX3_rule_11 (by decide) rfl (fun h4 => ?_) (fun h4 => ?_)
    · skip
      refine zv_iload_n K 27 dX3_rule_26 rfl rfl ?_
      refine zv_iconst K 1 28 dX3_rule_27 rfl (by decide) ?_
      refine zv_icmp_ne K 53 31 dX3_rule_28 (by decide) rfl (fun h5 => ?_) (fun h5 => ?_)
      · skip
        refine zv_iconst K (-1) 54 dX3_rule_53 rfl (by decide) ?_
        exact zv_iret K T dX3_rule_54 (⟨by simp only [fX3_rule, if_pos h1, if_neg h4, if_neg h5], by simp only [fX3_rule, if_pos h1, if_neg h4, if_neg h5]⟩)
      · skip
        refine zv_iload_n K 32 dX3_rule_31 rfl rfl ?_
        refine zv_iconst K 1 33 dX3_rule_32 rfl (by decide) ?_
        refine zv_bipush K 30 35 dX3_rule_33 rfl (by decide) ?_
        refine zv_cS1 K (As := [.int y, .int 1, .int 30]) (rest := []) 3 38 (kX3_isWithin l D ty (zc a ty σ) y 1 30) dX3_rule_35 rfl zw_1_145 zw_1_146 zw_1_1 zw_1_147 ⟨rfl, rfl⟩ zh_yX3_isWithin ⟨by decide, by decide⟩ rfl rfl (zle rfl) rfl ?_
        refine zv_ifB_eq K 53 41 dX3_rule_38 (by decide) rfl (fun h6 => ?_) (fun h6 => ?_)
        · skip
          refine zv_iconst K (-1) 54 dX3_rule_53 rfl (by decide) ?_
          exact zv_iret K T dX3_rule_54 (⟨by simp only [fX3_rule, if_pos h1, if_neg h4, if_pos h5, if_neg h6], by simp only [fX3_rule, if_pos h1, if_neg h4, if_pos h5, if_neg h6]⟩)
        · skip
          refine zv_aload_n K 42 dX3_rule_41 rfl rfl ?_
          refine zv_get (v := .int (σ.1 0 4)) (C := RX3) (T := TX3) (N := 7) K 0 4 45 dX3_rule_42 rfl zy_X3 (zc_at (j := 0) (by decide)) rfl (by decide) zw_1_123 rfl ?_
          refine zv_istore_n K [some (.ref (a 0)), some (.int x), some (.int y), some (.int (σ.1 0 4))] 46 dX3_rule_45 rfl rfl (zlt rfl) ?_
          refine zv_aload_n K 47 dX3_rule_46 rfl rfl ?_
          refine zv_iload_n K 48 dX3_rule_47 rfl rfl ?_
          refine zv_put (C := RX3) (T := TX3) (N := 7) K 0 4 51 (zc a ty (zO σ 0 4 y)) dX3_rule_48 rfl zy_X3 tyX3_ok nmX3 (zc_at (j := 0) (by decide)) rfl (by decide) zw_1_123 rfl rfl rfl rfl (zlt rfl) (zc_O 0 4 (by decide) rfl) ?_
          refine zv_iload_n K 52 dX3_rule_51 rfl rfl ?_
          exact zv_iret K T dX3_rule_52 (⟨by simp only [fX3_rule, if_pos h1, if_neg h4, if_pos h5, if_pos h6], by simp only [fX3_rule, if_pos h1, if_neg h4, if_pos h5, if_pos h6]⟩)
    · skip
      refine zv_aload_n K 15 dX3_rule_14 rfl rfl ?_
      refine zv_get (v := .int (σ.1 0 3)) (C := RX3) (T := TX3) (N := 7) K 0 3 18 dX3_rule_15 rfl zy_X3 (zc_at (j := 0) (by decide)) rfl (by decide) zw_1_122 rfl ?_
      refine zv_istore_n K [some (.ref (a 0)), some (.int x), some (.int y), some (.int (σ.1 0 3))] 19 dX3_rule_18 rfl rfl (zlt rfl) ?_
      refine zv_aload_n K 20 dX3_rule_19 rfl rfl ?_
      refine zv_iload_n K 21 dX3_rule_20 rfl rfl ?_
      refine zv_put (C := RX3) (T := TX3) (N := 7) K 0 3 24 (zc a ty (zO σ 0 3 y)) dX3_rule_21 rfl zy_X3 tyX3_ok nmX3 (zc_at (j := 0) (by decide)) rfl (by decide) zw_1_122 rfl rfl rfl rfl (zlt rfl) (zc_O 0 3 (by decide) rfl) ?_
      refine zv_iload_n K 25 dX3_rule_24 rfl rfl ?_
      exact zv_iret K T dX3_rule_25 (⟨by simp only [fX3_rule, if_pos h1, if_pos h4], by simp only [fX3_rule, if_pos h1, if_pos h4]⟩)

set_option maxHeartbeats 4000000 in
set_option maxRecDepth 100000 in
theorem kX3_isPast (l : Launch) (D : va_G) (ty : zTy) (a : Nat → Nat) (σ : zC) (x : Int32) : zv_ct l D ty yX3_isPast cX3_isPast 2 (some .boolean) (zR 1 22) [.ref (a 0), .int x] (zc a ty σ) (fun v_ w_ => v_ = some (.int (zB (0 ≤ x ∧ x ≤ σ.1 1 0))) ∧ w_ = zc a ty σ) := by
  refine zv_open (by decide) rfl rfl [some (.ref (a 0)), some (.int x)] (by simp [zv_one, Value.category]) (zle rfl) rfl ?_
  intro k K T
  refine zv_iload_n K 1 dX3_isPast_0 rfl rfl ?_
  refine zv_iconst K 0 2 dX3_isPast_1 rfl (by decide) ?_
  refine zv_aload_n K 3 dX3_isPast_2 rfl rfl ?_
  refine zv_get (v := .ref (a 1)) (C := RX3) (T := TX3) (N := 7) K 0 0 6 dX3_isPast_3 rfl zy_X3 (zc_at (j := 0) (by decide)) rfl (by decide) zw_1_119 rfl ?_
  refine zv_getN (v := .int (σ.1 1 0)) (C := RX0) (T := TX0) (N := 5) K 1 0 9 dX3_isPast_6 rfl zy_X0 (zc_at (j := 1) (by decide)) rfl (by decide) zn_1 rfl ?_
  refine zv_cS1 K (As := [.int x, .int 0, .int (σ.1 1 0)]) (rest := []) 3 12 (kX3_isWithin l D ty (zc a ty σ) x 0 (σ.1 1 0)) dX3_isPast_9 rfl zw_1_145 zw_1_146 zw_1_1 zw_1_147 ⟨rfl, rfl⟩ zh_yX3_isWithin ⟨by decide, by decide⟩ rfl rfl (zle rfl) rfl ?_
  exact zv_zret K T dX3_isPast_12 zB_nar (⟨rfl, rfl⟩)

def fX3_refusalOfClaim (σ : zC) (g : Int32) (ab : Int32) (x : Int32) : Int32 :=
  if g = 0 then
    (-1)
  else
    if (0 ≤ ab ∧ ab ≤ σ.1 1 0) then
      if (0 ≤ x ∧ x < σ.1 1 1) then
        if (zg σ x.toNatClampNeg 0 = 0) then
          if (90 ≤ σ.1 1 1) then
            (-2)
          else
            0
        else
          (-3)
      else
        (-1)
    else
      (-1)
set_option maxHeartbeats 4000000 in
set_option maxRecDepth 100000 in
theorem kX3_refusalOfClaim (l : Launch) (D : va_G) (ty : zTy) (a : Nat → Nat) (σ : zC) (O : Nat → Nat) (n : Nat) (hI : zI σ O n) (g ab x : Int32) : zv_ct l D ty yX3_refusalOfClaim cX3_refusalOfClaim 4 (some .int) (zR 2 43) [.ref (a 0), .int g, .int ab, .int x] (zc a ty σ) (fun v_ w_ => v_ = some (.int (fX3_refusalOfClaim σ g ab x)) ∧ w_ = zc a ty σ) := by
  refine zv_open (by decide) rfl rfl [some (.ref (a 0)), some (.int g), some (.int ab), some (.int x)] (by simp [zv_one, Value.category]) (zle rfl) rfl ?_
  intro k K T
  refine zv_iload_n K 1 dX3_refusalOfClaim_0 rfl rfl ?_
  refine zv_if_eq K 23 4 dX3_refusalOfClaim_1 (by decide) rfl (fun h1 => ?_) (fun h1 => ?_)
  · skip
    refine zv_iconst K (-1) 24 dX3_refusalOfClaim_23 rfl (by decide) ?_
    exact zv_iret K T dX3_refusalOfClaim_24 (⟨by simp only [fX3_refusalOfClaim, if_pos h1], rfl⟩)
  · skip
    refine zv_aload_n K 5 dX3_refusalOfClaim_4 rfl rfl ?_
    refine zv_iload_n K 6 dX3_refusalOfClaim_5 rfl rfl ?_
    refine zv_cV1 K (q0 := 0) (As := [.int ab]) (rest := []) 1 9 (kX3_isPast l D ty a σ ab) dX3_refusalOfClaim_6 rfl zw_1_156 zw_1_158 zw_p1_0 zw_1_1 zw_1_159 ⟨rfl, rfl⟩ zh_yX3_isPast ⟨by decide, by decide⟩ (zc_at (j := 0) (by decide)) rfl rfl rfl (zle rfl) rfl ?_
    refine zv_ifB_eq K 23 12 dX3_refusalOfClaim_9 (by decide) rfl (fun h2 => ?_) (fun h2 => ?_)
    · skip
      refine zv_iconst K (-1) 24 dX3_refusalOfClaim_23 rfl (by decide) ?_
      exact zv_iret K T dX3_refusalOfClaim_24 (⟨by simp only [fX3_refusalOfClaim, if_neg h1, if_neg h2], rfl⟩)
    · skip
      refine zv_aload_n K 13 dX3_refusalOfClaim_12 rfl rfl ?_
      refine zv_get (v := .ref (a 1)) (C := RX3) (T := TX3) (N := 7) K 0 0 16 dX3_refusalOfClaim_13 rfl zy_X3 (zc_at (j := 0) (by decide)) rfl (by decide) zw_1_119 rfl ?_
      refine zv_iload_n K 17 dX3_refusalOfClaim_16 rfl rfl ?_
      refine zv_cV1 K (q0 := 1) (As := [.int x]) (rest := []) 1 20 (kX0_has l D ty a σ x) dX3_refusalOfClaim_17 rfl zw_1_208 zw_1_209 zw_1_210 zw_1_2 zw_1_211 ⟨rfl, rfl⟩ zh_yX0_has ⟨by decide, by decide⟩ (zc_at (j := 1) (by decide)) rfl rfl rfl (zle rfl) rfl ?_
      refine zv_ifB_ne K 25 23 dX3_refusalOfClaim_20 (by decide) rfl (fun hh => ?_) (fun hh => ?_)
      · skip
        obtain ⟨hx, hf⟩ := z_has hI hh
        refine zv_aload_n K 26 dX3_refusalOfClaim_25 rfl rfl ?_
        refine zv_get (v := .ref (a 1)) (C := RX3) (T := TX3) (N := 7) K 0 0 29 dX3_refusalOfClaim_26 rfl zy_X3 (zc_at (j := 0) (by decide)) rfl (by decide) zw_1_119 rfl ?_
        refine zv_iload_n K 30 dX3_refusalOfClaim_29 rfl rfl ?_
        refine zv_cV1 K (q0 := 1) (As := [.int x]) (rest := []) 1 33 (kX0_isStake l D ty a σ x x.toNatClampNeg hx hf) dX3_refusalOfClaim_30 rfl zw_1_212 zw_1_213 zw_1_214 zw_1_2 zw_1_215 ⟨rfl, rfl⟩ zh_yX0_isStake ⟨by decide, by decide⟩ (zc_at (j := 1) (by decide)) rfl rfl rfl (zle rfl) rfl ?_
        refine zv_ifB_ne K 39 36 dX3_refusalOfClaim_33 (by decide) rfl (fun h4 => ?_) (fun h4 => ?_)
        · skip
          refine zv_aload_n K 40 dX3_refusalOfClaim_39 rfl rfl ?_
          refine zv_get (v := .ref (a 1)) (C := RX3) (T := TX3) (N := 7) K 0 0 43 dX3_refusalOfClaim_40 rfl zy_X3 (zc_at (j := 0) (by decide)) rfl (by decide) zw_1_119 rfl ?_
          refine zv_cV1 K (q0 := 1) (As := []) (rest := []) 0 46 (kX0_isFull l D ty a σ) dX3_refusalOfClaim_43 rfl zw_1_169 zw_1_170 zw_1_171 zw_1_2 zw_1_172 ⟨rfl, rfl⟩ zh_yX0_isFull ⟨by decide, by decide⟩ (zc_at (j := 1) (by decide)) rfl rfl rfl (zle rfl) rfl ?_
          refine zv_ifB_eq K 54 49 dX3_refusalOfClaim_46 (by decide) rfl (fun h5 => ?_) (fun h5 => ?_)
          · skip
            refine zv_iconst K 0 55 dX3_refusalOfClaim_54 rfl (by decide) ?_
            exact zv_iret K T dX3_refusalOfClaim_55 (⟨by simp only [fX3_refusalOfClaim, if_neg h1, if_pos h2, if_pos hh, if_pos h4, if_neg h5], rfl⟩)
          · skip
            refine zv_bipush K (-2) 51 dX3_refusalOfClaim_49 rfl (by decide) ?_
            refine zv_goto K 55 dX3_refusalOfClaim_51 (by decide) ?_
            exact zv_iret K T dX3_refusalOfClaim_55 (⟨by simp only [fX3_refusalOfClaim, if_neg h1, if_pos h2, if_pos hh, if_pos h4, if_pos h5], rfl⟩)
        · skip
          refine zv_bipush K (-3) 38 dX3_refusalOfClaim_36 rfl (by decide) ?_
          exact zv_iret K T dX3_refusalOfClaim_38 (⟨by simp only [fX3_refusalOfClaim, if_neg h1, if_pos h2, if_pos hh, if_neg h4], rfl⟩)
      · skip
        refine zv_iconst K (-1) 24 dX3_refusalOfClaim_23 rfl (by decide) ?_
        exact zv_iret K T dX3_refusalOfClaim_24 (⟨by simp only [fX3_refusalOfClaim, if_neg h1, if_pos h2, if_neg hh], rfl⟩)

theorem z_ref {σ : zC} {g ab x : Int32} (h : 0 ≤ fX3_refusalOfClaim σ g ab x) : (¬ g = 0) ∧ (0 ≤ ab ∧ ab ≤ σ.1 1 0) ∧ (0 ≤ x ∧ x < σ.1 1 1) ∧ zg σ x.toNatClampNeg 0 = 0 ∧ ¬ 90 ≤ σ.1 1 1 := by
  unfold fX3_refusalOfClaim at h
  split at h
  · exact absurd h (by decide)
  · split at h
    · split at h
      · split at h
        · split at h
          · exact absurd h (by decide)
          · exact ⟨by assumption, by assumption, by assumption, by assumption, by assumption⟩
        · exact absurd h (by decide)
      · exact absurd h (by decide)
    · exact absurd h (by decide)
def fX3_work (σ : zC) (n : Nat) (ab : Int32) (x : Int32) : Int32 × zC :=
  if 0 ≤ (fX3_refusalOfClaim σ 1 ab x) then
    (nI n, (zp (zap σ n 1 ab (zg σ x.toNatClampNeg 4)) n 9 x))
  else
    (fX3_refusalOfClaim σ 1 ab x, σ)
set_option maxHeartbeats 4000000 in
set_option maxRecDepth 100000 in
theorem kX3_work (l : Launch) (D : va_G) (ty : zTy) (a : Nat → Nat) (σ : zC) (O : Nat → Nat) (n : Nat) (hI : zI σ O n) (ab x : Int32) : zv_ct l D ty yX3_work cX3_work 4 (some .int) (zR 4 94) [.ref (a 0), .int ab, .int x] (zc a ty σ) (fun v_ w_ => v_ = some (.int (fX3_work σ n ab x).1) ∧ w_ = zc a ty (fX3_work σ n ab x).2) := by
  refine zv_open (by decide) rfl rfl [some (.ref (a 0)), some (.int ab), some (.int x), none] (by simp [zv_one, Value.category]) (zle rfl) rfl ?_
  intro k K T
  refine zv_aload_n K 1 dX3_work_0 rfl rfl ?_
  refine zv_iconst K 1 2 dX3_work_1 rfl (by decide) ?_
  refine zv_iload_n K 3 dX3_work_2 rfl rfl ?_
  refine zv_iload_n K 4 dX3_work_3 rfl rfl ?_
  refine zv_cV1 K (q0 := 0) (As := [.int 1, .int ab, .int x]) (rest := []) 3 7 (kX3_refusalOfClaim l D ty a σ O n hI 1 ab x) dX3_work_4 rfl zw_1_204 zw_1_206 zw_p1_2 zw_1_1 zw_1_207 ⟨rfl, rfl⟩ zh_yX3_refusalOfClaim ⟨by decide, by decide⟩ (zc_at (j := 0) (by decide)) rfl rfl rfl (zle rfl) rfl ?_
  refine zv_istore_n K [some (.ref (a 0)), some (.int ab), some (.int x), some (.int (fX3_refusalOfClaim σ 1 ab x))] 8 dX3_work_7 rfl rfl (zlt rfl) ?_
  refine zv_iload_n K 9 dX3_work_8 rfl rfl ?_
  refine zv_if_ge K 16 12 dX3_work_9 (by decide) rfl (fun hr => ?_) (fun hr => ?_)
  · skip
    obtain ⟨hg_, hab_, hx_, hk_, hf_⟩ := z_ref hr
    obtain ⟨hx, hf⟩ := z_has hI hx_
    have hn := z_nf hI hf_
    have hc := hI.2.1
    have hG := hI.val
    refine zv_aload_n K 17 dX3_work_16 rfl rfl ?_
    refine zv_get (v := .ref (a 1)) (C := RX3) (T := TX3) (N := 7) K 0 0 20 dX3_work_17 rfl zy_X3 (zc_at (j := 0) (by decide)) rfl (by decide) zw_1_119 rfl ?_
    refine zv_iconst K 1 21 dX3_work_20 rfl (by decide) ?_
    refine zv_iload_n K 22 dX3_work_21 rfl rfl ?_
    refine zv_iload_n K 23 dX3_work_22 rfl rfl ?_
    refine zv_cV1 K (q0 := 1) (As := [.int 1, .int ab, .int x]) (rest := []) 3 26 (kX0_appendOf l D ty a σ 1 ab x x.toNatClampNeg n hx hf hn hc hG) dX3_work_23 rfl zw_1_216 zw_1_217 zw_1_218 zw_1_2 zw_1_219 ⟨rfl, rfl⟩ zh_yX0_appendOf ⟨by decide, by decide⟩ (zc_at (j := 1) (by decide)) rfl rfl rfl (zle rfl) rfl ?_
    exact zv_iret K T dX3_work_26 (⟨by simp only [fX3_work, if_pos hr], by simp only [fX3_work, if_pos hr]⟩)
  · skip
    refine zv_iload_n K 13 dX3_work_12 rfl rfl ?_
    refine zv_goto K 26 dX3_work_13 (by decide) ?_
    exact zv_iret K T dX3_work_26 (⟨by simp only [fX3_work, if_neg hr], by simp only [fX3_work, if_neg hr]⟩)

def fX3_give (σ : zC) (n : Nat) (ab : Int32) (x : Int32) : Int32 × zC :=
  if 0 ≤ (fX3_refusalOfClaim σ 1 ab x) then
    (nI n, (zp (zap σ n 3 ab (zg σ x.toNatClampNeg 4)) n 9 x))
  else
    (fX3_refusalOfClaim σ 1 ab x, σ)
set_option maxHeartbeats 4000000 in
set_option maxRecDepth 100000 in
theorem kX3_give (l : Launch) (D : va_G) (ty : zTy) (a : Nat → Nat) (σ : zC) (O : Nat → Nat) (n : Nat) (hI : zI σ O n) (ab x : Int32) : zv_ct l D ty yX3_give cX3_give 4 (some .int) (zR 4 94) [.ref (a 0), .int ab, .int x] (zc a ty σ) (fun v_ w_ => v_ = some (.int (fX3_give σ n ab x).1) ∧ w_ = zc a ty (fX3_give σ n ab x).2) := by
  refine zv_open (by decide) rfl rfl [some (.ref (a 0)), some (.int ab), some (.int x), none] (by simp [zv_one, Value.category]) (zle rfl) rfl ?_
  intro k K T
  refine zv_aload_n K 1 dX3_give_0 rfl rfl ?_
  refine zv_iconst K 1 2 dX3_give_1 rfl (by decide) ?_
  refine zv_iload_n K 3 dX3_give_2 rfl rfl ?_
  refine zv_iload_n K 4 dX3_give_3 rfl rfl ?_
  refine zv_cV1 K (q0 := 0) (As := [.int 1, .int ab, .int x]) (rest := []) 3 7 (kX3_refusalOfClaim l D ty a σ O n hI 1 ab x) dX3_give_4 rfl zw_1_204 zw_1_206 zw_p1_2 zw_1_1 zw_1_207 ⟨rfl, rfl⟩ zh_yX3_refusalOfClaim ⟨by decide, by decide⟩ (zc_at (j := 0) (by decide)) rfl rfl rfl (zle rfl) rfl ?_
  refine zv_istore_n K [some (.ref (a 0)), some (.int ab), some (.int x), some (.int (fX3_refusalOfClaim σ 1 ab x))] 8 dX3_give_7 rfl rfl (zlt rfl) ?_
  refine zv_iload_n K 9 dX3_give_8 rfl rfl ?_
  refine zv_if_ge K 16 12 dX3_give_9 (by decide) rfl (fun hr => ?_) (fun hr => ?_)
  · skip
    obtain ⟨hg_, hab_, hx_, hk_, hf_⟩ := z_ref hr
    obtain ⟨hx, hf⟩ := z_has hI hx_
    have hn := z_nf hI hf_
    have hc := hI.2.1
    have hG := hI.val
    refine zv_aload_n K 17 dX3_give_16 rfl rfl ?_
    refine zv_get (v := .ref (a 1)) (C := RX3) (T := TX3) (N := 7) K 0 0 20 dX3_give_17 rfl zy_X3 (zc_at (j := 0) (by decide)) rfl (by decide) zw_1_119 rfl ?_
    refine zv_iconst K 3 21 dX3_give_20 rfl (by decide) ?_
    refine zv_iload_n K 22 dX3_give_21 rfl rfl ?_
    refine zv_iload_n K 23 dX3_give_22 rfl rfl ?_
    refine zv_cV1 K (q0 := 1) (As := [.int 3, .int ab, .int x]) (rest := []) 3 26 (kX0_appendOf l D ty a σ 3 ab x x.toNatClampNeg n hx hf hn hc hG) dX3_give_23 rfl zw_1_216 zw_1_217 zw_1_218 zw_1_2 zw_1_219 ⟨rfl, rfl⟩ zh_yX0_appendOf ⟨by decide, by decide⟩ (zc_at (j := 1) (by decide)) rfl rfl rfl (zle rfl) rfl ?_
    exact zv_iret K T dX3_give_26 (⟨by simp only [fX3_give, if_pos hr], by simp only [fX3_give, if_pos hr]⟩)
  · skip
    refine zv_iload_n K 13 dX3_give_12 rfl rfl ?_
    refine zv_goto K 26 dX3_give_13 (by decide) ?_
    exact zv_iret K T dX3_give_26 (⟨by simp only [fX3_give, if_neg hr], by simp only [fX3_give, if_neg hr]⟩)

def fX3_nick (σ : zC) (n : Nat) (ab : Int32) (x : Int32) (m : Int32) : Int32 × zC :=
  if 0 ≤ (fX3_refusalOfClaim σ (zB (0 ≤ m ∧ m ≤ 9)) ab x) then
    (nI n, (zp (zp (zap σ n 2 ab (zg σ x.toNatClampNeg 4)) n 9 x) n 5 m))
  else
    (fX3_refusalOfClaim σ (zB (0 ≤ m ∧ m ≤ 9)) ab x, σ)
set_option maxHeartbeats 4000000 in
set_option maxRecDepth 100000 in
theorem kX3_nick (l : Launch) (D : va_G) (ty : zTy) (a : Nat → Nat) (σ : zC) (O : Nat → Nat) (n : Nat) (hI : zI σ O n) (ab x m : Int32) : zv_ct l D ty yX3_nick cX3_nick 6 (some .int) (zR 4 94) [.ref (a 0), .int ab, .int x, .int m] (zc a ty σ) (fun v_ w_ => v_ = some (.int (fX3_nick σ n ab x m).1) ∧ w_ = zc a ty (fX3_nick σ n ab x m).2) := by
  refine zv_open (by decide) rfl rfl [some (.ref (a 0)), some (.int ab), some (.int x), some (.int m), none, none] (by simp [zv_one, Value.category]) (zle rfl) rfl ?_
  intro k K T
  refine zv_aload_n K 1 dX3_nick_0 rfl rfl ?_
  refine zv_iload_n K 2 dX3_nick_1 rfl rfl ?_
  refine zv_cS1 K (As := [.int m]) (rest := [.ref (a 0)]) 1 5 (kX3_isMiner l D ty (zc a ty σ) m) dX3_nick_2 rfl zw_1_166 zw_1_167 zw_1_1 zw_1_168 ⟨rfl, rfl⟩ zh_yX3_isMiner ⟨by decide, by decide⟩ rfl rfl (zle rfl) rfl ?_
  refine zv_iload_n K 6 dX3_nick_5 rfl rfl ?_
  refine zv_iload_n K 7 dX3_nick_6 rfl rfl ?_
  refine zv_cV1 K (q0 := 0) (As := [.int (zB (0 ≤ m ∧ m ≤ 9)), .int ab, .int x]) (rest := []) 3 10 (kX3_refusalOfClaim l D ty a σ O n hI (zB (0 ≤ m ∧ m ≤ 9)) ab x) dX3_nick_7 rfl zw_1_204 zw_1_206 zw_p1_2 zw_1_1 zw_1_207 ⟨rfl, rfl⟩ zh_yX3_refusalOfClaim ⟨by decide, by decide⟩ (zc_at (j := 0) (by decide)) rfl rfl rfl (zle rfl) rfl ?_
  refine zv_istore K [some (.ref (a 0)), some (.int ab), some (.int x), some (.int m), some (.int (fX3_refusalOfClaim σ (zB (0 ≤ m ∧ m ≤ 9)) ab x)), none] 12 dX3_nick_10 rfl rfl (zlt rfl) ?_
  refine zv_iload K 14 dX3_nick_12 rfl rfl ?_
  refine zv_if_ge K 20 17 dX3_nick_14 (by decide) rfl (fun hr => ?_) (fun hr => ?_)
  · skip
    obtain ⟨hg_, hab_, hx_, hk_, hf_⟩ := z_ref hr
    obtain ⟨hx, hf⟩ := z_has hI hx_
    have hn := z_nf hI hf_
    have hc := hI.2.1
    have hG := hI.val
    refine zv_aload_n K 21 dX3_nick_20 rfl rfl ?_
    refine zv_get (v := .ref (a 1)) (C := RX3) (T := TX3) (N := 7) K 0 0 24 dX3_nick_21 rfl zy_X3 (zc_at (j := 0) (by decide)) rfl (by decide) zw_1_119 rfl ?_
    refine zv_iconst K 2 25 dX3_nick_24 rfl (by decide) ?_
    refine zv_iload_n K 26 dX3_nick_25 rfl rfl ?_
    refine zv_iload_n K 27 dX3_nick_26 rfl rfl ?_
    refine zv_cV1 K (q0 := 1) (As := [.int 2, .int ab, .int x]) (rest := []) 3 30 (kX0_appendOf l D ty a σ 2 ab x x.toNatClampNeg n hx hf hn hc hG) dX3_nick_27 rfl zw_1_216 zw_1_217 zw_1_218 zw_1_2 zw_1_219 ⟨rfl, rfl⟩ zh_yX0_appendOf ⟨by decide, by decide⟩ (zc_at (j := 1) (by decide)) rfl rfl rfl (zle rfl) rfl ?_
    refine zv_istore K [some (.ref (a 0)), some (.int ab), some (.int x), some (.int m), some (.int (fX3_refusalOfClaim σ (zB (0 ≤ m ∧ m ≤ 9)) ab x)), some (.int (nI n))] 32 dX3_nick_30 rfl rfl (zlt rfl) ?_
    refine zv_aload_n K 33 dX3_nick_32 rfl rfl ?_
    refine zv_get (v := .ref (a 1)) (C := RX3) (T := TX3) (N := 7) K 0 0 36 dX3_nick_33 rfl zy_X3 (zc_at (j := 0) (by decide)) rfl (by decide) zw_1_119 rfl ?_
    refine zv_iload K 38 dX3_nick_36 rfl rfl ?_
    refine zv_iconst K 5 39 dX3_nick_38 rfl (by decide) ?_
    refine zv_iload_n K 40 dX3_nick_39 rfl rfl ?_
    refine zv_cV0 K (q0 := 1) (As := [.int (nI n), .int 5, .int m]) (rest := []) 3 43 (kX0_put l D ty a (zp (zap σ n 2 ab (zg σ x.toNatClampNeg 4)) n 9 x) (nI n) 5 m n 5 rfl rfl hn (by decide)) dX3_nick_40 rfl zw_1_189 zw_1_178 zw_1_179 zw_1_2 zw_1_180 ⟨rfl, rfl⟩ zh_yX0_put ⟨by decide, by decide⟩ (zc_at (j := 1) (by decide)) rfl rfl rfl (zle rfl) rfl ?_
    refine zv_iload K 45 dX3_nick_43 rfl rfl ?_
    exact zv_iret K T dX3_nick_45 (⟨by simp only [fX3_nick, if_pos hr], by simp only [fX3_nick, if_pos hr]⟩)
  · skip
    refine zv_iload K 19 dX3_nick_17 rfl rfl ?_
    exact zv_iret K T dX3_nick_19 (⟨by simp only [fX3_nick, if_neg hr], by simp only [fX3_nick, if_neg hr]⟩)

def fX3_view (σ : zC) (n : Nat) (ab : Int32) (x : Int32) (p : Int32) (q : Int32) : Int32 × zC :=
  if (0 ≤ p ∧ p ≤ 59) then
    if (0 ≤ q ∧ q ≤ 59) then
      if q < p then
        if 0 ≤ (fX3_refusalOfClaim σ 0 ab x) then
          (nI n, (zp (zp (zp (zap σ n 4 ab (zg σ x.toNatClampNeg 4)) n 9 x) n 6 p) n 7 q))
        else
          (fX3_refusalOfClaim σ 0 ab x, σ)
      else
        if 0 ≤ (fX3_refusalOfClaim σ 1 ab x) then
          (nI n, (zp (zp (zp (zap σ n 4 ab (zg σ x.toNatClampNeg 4)) n 9 x) n 6 p) n 7 q))
        else
          (fX3_refusalOfClaim σ 1 ab x, σ)
    else
      if 0 ≤ (fX3_refusalOfClaim σ 0 ab x) then
        (nI n, (zp (zp (zp (zap σ n 4 ab (zg σ x.toNatClampNeg 4)) n 9 x) n 6 p) n 7 q))
      else
        (fX3_refusalOfClaim σ 0 ab x, σ)
  else
    if 0 ≤ (fX3_refusalOfClaim σ 0 ab x) then
      (nI n, (zp (zp (zp (zap σ n 4 ab (zg σ x.toNatClampNeg 4)) n 9 x) n 6 p) n 7 q))
    else
      (fX3_refusalOfClaim σ 0 ab x, σ)
set_option maxHeartbeats 4000000 in
set_option maxRecDepth 100000 in
theorem kX3_view (l : Launch) (D : va_G) (ty : zTy) (a : Nat → Nat) (σ : zC) (O : Nat → Nat) (n : Nat) (hI : zI σ O n) (ab x p q : Int32) : zv_ct l D ty yX3_view cX3_view 7 (some .int) (zR 4 94) [.ref (a 0), .int ab, .int x, .int p, .int q] (zc a ty σ) (fun v_ w_ => v_ = some (.int (fX3_view σ n ab x p q).1) ∧ w_ = zc a ty (fX3_view σ n ab x p q).2) := by
  refine zv_open (by decide) rfl rfl [some (.ref (a 0)), some (.int ab), some (.int x), some (.int p), some (.int q), none, none] (by simp [zv_one, Value.category]) (zle rfl) rfl ?_
  intro k K T
  refine zv_aload_n K 1 dX3_view_0 rfl rfl ?_
  refine zv_iload_n K 2 dX3_view_1 rfl rfl ?_
  refine zv_cS1 K (As := [.int p]) (rest := [.ref (a 0)]) 1 5 (kX3_isFoot l D ty (zc a ty σ) p) dX3_view_2 rfl zw_1_163 zw_1_164 zw_1_1 zw_1_165 ⟨rfl, rfl⟩ zh_yX3_isFoot ⟨by decide, by decide⟩ rfl rfl (zle rfl) rfl ?_
  refine zv_ifB_eq K 26 8 dX3_view_5 (by decide) rfl (fun h1 => ?_) (fun h1 => ?_)
  · skip
    refine zv_iconst K 0 27 dX3_view_26 rfl (by decide) ?_
    refine zv_iload_n K 28 dX3_view_27 rfl rfl ?_
    refine zv_iload_n K 29 dX3_view_28 rfl rfl ?_
    refine zv_cV1 K (q0 := 0) (As := [.int 0, .int ab, .int x]) (rest := []) 3 32 (kX3_refusalOfClaim l D ty a σ O n hI 0 ab x) dX3_view_29 rfl zw_1_204 zw_1_206 zw_p1_2 zw_1_1 zw_1_207 ⟨rfl, rfl⟩ zh_yX3_refusalOfClaim ⟨by decide, by decide⟩ (zc_at (j := 0) (by decide)) rfl rfl rfl (zle rfl) rfl ?_
    refine zv_istore K [some (.ref (a 0)), some (.int ab), some (.int x), some (.int p), some (.int q), some (.int (fX3_refusalOfClaim σ 0 ab x)), none] 34 dX3_view_32 rfl rfl (zlt rfl) ?_
    refine zv_iload K 36 dX3_view_34 rfl rfl ?_
    refine zv_if_ge K 42 39 dX3_view_36 (by decide) rfl (fun hr => ?_) (fun hr => ?_)
    · skip
      obtain ⟨hg_, hab_, hx_, hk_, hf_⟩ := z_ref hr
      obtain ⟨hx, hf⟩ := z_has hI hx_
      have hn := z_nf hI hf_
      have hc := hI.2.1
      have hG := hI.val
      refine zv_aload_n K 43 dX3_view_42 rfl rfl ?_
      refine zv_get (v := .ref (a 1)) (C := RX3) (T := TX3) (N := 7) K 0 0 46 dX3_view_43 rfl zy_X3 (zc_at (j := 0) (by decide)) rfl (by decide) zw_1_119 rfl ?_
      refine zv_iconst K 4 47 dX3_view_46 rfl (by decide) ?_
      refine zv_iload_n K 48 dX3_view_47 rfl rfl ?_
      refine zv_iload_n K 49 dX3_view_48 rfl rfl ?_
      refine zv_cV1 K (q0 := 1) (As := [.int 4, .int ab, .int x]) (rest := []) 3 52 (kX0_appendOf l D ty a σ 4 ab x x.toNatClampNeg n hx hf hn hc hG) dX3_view_49 rfl zw_1_216 zw_1_217 zw_1_218 zw_1_2 zw_1_219 ⟨rfl, rfl⟩ zh_yX0_appendOf ⟨by decide, by decide⟩ (zc_at (j := 1) (by decide)) rfl rfl rfl (zle rfl) rfl ?_
      refine zv_istore K [some (.ref (a 0)), some (.int ab), some (.int x), some (.int p), some (.int q), some (.int (fX3_refusalOfClaim σ 0 ab x)), some (.int (nI n))] 54 dX3_view_52 rfl rfl (zlt rfl) ?_
      refine zv_aload_n K 55 dX3_view_54 rfl rfl ?_
      refine zv_get (v := .ref (a 1)) (C := RX3) (T := TX3) (N := 7) K 0 0 58 dX3_view_55 rfl zy_X3 (zc_at (j := 0) (by decide)) rfl (by decide) zw_1_119 rfl ?_
      refine zv_iload K 60 dX3_view_58 rfl rfl ?_
      refine zv_iload_n K 61 dX3_view_60 rfl rfl ?_
      refine zv_iload K 63 dX3_view_61 rfl rfl ?_
      refine zv_cV0 K (q0 := 1) (As := [.int (nI n), .int p, .int q]) (rest := []) 3 66 (kX0_putFeet l D ty a (zp (zap σ n 4 ab (zg σ x.toNatClampNeg 4)) n 9 x) (nI n) p q n rfl hn) dX3_view_63 rfl zw_1_196 zw_1_197 zw_1_198 zw_1_2 zw_1_199 ⟨rfl, rfl⟩ zh_yX0_putFeet ⟨by decide, by decide⟩ (zc_at (j := 1) (by decide)) rfl rfl rfl (zle rfl) rfl ?_
      refine zv_iload K 68 dX3_view_66 rfl rfl ?_
      exact zv_iret K T dX3_view_68 (⟨by simp only [fX3_view, if_neg h1, if_pos hr], by simp only [fX3_view, if_neg h1, if_pos hr]⟩)
    · skip
      refine zv_iload K 41 dX3_view_39 rfl rfl ?_
      exact zv_iret K T dX3_view_41 (⟨by simp only [fX3_view, if_neg h1, if_neg hr], by simp only [fX3_view, if_neg h1, if_neg hr]⟩)
  · skip
    refine zv_iload K 10 dX3_view_8 rfl rfl ?_
    refine zv_cS1 K (As := [.int q]) (rest := [.ref (a 0)]) 1 13 (kX3_isFoot l D ty (zc a ty σ) q) dX3_view_10 rfl zw_1_163 zw_1_164 zw_1_1 zw_1_165 ⟨rfl, rfl⟩ zh_yX3_isFoot ⟨by decide, by decide⟩ rfl rfl (zle rfl) rfl ?_
    refine zv_ifB_eq K 26 16 dX3_view_13 (by decide) rfl (fun h3 => ?_) (fun h3 => ?_)
    · skip
      refine zv_iconst K 0 27 dX3_view_26 rfl (by decide) ?_
      refine zv_iload_n K 28 dX3_view_27 rfl rfl ?_
      refine zv_iload_n K 29 dX3_view_28 rfl rfl ?_
      refine zv_cV1 K (q0 := 0) (As := [.int 0, .int ab, .int x]) (rest := []) 3 32 (kX3_refusalOfClaim l D ty a σ O n hI 0 ab x) dX3_view_29 rfl zw_1_204 zw_1_206 zw_p1_2 zw_1_1 zw_1_207 ⟨rfl, rfl⟩ zh_yX3_refusalOfClaim ⟨by decide, by decide⟩ (zc_at (j := 0) (by decide)) rfl rfl rfl (zle rfl) rfl ?_
      refine zv_istore K [some (.ref (a 0)), some (.int ab), some (.int x), some (.int p), some (.int q), some (.int (fX3_refusalOfClaim σ 0 ab x)), none] 34 dX3_view_32 rfl rfl (zlt rfl) ?_
      refine zv_iload K 36 dX3_view_34 rfl rfl ?_
      refine zv_if_ge K 42 39 dX3_view_36 (by decide) rfl (fun hr => ?_) (fun hr => ?_)
      · skip
        obtain ⟨hg_, hab_, hx_, hk_, hf_⟩ := z_ref hr
        obtain ⟨hx, hf⟩ := z_has hI hx_
        have hn := z_nf hI hf_
        have hc := hI.2.1
        have hG := hI.val
        refine zv_aload_n K 43 dX3_view_42 rfl rfl ?_
        refine zv_get (v := .ref (a 1)) (C := RX3) (T := TX3) (N := 7) K 0 0 46 dX3_view_43 rfl zy_X3 (zc_at (j := 0) (by decide)) rfl (by decide) zw_1_119 rfl ?_
        refine zv_iconst K 4 47 dX3_view_46 rfl (by decide) ?_
        refine zv_iload_n K 48 dX3_view_47 rfl rfl ?_
        refine zv_iload_n K 49 dX3_view_48 rfl rfl ?_
        refine zv_cV1 K (q0 := 1) (As := [.int 4, .int ab, .int x]) (rest := []) 3 52 (kX0_appendOf l D ty a σ 4 ab x x.toNatClampNeg n hx hf hn hc hG) dX3_view_49 rfl zw_1_216 zw_1_217 zw_1_218 zw_1_2 zw_1_219 ⟨rfl, rfl⟩ zh_yX0_appendOf ⟨by decide, by decide⟩ (zc_at (j := 1) (by decide)) rfl rfl rfl (zle rfl) rfl ?_
        refine zv_istore K [some (.ref (a 0)), some (.int ab), some (.int x), some (.int p), some (.int q), some (.int (fX3_refusalOfClaim σ 0 ab x)), some (.int (nI n))] 54 dX3_view_52 rfl rfl (zlt rfl) ?_
        refine zv_aload_n K 55 dX3_view_54 rfl rfl ?_
        refine zv_get (v := .ref (a 1)) (C := RX3) (T := TX3) (N := 7) K 0 0 58 dX3_view_55 rfl zy_X3 (zc_at (j := 0) (by decide)) rfl (by decide) zw_1_119 rfl ?_
        refine zv_iload K 60 dX3_view_58 rfl rfl ?_
        refine zv_iload_n K 61 dX3_view_60 rfl rfl ?_
        refine zv_iload K 63 dX3_view_61 rfl rfl ?_
        refine zv_cV0 K (q0 := 1) (As := [.int (nI n), .int p, .int q]) (rest := []) 3 66 (kX0_putFeet l D ty a (zp (zap σ n 4 ab (zg σ x.toNatClampNeg 4)) n 9 x) (nI n) p q n rfl hn) dX3_view_63 rfl zw_1_196 zw_1_197 zw_1_198 zw_1_2 zw_1_199 ⟨rfl, rfl⟩ zh_yX0_putFeet ⟨by decide, by decide⟩ (zc_at (j := 1) (by decide)) rfl rfl rfl (zle rfl) rfl ?_
        refine zv_iload K 68 dX3_view_66 rfl rfl ?_
        exact zv_iret K T dX3_view_68 (⟨by simp only [fX3_view, if_pos h1, if_neg h3, if_pos hr], by simp only [fX3_view, if_pos h1, if_neg h3, if_pos hr]⟩)
      · skip
        refine zv_iload K 41 dX3_view_39 rfl rfl ?_
        exact zv_iret K T dX3_view_41 (⟨by simp only [fX3_view, if_pos h1, if_neg h3, if_neg hr], by simp only [fX3_view, if_pos h1, if_neg h3, if_neg hr]⟩)
    · skip
      refine zv_iload_n K 17 dX3_view_16 rfl rfl ?_
      refine zv_iload K 19 dX3_view_17 rfl rfl ?_
      refine zv_icmp_gt K 26 22 dX3_view_19 (by decide) rfl (fun h5 => ?_) (fun h5 => ?_)
      · skip
        refine zv_iconst K 0 27 dX3_view_26 rfl (by decide) ?_
        refine zv_iload_n K 28 dX3_view_27 rfl rfl ?_
        refine zv_iload_n K 29 dX3_view_28 rfl rfl ?_
        refine zv_cV1 K (q0 := 0) (As := [.int 0, .int ab, .int x]) (rest := []) 3 32 (kX3_refusalOfClaim l D ty a σ O n hI 0 ab x) dX3_view_29 rfl zw_1_204 zw_1_206 zw_p1_2 zw_1_1 zw_1_207 ⟨rfl, rfl⟩ zh_yX3_refusalOfClaim ⟨by decide, by decide⟩ (zc_at (j := 0) (by decide)) rfl rfl rfl (zle rfl) rfl ?_
        refine zv_istore K [some (.ref (a 0)), some (.int ab), some (.int x), some (.int p), some (.int q), some (.int (fX3_refusalOfClaim σ 0 ab x)), none] 34 dX3_view_32 rfl rfl (zlt rfl) ?_
        refine zv_iload K 36 dX3_view_34 rfl rfl ?_
        refine zv_if_ge K 42 39 dX3_view_36 (by decide) rfl (fun hr => ?_) (fun hr => ?_)
        · skip
          obtain ⟨hg_, hab_, hx_, hk_, hf_⟩ := z_ref hr
          obtain ⟨hx, hf⟩ := z_has hI hx_
          have hn := z_nf hI hf_
          have hc := hI.2.1
          have hG := hI.val
          refine zv_aload_n K 43 dX3_view_42 rfl rfl ?_
          refine zv_get (v := .ref (a 1)) (C := RX3) (T := TX3) (N := 7) K 0 0 46 dX3_view_43 rfl zy_X3 (zc_at (j := 0) (by decide)) rfl (by decide) zw_1_119 rfl ?_
          refine zv_iconst K 4 47 dX3_view_46 rfl (by decide) ?_
          refine zv_iload_n K 48 dX3_view_47 rfl rfl ?_
          refine zv_iload_n K 49 dX3_view_48 rfl rfl ?_
          refine zv_cV1 K (q0 := 1) (As := [.int 4, .int ab, .int x]) (rest := []) 3 52 (kX0_appendOf l D ty a σ 4 ab x x.toNatClampNeg n hx hf hn hc hG) dX3_view_49 rfl zw_1_216 zw_1_217 zw_1_218 zw_1_2 zw_1_219 ⟨rfl, rfl⟩ zh_yX0_appendOf ⟨by decide, by decide⟩ (zc_at (j := 1) (by decide)) rfl rfl rfl (zle rfl) rfl ?_
          refine zv_istore K [some (.ref (a 0)), some (.int ab), some (.int x), some (.int p), some (.int q), some (.int (fX3_refusalOfClaim σ 0 ab x)), some (.int (nI n))] 54 dX3_view_52 rfl rfl (zlt rfl) ?_
          refine zv_aload_n K 55 dX3_view_54 rfl rfl ?_
          refine zv_get (v := .ref (a 1)) (C := RX3) (T := TX3) (N := 7) K 0 0 58 dX3_view_55 rfl zy_X3 (zc_at (j := 0) (by decide)) rfl (by decide) zw_1_119 rfl ?_
          refine zv_iload K 60 dX3_view_58 rfl rfl ?_
          refine zv_iload_n K 61 dX3_view_60 rfl rfl ?_
          refine zv_iload K 63 dX3_view_61 rfl rfl ?_
          refine zv_cV0 K (q0 := 1) (As := [.int (nI n), .int p, .int q]) (rest := []) 3 66 (kX0_putFeet l D ty a (zp (zap σ n 4 ab (zg σ x.toNatClampNeg 4)) n 9 x) (nI n) p q n rfl hn) dX3_view_63 rfl zw_1_196 zw_1_197 zw_1_198 zw_1_2 zw_1_199 ⟨rfl, rfl⟩ zh_yX0_putFeet ⟨by decide, by decide⟩ (zc_at (j := 1) (by decide)) rfl rfl rfl (zle rfl) rfl ?_
          refine zv_iload K 68 dX3_view_66 rfl rfl ?_
          exact zv_iret K T dX3_view_68 (⟨by simp only [fX3_view, if_pos h1, if_pos h3, if_pos h5, if_pos hr], by simp only [fX3_view, if_pos h1, if_pos h3, if_pos h5, if_pos hr]⟩)
        · skip
          refine zv_iload K 41 dX3_view_39 rfl rfl ?_
          exact zv_iret K T dX3_view_41 (⟨by simp only [fX3_view, if_pos h1, if_pos h3, if_pos h5, if_neg hr], by simp only [fX3_view, if_pos h1, if_pos h3, if_pos h5, if_neg hr]⟩)
      · skip
        refine zv_iconst K 1 23 dX3_view_22 rfl (by decide) ?_
        refine zv_goto K 27 dX3_view_23 (by decide) ?_
        refine zv_iload_n K 28 dX3_view_27 rfl rfl ?_
        refine zv_iload_n K 29 dX3_view_28 rfl rfl ?_
        refine zv_cV1 K (q0 := 0) (As := [.int 1, .int ab, .int x]) (rest := []) 3 32 (kX3_refusalOfClaim l D ty a σ O n hI 1 ab x) dX3_view_29 rfl zw_1_204 zw_1_206 zw_p1_2 zw_1_1 zw_1_207 ⟨rfl, rfl⟩ zh_yX3_refusalOfClaim ⟨by decide, by decide⟩ (zc_at (j := 0) (by decide)) rfl rfl rfl (zle rfl) rfl ?_
        refine zv_istore K [some (.ref (a 0)), some (.int ab), some (.int x), some (.int p), some (.int q), some (.int (fX3_refusalOfClaim σ 1 ab x)), none] 34 dX3_view_32 rfl rfl (zlt rfl) ?_
        refine zv_iload K 36 dX3_view_34 rfl rfl ?_
        refine zv_if_ge K 42 39 dX3_view_36 (by decide) rfl (fun hr => ?_) (fun hr => ?_)
        · skip
          obtain ⟨hg_, hab_, hx_, hk_, hf_⟩ := z_ref hr
          obtain ⟨hx, hf⟩ := z_has hI hx_
          have hn := z_nf hI hf_
          have hc := hI.2.1
          have hG := hI.val
          refine zv_aload_n K 43 dX3_view_42 rfl rfl ?_
          refine zv_get (v := .ref (a 1)) (C := RX3) (T := TX3) (N := 7) K 0 0 46 dX3_view_43 rfl zy_X3 (zc_at (j := 0) (by decide)) rfl (by decide) zw_1_119 rfl ?_
          refine zv_iconst K 4 47 dX3_view_46 rfl (by decide) ?_
          refine zv_iload_n K 48 dX3_view_47 rfl rfl ?_
          refine zv_iload_n K 49 dX3_view_48 rfl rfl ?_
          refine zv_cV1 K (q0 := 1) (As := [.int 4, .int ab, .int x]) (rest := []) 3 52 (kX0_appendOf l D ty a σ 4 ab x x.toNatClampNeg n hx hf hn hc hG) dX3_view_49 rfl zw_1_216 zw_1_217 zw_1_218 zw_1_2 zw_1_219 ⟨rfl, rfl⟩ zh_yX0_appendOf ⟨by decide, by decide⟩ (zc_at (j := 1) (by decide)) rfl rfl rfl (zle rfl) rfl ?_
          refine zv_istore K [some (.ref (a 0)), some (.int ab), some (.int x), some (.int p), some (.int q), some (.int (fX3_refusalOfClaim σ 1 ab x)), some (.int (nI n))] 54 dX3_view_52 rfl rfl (zlt rfl) ?_
          refine zv_aload_n K 55 dX3_view_54 rfl rfl ?_
          refine zv_get (v := .ref (a 1)) (C := RX3) (T := TX3) (N := 7) K 0 0 58 dX3_view_55 rfl zy_X3 (zc_at (j := 0) (by decide)) rfl (by decide) zw_1_119 rfl ?_
          refine zv_iload K 60 dX3_view_58 rfl rfl ?_
          refine zv_iload_n K 61 dX3_view_60 rfl rfl ?_
          refine zv_iload K 63 dX3_view_61 rfl rfl ?_
          refine zv_cV0 K (q0 := 1) (As := [.int (nI n), .int p, .int q]) (rest := []) 3 66 (kX0_putFeet l D ty a (zp (zap σ n 4 ab (zg σ x.toNatClampNeg 4)) n 9 x) (nI n) p q n rfl hn) dX3_view_63 rfl zw_1_196 zw_1_197 zw_1_198 zw_1_2 zw_1_199 ⟨rfl, rfl⟩ zh_yX0_putFeet ⟨by decide, by decide⟩ (zc_at (j := 1) (by decide)) rfl rfl rfl (zle rfl) rfl ?_
          refine zv_iload K 68 dX3_view_66 rfl rfl ?_
          exact zv_iret K T dX3_view_68 (⟨by simp only [fX3_view, if_pos h1, if_pos h3, if_neg h5, if_pos hr], by simp only [fX3_view, if_pos h1, if_pos h3, if_neg h5, if_pos hr]⟩)
        · skip
          refine zv_iload K 41 dX3_view_39 rfl rfl ?_
          exact zv_iret K T dX3_view_41 (⟨by simp only [fX3_view, if_pos h1, if_pos h3, if_neg h5, if_neg hr], by simp only [fX3_view, if_pos h1, if_pos h3, if_neg h5, if_neg hr]⟩)

def fX3_sell (σ : zC) (n : Nat) (ab : Int32) (x : Int32) (m : Int32) (q : Int32) (v : Int32) : Int32 × zC :=
  if (0 ≤ m ∧ m ≤ 9) then
    if (0 ≤ q ∧ q ≤ 9) then
      if m = q then
        if 0 ≤ (fX3_refusalOfClaim σ 0 ab x) then
          (nI n, (zp (zp (zp (zp (zap σ n 5 ab (zg σ x.toNatClampNeg 4)) n 9 x) n 5 m) n 10 q) n 8 v))
        else
          (fX3_refusalOfClaim σ 0 ab x, σ)
      else
        if (1 ≤ v ∧ v ≤ 24) then
          if 0 ≤ (fX3_refusalOfClaim σ 1 ab x) then
            (nI n, (zp (zp (zp (zp (zap σ n 5 ab (zg σ x.toNatClampNeg 4)) n 9 x) n 5 m) n 10 q) n 8 v))
          else
            (fX3_refusalOfClaim σ 1 ab x, σ)
        else
          if 0 ≤ (fX3_refusalOfClaim σ 0 ab x) then
            (nI n, (zp (zp (zp (zp (zap σ n 5 ab (zg σ x.toNatClampNeg 4)) n 9 x) n 5 m) n 10 q) n 8 v))
          else
            (fX3_refusalOfClaim σ 0 ab x, σ)
    else
      if 0 ≤ (fX3_refusalOfClaim σ 0 ab x) then
        (nI n, (zp (zp (zp (zp (zap σ n 5 ab (zg σ x.toNatClampNeg 4)) n 9 x) n 5 m) n 10 q) n 8 v))
      else
        (fX3_refusalOfClaim σ 0 ab x, σ)
  else
    if 0 ≤ (fX3_refusalOfClaim σ 0 ab x) then
      (nI n, (zp (zp (zp (zp (zap σ n 5 ab (zg σ x.toNatClampNeg 4)) n 9 x) n 5 m) n 10 q) n 8 v))
    else
      (fX3_refusalOfClaim σ 0 ab x, σ)
set_option maxHeartbeats 4000000 in
set_option maxRecDepth 100000 in
theorem kX3_sell (l : Launch) (D : va_G) (ty : zTy) (a : Nat → Nat) (σ : zC) (O : Nat → Nat) (n : Nat) (hI : zI σ O n) (ab x m q v : Int32) : zv_ct l D ty yX3_sell cX3_sell 9 (some .int) (zR 4 94) [.ref (a 0), .int ab, .int x, .int m, .int q, .int v] (zc a ty σ) (fun v_ w_ => v_ = some (.int (fX3_sell σ n ab x m q v).1) ∧ w_ = zc a ty (fX3_sell σ n ab x m q v).2) := by
  refine zv_open (by decide) rfl rfl [some (.ref (a 0)), some (.int ab), some (.int x), some (.int m), some (.int q), some (.int v), none, none, none] (by simp [zv_one, Value.category]) (zle rfl) rfl ?_
  intro k K T
  refine zv_iload_n K 1 dX3_sell_0 rfl rfl ?_
  refine zv_cS1 K (As := [.int m]) (rest := []) 1 4 (kX3_isMiner l D ty (zc a ty σ) m) dX3_sell_1 rfl zw_1_166 zw_1_167 zw_1_1 zw_1_168 ⟨rfl, rfl⟩ zh_yX3_isMiner ⟨by decide, by decide⟩ rfl rfl (zle rfl) rfl ?_
  refine zv_ifB_eq K 36 7 dX3_sell_4 (by decide) rfl (fun h1 => ?_) (fun h1 => ?_)
  · skip
    refine zv_iconst K 0 37 dX3_sell_36 rfl (by decide) ?_
    refine zv_istore K [some (.ref (a 0)), some (.int ab), some (.int x), some (.int m), some (.int q), some (.int v), some (.int 0), none, none] 39 dX3_sell_37 rfl rfl (zlt rfl) ?_
    refine zv_aload_n K 40 dX3_sell_39 rfl rfl ?_
    refine zv_iload K 42 dX3_sell_40 rfl rfl ?_
    refine zv_iload_n K 43 dX3_sell_42 rfl rfl ?_
    refine zv_iload_n K 44 dX3_sell_43 rfl rfl ?_
    refine zv_cV1 K (q0 := 0) (As := [.int 0, .int ab, .int x]) (rest := []) 3 47 (kX3_refusalOfClaim l D ty a σ O n hI 0 ab x) dX3_sell_44 rfl zw_1_204 zw_1_206 zw_p1_2 zw_1_1 zw_1_207 ⟨rfl, rfl⟩ zh_yX3_refusalOfClaim ⟨by decide, by decide⟩ (zc_at (j := 0) (by decide)) rfl rfl rfl (zle rfl) rfl ?_
    refine zv_istore K [some (.ref (a 0)), some (.int ab), some (.int x), some (.int m), some (.int q), some (.int v), some (.int 0), some (.int (fX3_refusalOfClaim σ 0 ab x)), none] 49 dX3_sell_47 rfl rfl (zlt rfl) ?_
    refine zv_iload K 51 dX3_sell_49 rfl rfl ?_
    refine zv_if_ge K 57 54 dX3_sell_51 (by decide) rfl (fun hr => ?_) (fun hr => ?_)
    · skip
      obtain ⟨hg_, hab_, hx_, hk_, hf_⟩ := z_ref hr
      obtain ⟨hx, hf⟩ := z_has hI hx_
      have hn := z_nf hI hf_
      have hc := hI.2.1
      have hG := hI.val
      refine zv_aload_n K 58 dX3_sell_57 rfl rfl ?_
      refine zv_get (v := .ref (a 1)) (C := RX3) (T := TX3) (N := 7) K 0 0 61 dX3_sell_58 rfl zy_X3 (zc_at (j := 0) (by decide)) rfl (by decide) zw_1_119 rfl ?_
      refine zv_iconst K 5 62 dX3_sell_61 rfl (by decide) ?_
      refine zv_iload_n K 63 dX3_sell_62 rfl rfl ?_
      refine zv_iload_n K 64 dX3_sell_63 rfl rfl ?_
      refine zv_cV1 K (q0 := 1) (As := [.int 5, .int ab, .int x]) (rest := []) 3 67 (kX0_appendOf l D ty a σ 5 ab x x.toNatClampNeg n hx hf hn hc hG) dX3_sell_64 rfl zw_1_216 zw_1_217 zw_1_218 zw_1_2 zw_1_219 ⟨rfl, rfl⟩ zh_yX0_appendOf ⟨by decide, by decide⟩ (zc_at (j := 1) (by decide)) rfl rfl rfl (zle rfl) rfl ?_
      refine zv_istore K [some (.ref (a 0)), some (.int ab), some (.int x), some (.int m), some (.int q), some (.int v), some (.int 0), some (.int (fX3_refusalOfClaim σ 0 ab x)), some (.int (nI n))] 69 dX3_sell_67 rfl rfl (zlt rfl) ?_
      refine zv_aload_n K 70 dX3_sell_69 rfl rfl ?_
      refine zv_get (v := .ref (a 1)) (C := RX3) (T := TX3) (N := 7) K 0 0 73 dX3_sell_70 rfl zy_X3 (zc_at (j := 0) (by decide)) rfl (by decide) zw_1_119 rfl ?_
      refine zv_iload K 75 dX3_sell_73 rfl rfl ?_
      refine zv_iconst K 5 76 dX3_sell_75 rfl (by decide) ?_
      refine zv_iload_n K 77 dX3_sell_76 rfl rfl ?_
      refine zv_cV0 K (q0 := 1) (As := [.int (nI n), .int 5, .int m]) (rest := []) 3 80 (kX0_put l D ty a (zp (zap σ n 5 ab (zg σ x.toNatClampNeg 4)) n 9 x) (nI n) 5 m n 5 rfl rfl hn (by decide)) dX3_sell_77 rfl zw_1_189 zw_1_178 zw_1_179 zw_1_2 zw_1_180 ⟨rfl, rfl⟩ zh_yX0_put ⟨by decide, by decide⟩ (zc_at (j := 1) (by decide)) rfl rfl rfl (zle rfl) rfl ?_
      refine zv_aload_n K 81 dX3_sell_80 rfl rfl ?_
      refine zv_get (v := .ref (a 1)) (C := RX3) (T := TX3) (N := 7) K 0 0 84 dX3_sell_81 rfl zy_X3 (zc_at (j := 0) (by decide)) rfl (by decide) zw_1_119 rfl ?_
      refine zv_iload K 86 dX3_sell_84 rfl rfl ?_
      refine zv_bipush K 10 88 dX3_sell_86 rfl (by decide) ?_
      refine zv_iload K 90 dX3_sell_88 rfl rfl ?_
      refine zv_cV0 K (q0 := 1) (As := [.int (nI n), .int 10, .int q]) (rest := []) 3 93 (kX0_put l D ty a (zp (zp (zap σ n 5 ab (zg σ x.toNatClampNeg 4)) n 9 x) n 5 m) (nI n) 10 q n 10 rfl rfl hn (by decide)) dX3_sell_90 rfl zw_1_189 zw_1_178 zw_1_179 zw_1_2 zw_1_180 ⟨rfl, rfl⟩ zh_yX0_put ⟨by decide, by decide⟩ (zc_at (j := 1) (by decide)) rfl rfl rfl (zle rfl) rfl ?_
      refine zv_aload_n K 94 dX3_sell_93 rfl rfl ?_
      refine zv_get (v := .ref (a 1)) (C := RX3) (T := TX3) (N := 7) K 0 0 97 dX3_sell_94 rfl zy_X3 (zc_at (j := 0) (by decide)) rfl (by decide) zw_1_119 rfl ?_
      refine zv_iload K 99 dX3_sell_97 rfl rfl ?_
      refine zv_bipush K 8 101 dX3_sell_99 rfl (by decide) ?_
      refine zv_iload K 103 dX3_sell_101 rfl rfl ?_
      refine zv_cV0 K (q0 := 1) (As := [.int (nI n), .int 8, .int v]) (rest := []) 3 106 (kX0_put l D ty a (zp (zp (zp (zap σ n 5 ab (zg σ x.toNatClampNeg 4)) n 9 x) n 5 m) n 10 q) (nI n) 8 v n 8 rfl rfl hn (by decide)) dX3_sell_103 rfl zw_1_189 zw_1_178 zw_1_179 zw_1_2 zw_1_180 ⟨rfl, rfl⟩ zh_yX0_put ⟨by decide, by decide⟩ (zc_at (j := 1) (by decide)) rfl rfl rfl (zle rfl) rfl ?_
      refine zv_iload K 108 dX3_sell_106 rfl rfl ?_
      exact zv_iret K T dX3_sell_108 (⟨by simp only [fX3_sell, if_neg h1, if_pos hr], by simp only [fX3_sell, if_neg h1, if_pos hr]⟩)
    · skip
      refine zv_iload K 56 dX3_sell_54 rfl rfl ?_
      exact zv_iret K T dX3_sell_56 (⟨by simp only [fX3_sell, if_neg h1, if_neg hr], by simp only [fX3_sell, if_neg h1, if_neg hr]⟩)
  · skip
    refine zv_iload K 9 dX3_sell_7 rfl rfl ?_
    refine zv_cS1 K (As := [.int q]) (rest := []) 1 12 (kX3_isMiner l D ty (zc a ty σ) q) dX3_sell_9 rfl zw_1_166 zw_1_167 zw_1_1 zw_1_168 ⟨rfl, rfl⟩ zh_yX3_isMiner ⟨by decide, by decide⟩ rfl rfl (zle rfl) rfl ?_
    refine zv_ifB_eq K 36 15 dX3_sell_12 (by decide) rfl (fun h3 => ?_) (fun h3 => ?_)
    · skip
      refine zv_iconst K 0 37 dX3_sell_36 rfl (by decide) ?_
      refine zv_istore K [some (.ref (a 0)), some (.int ab), some (.int x), some (.int m), some (.int q), some (.int v), some (.int 0), none, none] 39 dX3_sell_37 rfl rfl (zlt rfl) ?_
      refine zv_aload_n K 40 dX3_sell_39 rfl rfl ?_
      refine zv_iload K 42 dX3_sell_40 rfl rfl ?_
      refine zv_iload_n K 43 dX3_sell_42 rfl rfl ?_
      refine zv_iload_n K 44 dX3_sell_43 rfl rfl ?_
      refine zv_cV1 K (q0 := 0) (As := [.int 0, .int ab, .int x]) (rest := []) 3 47 (kX3_refusalOfClaim l D ty a σ O n hI 0 ab x) dX3_sell_44 rfl zw_1_204 zw_1_206 zw_p1_2 zw_1_1 zw_1_207 ⟨rfl, rfl⟩ zh_yX3_refusalOfClaim ⟨by decide, by decide⟩ (zc_at (j := 0) (by decide)) rfl rfl rfl (zle rfl) rfl ?_
      refine zv_istore K [some (.ref (a 0)), some (.int ab), some (.int x), some (.int m), some (.int q), some (.int v), some (.int 0), some (.int (fX3_refusalOfClaim σ 0 ab x)), none] 49 dX3_sell_47 rfl rfl (zlt rfl) ?_
      refine zv_iload K 51 dX3_sell_49 rfl rfl ?_
      refine zv_if_ge K 57 54 dX3_sell_51 (by decide) rfl (fun hr => ?_) (fun hr => ?_)
      · skip
        obtain ⟨hg_, hab_, hx_, hk_, hf_⟩ := z_ref hr
        obtain ⟨hx, hf⟩ := z_has hI hx_
        have hn := z_nf hI hf_
        have hc := hI.2.1
        have hG := hI.val
        refine zv_aload_n K 58 dX3_sell_57 rfl rfl ?_
        refine zv_get (v := .ref (a 1)) (C := RX3) (T := TX3) (N := 7) K 0 0 61 dX3_sell_58 rfl zy_X3 (zc_at (j := 0) (by decide)) rfl (by decide) zw_1_119 rfl ?_
        refine zv_iconst K 5 62 dX3_sell_61 rfl (by decide) ?_
        refine zv_iload_n K 63 dX3_sell_62 rfl rfl ?_
        refine zv_iload_n K 64 dX3_sell_63 rfl rfl ?_
        refine zv_cV1 K (q0 := 1) (As := [.int 5, .int ab, .int x]) (rest := []) 3 67 (kX0_appendOf l D ty a σ 5 ab x x.toNatClampNeg n hx hf hn hc hG) dX3_sell_64 rfl zw_1_216 zw_1_217 zw_1_218 zw_1_2 zw_1_219 ⟨rfl, rfl⟩ zh_yX0_appendOf ⟨by decide, by decide⟩ (zc_at (j := 1) (by decide)) rfl rfl rfl (zle rfl) rfl ?_
        refine zv_istore K [some (.ref (a 0)), some (.int ab), some (.int x), some (.int m), some (.int q), some (.int v), some (.int 0), some (.int (fX3_refusalOfClaim σ 0 ab x)), some (.int (nI n))] 69 dX3_sell_67 rfl rfl (zlt rfl) ?_
        refine zv_aload_n K 70 dX3_sell_69 rfl rfl ?_
        refine zv_get (v := .ref (a 1)) (C := RX3) (T := TX3) (N := 7) K 0 0 73 dX3_sell_70 rfl zy_X3 (zc_at (j := 0) (by decide)) rfl (by decide) zw_1_119 rfl ?_
        refine zv_iload K 75 dX3_sell_73 rfl rfl ?_
        refine zv_iconst K 5 76 dX3_sell_75 rfl (by decide) ?_
        refine zv_iload_n K 77 dX3_sell_76 rfl rfl ?_
        refine zv_cV0 K (q0 := 1) (As := [.int (nI n), .int 5, .int m]) (rest := []) 3 80 (kX0_put l D ty a (zp (zap σ n 5 ab (zg σ x.toNatClampNeg 4)) n 9 x) (nI n) 5 m n 5 rfl rfl hn (by decide)) dX3_sell_77 rfl zw_1_189 zw_1_178 zw_1_179 zw_1_2 zw_1_180 ⟨rfl, rfl⟩ zh_yX0_put ⟨by decide, by decide⟩ (zc_at (j := 1) (by decide)) rfl rfl rfl (zle rfl) rfl ?_
        refine zv_aload_n K 81 dX3_sell_80 rfl rfl ?_
        refine zv_get (v := .ref (a 1)) (C := RX3) (T := TX3) (N := 7) K 0 0 84 dX3_sell_81 rfl zy_X3 (zc_at (j := 0) (by decide)) rfl (by decide) zw_1_119 rfl ?_
        refine zv_iload K 86 dX3_sell_84 rfl rfl ?_
        refine zv_bipush K 10 88 dX3_sell_86 rfl (by decide) ?_
        refine zv_iload K 90 dX3_sell_88 rfl rfl ?_
        refine zv_cV0 K (q0 := 1) (As := [.int (nI n), .int 10, .int q]) (rest := []) 3 93 (kX0_put l D ty a (zp (zp (zap σ n 5 ab (zg σ x.toNatClampNeg 4)) n 9 x) n 5 m) (nI n) 10 q n 10 rfl rfl hn (by decide)) dX3_sell_90 rfl zw_1_189 zw_1_178 zw_1_179 zw_1_2 zw_1_180 ⟨rfl, rfl⟩ zh_yX0_put ⟨by decide, by decide⟩ (zc_at (j := 1) (by decide)) rfl rfl rfl (zle rfl) rfl ?_
        refine zv_aload_n K 94 dX3_sell_93 rfl rfl ?_
        refine zv_get (v := .ref (a 1)) (C := RX3) (T := TX3) (N := 7) K 0 0 97 dX3_sell_94 rfl zy_X3 (zc_at (j := 0) (by decide)) rfl (by decide) zw_1_119 rfl ?_
        refine zv_iload K 99 dX3_sell_97 rfl rfl ?_
        refine zv_bipush K 8 101 dX3_sell_99 rfl (by decide) ?_
        refine zv_iload K 103 dX3_sell_101 rfl rfl ?_
        refine zv_cV0 K (q0 := 1) (As := [.int (nI n), .int 8, .int v]) (rest := []) 3 106 (kX0_put l D ty a (zp (zp (zp (zap σ n 5 ab (zg σ x.toNatClampNeg 4)) n 9 x) n 5 m) n 10 q) (nI n) 8 v n 8 rfl rfl hn (by decide)) dX3_sell_103 rfl zw_1_189 zw_1_178 zw_1_179 zw_1_2 zw_1_180 ⟨rfl, rfl⟩ zh_yX0_put ⟨by decide, by decide⟩ (zc_at (j := 1) (by decide)) rfl rfl rfl (zle rfl) rfl ?_
        refine zv_iload K 108 dX3_sell_106 rfl rfl ?_
        exact zv_iret K T dX3_sell_108 (⟨by simp only [fX3_sell, if_pos h1, if_neg h3, if_pos hr], by simp only [fX3_sell, if_pos h1, if_neg h3, if_pos hr]⟩)
      · skip
        refine zv_iload K 56 dX3_sell_54 rfl rfl ?_
        exact zv_iret K T dX3_sell_56 (⟨by simp only [fX3_sell, if_pos h1, if_neg h3, if_neg hr], by simp only [fX3_sell, if_pos h1, if_neg h3, if_neg hr]⟩)
    · skip
      refine zv_iload_n K 16 dX3_sell_15 rfl rfl ?_
      refine zv_iload K 18 dX3_sell_16 rfl rfl ?_
      refine zv_icmp_eq K 36 21 dX3_sell_18 (by decide) rfl (fun h5 => ?_) (fun h5 => ?_)
      · skip
        refine zv_iconst K 0 37 dX3_sell_36 rfl (by decide) ?_
        refine zv_istore K [some (.ref (a 0)), some (.int ab), some (.int x), some (.int m), some (.int q), some (.int v), some (.int 0), none, none] 39 dX3_sell_37 rfl rfl (zlt rfl) ?_
        refine zv_aload_n K 40 dX3_sell_39 rfl rfl ?_
        refine zv_iload K 42 dX3_sell_40 rfl rfl ?_
        refine zv_iload_n K 43 dX3_sell_42 rfl rfl ?_
        refine zv_iload_n K 44 dX3_sell_43 rfl rfl ?_
        refine zv_cV1 K (q0 := 0) (As := [.int 0, .int ab, .int x]) (rest := []) 3 47 (kX3_refusalOfClaim l D ty a σ O n hI 0 ab x) dX3_sell_44 rfl zw_1_204 zw_1_206 zw_p1_2 zw_1_1 zw_1_207 ⟨rfl, rfl⟩ zh_yX3_refusalOfClaim ⟨by decide, by decide⟩ (zc_at (j := 0) (by decide)) rfl rfl rfl (zle rfl) rfl ?_
        refine zv_istore K [some (.ref (a 0)), some (.int ab), some (.int x), some (.int m), some (.int q), some (.int v), some (.int 0), some (.int (fX3_refusalOfClaim σ 0 ab x)), none] 49 dX3_sell_47 rfl rfl (zlt rfl) ?_
        refine zv_iload K 51 dX3_sell_49 rfl rfl ?_
        refine zv_if_ge K 57 54 dX3_sell_51 (by decide) rfl (fun hr => ?_) (fun hr => ?_)
        · skip
          obtain ⟨hg_, hab_, hx_, hk_, hf_⟩ := z_ref hr
          obtain ⟨hx, hf⟩ := z_has hI hx_
          have hn := z_nf hI hf_
          have hc := hI.2.1
          have hG := hI.val
          refine zv_aload_n K 58 dX3_sell_57 rfl rfl ?_
          refine zv_get (v := .ref (a 1)) (C := RX3) (T := TX3) (N := 7) K 0 0 61 dX3_sell_58 rfl zy_X3 (zc_at (j := 0) (by decide)) rfl (by decide) zw_1_119 rfl ?_
          refine zv_iconst K 5 62 dX3_sell_61 rfl (by decide) ?_
          refine zv_iload_n K 63 dX3_sell_62 rfl rfl ?_
          refine zv_iload_n K 64 dX3_sell_63 rfl rfl ?_
          refine zv_cV1 K (q0 := 1) (As := [.int 5, .int ab, .int x]) (rest := []) 3 67 (kX0_appendOf l D ty a σ 5 ab x x.toNatClampNeg n hx hf hn hc hG) dX3_sell_64 rfl zw_1_216 zw_1_217 zw_1_218 zw_1_2 zw_1_219 ⟨rfl, rfl⟩ zh_yX0_appendOf ⟨by decide, by decide⟩ (zc_at (j := 1) (by decide)) rfl rfl rfl (zle rfl) rfl ?_
          refine zv_istore K [some (.ref (a 0)), some (.int ab), some (.int x), some (.int m), some (.int q), some (.int v), some (.int 0), some (.int (fX3_refusalOfClaim σ 0 ab x)), some (.int (nI n))] 69 dX3_sell_67 rfl rfl (zlt rfl) ?_
          refine zv_aload_n K 70 dX3_sell_69 rfl rfl ?_
          refine zv_get (v := .ref (a 1)) (C := RX3) (T := TX3) (N := 7) K 0 0 73 dX3_sell_70 rfl zy_X3 (zc_at (j := 0) (by decide)) rfl (by decide) zw_1_119 rfl ?_
          refine zv_iload K 75 dX3_sell_73 rfl rfl ?_
          refine zv_iconst K 5 76 dX3_sell_75 rfl (by decide) ?_
          refine zv_iload_n K 77 dX3_sell_76 rfl rfl ?_
          refine zv_cV0 K (q0 := 1) (As := [.int (nI n), .int 5, .int m]) (rest := []) 3 80 (kX0_put l D ty a (zp (zap σ n 5 ab (zg σ x.toNatClampNeg 4)) n 9 x) (nI n) 5 m n 5 rfl rfl hn (by decide)) dX3_sell_77 rfl zw_1_189 zw_1_178 zw_1_179 zw_1_2 zw_1_180 ⟨rfl, rfl⟩ zh_yX0_put ⟨by decide, by decide⟩ (zc_at (j := 1) (by decide)) rfl rfl rfl (zle rfl) rfl ?_
          refine zv_aload_n K 81 dX3_sell_80 rfl rfl ?_
          refine zv_get (v := .ref (a 1)) (C := RX3) (T := TX3) (N := 7) K 0 0 84 dX3_sell_81 rfl zy_X3 (zc_at (j := 0) (by decide)) rfl (by decide) zw_1_119 rfl ?_
          refine zv_iload K 86 dX3_sell_84 rfl rfl ?_
          refine zv_bipush K 10 88 dX3_sell_86 rfl (by decide) ?_
          refine zv_iload K 90 dX3_sell_88 rfl rfl ?_
          refine zv_cV0 K (q0 := 1) (As := [.int (nI n), .int 10, .int q]) (rest := []) 3 93 (kX0_put l D ty a (zp (zp (zap σ n 5 ab (zg σ x.toNatClampNeg 4)) n 9 x) n 5 m) (nI n) 10 q n 10 rfl rfl hn (by decide)) dX3_sell_90 rfl zw_1_189 zw_1_178 zw_1_179 zw_1_2 zw_1_180 ⟨rfl, rfl⟩ zh_yX0_put ⟨by decide, by decide⟩ (zc_at (j := 1) (by decide)) rfl rfl rfl (zle rfl) rfl ?_
          refine zv_aload_n K 94 dX3_sell_93 rfl rfl ?_
          refine zv_get (v := .ref (a 1)) (C := RX3) (T := TX3) (N := 7) K 0 0 97 dX3_sell_94 rfl zy_X3 (zc_at (j := 0) (by decide)) rfl (by decide) zw_1_119 rfl ?_
          refine zv_iload K 99 dX3_sell_97 rfl rfl ?_
          refine zv_bipush K 8 101 dX3_sell_99 rfl (by decide) ?_
          refine zv_iload K 103 dX3_sell_101 rfl rfl ?_
          refine zv_cV0 K (q0 := 1) (As := [.int (nI n), .int 8, .int v]) (rest := []) 3 106 (kX0_put l D ty a (zp (zp (zp (zap σ n 5 ab (zg σ x.toNatClampNeg 4)) n 9 x) n 5 m) n 10 q) (nI n) 8 v n 8 rfl rfl hn (by decide)) dX3_sell_103 rfl zw_1_189 zw_1_178 zw_1_179 zw_1_2 zw_1_180 ⟨rfl, rfl⟩ zh_yX0_put ⟨by decide, by decide⟩ (zc_at (j := 1) (by decide)) rfl rfl rfl (zle rfl) rfl ?_
          refine zv_iload K 108 dX3_sell_106 rfl rfl ?_
          exact zv_iret K T dX3_sell_108 (⟨by simp only [fX3_sell, if_pos h1, if_pos h3, if_pos h5, if_pos hr], by simp only [fX3_sell, if_pos h1, if_pos h3, if_pos h5, if_pos hr]⟩)
        · skip
          refine zv_iload K 56 dX3_sell_54 rfl rfl ?_
          exact zv_iret K T dX3_sell_56 (⟨by simp only [fX3_sell, if_pos h1, if_pos h3, if_pos h5, if_neg hr], by simp only [fX3_sell, if_pos h1, if_pos h3, if_pos h5, if_neg hr]⟩)
      · skip
        refine zv_iload K 23 dX3_sell_21 rfl rfl ?_
        refine zv_iconst K 1 24 dX3_sell_23 rfl (by decide) ?_
        refine zv_bipush K 24 26 dX3_sell_24 rfl (by decide) ?_
        refine zv_cS1 K (As := [.int v, .int 1, .int 24]) (rest := []) 3 29 (kX3_isWithin l D ty (zc a ty σ) v 1 24) dX3_sell_26 rfl zw_1_145 zw_1_146 zw_1_1 zw_1_147 ⟨rfl, rfl⟩ zh_yX3_isWithin ⟨by decide, by decide⟩ rfl rfl (zle rfl) rfl ?_
        refine zv_ifB_eq K 36 32 dX3_sell_29 (by decide) rfl (fun h7 => ?_) (fun h7 => ?_)
        · skip
          refine zv_iconst K 0 37 dX3_sell_36 rfl (by decide) ?_
          refine zv_istore K [some (.ref (a 0)), some (.int ab), some (.int x), some (.int m), some (.int q), some (.int v), some (.int 0), none, none] 39 dX3_sell_37 rfl rfl (zlt rfl) ?_
          refine zv_aload_n K 40 dX3_sell_39 rfl rfl ?_
          refine zv_iload K 42 dX3_sell_40 rfl rfl ?_
          refine zv_iload_n K 43 dX3_sell_42 rfl rfl ?_
          refine zv_iload_n K 44 dX3_sell_43 rfl rfl ?_
          refine zv_cV1 K (q0 := 0) (As := [.int 0, .int ab, .int x]) (rest := []) 3 47 (kX3_refusalOfClaim l D ty a σ O n hI 0 ab x) dX3_sell_44 rfl zw_1_204 zw_1_206 zw_p1_2 zw_1_1 zw_1_207 ⟨rfl, rfl⟩ zh_yX3_refusalOfClaim ⟨by decide, by decide⟩ (zc_at (j := 0) (by decide)) rfl rfl rfl (zle rfl) rfl ?_
          refine zv_istore K [some (.ref (a 0)), some (.int ab), some (.int x), some (.int m), some (.int q), some (.int v), some (.int 0), some (.int (fX3_refusalOfClaim σ 0 ab x)), none] 49 dX3_sell_47 rfl rfl (zlt rfl) ?_
          refine zv_iload K 51 dX3_sell_49 rfl rfl ?_
          refine zv_if_ge K 57 54 dX3_sell_51 (by decide) rfl (fun hr => ?_) (fun hr => ?_)
          · skip
            obtain ⟨hg_, hab_, hx_, hk_, hf_⟩ := z_ref hr
            obtain ⟨hx, hf⟩ := z_has hI hx_
            have hn := z_nf hI hf_
            have hc := hI.2.1
            have hG := hI.val
            refine zv_aload_n K 58 dX3_sell_57 rfl rfl ?_
            refine zv_get (v := .ref (a 1)) (C := RX3) (T := TX3) (N := 7) K 0 0 61 dX3_sell_58 rfl zy_X3 (zc_at (j := 0) (by decide)) rfl (by decide) zw_1_119 rfl ?_
            refine zv_iconst K 5 62 dX3_sell_61 rfl (by decide) ?_
            refine zv_iload_n K 63 dX3_sell_62 rfl rfl ?_
            refine zv_iload_n K 64 dX3_sell_63 rfl rfl ?_
            refine zv_cV1 K (q0 := 1) (As := [.int 5, .int ab, .int x]) (rest := []) 3 67 (kX0_appendOf l D ty a σ 5 ab x x.toNatClampNeg n hx hf hn hc hG) dX3_sell_64 rfl zw_1_216 zw_1_217 zw_1_218 zw_1_2 zw_1_219 ⟨rfl, rfl⟩ zh_yX0_appendOf ⟨by decide, by decide⟩ (zc_at (j := 1) (by decide)) rfl rfl rfl (zle rfl) rfl ?_
            refine zv_istore K [some (.ref (a 0)), some (.int ab), some (.int x), some (.int m), some (.int q), some (.int v), some (.int 0), some (.int (fX3_refusalOfClaim σ 0 ab x)), some (.int (nI n))] 69 dX3_sell_67 rfl rfl (zlt rfl) ?_
            refine zv_aload_n K 70 dX3_sell_69 rfl rfl ?_
            refine zv_get (v := .ref (a 1)) (C := RX3) (T := TX3) (N := 7) K 0 0 73 dX3_sell_70 rfl zy_X3 (zc_at (j := 0) (by decide)) rfl (by decide) zw_1_119 rfl ?_
            refine zv_iload K 75 dX3_sell_73 rfl rfl ?_
            refine zv_iconst K 5 76 dX3_sell_75 rfl (by decide) ?_
            refine zv_iload_n K 77 dX3_sell_76 rfl rfl ?_
            refine zv_cV0 K (q0 := 1) (As := [.int (nI n), .int 5, .int m]) (rest := []) 3 80 (kX0_put l D ty a (zp (zap σ n 5 ab (zg σ x.toNatClampNeg 4)) n 9 x) (nI n) 5 m n 5 rfl rfl hn (by decide)) dX3_sell_77 rfl zw_1_189 zw_1_178 zw_1_179 zw_1_2 zw_1_180 ⟨rfl, rfl⟩ zh_yX0_put ⟨by decide, by decide⟩ (zc_at (j := 1) (by decide)) rfl rfl rfl (zle rfl) rfl ?_
            refine zv_aload_n K 81 dX3_sell_80 rfl rfl ?_
            refine zv_get (v := .ref (a 1)) (C := RX3) (T := TX3) (N := 7) K 0 0 84 dX3_sell_81 rfl zy_X3 (zc_at (j := 0) (by decide)) rfl (by decide) zw_1_119 rfl ?_
            refine zv_iload K 86 dX3_sell_84 rfl rfl ?_
            refine zv_bipush K 10 88 dX3_sell_86 rfl (by decide) ?_
            refine zv_iload K 90 dX3_sell_88 rfl rfl ?_
            refine zv_cV0 K (q0 := 1) (As := [.int (nI n), .int 10, .int q]) (rest := []) 3 93 (kX0_put l D ty a (zp (zp (zap σ n 5 ab (zg σ x.toNatClampNeg 4)) n 9 x) n 5 m) (nI n) 10 q n 10 rfl rfl hn (by decide)) dX3_sell_90 rfl zw_1_189 zw_1_178 zw_1_179 zw_1_2 zw_1_180 ⟨rfl, rfl⟩ zh_yX0_put ⟨by decide, by decide⟩ (zc_at (j := 1) (by decide)) rfl rfl rfl (zle rfl) rfl ?_
            refine zv_aload_n K 94 dX3_sell_93 rfl rfl ?_
            refine zv_get (v := .ref (a 1)) (C := RX3) (T := TX3) (N := 7) K 0 0 97 dX3_sell_94 rfl zy_X3 (zc_at (j := 0) (by decide)) rfl (by decide) zw_1_119 rfl ?_
            refine zv_iload K 99 dX3_sell_97 rfl rfl ?_
            refine zv_bipush K 8 101 dX3_sell_99 rfl (by decide) ?_
            refine zv_iload K 103 dX3_sell_101 rfl rfl ?_
            refine zv_cV0 K (q0 := 1) (As := [.int (nI n), .int 8, .int v]) (rest := []) 3 106 (kX0_put l D ty a (zp (zp (zp (zap σ n 5 ab (zg σ x.toNatClampNeg 4)) n 9 x) n 5 m) n 10 q) (nI n) 8 v n 8 rfl rfl hn (by decide)) dX3_sell_103 rfl zw_1_189 zw_1_178 zw_1_179 zw_1_2 zw_1_180 ⟨rfl, rfl⟩ zh_yX0_put ⟨by decide, by decide⟩ (zc_at (j := 1) (by decide)) rfl rfl rfl (zle rfl) rfl ?_
            refine zv_iload K 108 dX3_sell_106 rfl rfl ?_
            exact zv_iret K T dX3_sell_108 (⟨by simp only [fX3_sell, if_pos h1, if_pos h3, if_neg h5, if_neg h7, if_pos hr], by simp only [fX3_sell, if_pos h1, if_pos h3, if_neg h5, if_neg h7, if_pos hr]⟩)
          · skip
            refine zv_iload K 56 dX3_sell_54 rfl rfl ?_
            exact zv_iret K T dX3_sell_56 (⟨by simp only [fX3_sell, if_pos h1, if_pos h3, if_neg h5, if_neg h7, if_neg hr], by simp only [fX3_sell, if_pos h1, if_pos h3, if_neg h5, if_neg h7, if_neg hr]⟩)
        · skip
          refine zv_iconst K 1 33 dX3_sell_32 rfl (by decide) ?_
          refine zv_goto K 37 dX3_sell_33 (by decide) ?_
          refine zv_istore K [some (.ref (a 0)), some (.int ab), some (.int x), some (.int m), some (.int q), some (.int v), some (.int 1), none, none] 39 dX3_sell_37 rfl rfl (zlt rfl) ?_
          refine zv_aload_n K 40 dX3_sell_39 rfl rfl ?_
          refine zv_iload K 42 dX3_sell_40 rfl rfl ?_
          refine zv_iload_n K 43 dX3_sell_42 rfl rfl ?_
          refine zv_iload_n K 44 dX3_sell_43 rfl rfl ?_
          refine zv_cV1 K (q0 := 0) (As := [.int 1, .int ab, .int x]) (rest := []) 3 47 (kX3_refusalOfClaim l D ty a σ O n hI 1 ab x) dX3_sell_44 rfl zw_1_204 zw_1_206 zw_p1_2 zw_1_1 zw_1_207 ⟨rfl, rfl⟩ zh_yX3_refusalOfClaim ⟨by decide, by decide⟩ (zc_at (j := 0) (by decide)) rfl rfl rfl (zle rfl) rfl ?_
          refine zv_istore K [some (.ref (a 0)), some (.int ab), some (.int x), some (.int m), some (.int q), some (.int v), some (.int 1), some (.int (fX3_refusalOfClaim σ 1 ab x)), none] 49 dX3_sell_47 rfl rfl (zlt rfl) ?_
          refine zv_iload K 51 dX3_sell_49 rfl rfl ?_
          refine zv_if_ge K 57 54 dX3_sell_51 (by decide) rfl (fun hr => ?_) (fun hr => ?_)
          · skip
            obtain ⟨hg_, hab_, hx_, hk_, hf_⟩ := z_ref hr
            obtain ⟨hx, hf⟩ := z_has hI hx_
            have hn := z_nf hI hf_
            have hc := hI.2.1
            have hG := hI.val
            refine zv_aload_n K 58 dX3_sell_57 rfl rfl ?_
            refine zv_get (v := .ref (a 1)) (C := RX3) (T := TX3) (N := 7) K 0 0 61 dX3_sell_58 rfl zy_X3 (zc_at (j := 0) (by decide)) rfl (by decide) zw_1_119 rfl ?_
            refine zv_iconst K 5 62 dX3_sell_61 rfl (by decide) ?_
            refine zv_iload_n K 63 dX3_sell_62 rfl rfl ?_
            refine zv_iload_n K 64 dX3_sell_63 rfl rfl ?_
            refine zv_cV1 K (q0 := 1) (As := [.int 5, .int ab, .int x]) (rest := []) 3 67 (kX0_appendOf l D ty a σ 5 ab x x.toNatClampNeg n hx hf hn hc hG) dX3_sell_64 rfl zw_1_216 zw_1_217 zw_1_218 zw_1_2 zw_1_219 ⟨rfl, rfl⟩ zh_yX0_appendOf ⟨by decide, by decide⟩ (zc_at (j := 1) (by decide)) rfl rfl rfl (zle rfl) rfl ?_
            refine zv_istore K [some (.ref (a 0)), some (.int ab), some (.int x), some (.int m), some (.int q), some (.int v), some (.int 1), some (.int (fX3_refusalOfClaim σ 1 ab x)), some (.int (nI n))] 69 dX3_sell_67 rfl rfl (zlt rfl) ?_
            refine zv_aload_n K 70 dX3_sell_69 rfl rfl ?_
            refine zv_get (v := .ref (a 1)) (C := RX3) (T := TX3) (N := 7) K 0 0 73 dX3_sell_70 rfl zy_X3 (zc_at (j := 0) (by decide)) rfl (by decide) zw_1_119 rfl ?_
            refine zv_iload K 75 dX3_sell_73 rfl rfl ?_
            refine zv_iconst K 5 76 dX3_sell_75 rfl (by decide) ?_
            refine zv_iload_n K 77 dX3_sell_76 rfl rfl ?_
            refine zv_cV0 K (q0 := 1) (As := [.int (nI n), .int 5, .int m]) (rest := []) 3 80 (kX0_put l D ty a (zp (zap σ n 5 ab (zg σ x.toNatClampNeg 4)) n 9 x) (nI n) 5 m n 5 rfl rfl hn (by decide)) dX3_sell_77 rfl zw_1_189 zw_1_178 zw_1_179 zw_1_2 zw_1_180 ⟨rfl, rfl⟩ zh_yX0_put ⟨by decide, by decide⟩ (zc_at (j := 1) (by decide)) rfl rfl rfl (zle rfl) rfl ?_
            refine zv_aload_n K 81 dX3_sell_80 rfl rfl ?_
            refine zv_get (v := .ref (a 1)) (C := RX3) (T := TX3) (N := 7) K 0 0 84 dX3_sell_81 rfl zy_X3 (zc_at (j := 0) (by decide)) rfl (by decide) zw_1_119 rfl ?_
            refine zv_iload K 86 dX3_sell_84 rfl rfl ?_
            refine zv_bipush K 10 88 dX3_sell_86 rfl (by decide) ?_
            refine zv_iload K 90 dX3_sell_88 rfl rfl ?_
            refine zv_cV0 K (q0 := 1) (As := [.int (nI n), .int 10, .int q]) (rest := []) 3 93 (kX0_put l D ty a (zp (zp (zap σ n 5 ab (zg σ x.toNatClampNeg 4)) n 9 x) n 5 m) (nI n) 10 q n 10 rfl rfl hn (by decide)) dX3_sell_90 rfl zw_1_189 zw_1_178 zw_1_179 zw_1_2 zw_1_180 ⟨rfl, rfl⟩ zh_yX0_put ⟨by decide, by decide⟩ (zc_at (j := 1) (by decide)) rfl rfl rfl (zle rfl) rfl ?_
            refine zv_aload_n K 94 dX3_sell_93 rfl rfl ?_
            refine zv_get (v := .ref (a 1)) (C := RX3) (T := TX3) (N := 7) K 0 0 97 dX3_sell_94 rfl zy_X3 (zc_at (j := 0) (by decide)) rfl (by decide) zw_1_119 rfl ?_
            refine zv_iload K 99 dX3_sell_97 rfl rfl ?_
            refine zv_bipush K 8 101 dX3_sell_99 rfl (by decide) ?_
            refine zv_iload K 103 dX3_sell_101 rfl rfl ?_
            refine zv_cV0 K (q0 := 1) (As := [.int (nI n), .int 8, .int v]) (rest := []) 3 106 (kX0_put l D ty a (zp (zp (zp (zap σ n 5 ab (zg σ x.toNatClampNeg 4)) n 9 x) n 5 m) n 10 q) (nI n) 8 v n 8 rfl rfl hn (by decide)) dX3_sell_103 rfl zw_1_189 zw_1_178 zw_1_179 zw_1_2 zw_1_180 ⟨rfl, rfl⟩ zh_yX0_put ⟨by decide, by decide⟩ (zc_at (j := 1) (by decide)) rfl rfl rfl (zle rfl) rfl ?_
            refine zv_iload K 108 dX3_sell_106 rfl rfl ?_
            exact zv_iret K T dX3_sell_108 (⟨by simp only [fX3_sell, if_pos h1, if_pos h3, if_neg h5, if_pos h7, if_pos hr], by simp only [fX3_sell, if_pos h1, if_pos h3, if_neg h5, if_pos h7, if_pos hr]⟩)
          · skip
            refine zv_iload K 56 dX3_sell_54 rfl rfl ?_
            exact zv_iret K T dX3_sell_56 (⟨by simp only [fX3_sell, if_pos h1, if_pos h3, if_neg h5, if_pos h7, if_neg hr], by simp only [fX3_sell, if_pos h1, if_pos h3, if_neg h5, if_pos h7, if_neg hr]⟩)

def fX3_stake (σ : zC) (n : Nat) (ab : Int32) (vn : Int32) (ft : Int32) (m : Int32) : Int32 × zC :=
  if (0 ≤ ab ∧ ab ≤ σ.1 1 0) then
    if (0 ≤ vn ∧ vn ≤ 3) then
      if (0 ≤ ft ∧ ft ≤ 59) then
        if (0 ≤ m ∧ m ≤ 9) then
          if (90 ≤ σ.1 1 1) then
            ((-2), σ)
          else
            if (σ.1 1 2) < 20 then
              (nI n, (zO (zp (zp (zp (zp (zap σ n 0 ab vn) n 9 (nI n)) n 5 m) n 6 (if (ft - (σ.1 0 3)) < 0 then 0 else (ft - (σ.1 0 3)))) n 7 (if 59 < (ft + (σ.1 0 3)) then 59 else (ft + (σ.1 0 3)))) 1 2 ((σ.1 1 2) + 1)))
            else
              ((-2), σ)
        else
          ((-1), σ)
      else
        ((-1), σ)
    else
      ((-1), σ)
  else
    ((-1), σ)
set_option maxHeartbeats 4000000 in
set_option maxRecDepth 100000 in
theorem kX3_stake (l : Launch) (D : va_G) (ty : zTy) (a : Nat → Nat) (σ : zC) (O : Nat → Nat) (n : Nat) (hI : zI σ O n) (ab vn ft m : Int32) : zv_ct l D ty yX3_stake cX3_stake 6 (some .int) (zR 3 70) [.ref (a 0), .int ab, .int vn, .int ft, .int m] (zc a ty σ) (fun v_ w_ => v_ = some (.int (fX3_stake σ n ab vn ft m).1) ∧ w_ = zc a ty (fX3_stake σ n ab vn ft m).2) := by
  refine zv_open (by decide) rfl rfl [some (.ref (a 0)), some (.int ab), some (.int vn), some (.int ft), some (.int m), none] (by simp [zv_one, Value.category]) (zle rfl) rfl ?_
  intro k K T
  refine zv_aload_n K 1 dX3_stake_0 rfl rfl ?_
  refine zv_iload_n K 2 dX3_stake_1 rfl rfl ?_
  refine zv_cV1 K (q0 := 0) (As := [.int ab]) (rest := []) 1 5 (kX3_isPast l D ty a σ ab) dX3_stake_2 rfl zw_1_156 zw_1_158 zw_p1_0 zw_1_1 zw_1_159 ⟨rfl, rfl⟩ zh_yX3_isPast ⟨by decide, by decide⟩ (zc_at (j := 0) (by decide)) rfl rfl rfl (zle rfl) rfl ?_
  refine zv_ifB_eq K 30 8 dX3_stake_5 (by decide) rfl (fun h1 => ?_) (fun h1 => ?_)
  · skip
    refine zv_iconst K (-1) 31 dX3_stake_30 rfl (by decide) ?_
    exact zv_iret K T dX3_stake_31 (⟨by simp only [fX3_stake, if_neg h1], by simp only [fX3_stake, if_neg h1]⟩)
  · skip
    refine zv_iload_n K 9 dX3_stake_8 rfl rfl ?_
    refine zv_cS1 K (As := [.int vn]) (rest := []) 1 12 (kX3_isVein l D ty (zc a ty σ) vn) dX3_stake_9 rfl zw_1_160 zw_1_161 zw_1_1 zw_1_162 ⟨rfl, rfl⟩ zh_yX3_isVein ⟨by decide, by decide⟩ rfl rfl (zle rfl) rfl ?_
    refine zv_ifB_eq K 30 15 dX3_stake_12 (by decide) rfl (fun h2 => ?_) (fun h2 => ?_)
    · skip
      refine zv_iconst K (-1) 31 dX3_stake_30 rfl (by decide) ?_
      exact zv_iret K T dX3_stake_31 (⟨by simp only [fX3_stake, if_pos h1, if_neg h2], by simp only [fX3_stake, if_pos h1, if_neg h2]⟩)
    · skip
      refine zv_iload_n K 16 dX3_stake_15 rfl rfl ?_
      refine zv_cS1 K (As := [.int ft]) (rest := []) 1 19 (kX3_isFoot l D ty (zc a ty σ) ft) dX3_stake_16 rfl zw_1_163 zw_1_164 zw_1_1 zw_1_165 ⟨rfl, rfl⟩ zh_yX3_isFoot ⟨by decide, by decide⟩ rfl rfl (zle rfl) rfl ?_
      refine zv_ifB_eq K 30 22 dX3_stake_19 (by decide) rfl (fun h3 => ?_) (fun h3 => ?_)
      · skip
        refine zv_iconst K (-1) 31 dX3_stake_30 rfl (by decide) ?_
        exact zv_iret K T dX3_stake_31 (⟨by simp only [fX3_stake, if_pos h1, if_pos h2, if_neg h3], by simp only [fX3_stake, if_pos h1, if_pos h2, if_neg h3]⟩)
      · skip
        refine zv_iload K 24 dX3_stake_22 rfl rfl ?_
        refine zv_cS1 K (As := [.int m]) (rest := []) 1 27 (kX3_isMiner l D ty (zc a ty σ) m) dX3_stake_24 rfl zw_1_166 zw_1_167 zw_1_1 zw_1_168 ⟨rfl, rfl⟩ zh_yX3_isMiner ⟨by decide, by decide⟩ rfl rfl (zle rfl) rfl ?_
        refine zv_ifB_ne K 32 30 dX3_stake_27 (by decide) rfl (fun h4 => ?_) (fun h4 => ?_)
        · skip
          refine zv_aload_n K 33 dX3_stake_32 rfl rfl ?_
          refine zv_get (v := .ref (a 1)) (C := RX3) (T := TX3) (N := 7) K 0 0 36 dX3_stake_33 rfl zy_X3 (zc_at (j := 0) (by decide)) rfl (by decide) zw_1_119 rfl ?_
          refine zv_cV1 K (q0 := 1) (As := []) (rest := []) 0 39 (kX0_isFull l D ty a σ) dX3_stake_36 rfl zw_1_169 zw_1_170 zw_1_171 zw_1_2 zw_1_172 ⟨rfl, rfl⟩ zh_yX0_isFull ⟨by decide, by decide⟩ (zc_at (j := 1) (by decide)) rfl rfl rfl (zle rfl) rfl ?_
          refine zv_ifB_ne K 54 42 dX3_stake_39 (by decide) rfl (fun hfu => ?_) (fun hfu => ?_)
          · skip
            refine zv_bipush K (-2) 56 dX3_stake_54 rfl (by decide) ?_
            exact zv_iret K T dX3_stake_56 (⟨by simp only [fX3_stake, if_pos h1, if_pos h2, if_pos h3, if_pos h4, if_pos hfu], by simp only [fX3_stake, if_pos h1, if_pos h2, if_pos h3, if_pos h4, if_pos hfu]⟩)
          · skip
            refine zv_aload_n K 43 dX3_stake_42 rfl rfl ?_
            refine zv_get (v := .ref (a 1)) (C := RX3) (T := TX3) (N := 7) K 0 0 46 dX3_stake_43 rfl zy_X3 (zc_at (j := 0) (by decide)) rfl (by decide) zw_1_119 rfl ?_
            refine zv_getN (v := .int (σ.1 1 2)) (C := RX0) (T := TX0) (N := 5) K 1 2 49 dX3_stake_46 rfl zy_X0 (zc_at (j := 1) (by decide)) rfl (by decide) zn_4 rfl ?_
            refine zv_bipush K 20 51 dX3_stake_49 rfl (by decide) ?_
            refine zv_icmp_lt K 57 54 dX3_stake_51 (by decide) rfl (fun h6 => ?_) (fun h6 => ?_)
            · skip
              have hn := z_nf hI hfu
              have hc := hI.2.1
              have hG := hI.val
              refine zv_aload_n K 58 dX3_stake_57 rfl rfl ?_
              refine zv_get (v := .ref (a 1)) (C := RX3) (T := TX3) (N := 7) K 0 0 61 dX3_stake_58 rfl zy_X3 (zc_at (j := 0) (by decide)) rfl (by decide) zw_1_119 rfl ?_
              refine zv_iconst K 0 62 dX3_stake_61 rfl (by decide) ?_
              refine zv_iload_n K 63 dX3_stake_62 rfl rfl ?_
              refine zv_iload_n K 64 dX3_stake_63 rfl rfl ?_
              refine zv_cV1 K (q0 := 1) (As := [.int 0, .int ab, .int vn]) (rest := []) 3 67 (kX0_append l D ty a σ 0 ab vn n hn hc hG) dX3_stake_64 rfl zw_1_173 zw_1_174 zw_1_175 zw_1_2 zw_1_176 ⟨rfl, rfl⟩ zh_yX0_append ⟨by decide, by decide⟩ (zc_at (j := 1) (by decide)) rfl rfl rfl (zle rfl) rfl ?_
              refine zv_istore K [some (.ref (a 0)), some (.int ab), some (.int vn), some (.int ft), some (.int m), some (.int (nI n))] 69 dX3_stake_67 rfl rfl (zlt rfl) ?_
              refine zv_aload_n K 70 dX3_stake_69 rfl rfl ?_
              refine zv_get (v := .ref (a 1)) (C := RX3) (T := TX3) (N := 7) K 0 0 73 dX3_stake_70 rfl zy_X3 (zc_at (j := 0) (by decide)) rfl (by decide) zw_1_119 rfl ?_
              refine zv_iload K 75 dX3_stake_73 rfl rfl ?_
              refine zv_bipush K 9 77 dX3_stake_75 rfl (by decide) ?_
              refine zv_iload K 79 dX3_stake_77 rfl rfl ?_
              refine zv_cV0 K (q0 := 1) (As := [.int (nI n), .int 9, .int (nI n)]) (rest := []) 3 82 (kX0_put l D ty a (zap σ n 0 ab vn) (nI n) 9 (nI n) n 9 rfl rfl hn (by decide)) dX3_stake_79 rfl zw_1_189 zw_1_178 zw_1_179 zw_1_2 zw_1_180 ⟨rfl, rfl⟩ zh_yX0_put ⟨by decide, by decide⟩ (zc_at (j := 1) (by decide)) rfl rfl rfl (zle rfl) rfl ?_
              refine zv_aload_n K 83 dX3_stake_82 rfl rfl ?_
              refine zv_get (v := .ref (a 1)) (C := RX3) (T := TX3) (N := 7) K 0 0 86 dX3_stake_83 rfl zy_X3 (zc_at (j := 0) (by decide)) rfl (by decide) zw_1_119 rfl ?_
              refine zv_iload K 88 dX3_stake_86 rfl rfl ?_
              refine zv_iconst K 5 89 dX3_stake_88 rfl (by decide) ?_
              refine zv_iload K 91 dX3_stake_89 rfl rfl ?_
              refine zv_cV0 K (q0 := 1) (As := [.int (nI n), .int 5, .int m]) (rest := []) 3 94 (kX0_put l D ty a (zp (zap σ n 0 ab vn) n 9 (nI n)) (nI n) 5 m n 5 rfl rfl hn (by decide)) dX3_stake_91 rfl zw_1_189 zw_1_178 zw_1_179 zw_1_2 zw_1_180 ⟨rfl, rfl⟩ zh_yX0_put ⟨by decide, by decide⟩ (zc_at (j := 1) (by decide)) rfl rfl rfl (zle rfl) rfl ?_
              refine zv_aload_n K 95 dX3_stake_94 rfl rfl ?_
              refine zv_get (v := .ref (a 1)) (C := RX3) (T := TX3) (N := 7) K 0 0 98 dX3_stake_95 rfl zy_X3 (zc_at (j := 0) (by decide)) rfl (by decide) zw_1_119 rfl ?_
              refine zv_iload K 100 dX3_stake_98 rfl rfl ?_
              refine zv_iload_n K 101 dX3_stake_100 rfl rfl ?_
              refine zv_aload_n K 102 dX3_stake_101 rfl rfl ?_
              refine zv_get (v := .int (σ.1 0 3)) (C := RX3) (T := TX3) (N := 7) K 0 3 105 dX3_stake_102 rfl zy_X3 (zc_at (j := 0) (by decide)) rfl (by decide) zw_1_122 rfl ?_
              refine zv_isub K 106 dX3_stake_105 rfl ?_
              refine zv_iconst K 0 107 dX3_stake_106 rfl (by decide) ?_
              refine zv_mmax K 110 dX3_stake_107 rfl zw_1_190 zw_1_191 zw_1_6 zw_1_192 (by decide) (zle rfl) rfl ?_
              refine zv_iload_n K 111 dX3_stake_110 rfl rfl ?_
              refine zv_aload_n K 112 dX3_stake_111 rfl rfl ?_
              refine zv_get (v := .int (σ.1 0 3)) (C := RX3) (T := TX3) (N := 7) K 0 3 115 dX3_stake_112 rfl zy_X3 (zc_at (j := 0) (by decide)) rfl (by decide) zw_1_122 rfl ?_
              refine zv_iadd K 116 dX3_stake_115 rfl ?_
              refine zv_bipush K 59 118 dX3_stake_116 rfl (by decide) ?_
              refine zv_mmin K 121 dX3_stake_118 rfl zw_1_193 zw_1_194 zw_1_6 zw_1_195 (by decide) (zle rfl) rfl ?_
              refine zv_cV0 K (q0 := 1) (As := [.int (nI n), .int (if (ft - (σ.1 0 3)) < 0 then 0 else (ft - (σ.1 0 3))), .int (if 59 < (ft + (σ.1 0 3)) then 59 else (ft + (σ.1 0 3)))]) (rest := []) 3 124 (kX0_putFeet l D ty a (zp (zp (zap σ n 0 ab vn) n 9 (nI n)) n 5 m) (nI n) (if (ft - (σ.1 0 3)) < 0 then 0 else (ft - (σ.1 0 3))) (if 59 < (ft + (σ.1 0 3)) then 59 else (ft + (σ.1 0 3))) n rfl hn) dX3_stake_121 rfl zw_1_196 zw_1_197 zw_1_198 zw_1_2 zw_1_199 ⟨rfl, rfl⟩ zh_yX0_putFeet ⟨by decide, by decide⟩ (zc_at (j := 1) (by decide)) rfl rfl rfl (zle rfl) rfl ?_
              refine zv_aload_n K 125 dX3_stake_124 rfl rfl ?_
              refine zv_get (v := .ref (a 1)) (C := RX3) (T := TX3) (N := 7) K 0 0 128 dX3_stake_125 rfl zy_X3 (zc_at (j := 0) (by decide)) rfl (by decide) zw_1_119 rfl ?_
              refine zv_dup K 129 dX3_stake_128 rfl rfl ?_
              refine zv_getN (v := .int (σ.1 1 2)) (C := RX0) (T := TX0) (N := 5) K 1 2 132 dX3_stake_129 rfl zy_X0 (zc_at (j := 1) (by decide)) rfl (by decide) zn_4 rfl ?_
              refine zv_iconst K 1 133 dX3_stake_132 rfl (by decide) ?_
              refine zv_iadd K 134 dX3_stake_133 rfl ?_
              refine zv_putN (C := RX0) (T := TX0) (N := 5) K 1 2 137 (zc a ty (zO (zp (zp (zp (zp (zap σ n 0 ab vn) n 9 (nI n)) n 5 m) n 6 (if (ft - (σ.1 0 3)) < 0 then 0 else (ft - (σ.1 0 3)))) n 7 (if 59 < (ft + (σ.1 0 3)) then 59 else (ft + (σ.1 0 3)))) 1 2 ((σ.1 1 2) + 1))) dX3_stake_134 rfl zy_X0 tyX0_ok nmX0 (zc_at (j := 1) (by decide)) rfl (by decide) zn_4 rfl rfl rfl rfl (zlt rfl) (zc_O 1 2 (by decide) rfl) ?_
              refine zv_iload K 139 dX3_stake_137 rfl rfl ?_
              exact zv_iret K T dX3_stake_139 (⟨by simp only [fX3_stake, if_pos h1, if_pos h2, if_pos h3, if_pos h4, if_neg hfu, if_pos h6], by simp only [fX3_stake, if_pos h1, if_pos h2, if_pos h3, if_pos h4, if_neg hfu, if_pos h6]⟩)
            · skip
              refine zv_bipush K (-2) 56 dX3_stake_54 rfl (by decide) ?_
              exact zv_iret K T dX3_stake_56 (⟨by simp only [fX3_stake, if_pos h1, if_pos h2, if_pos h3, if_pos h4, if_neg hfu, if_neg h6], by simp only [fX3_stake, if_pos h1, if_pos h2, if_pos h3, if_pos h4, if_neg hfu, if_neg h6]⟩)
        · skip
          refine zv_iconst K (-1) 31 dX3_stake_30 rfl (by decide) ?_
          exact zv_iret K T dX3_stake_31 (⟨by simp only [fX3_stake, if_pos h1, if_pos h2, if_pos h3, if_neg h4], by simp only [fX3_stake, if_pos h1, if_pos h2, if_pos h3, if_neg h4]⟩)

def fX3_dig (σ : zC) (n : Nat) (ab : Int32) (vn : Int32) (ft : Int32) (v : Int32) : Int32 × zC :=
  if (0 ≤ ab ∧ ab ≤ σ.1 1 0) then
    if (0 ≤ vn ∧ vn ≤ 3) then
      if (0 ≤ ft ∧ ft ≤ 59) then
        if (1 ≤ v ∧ v ≤ 1000) then
          if (90 ≤ σ.1 1 1) then
            ((-2), σ)
          else
            (nI n, (zp (zp (zp (zap σ n 6 ab vn) n 6 ft) n 7 ft) n 8 v))
        else
          ((-1), σ)
      else
        ((-1), σ)
    else
      ((-1), σ)
  else
    ((-1), σ)
set_option maxHeartbeats 4000000 in
set_option maxRecDepth 100000 in
theorem kX3_dig (l : Launch) (D : va_G) (ty : zTy) (a : Nat → Nat) (σ : zC) (O : Nat → Nat) (n : Nat) (hI : zI σ O n) (ab vn ft v : Int32) : zv_ct l D ty yX3_dig cX3_dig 6 (some .int) (zR 3 70) [.ref (a 0), .int ab, .int vn, .int ft, .int v] (zc a ty σ) (fun v_ w_ => v_ = some (.int (fX3_dig σ n ab vn ft v).1) ∧ w_ = zc a ty (fX3_dig σ n ab vn ft v).2) := by
  refine zv_open (by decide) rfl rfl [some (.ref (a 0)), some (.int ab), some (.int vn), some (.int ft), some (.int v), none] (by simp [zv_one, Value.category]) (zle rfl) rfl ?_
  intro k K T
  refine zv_aload_n K 1 dX3_dig_0 rfl rfl ?_
  refine zv_iload_n K 2 dX3_dig_1 rfl rfl ?_
  refine zv_cV1 K (q0 := 0) (As := [.int ab]) (rest := []) 1 5 (kX3_isPast l D ty a σ ab) dX3_dig_2 rfl zw_1_156 zw_1_158 zw_p1_0 zw_1_1 zw_1_159 ⟨rfl, rfl⟩ zh_yX3_isPast ⟨by decide, by decide⟩ (zc_at (j := 0) (by decide)) rfl rfl rfl (zle rfl) rfl ?_
  refine zv_ifB_eq K 34 8 dX3_dig_5 (by decide) rfl (fun h1 => ?_) (fun h1 => ?_)
  · skip
    refine zv_iconst K (-1) 35 dX3_dig_34 rfl (by decide) ?_
    exact zv_iret K T dX3_dig_35 (⟨by simp only [fX3_dig, if_neg h1], by simp only [fX3_dig, if_neg h1]⟩)
  · skip
    refine zv_iload_n K 9 dX3_dig_8 rfl rfl ?_
    refine zv_cS1 K (As := [.int vn]) (rest := []) 1 12 (kX3_isVein l D ty (zc a ty σ) vn) dX3_dig_9 rfl zw_1_160 zw_1_161 zw_1_1 zw_1_162 ⟨rfl, rfl⟩ zh_yX3_isVein ⟨by decide, by decide⟩ rfl rfl (zle rfl) rfl ?_
    refine zv_ifB_eq K 34 15 dX3_dig_12 (by decide) rfl (fun h2 => ?_) (fun h2 => ?_)
    · skip
      refine zv_iconst K (-1) 35 dX3_dig_34 rfl (by decide) ?_
      exact zv_iret K T dX3_dig_35 (⟨by simp only [fX3_dig, if_pos h1, if_neg h2], by simp only [fX3_dig, if_pos h1, if_neg h2]⟩)
    · skip
      refine zv_iload_n K 16 dX3_dig_15 rfl rfl ?_
      refine zv_cS1 K (As := [.int ft]) (rest := []) 1 19 (kX3_isFoot l D ty (zc a ty σ) ft) dX3_dig_16 rfl zw_1_163 zw_1_164 zw_1_1 zw_1_165 ⟨rfl, rfl⟩ zh_yX3_isFoot ⟨by decide, by decide⟩ rfl rfl (zle rfl) rfl ?_
      refine zv_ifB_eq K 34 22 dX3_dig_19 (by decide) rfl (fun h3 => ?_) (fun h3 => ?_)
      · skip
        refine zv_iconst K (-1) 35 dX3_dig_34 rfl (by decide) ?_
        exact zv_iret K T dX3_dig_35 (⟨by simp only [fX3_dig, if_pos h1, if_pos h2, if_neg h3], by simp only [fX3_dig, if_pos h1, if_pos h2, if_neg h3]⟩)
      · skip
        refine zv_iload K 24 dX3_dig_22 rfl rfl ?_
        refine zv_iconst K 1 25 dX3_dig_24 rfl (by decide) ?_
        refine zv_sipush K 1000 28 dX3_dig_25 rfl (by decide) ?_
        refine zv_cS1 K (As := [.int v, .int 1, .int 1000]) (rest := []) 3 31 (kX3_isWithin l D ty (zc a ty σ) v 1 1000) dX3_dig_28 rfl zw_1_145 zw_1_146 zw_1_1 zw_1_147 ⟨rfl, rfl⟩ zh_yX3_isWithin ⟨by decide, by decide⟩ rfl rfl (zle rfl) rfl ?_
        refine zv_ifB_ne K 36 34 dX3_dig_31 (by decide) rfl (fun h4 => ?_) (fun h4 => ?_)
        · skip
          refine zv_aload_n K 37 dX3_dig_36 rfl rfl ?_
          refine zv_get (v := .ref (a 1)) (C := RX3) (T := TX3) (N := 7) K 0 0 40 dX3_dig_37 rfl zy_X3 (zc_at (j := 0) (by decide)) rfl (by decide) zw_1_119 rfl ?_
          refine zv_cV1 K (q0 := 1) (As := []) (rest := []) 0 43 (kX0_isFull l D ty a σ) dX3_dig_40 rfl zw_1_169 zw_1_170 zw_1_171 zw_1_2 zw_1_172 ⟨rfl, rfl⟩ zh_yX0_isFull ⟨by decide, by decide⟩ (zc_at (j := 1) (by decide)) rfl rfl rfl (zle rfl) rfl ?_
          refine zv_ifB_eq K 49 46 dX3_dig_43 (by decide) rfl (fun hfu => ?_) (fun hfu => ?_)
          · skip
            have hn := z_nf hI hfu
            have hc := hI.2.1
            have hG := hI.val
            refine zv_aload_n K 50 dX3_dig_49 rfl rfl ?_
            refine zv_get (v := .ref (a 1)) (C := RX3) (T := TX3) (N := 7) K 0 0 53 dX3_dig_50 rfl zy_X3 (zc_at (j := 0) (by decide)) rfl (by decide) zw_1_119 rfl ?_
            refine zv_bipush K 6 55 dX3_dig_53 rfl (by decide) ?_
            refine zv_iload_n K 56 dX3_dig_55 rfl rfl ?_
            refine zv_iload_n K 57 dX3_dig_56 rfl rfl ?_
            refine zv_cV1 K (q0 := 1) (As := [.int 6, .int ab, .int vn]) (rest := []) 3 60 (kX0_append l D ty a σ 6 ab vn n hn hc hG) dX3_dig_57 rfl zw_1_173 zw_1_174 zw_1_175 zw_1_2 zw_1_176 ⟨rfl, rfl⟩ zh_yX0_append ⟨by decide, by decide⟩ (zc_at (j := 1) (by decide)) rfl rfl rfl (zle rfl) rfl ?_
            refine zv_istore K [some (.ref (a 0)), some (.int ab), some (.int vn), some (.int ft), some (.int v), some (.int (nI n))] 62 dX3_dig_60 rfl rfl (zlt rfl) ?_
            refine zv_aload_n K 63 dX3_dig_62 rfl rfl ?_
            refine zv_get (v := .ref (a 1)) (C := RX3) (T := TX3) (N := 7) K 0 0 66 dX3_dig_63 rfl zy_X3 (zc_at (j := 0) (by decide)) rfl (by decide) zw_1_119 rfl ?_
            refine zv_iload K 68 dX3_dig_66 rfl rfl ?_
            refine zv_iload_n K 69 dX3_dig_68 rfl rfl ?_
            refine zv_iload_n K 70 dX3_dig_69 rfl rfl ?_
            refine zv_cV0 K (q0 := 1) (As := [.int (nI n), .int ft, .int ft]) (rest := []) 3 73 (kX0_putFeet l D ty a (zap σ n 6 ab vn) (nI n) ft ft n rfl hn) dX3_dig_70 rfl zw_1_196 zw_1_197 zw_1_198 zw_1_2 zw_1_199 ⟨rfl, rfl⟩ zh_yX0_putFeet ⟨by decide, by decide⟩ (zc_at (j := 1) (by decide)) rfl rfl rfl (zle rfl) rfl ?_
            refine zv_aload_n K 74 dX3_dig_73 rfl rfl ?_
            refine zv_get (v := .ref (a 1)) (C := RX3) (T := TX3) (N := 7) K 0 0 77 dX3_dig_74 rfl zy_X3 (zc_at (j := 0) (by decide)) rfl (by decide) zw_1_119 rfl ?_
            refine zv_iload K 79 dX3_dig_77 rfl rfl ?_
            refine zv_bipush K 8 81 dX3_dig_79 rfl (by decide) ?_
            refine zv_iload K 83 dX3_dig_81 rfl rfl ?_
            refine zv_cV0 K (q0 := 1) (As := [.int (nI n), .int 8, .int v]) (rest := []) 3 86 (kX0_put l D ty a (zp (zp (zap σ n 6 ab vn) n 6 ft) n 7 ft) (nI n) 8 v n 8 rfl rfl hn (by decide)) dX3_dig_83 rfl zw_1_189 zw_1_178 zw_1_179 zw_1_2 zw_1_180 ⟨rfl, rfl⟩ zh_yX0_put ⟨by decide, by decide⟩ (zc_at (j := 1) (by decide)) rfl rfl rfl (zle rfl) rfl ?_
            refine zv_iload K 88 dX3_dig_86 rfl rfl ?_
            exact zv_iret K T dX3_dig_88 (⟨by simp only [fX3_dig, if_pos h1, if_pos h2, if_pos h3, if_pos h4, if_neg hfu], by simp only [fX3_dig, if_pos h1, if_pos h2, if_pos h3, if_pos h4, if_neg hfu]⟩)
          · skip
            refine zv_bipush K (-2) 48 dX3_dig_46 rfl (by decide) ?_
            exact zv_iret K T dX3_dig_48 (⟨by simp only [fX3_dig, if_pos h1, if_pos h2, if_pos h3, if_pos h4, if_pos hfu], by simp only [fX3_dig, if_pos h1, if_pos h2, if_pos h3, if_pos h4, if_pos hfu]⟩)
        · skip
          refine zv_iconst K (-1) 35 dX3_dig_34 rfl (by decide) ?_
          exact zv_iret K T dX3_dig_35 (⟨by simp only [fX3_dig, if_pos h1, if_pos h2, if_pos h3, if_neg h4], by simp only [fX3_dig, if_pos h1, if_pos h2, if_pos h3, if_neg h4]⟩)

def fX3_withdraw (σ : zC) (x : Int32) : Int32 × zC :=
  if (0 ≤ x ∧ x < σ.1 1 1) then
    if (¬ zg σ x.toNatClampNeg 3 = -4) then
      ((-5), σ)
    else
      (1, (zp σ x.toNatClampNeg 3 (σ.1 1 0)))
  else
    ((-1), σ)
set_option maxHeartbeats 4000000 in
set_option maxRecDepth 100000 in
theorem kX3_withdraw (l : Launch) (D : va_G) (ty : zTy) (a : Nat → Nat) (σ : zC) (O : Nat → Nat) (n : Nat) (hI : zI σ O n) (x : Int32) : zv_ct l D ty yX3_withdraw cX3_withdraw 2 (some .int) (zR 2 43) [.ref (a 0), .int x] (zc a ty σ) (fun v_ w_ => v_ = some (.int (fX3_withdraw σ x).1) ∧ w_ = zc a ty (fX3_withdraw σ x).2) := by
  refine zv_open (by decide) rfl rfl [some (.ref (a 0)), some (.int x)] (by simp [zv_one, Value.category]) (zle rfl) rfl ?_
  intro k K T
  refine zv_aload_n K 1 dX3_withdraw_0 rfl rfl ?_
  refine zv_get (v := .ref (a 1)) (C := RX3) (T := TX3) (N := 7) K 0 0 4 dX3_withdraw_1 rfl zy_X3 (zc_at (j := 0) (by decide)) rfl (by decide) zw_1_119 rfl ?_
  refine zv_iload_n K 5 dX3_withdraw_4 rfl rfl ?_
  refine zv_cV1 K (q0 := 1) (As := [.int x]) (rest := []) 1 8 (kX0_has l D ty a σ x) dX3_withdraw_5 rfl zw_1_208 zw_1_209 zw_1_210 zw_1_2 zw_1_211 ⟨rfl, rfl⟩ zh_yX0_has ⟨by decide, by decide⟩ (zc_at (j := 1) (by decide)) rfl rfl rfl (zle rfl) rfl ?_
  refine zv_ifB_ne K 13 11 dX3_withdraw_8 (by decide) rfl (fun hh => ?_) (fun hh => ?_)
  · skip
    obtain ⟨hx, hf⟩ := z_has hI hh
    refine zv_aload_n K 14 dX3_withdraw_13 rfl rfl ?_
    refine zv_get (v := .ref (a 1)) (C := RX3) (T := TX3) (N := 7) K 0 0 17 dX3_withdraw_14 rfl zy_X3 (zc_at (j := 0) (by decide)) rfl (by decide) zw_1_119 rfl ?_
    refine zv_iload_n K 18 dX3_withdraw_17 rfl rfl ?_
    refine zv_cV1 K (q0 := 1) (As := [.int x]) (rest := []) 1 21 (kX0_isWithdrawn l D ty a σ x x.toNatClampNeg hx hf) dX3_withdraw_18 rfl zw_2_5 zw_2_6 zw_2_7 zw_1_2 zw_2_8 ⟨rfl, rfl⟩ zh_yX0_isWithdrawn ⟨by decide, by decide⟩ (zc_at (j := 1) (by decide)) rfl rfl rfl (zle rfl) rfl ?_
    refine zv_ifB_eq K 27 24 dX3_withdraw_21 (by decide) rfl (fun h2 => ?_) (fun h2 => ?_)
    · skip
      refine zv_aload_n K 28 dX3_withdraw_27 rfl rfl ?_
      refine zv_get (v := .ref (a 1)) (C := RX3) (T := TX3) (N := 7) K 0 0 31 dX3_withdraw_28 rfl zy_X3 (zc_at (j := 0) (by decide)) rfl (by decide) zw_1_119 rfl ?_
      refine zv_iload_n K 32 dX3_withdraw_31 rfl rfl ?_
      refine zv_iconst K 3 33 dX3_withdraw_32 rfl (by decide) ?_
      refine zv_aload_n K 34 dX3_withdraw_33 rfl rfl ?_
      refine zv_get (v := .ref (a 1)) (C := RX3) (T := TX3) (N := 7) K 0 0 37 dX3_withdraw_34 rfl zy_X3 (zc_at (j := 0) (by decide)) rfl (by decide) zw_1_119 rfl ?_
      refine zv_getN (v := .int (σ.1 1 0)) (C := RX0) (T := TX0) (N := 5) K 1 0 40 dX3_withdraw_37 rfl zy_X0 (zc_at (j := 1) (by decide)) rfl (by decide) zn_1 rfl ?_
      refine zv_cV0 K (q0 := 1) (As := [.int x, .int 3, .int (σ.1 1 0)]) (rest := []) 3 43 (kX0_put l D ty a σ x 3 (σ.1 1 0) x.toNatClampNeg 3 hx rfl hf (by decide)) dX3_withdraw_40 rfl zw_1_189 zw_1_178 zw_1_179 zw_1_2 zw_1_180 ⟨rfl, rfl⟩ zh_yX0_put ⟨by decide, by decide⟩ (zc_at (j := 1) (by decide)) rfl rfl rfl (zle rfl) rfl ?_
      refine zv_iconst K 1 44 dX3_withdraw_43 rfl (by decide) ?_
      exact zv_iret K T dX3_withdraw_44 (⟨by simp only [fX3_withdraw, if_pos hh, if_neg h2], by simp only [fX3_withdraw, if_pos hh, if_neg h2]⟩)
    · skip
      refine zv_bipush K (-5) 26 dX3_withdraw_24 rfl (by decide) ?_
      exact zv_iret K T dX3_withdraw_26 (⟨by simp only [fX3_withdraw, if_pos hh, if_pos h2], by simp only [fX3_withdraw, if_pos hh, if_pos h2]⟩)
  · skip
    refine zv_iconst K (-1) 12 dX3_withdraw_11 rfl (by decide) ?_
    exact zv_iret K T dX3_withdraw_12 (⟨by simp only [fX3_withdraw, if_neg hh], by simp only [fX3_withdraw, if_neg hh]⟩)

def fX3_fact (σ : zC) (x : Int32) (y : Int32) : Int32 :=
  if (0 ≤ x ∧ x < σ.1 1 1) then
    if (0 ≤ y ∧ y ≤ 9) then
      (zg σ x.toNatClampNeg y.toNatClampNeg)
    else
      (-1)
  else
    (-1)
set_option maxHeartbeats 4000000 in
set_option maxRecDepth 100000 in
theorem kX3_fact (l : Launch) (D : va_G) (ty : zTy) (a : Nat → Nat) (σ : zC) (O : Nat → Nat) (n : Nat) (hI : zI σ O n) (x y : Int32) : zv_ct l D ty yX3_fact cX3_fact 3 (some .int) (zR 1 22) [.ref (a 0), .int x, .int y] (zc a ty σ) (fun v_ w_ => v_ = some (.int (fX3_fact σ x y)) ∧ w_ = zc a ty σ) := by
  refine zv_open (by decide) rfl rfl [some (.ref (a 0)), some (.int x), some (.int y)] (by simp [zv_one, Value.category]) (zle rfl) rfl ?_
  intro k K T
  refine zv_aload_n K 1 dX3_fact_0 rfl rfl ?_
  refine zv_get (v := .ref (a 1)) (C := RX3) (T := TX3) (N := 7) K 0 0 4 dX3_fact_1 rfl zy_X3 (zc_at (j := 0) (by decide)) rfl (by decide) zw_1_119 rfl ?_
  refine zv_iload_n K 5 dX3_fact_4 rfl rfl ?_
  refine zv_cV1 K (q0 := 1) (As := [.int x]) (rest := []) 1 8 (kX0_has l D ty a σ x) dX3_fact_5 rfl zw_1_208 zw_1_209 zw_1_210 zw_1_2 zw_1_211 ⟨rfl, rfl⟩ zh_yX0_has ⟨by decide, by decide⟩ (zc_at (j := 1) (by decide)) rfl rfl rfl (zle rfl) rfl ?_
  refine zv_ifB_eq K 21 11 dX3_fact_8 (by decide) rfl (fun hh => ?_) (fun hh => ?_)
  · skip
    refine zv_iconst K (-1) 22 dX3_fact_21 rfl (by decide) ?_
    exact zv_iret K T dX3_fact_22 (⟨by simp only [fX3_fact, if_neg hh], rfl⟩)
  · skip
    refine zv_iload_n K 12 dX3_fact_11 rfl rfl ?_
    refine zv_iconst K 0 13 dX3_fact_12 rfl (by decide) ?_
    refine zv_bipush K 9 15 dX3_fact_13 rfl (by decide) ?_
    refine zv_cS1 K (As := [.int y, .int 0, .int 9]) (rest := []) 3 18 (kX3_isWithin l D ty (zc a ty σ) y 0 9) dX3_fact_15 rfl zw_1_145 zw_1_146 zw_1_1 zw_1_147 ⟨rfl, rfl⟩ zh_yX3_isWithin ⟨by decide, by decide⟩ rfl rfl (zle rfl) rfl ?_
    refine zv_ifB_ne K 23 21 dX3_fact_18 (by decide) rfl (fun hw => ?_) (fun hw => ?_)
    · skip
      obtain ⟨hx, hf⟩ := z_has hI hh
      obtain ⟨hy, hy9⟩ := z_upto (m := 9) hw (by decide)
      refine zv_aload_n K 24 dX3_fact_23 rfl rfl ?_
      refine zv_get (v := .ref (a 1)) (C := RX3) (T := TX3) (N := 7) K 0 0 27 dX3_fact_24 rfl zy_X3 (zc_at (j := 0) (by decide)) rfl (by decide) zw_1_119 rfl ?_
      refine zv_iload_n K 28 dX3_fact_27 rfl rfl ?_
      refine zv_iload_n K 29 dX3_fact_28 rfl rfl ?_
      refine zv_cV1 K (q0 := 1) (As := [.int x, .int y]) (rest := []) 2 32 (kX0_get l D ty a σ x y x.toNatClampNeg y.toNatClampNeg hx hy hf (by omega)) dX3_fact_29 rfl zw_2_13 zw_1_186 zw_1_187 zw_1_2 zw_1_188 ⟨rfl, rfl⟩ zh_yX0_get ⟨by decide, by decide⟩ (zc_at (j := 1) (by decide)) rfl rfl rfl (zle rfl) rfl ?_
      exact zv_iret K T dX3_fact_32 (⟨by simp only [fX3_fact, if_pos hh, if_pos hw], rfl⟩)
    · skip
      refine zv_iconst K (-1) 22 dX3_fact_21 rfl (by decide) ?_
      exact zv_iret K T dX3_fact_22 (⟨by simp only [fX3_fact, if_pos hh, if_neg hw], rfl⟩)

def fX3_many (σ : zC) (n : Nat) (x : Int32) : Int32 :=
  if x = 0 then
    (σ.1 1 1)
  else
    if x = 1 then
      (σ.1 1 2)
    else
      if x = 2 then
        (nI (zct (fun f => decide (¬ zg σ f 3 = -4)) n))
      else
        if x = 3 then
          (σ.1 1 0)
        else
          if x = 4 then
            (σ.1 0 3)
          else
            if x = 5 then
              (σ.1 0 4)
            else
              (-1)
set_option maxHeartbeats 4000000 in
set_option maxRecDepth 100000 in
theorem kX3_many (l : Launch) (D : va_G) (ty : zTy) (a : Nat → Nat) (σ : zC) (O : Nat → Nat) (n : Nat) (hI : zI σ O n) (x : Int32) : zv_ct l D ty yX3_many cX3_many 2 (some .int) (zR 3 65) [.ref (a 0), .int x] (zc a ty σ) (fun v_ w_ => v_ = some (.int (fX3_many σ n x)) ∧ w_ = zc a ty σ) := by
  refine zv_open (by decide) rfl rfl [some (.ref (a 0)), some (.int x)] (by simp [zv_one, Value.category]) (zle rfl) rfl ?_
  intro k K T
  refine zv_iload_n K 1 dX3_many_0 rfl rfl ?_
  by_cases e_0 : x = 0
  · refine zv_tableIn (off := 39) K 40 dX3_many_1 (by rw [e_0]; decide) (by rw [e_0]; decide) (by rw [e_0]; rfl) (by decide) ?_
    refine zv_aload_n K 41 dX3_many_40 rfl rfl ?_
    refine zv_get (v := .ref (a 1)) (C := RX3) (T := TX3) (N := 7) K 0 0 44 dX3_many_41 rfl zy_X3 (zc_at (j := 0) (by decide)) rfl (by decide) zw_1_119 rfl ?_
    refine zv_getN (v := .int (σ.1 1 1)) (C := RX0) (T := TX0) (N := 5) K 1 1 47 dX3_many_44 rfl zy_X0 (zc_at (j := 1) (by decide)) rfl (by decide) zn_3 rfl ?_
    exact zv_iret K T dX3_many_47 (⟨by simp only [fX3_many, if_pos e_0], rfl⟩)
  · skip
    by_cases e_1 : x = 1
    · refine zv_tableIn (off := 47) K 48 dX3_many_1 (by rw [e_1]; decide) (by rw [e_1]; decide) (by rw [e_1]; rfl) (by decide) ?_
      refine zv_aload_n K 49 dX3_many_48 rfl rfl ?_
      refine zv_get (v := .ref (a 1)) (C := RX3) (T := TX3) (N := 7) K 0 0 52 dX3_many_49 rfl zy_X3 (zc_at (j := 0) (by decide)) rfl (by decide) zw_1_119 rfl ?_
      refine zv_getN (v := .int (σ.1 1 2)) (C := RX0) (T := TX0) (N := 5) K 1 2 55 dX3_many_52 rfl zy_X0 (zc_at (j := 1) (by decide)) rfl (by decide) zn_4 rfl ?_
      exact zv_iret K T dX3_many_55 (⟨by simp only [fX3_many, if_neg e_0, if_pos e_1], rfl⟩)
    · skip
      by_cases e_2 : x = 2
      · refine zv_tableIn (off := 55) K 56 dX3_many_1 (by rw [e_2]; decide) (by rw [e_2]; decide) (by rw [e_2]; rfl) (by decide) ?_
        have hn := hI.1
        have hc := hI.2.1
        refine zv_aload_n K 57 dX3_many_56 rfl rfl ?_
        refine zv_get (v := .ref (a 1)) (C := RX3) (T := TX3) (N := 7) K 0 0 60 dX3_many_57 rfl zy_X3 (zc_at (j := 0) (by decide)) rfl (by decide) zw_1_119 rfl ?_
        refine zv_cV1 K (q0 := 1) (As := []) (rest := []) 0 63 (kX0_countWithdrawn l D ty a σ n hn hc) dX3_many_60 rfl zw_2_163 zw_2_164 zw_2_165 zw_1_2 zw_2_166 ⟨rfl, rfl⟩ zh_yX0_countWithdrawn ⟨by decide, by decide⟩ (zc_at (j := 1) (by decide)) rfl rfl rfl (zle rfl) rfl ?_
        exact zv_iret K T dX3_many_63 (⟨by simp only [fX3_many, if_neg e_0, if_neg e_1, if_pos e_2], rfl⟩)
      · skip
        by_cases e_3 : x = 3
        · refine zv_tableIn (off := 63) K 64 dX3_many_1 (by rw [e_3]; decide) (by rw [e_3]; decide) (by rw [e_3]; rfl) (by decide) ?_
          refine zv_aload_n K 65 dX3_many_64 rfl rfl ?_
          refine zv_get (v := .ref (a 1)) (C := RX3) (T := TX3) (N := 7) K 0 0 68 dX3_many_65 rfl zy_X3 (zc_at (j := 0) (by decide)) rfl (by decide) zw_1_119 rfl ?_
          refine zv_getN (v := .int (σ.1 1 0)) (C := RX0) (T := TX0) (N := 5) K 1 0 71 dX3_many_68 rfl zy_X0 (zc_at (j := 1) (by decide)) rfl (by decide) zn_1 rfl ?_
          exact zv_iret K T dX3_many_71 (⟨by simp only [fX3_many, if_neg e_0, if_neg e_1, if_neg e_2, if_pos e_3], rfl⟩)
        · skip
          by_cases e_4 : x = 4
          · refine zv_tableIn (off := 71) K 72 dX3_many_1 (by rw [e_4]; decide) (by rw [e_4]; decide) (by rw [e_4]; rfl) (by decide) ?_
            refine zv_aload_n K 73 dX3_many_72 rfl rfl ?_
            refine zv_get (v := .int (σ.1 0 3)) (C := RX3) (T := TX3) (N := 7) K 0 3 76 dX3_many_73 rfl zy_X3 (zc_at (j := 0) (by decide)) rfl (by decide) zw_1_122 rfl ?_
            exact zv_iret K T dX3_many_76 (⟨by simp only [fX3_many, if_neg e_0, if_neg e_1, if_neg e_2, if_neg e_3, if_pos e_4], rfl⟩)
          · skip
            by_cases e_5 : x = 5
            · refine zv_tableIn (off := 76) K 77 dX3_many_1 (by rw [e_5]; decide) (by rw [e_5]; decide) (by rw [e_5]; rfl) (by decide) ?_
              refine zv_aload_n K 78 dX3_many_77 rfl rfl ?_
              refine zv_get (v := .int (σ.1 0 4)) (C := RX3) (T := TX3) (N := 7) K 0 4 81 dX3_many_78 rfl zy_X3 (zc_at (j := 0) (by decide)) rfl (by decide) zw_1_123 rfl ?_
              exact zv_iret K T dX3_many_81 (⟨by simp only [fX3_many, if_neg e_0, if_neg e_1, if_neg e_2, if_neg e_3, if_neg e_4, if_pos e_5], rfl⟩)
            · skip
              refine zv_tableOut K 82 dX3_many_1 (by have n_0 := lv_neT e_0 (a := 0) rfl; have n_1 := lv_neT e_1 (a := 1) rfl; have n_2 := lv_neT e_2 (a := 2) rfl; have n_3 := lv_neT e_3 (a := 3) rfl; have n_4 := lv_neT e_4 (a := 4) rfl; have n_5 := lv_neT e_5 (a := 5) rfl; omega) (by decide) ?_
              refine zv_iconst K (-1) 83 dX3_many_82 rfl (by decide) ?_
              exact zv_iret K T dX3_many_83 (⟨by simp only [fX3_many, if_neg e_0, if_neg e_1, if_neg e_2, if_neg e_3, if_neg e_4, if_neg e_5], rfl⟩)

def fX3_keep (σ : zC) : Int32 × zC :=
  (1, (zO (zcp2 σ ) 0 2 1))
set_option maxHeartbeats 4000000 in
set_option maxRecDepth 100000 in
theorem kX3_keep (l : Launch) (D : va_G) (ty : zTy) (a : Nat → Nat) (σ : zC) : zv_ct l D ty yX3_keep cX3_keep 1 (some .int) (zR 2 61) [.ref (a 0)] (zc a ty σ) (fun v_ w_ => v_ = some (.int (fX3_keep σ).1) ∧ w_ = zc a ty (fX3_keep σ).2) := by
  refine zv_open (by decide) rfl rfl [some (.ref (a 0))] (by simp [zv_one, Value.category]) (zle rfl) rfl ?_
  intro k K T
  refine zv_aload_n K 1 dX3_keep_0 rfl rfl ?_
  refine zv_get (v := .ref (a 2)) (C := RX3) (T := TX3) (N := 7) K 0 1 4 dX3_keep_1 rfl zy_X3 (zc_at (j := 0) (by decide)) rfl (by decide) zw_1_120 rfl ?_
  refine zv_aload_n K 5 dX3_keep_4 rfl rfl ?_
  refine zv_get (v := .ref (a 1)) (C := RX3) (T := TX3) (N := 7) K 0 0 8 dX3_keep_5 rfl zy_X3 (zc_at (j := 0) (by decide)) rfl (by decide) zw_1_119 rfl ?_
  refine zv_cV0 K (q0 := 2) (As := [.ref (a 1)]) (rest := []) 1 11 (kX0_copyFrom2 l D ty a σ) dX3_keep_8 rfl zw_2_171 zw_2_172 zw_2_173 zw_1_2 zw_2_174 ⟨rfl, rfl⟩ zh_yX0_copyFrom ⟨by decide, by decide⟩ (zc_at (j := 2) (by decide)) rfl rfl rfl (zle rfl) rfl ?_
  refine zv_aload_n K 12 dX3_keep_11 rfl rfl ?_
  refine zv_iconst K 1 13 dX3_keep_12 rfl (by decide) ?_
  refine zv_put (C := RX3) (T := TX3) (N := 7) K 0 2 16 (zc a ty (zO (zcp2 σ ) 0 2 1)) dX3_keep_13 rfl zy_X3 tyX3_ok nmX3 (zc_at (j := 0) (by decide)) rfl (by decide) zw_1_121 rfl rfl rfl rfl (zlt rfl) (zc_O 0 2 (by decide) rfl) ?_
  refine zv_iconst K 1 17 dX3_keep_16 rfl (by decide) ?_
  exact zv_iret K T dX3_keep_17 (⟨by simp only [fX3_keep], by simp only [fX3_keep]⟩)

def fX3_back (σ : zC) : Int32 × zC :=
  if (σ.1 0 2) = 0 then
    ((-4), σ)
  else
    (1, (zcp1 σ ))
set_option maxHeartbeats 4000000 in
set_option maxRecDepth 100000 in
theorem kX3_back (l : Launch) (D : va_G) (ty : zTy) (a : Nat → Nat) (σ : zC) : zv_ct l D ty yX3_back cX3_back 1 (some .int) (zR 2 61) [.ref (a 0)] (zc a ty σ) (fun v_ w_ => v_ = some (.int (fX3_back σ).1) ∧ w_ = zc a ty (fX3_back σ).2) := by
  refine zv_open (by decide) rfl rfl [some (.ref (a 0))] (by simp [zv_one, Value.category]) (zle rfl) rfl ?_
  intro k K T
  refine zv_aload_n K 1 dX3_back_0 rfl rfl ?_
  refine zv_get (v := .int (σ.1 0 2)) (C := RX3) (T := TX3) (N := 7) K 0 2 4 dX3_back_1 rfl zy_X3 (zc_at (j := 0) (by decide)) rfl (by decide) zw_1_121 rfl ?_
  refine zv_if_ne K 10 7 dX3_back_4 (by decide) rfl (fun h1 => ?_) (fun h1 => ?_)
  · skip
    refine zv_aload_n K 11 dX3_back_10 rfl rfl ?_
    refine zv_get (v := .ref (a 1)) (C := RX3) (T := TX3) (N := 7) K 0 0 14 dX3_back_11 rfl zy_X3 (zc_at (j := 0) (by decide)) rfl (by decide) zw_1_119 rfl ?_
    refine zv_aload_n K 15 dX3_back_14 rfl rfl ?_
    refine zv_get (v := .ref (a 2)) (C := RX3) (T := TX3) (N := 7) K 0 1 18 dX3_back_15 rfl zy_X3 (zc_at (j := 0) (by decide)) rfl (by decide) zw_1_120 rfl ?_
    refine zv_cV0 K (q0 := 1) (As := [.ref (a 2)]) (rest := []) 1 21 (kX0_copyFrom1 l D ty a σ) dX3_back_18 rfl zw_2_171 zw_2_172 zw_2_173 zw_1_2 zw_2_174 ⟨rfl, rfl⟩ zh_yX0_copyFrom ⟨by decide, by decide⟩ (zc_at (j := 1) (by decide)) rfl rfl rfl (zle rfl) rfl ?_
    refine zv_iconst K 1 22 dX3_back_21 rfl (by decide) ?_
    exact zv_iret K T dX3_back_22 (⟨by simp only [fX3_back, if_neg h1], by simp only [fX3_back, if_neg h1]⟩)
  · skip
    refine zv_bipush K (-4) 9 dX3_back_7 rfl (by decide) ?_
    exact zv_iret K T dX3_back_9 (⟨by simp only [fX3_back, if_pos h1], by simp only [fX3_back, if_pos h1]⟩)

