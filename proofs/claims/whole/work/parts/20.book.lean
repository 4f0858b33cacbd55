def zg (σ : zC) (f c : Nat) : Int32 := σ.2 4 (f * 11 + c)
def zp (σ : zC) (f c : Nat) (v : Int32) : zC := zF σ 4 (f * 11 + c) v
theorem z_nlt {a b : Int32} (h : ¬ a < b) : b ≤ a := by rw [Int32.le_iff_toInt_le]; rw [Int32.lt_iff_toInt_lt] at h; omega
theorem z_nle {a b : Int32} (h : ¬ a ≤ b) : b < a := by rw [Int32.lt_iff_toInt_lt]; rw [Int32.le_iff_toInt_le] at h; omega
theorem z_ltn {a b : Int32} (h : a < b) : ¬ b ≤ a := by rw [Int32.le_iff_toInt_le]; rw [Int32.lt_iff_toInt_lt] at h; omega
theorem z_len {a b : Int32} (h : a ≤ b) : ¬ b < a := by rw [Int32.lt_iff_toInt_lt]; rw [Int32.le_iff_toInt_le] at h; omega
set_option maxHeartbeats 4000000 in
set_option maxRecDepth 100000 in
theorem kX3_isWithin (l : Launch) (D : va_G) (ty : zTy) (ws : va_W) (x p q : Int32) : zv_ct l D ty yX3_isWithin cX3_isWithin 3 (some .boolean) (zR 0 0) [.int x, .int p, .int q] (ws) (fun v_ w_ => v_ = some (.int (zB (p ≤ x ∧ x ≤ q))) ∧ w_ = ws) := by
  refine zv_open (by decide) rfl rfl [some (.int x), some (.int p), some (.int q)] (by simp [zv_one, Value.category]) (zle rfl) rfl ?_
  intro k K T
  refine zv_iload_n K 1 dX3_isWithin_0 rfl rfl ?_
  refine zv_iload_n K 2 dX3_isWithin_1 rfl rfl ?_
  refine zv_icmp_lt K 14 5 dX3_isWithin_2 (by decide) rfl (fun h1 => ?_) (fun h1 => ?_)
  · skip
    refine zv_iconst K 0 15 dX3_isWithin_14 rfl (by decide) ?_
    exact zv_zret K T dX3_isWithin_15 rfl (⟨congrArg (fun z => some (Value.int z)) (Eq.symm (zB_f (by simp only [Int32.lt_iff_toInt_lt, Int32.le_iff_toInt_le] at *; omega))), rfl⟩)
  · skip
    refine zv_iload_n K 6 dX3_isWithin_5 rfl rfl ?_
    refine zv_iload_n K 7 dX3_isWithin_6 rfl rfl ?_
    refine zv_icmp_gt K 14 10 dX3_isWithin_7 (by decide) rfl (fun h2 => ?_) (fun h2 => ?_)
    · skip
      refine zv_iconst K 0 15 dX3_isWithin_14 rfl (by decide) ?_
      exact zv_zret K T dX3_isWithin_15 rfl (⟨congrArg (fun z => some (Value.int z)) (Eq.symm (zB_f (by simp only [Int32.lt_iff_toInt_lt, Int32.le_iff_toInt_le] at *; omega))), rfl⟩)
    · skip
      refine zv_iconst K 1 11 dX3_isWithin_10 rfl (by decide) ?_
      refine zv_goto K 15 dX3_isWithin_11 (by decide) ?_
      exact zv_zret K T dX3_isWithin_15 rfl (⟨congrArg (fun z => some (Value.int z)) (Eq.symm (zB_t (by simp only [Int32.lt_iff_toInt_lt, Int32.le_iff_toInt_le] at *; omega))), rfl⟩)

set_option maxHeartbeats 4000000 in
set_option maxRecDepth 100000 in
theorem kX3_isVein (l : Launch) (D : va_G) (ty : zTy) (ws : va_W) (x : Int32) : zv_ct l D ty yX3_isVein cX3_isVein 1 (some .boolean) (zR 1 22) [.int x] (ws) (fun v_ w_ => v_ = some (.int (zB (0 ≤ x ∧ x ≤ 3))) ∧ w_ = ws) := by
  refine zv_open (by decide) rfl rfl [some (.int x)] (by simp [zv_one, Value.category]) (zle rfl) rfl ?_
  intro k K T
  refine zv_iload_n K 1 dX3_isVein_0 rfl rfl ?_
  refine zv_iconst K 0 2 dX3_isVein_1 rfl (by decide) ?_
  refine zv_iconst K 3 3 dX3_isVein_2 rfl (by decide) ?_
  refine zv_cS1 K (As := [.int x, .int 0, .int 3]) (rest := []) 3 6 (kX3_isWithin l D ty (ws) x 0 3) dX3_isVein_3 rfl zw_1_145 zw_1_146 zw_1_1 zw_1_147 ⟨rfl, rfl⟩ zh_yX3_isWithin ⟨by decide, by decide⟩ rfl rfl (zle rfl) rfl ?_
  exact zv_zret K T dX3_isVein_6 zB_nar (⟨rfl, rfl⟩)

set_option maxHeartbeats 4000000 in
set_option maxRecDepth 100000 in
theorem kX3_isFoot (l : Launch) (D : va_G) (ty : zTy) (ws : va_W) (x : Int32) : zv_ct l D ty yX3_isFoot cX3_isFoot 1 (some .boolean) (zR 1 22) [.int x] (ws) (fun v_ w_ => v_ = some (.int (zB (0 ≤ x ∧ x ≤ 59))) ∧ w_ = ws) := by
  refine zv_open (by decide) rfl rfl [some (.int x)] (by simp [zv_one, Value.category]) (zle rfl) rfl ?_
  intro k K T
  refine zv_iload_n K 1 dX3_isFoot_0 rfl rfl ?_
  refine zv_iconst K 0 2 dX3_isFoot_1 rfl (by decide) ?_
  refine zv_bipush K 59 4 dX3_isFoot_2 rfl (by decide) ?_
  refine zv_cS1 K (As := [.int x, .int 0, .int 59]) (rest := []) 3 7 (kX3_isWithin l D ty (ws) x 0 59) dX3_isFoot_4 rfl zw_1_145 zw_1_146 zw_1_1 zw_1_147 ⟨rfl, rfl⟩ zh_yX3_isWithin ⟨by decide, by decide⟩ rfl rfl (zle rfl) rfl ?_
  exact zv_zret K T dX3_isFoot_7 zB_nar (⟨rfl, rfl⟩)

set_option maxHeartbeats 4000000 in
set_option maxRecDepth 100000 in
theorem kX3_isMiner (l : Launch) (D : va_G) (ty : zTy) (ws : va_W) (x : Int32) : zv_ct l D ty yX3_isMiner cX3_isMiner 1 (some .boolean) (zR 1 22) [.int x] (ws) (fun v_ w_ => v_ = some (.int (zB (0 ≤ x ∧ x ≤ 9))) ∧ w_ = ws) := by
  refine zv_open (by decide) rfl rfl [some (.int x)] (by simp [zv_one, Value.category]) (zle rfl) rfl ?_
  intro k K T
  refine zv_iload_n K 1 dX3_isMiner_0 rfl rfl ?_
  refine zv_iconst K 0 2 dX3_isMiner_1 rfl (by decide) ?_
  refine zv_bipush K 9 4 dX3_isMiner_2 rfl (by decide) ?_
  refine zv_cS1 K (As := [.int x, .int 0, .int 9]) (rest := []) 3 7 (kX3_isWithin l D ty (ws) x 0 9) dX3_isMiner_4 rfl zw_1_145 zw_1_146 zw_1_1 zw_1_147 ⟨rfl, rfl⟩ zh_yX3_isWithin ⟨by decide, by decide⟩ rfl rfl (zle rfl) rfl ?_
  exact zv_zret K T dX3_isMiner_7 zB_nar (⟨rfl, rfl⟩)

set_option maxHeartbeats 4000000 in
set_option maxRecDepth 100000 in
theorem kX3_isDay (l : Launch) (D : va_G) (ty : zTy) (ws : va_W) (x : Int32) : zv_ct l D ty yX3_isDay cX3_isDay 1 (some .boolean) (zR 1 22) [.int x] (ws) (fun v_ w_ => v_ = some (.int (zB (0 ≤ x ∧ x ≤ 999))) ∧ w_ = ws) := by
  refine zv_open (by decide) rfl rfl [some (.int x)] (by simp [zv_one, Value.category]) (zle rfl) rfl ?_
  intro k K T
  refine zv_iload_n K 1 dX3_isDay_0 rfl rfl ?_
  refine zv_iconst K 0 2 dX3_isDay_1 rfl (by decide) ?_
  refine zv_sipush K 999 5 dX3_isDay_2 rfl (by decide) ?_
  refine zv_cS1 K (As := [.int x, .int 0, .int 999]) (rest := []) 3 8 (kX3_isWithin l D ty (ws) x 0 999) dX3_isDay_5 rfl zw_1_145 zw_1_146 zw_1_1 zw_1_147 ⟨rfl, rfl⟩ zh_yX3_isWithin ⟨by decide, by decide⟩ rfl rfl (zle rfl) rfl ?_
  exact zv_zret K T dX3_isDay_8 zB_nar (⟨rfl, rfl⟩)

set_option maxHeartbeats 4000000 in
set_option maxRecDepth 100000 in
theorem kX3_areDays (l : Launch) (D : va_G) (ty : zTy) (ws : va_W) (x y : Int32) : zv_ct l D ty yX3_areDays cX3_areDays 2 (some .boolean) (zR 2 42) [.int x, .int y] (ws) (fun v_ w_ => v_ = some (.int (zB ((0 ≤ x ∧ x ≤ 999) ∧ (0 ≤ y ∧ y ≤ 999)))) ∧ w_ = ws) := by
  refine zv_open (by decide) rfl rfl [some (.int x), some (.int y)] (by simp [zv_one, Value.category]) (zle rfl) rfl ?_
  intro k K T
  refine zv_iload_n K 1 dX3_areDays_0 rfl rfl ?_
  refine zv_cS1 K (As := [.int x]) (rest := []) 1 4 (kX3_isDay l D ty (ws) x) dX3_areDays_1 rfl zw_2_21 zw_2_22 zw_1_1 zw_2_23 ⟨rfl, rfl⟩ zh_yX3_isDay ⟨by decide, by decide⟩ rfl rfl (zle rfl) rfl ?_
  refine zv_ifB_eq K 18 7 dX3_areDays_4 (by decide) rfl (fun h1 => ?_) (fun h1 => ?_)
  · skip
    refine zv_iconst K 0 19 dX3_areDays_18 rfl (by decide) ?_
    exact zv_zret K T dX3_areDays_19 rfl (⟨congrArg (fun z => some (Value.int z)) (Eq.symm (zB_f (by first | exact ⟨by assumption, by assumption⟩ | (intro q; first | exact absurd q.1 (by assumption) | exact absurd q.2 (by assumption))))), rfl⟩)
  · skip
    refine zv_iload_n K 8 dX3_areDays_7 rfl rfl ?_
    refine zv_cS1 K (As := [.int y]) (rest := []) 1 11 (kX3_isDay l D ty (ws) y) dX3_areDays_8 rfl zw_2_21 zw_2_22 zw_1_1 zw_2_23 ⟨rfl, rfl⟩ zh_yX3_isDay ⟨by decide, by decide⟩ rfl rfl (zle rfl) rfl ?_
    refine zv_ifB_eq K 18 14 dX3_areDays_11 (by decide) rfl (fun h2 => ?_) (fun h2 => ?_)
    · skip
      refine zv_iconst K 0 19 dX3_areDays_18 rfl (by decide) ?_
      exact zv_zret K T dX3_areDays_19 rfl (⟨congrArg (fun z => some (Value.int z)) (Eq.symm (zB_f (by first | exact ⟨by assumption, by assumption⟩ | (intro q; first | exact absurd q.1 (by assumption) | exact absurd q.2 (by assumption))))), rfl⟩)
    · skip
      refine zv_iconst K 1 15 dX3_areDays_14 rfl (by decide) ?_
      refine zv_goto K 19 dX3_areDays_15 (by decide) ?_
      exact zv_zret K T dX3_areDays_19 rfl (⟨congrArg (fun z => some (Value.int z)) (Eq.symm (zB_t (by first | exact ⟨by assumption, by assumption⟩ | (intro q; first | exact absurd q.1 (by assumption) | exact absurd q.2 (by assumption))))), rfl⟩)

set_option maxHeartbeats 4000000 in
set_option maxRecDepth 100000 in
theorem kX0_has (l : Launch) (D : va_G) (ty : zTy) (a : Nat → Nat) (σ : zC) (x : Int32) : zv_ct l D ty yX0_has cX0_has 2 (some .boolean) (zR 0 0) [.ref (a 1), .int x] (zc a ty σ) (fun v_ w_ => v_ = some (.int (zB (0 ≤ x ∧ x < σ.1 1 1))) ∧ w_ = zc a ty σ) := by
  refine zv_open (by decide) rfl rfl [some (.ref (a 1)), some (.int x)] (by simp [zv_one, Value.category]) (zle rfl) rfl ?_
  intro k K T
  refine zv_iload_n K 1 dX0_has_0 rfl rfl ?_
  refine zv_if_lt K 16 4 dX0_has_1 (by decide) rfl (fun h1 => ?_) (fun h1 => ?_)
  · skip
    refine zv_iconst K 0 17 dX0_has_16 rfl (by decide) ?_
    exact zv_zret K T dX0_has_17 rfl (⟨congrArg (fun z => some (Value.int z)) (Eq.symm (zB_f (by simp only [Int32.lt_iff_toInt_lt, Int32.le_iff_toInt_le] at *; omega))), rfl⟩)
  · skip
    refine zv_iload_n K 5 dX0_has_4 rfl rfl ?_
    refine zv_aload_n K 6 dX0_has_5 rfl rfl ?_
    refine zv_get (v := .int (σ.1 1 1)) (C := RX0) (T := TX0) (N := 5) K 1 1 9 dX0_has_6 rfl zy_X0 (zc_at (j := 1) (by decide)) rfl (by decide) zw_1_24 rfl ?_
    refine zv_icmp_ge K 16 12 dX0_has_9 (by decide) rfl (fun h2 => ?_) (fun h2 => ?_)
    · skip
      refine zv_iconst K 0 17 dX0_has_16 rfl (by decide) ?_
      exact zv_zret K T dX0_has_17 rfl (⟨congrArg (fun z => some (Value.int z)) (Eq.symm (zB_f (by simp only [Int32.lt_iff_toInt_lt, Int32.le_iff_toInt_le] at *; omega))), rfl⟩)
    · skip
      refine zv_iconst K 1 13 dX0_has_12 rfl (by decide) ?_
      refine zv_goto K 17 dX0_has_13 (by decide) ?_
      exact zv_zret K T dX0_has_17 rfl (⟨congrArg (fun z => some (Value.int z)) (Eq.symm (zB_t (by simp only [Int32.lt_iff_toInt_lt, Int32.le_iff_toInt_le] at *; omega))), rfl⟩)

set_option maxHeartbeats 4000000 in
set_option maxRecDepth 100000 in
theorem kX0_isFull (l : Launch) (D : va_G) (ty : zTy) (a : Nat → Nat) (σ : zC) : zv_ct l D ty yX0_isFull cX0_isFull 1 (some .boolean) (zR 0 0) [.ref (a 1)] (zc a ty σ) (fun v_ w_ => v_ = some (.int (zB (90 ≤ σ.1 1 1))) ∧ w_ = zc a ty σ) := by
  refine zv_open (by decide) rfl rfl [some (.ref (a 1))] (by simp [zv_one, Value.category]) (zle rfl) rfl ?_
  intro k K T
  refine zv_aload_n K 1 dX0_isFull_0 rfl rfl ?_
  refine zv_get (v := .int (σ.1 1 1)) (C := RX0) (T := TX0) (N := 5) K 1 1 4 dX0_isFull_1 rfl zy_X0 (zc_at (j := 1) (by decide)) rfl (by decide) zw_1_24 rfl ?_
  refine zv_bipush K 90 6 dX0_isFull_4 rfl (by decide) ?_
  refine zv_icmp_lt K 13 9 dX0_isFull_6 (by decide) rfl (fun h1 => ?_) (fun h1 => ?_)
  · skip
    refine zv_iconst K 0 14 dX0_isFull_13 rfl (by decide) ?_
    exact zv_zret K T dX0_isFull_14 rfl (⟨congrArg (fun z => some (Value.int z)) (Eq.symm (zB_f (by simp only [Int32.lt_iff_toInt_lt, Int32.le_iff_toInt_le] at *; omega))), rfl⟩)
  · skip
    refine zv_iconst K 1 10 dX0_isFull_9 rfl (by decide) ?_
    refine zv_goto K 14 dX0_isFull_10 (by decide) ?_
    exact zv_zret K T dX0_isFull_14 rfl (⟨congrArg (fun z => some (Value.int z)) (Eq.symm (zB_t (by simp only [Int32.lt_iff_toInt_lt, Int32.le_iff_toInt_le] at *; omega))), rfl⟩)

set_option maxHeartbeats 4000000 in
set_option maxRecDepth 100000 in
theorem kX0_get (l : Launch) (D : va_G) (ty : zTy) (a : Nat → Nat) (σ : zC) (x y : Int32) (f c : Nat) (hx : x = nI f) (hy : y = nI c) (hf : f < 90) (hc : c < 11) : zv_ct l D ty yX0_get cX0_get 3 (some .int) (zR 0 0) [.ref (a 1), .int x, .int y] (zc a ty σ) (fun v_ w_ => v_ = some (.int (zg σ f c)) ∧ w_ = zc a ty σ) := by
  refine zv_open (by decide) rfl rfl [some (.ref (a 1)), some (.int x), some (.int y)] (by simp [zv_one, Value.category]) (zle rfl) rfl ?_
  intro k K T
  refine zv_aload_n K 1 dX0_get_0 rfl rfl ?_
  refine zv_get (v := .ref (a 4)) (C := RX0) (T := TX0) (N := 5) K 1 3 4 dX0_get_1 rfl zy_X0 (zc_at (j := 1) (by decide)) rfl (by decide) zw_1_29 rfl ?_
  refine zv_iload_n K 5 dX0_get_4 rfl rfl ?_
  refine zv_bipush K 11 7 dX0_get_5 rfl (by decide) ?_
  refine zv_imul K 8 dX0_get_7 rfl ?_
  refine zv_iload_n K 9 dX0_get_8 rfl rfl ?_
  refine zv_iadd K 10 dX0_get_9 rfl ?_
  refine zv_iald (F := σ.2 4) K 4 (f * 11 + c) 11 dX0_get_10 rfl (zc_at (j := 4) (by decide)) (by rw [hx, hy]; exact zi11 f c) (by omega) (by decide) ?_
  exact zv_iret K T dX0_get_11 (⟨rfl, rfl⟩)

set_option maxHeartbeats 4000000 in
set_option maxRecDepth 100000 in
theorem kX0_put (l : Launch) (D : va_G) (ty : zTy) (a : Nat → Nat) (σ : zC) (x y v : Int32) (f c : Nat) (hx : x = nI f) (hy : y = nI c) (hf : f < 90) (hc : c < 11) : zv_ct l D ty yX0_put cX0_put 4 none (zR 0 0) [.ref (a 1), .int x, .int y, .int v] (zc a ty σ) (fun v_ w_ => v_ = none ∧ w_ = zc a ty (zp σ f c v)) := by
  refine zv_open (by decide) rfl rfl [some (.ref (a 1)), some (.int x), some (.int y), some (.int v)] (by simp [zv_one, Value.category]) (zle rfl) rfl ?_
  intro k K T
  refine zv_aload_n K 1 dX0_put_0 rfl rfl ?_
  refine zv_get (v := .ref (a 4)) (C := RX0) (T := TX0) (N := 5) K 1 3 4 dX0_put_1 rfl zy_X0 (zc_at (j := 1) (by decide)) rfl (by decide) zw_1_29 rfl ?_
  refine zv_iload_n K 5 dX0_put_4 rfl rfl ?_
  refine zv_bipush K 11 7 dX0_put_5 rfl (by decide) ?_
  refine zv_imul K 8 dX0_put_7 rfl ?_
  refine zv_iload_n K 9 dX0_put_8 rfl rfl ?_
  refine zv_iadd K 10 dX0_put_9 rfl ?_
  refine zv_iload_n K 11 dX0_put_10 rfl rfl ?_
  refine zv_iast K 4 (f * 11 + c) 12 (zc a ty (zF σ 4 (f * 11 + c) v)) dX0_put_11 rfl (zc_at (j := 4) (by decide)) (by rw [hx, hy]; exact zi11 f c) (by omega) (by decide) (zc_F 4 (f * 11 + c) (by decide) rfl) ?_
  exact zv_vret K T dX0_put_12 (⟨rfl, rfl⟩)

set_option maxHeartbeats 4000000 in
set_option maxRecDepth 100000 in
theorem kX0_isStake (l : Launch) (D : va_G) (ty : zTy) (a : Nat → Nat) (σ : zC) (x : Int32) (f : Nat) (hx : x = nI f) (hf : f < 90) : zv_ct l D ty yX0_isStake cX0_isStake 2 (some .boolean) (zR 1 22) [.ref (a 1), .int x] (zc a ty σ) (fun v_ w_ => v_ = some (.int (zB (zg σ f 0 = 0))) ∧ w_ = zc a ty σ) := by
  refine zv_open (by decide) rfl rfl [some (.ref (a 1)), some (.int x)] (by simp [zv_one, Value.category]) (zle rfl) rfl ?_
  intro k K T
  refine zv_aload_n K 1 dX0_isStake_0 rfl rfl ?_
  refine zv_iload_n K 2 dX0_isStake_1 rfl rfl ?_
  refine zv_iconst K 0 3 dX0_isStake_2 rfl (by decide) ?_
  refine zv_cV1 K (q0 := 1) (As := [.int x, .int 0]) (rest := []) 2 6 (kX0_get l D ty a σ x 0 f 0 hx rfl hf (by decide)) dX0_isStake_3 rfl zw_1_185 zw_1_186 zw_1_187 zw_1_2 zw_1_188 ⟨rfl, rfl⟩ zh_yX0_get ⟨by decide, by decide⟩ (zc_at (j := 1) (by decide)) rfl rfl rfl (zle rfl) rfl ?_
  refine zv_if_ne K 13 9 dX0_isStake_6 (by decide) rfl (fun h1 => ?_) (fun h1 => ?_)
  · skip
    refine zv_iconst K 0 14 dX0_isStake_13 rfl (by decide) ?_
    exact zv_zret K T dX0_isStake_14 rfl (⟨congrArg (fun z => some (Value.int z)) (Eq.symm (zB_f (by assumption))), rfl⟩)
  · skip
    refine zv_iconst K 1 10 dX0_isStake_9 rfl (by decide) ?_
    refine zv_goto K 14 dX0_isStake_10 (by decide) ?_
    exact zv_zret K T dX0_isStake_14 rfl (⟨congrArg (fun z => some (Value.int z)) (Eq.symm (zB_t (by assumption))), rfl⟩)

set_option maxHeartbeats 4000000 in
set_option maxRecDepth 100000 in
theorem kX0_isWithdrawn (l : Launch) (D : va_G) (ty : zTy) (a : Nat → Nat) (σ : zC) (x : Int32) (f : Nat) (hx : x = nI f) (hf : f < 90) : zv_ct l D ty yX0_isWithdrawn cX0_isWithdrawn 2 (some .boolean) (zR 1 22) [.ref (a 1), .int x] (zc a ty σ) (fun v_ w_ => v_ = some (.int (zB (¬ zg σ f 3 = -4))) ∧ w_ = zc a ty σ) := by
  refine zv_open (by decide) rfl rfl [some (.ref (a 1)), some (.int x)] (by simp [zv_one, Value.category]) (zle rfl) rfl ?_
  intro k K T
  refine zv_aload_n K 1 dX0_isWithdrawn_0 rfl rfl ?_
  refine zv_iload_n K 2 dX0_isWithdrawn_1 rfl rfl ?_
  refine zv_iconst K 3 3 dX0_isWithdrawn_2 rfl (by decide) ?_
  refine zv_cV1 K (q0 := 1) (As := [.int x, .int 3]) (rest := []) 2 6 (kX0_get l D ty a σ x 3 f 3 hx rfl hf (by decide)) dX0_isWithdrawn_3 rfl zw_1_185 zw_1_186 zw_1_187 zw_1_2 zw_1_188 ⟨rfl, rfl⟩ zh_yX0_get ⟨by decide, by decide⟩ (zc_at (j := 1) (by decide)) rfl rfl rfl (zle rfl) rfl ?_
  refine zv_bipush K (-4) 8 dX0_isWithdrawn_6 rfl (by decide) ?_
  refine zv_icmp_eq K 15 11 dX0_isWithdrawn_8 (by decide) rfl (fun h1 => ?_) (fun h1 => ?_)
  · skip
    refine zv_iconst K 0 16 dX0_isWithdrawn_15 rfl (by decide) ?_
    exact zv_zret K T dX0_isWithdrawn_16 rfl (⟨congrArg (fun z => some (Value.int z)) (Eq.symm (zB_f (by first | assumption | (intro h; exact h (by assumption))))), rfl⟩)
  · skip
    refine zv_iconst K 1 12 dX0_isWithdrawn_11 rfl (by decide) ?_
    refine zv_goto K 16 dX0_isWithdrawn_12 (by decide) ?_
    exact zv_zret K T dX0_isWithdrawn_16 rfl (⟨congrArg (fun z => some (Value.int z)) (Eq.symm (zB_t (by first | assumption | (intro h; exact h (by assumption))))), rfl⟩)

set_option maxHeartbeats 4000000 in
set_option maxRecDepth 100000 in
theorem kX0_isKnown (l : Launch) (D : va_G) (ty : zTy) (a : Nat → Nat) (σ : zC) (x : Int32) (f : Nat) (hx : x = nI f) (hf : f < 90) (y : Int32) : zv_ct l D ty yX0_isKnown cX0_isKnown 4 (some .boolean) (zR 2 43) [.ref (a 1), .int x, .int y] (zc a ty σ) (fun v_ w_ => v_ = some (.int (zB (zg σ f 2 ≤ y ∧ ¬ (¬ zg σ f 3 = -4 ∧ zg σ f 3 ≤ y)))) ∧ w_ = zc a ty σ) := by
  refine zv_open (by decide) rfl rfl [some (.ref (a 1)), some (.int x), some (.int y), none] (by simp [zv_one, Value.category]) (zle rfl) rfl ?_
  intro k K T
  refine zv_aload_n K 1 dX0_isKnown_0 rfl rfl ?_
  refine zv_iload_n K 2 dX0_isKnown_1 rfl rfl ?_
  refine zv_cV1 K (q0 := 1) (As := [.int x]) (rest := []) 1 5 (kX0_isWithdrawn l D ty a σ x f hx hf) dX0_isKnown_2 rfl zw_2_41 zw_2_6 zw_2_7 zw_1_2 zw_2_8 ⟨rfl, rfl⟩ zh_yX0_isWithdrawn ⟨by decide, by decide⟩ (zc_at (j := 1) (by decide)) rfl rfl rfl (zle rfl) rfl ?_
  refine zv_ifB_eq K 22 8 dX0_isKnown_5 (by decide) rfl (fun h1 => ?_) (fun h1 => ?_)
  · skip
    refine zv_iconst K 0 23 dX0_isKnown_22 rfl (by decide) ?_
    refine zv_istore_n K [some (.ref (a 1)), some (.int x), some (.int y), some (.int 0)] 24 dX0_isKnown_23 rfl rfl (zlt rfl) ?_
    refine zv_aload_n K 25 dX0_isKnown_24 rfl rfl ?_
    refine zv_iload_n K 26 dX0_isKnown_25 rfl rfl ?_
    refine zv_iconst K 2 27 dX0_isKnown_26 rfl (by decide) ?_
    refine zv_cV1 K (q0 := 1) (As := [.int x, .int 2]) (rest := []) 2 30 (kX0_get l D ty a σ x 2 f 2 hx rfl hf (by decide)) dX0_isKnown_27 rfl zw_1_185 zw_1_186 zw_1_187 zw_1_2 zw_1_188 ⟨rfl, rfl⟩ zh_yX0_get ⟨by decide, by decide⟩ (zc_at (j := 1) (by decide)) rfl rfl rfl (zle rfl) rfl ?_
    refine zv_iload_n K 31 dX0_isKnown_30 rfl rfl ?_
    refine zv_icmp_gt K 42 34 dX0_isKnown_31 (by decide) rfl (fun h2 => ?_) (fun h2 => ?_)
    · skip
      refine zv_iconst K 0 43 dX0_isKnown_42 rfl (by decide) ?_
      exact zv_zret K T dX0_isKnown_43 rfl (⟨congrArg (fun z => some (Value.int z)) (Eq.symm (zB_f (by simp_all [z_ltn, z_nlt, z_nle, z_len]))), rfl⟩)
    · skip
      refine zv_iload_n K 35 dX0_isKnown_34 rfl rfl ?_
      refine zv_if_ne K 42 38 dX0_isKnown_35 (by decide) rfl (fun h3 => ?_) (fun h3 => ?_)
      · skip
        refine zv_iconst K 0 43 dX0_isKnown_42 rfl (by decide) ?_
        exact zv_zret K T dX0_isKnown_43 rfl (⟨congrArg (fun z => some (Value.int z)) (Eq.symm (zB_f (by simp_all [z_ltn, z_nlt, z_nle, z_len]))), rfl⟩)
      · skip
        refine zv_iconst K 1 39 dX0_isKnown_38 rfl (by decide) ?_
        refine zv_goto K 43 dX0_isKnown_39 (by decide) ?_
        exact zv_zret K T dX0_isKnown_43 rfl (⟨congrArg (fun z => some (Value.int z)) (Eq.symm (zB_t (by simp_all [z_ltn, z_nlt, z_nle, z_len]))), rfl⟩)
  · skip
    refine zv_aload_n K 9 dX0_isKnown_8 rfl rfl ?_
    refine zv_iload_n K 10 dX0_isKnown_9 rfl rfl ?_
    refine zv_iconst K 3 11 dX0_isKnown_10 rfl (by decide) ?_
    refine zv_cV1 K (q0 := 1) (As := [.int x, .int 3]) (rest := []) 2 14 (kX0_get l D ty a σ x 3 f 3 hx rfl hf (by decide)) dX0_isKnown_11 rfl zw_1_185 zw_1_186 zw_1_187 zw_1_2 zw_1_188 ⟨rfl, rfl⟩ zh_yX0_get ⟨by decide, by decide⟩ (zc_at (j := 1) (by decide)) rfl rfl rfl (zle rfl) rfl ?_
    refine zv_iload_n K 15 dX0_isKnown_14 rfl rfl ?_
    refine zv_icmp_gt K 22 18 dX0_isKnown_15 (by decide) rfl (fun h4 => ?_) (fun h4 => ?_)
    · skip
      refine zv_iconst K 0 23 dX0_isKnown_22 rfl (by decide) ?_
      refine zv_istore_n K [some (.ref (a 1)), some (.int x), some (.int y), some (.int 0)] 24 dX0_isKnown_23 rfl rfl (zlt rfl) ?_
      refine zv_aload_n K 25 dX0_isKnown_24 rfl rfl ?_
      refine zv_iload_n K 26 dX0_isKnown_25 rfl rfl ?_
      refine zv_iconst K 2 27 dX0_isKnown_26 rfl (by decide) ?_
      refine zv_cV1 K (q0 := 1) (As := [.int x, .int 2]) (rest := []) 2 30 (kX0_get l D ty a σ x 2 f 2 hx rfl hf (by decide)) dX0_isKnown_27 rfl zw_1_185 zw_1_186 zw_1_187 zw_1_2 zw_1_188 ⟨rfl, rfl⟩ zh_yX0_get ⟨by decide, by decide⟩ (zc_at (j := 1) (by decide)) rfl rfl rfl (zle rfl) rfl ?_
      refine zv_iload_n K 31 dX0_isKnown_30 rfl rfl ?_
      refine zv_icmp_gt K 42 34 dX0_isKnown_31 (by decide) rfl (fun h5 => ?_) (fun h5 => ?_)
      · skip
        refine zv_iconst K 0 43 dX0_isKnown_42 rfl (by decide) ?_
        exact zv_zret K T dX0_isKnown_43 rfl (⟨congrArg (fun z => some (Value.int z)) (Eq.symm (zB_f (by simp_all [z_ltn, z_nlt, z_nle, z_len]))), rfl⟩)
      · skip
        refine zv_iload_n K 35 dX0_isKnown_34 rfl rfl ?_
        refine zv_if_ne K 42 38 dX0_isKnown_35 (by decide) rfl (fun h6 => ?_) (fun h6 => ?_)
        · skip
          refine zv_iconst K 0 43 dX0_isKnown_42 rfl (by decide) ?_
          exact zv_zret K T dX0_isKnown_43 rfl (⟨congrArg (fun z => some (Value.int z)) (Eq.symm (zB_f (by simp_all [z_ltn, z_nlt, z_nle, z_len]))), rfl⟩)
        · skip
          refine zv_iconst K 1 39 dX0_isKnown_38 rfl (by decide) ?_
          refine zv_goto K 43 dX0_isKnown_39 (by decide) ?_
          exact zv_zret K T dX0_isKnown_43 rfl (⟨congrArg (fun z => some (Value.int z)) (Eq.symm (zB_t (by simp_all [z_ltn, z_nlt, z_nle, z_len]))), rfl⟩)
    · skip
      refine zv_iconst K 1 19 dX0_isKnown_18 rfl (by decide) ?_
      refine zv_goto K 23 dX0_isKnown_19 (by decide) ?_
      refine zv_istore_n K [some (.ref (a 1)), some (.int x), some (.int y), some (.int 1)] 24 dX0_isKnown_23 rfl rfl (zlt rfl) ?_
      refine zv_aload_n K 25 dX0_isKnown_24 rfl rfl ?_
      refine zv_iload_n K 26 dX0_isKnown_25 rfl rfl ?_
      refine zv_iconst K 2 27 dX0_isKnown_26 rfl (by decide) ?_
      refine zv_cV1 K (q0 := 1) (As := [.int x, .int 2]) (rest := []) 2 30 (kX0_get l D ty a σ x 2 f 2 hx rfl hf (by decide)) dX0_isKnown_27 rfl zw_1_185 zw_1_186 zw_1_187 zw_1_2 zw_1_188 ⟨rfl, rfl⟩ zh_yX0_get ⟨by decide, by decide⟩ (zc_at (j := 1) (by decide)) rfl rfl rfl (zle rfl) rfl ?_
      refine zv_iload_n K 31 dX0_isKnown_30 rfl rfl ?_
      refine zv_icmp_gt K 42 34 dX0_isKnown_31 (by decide) rfl (fun h7 => ?_) (fun h7 => ?_)
      · skip
        refine zv_iconst K 0 43 dX0_isKnown_42 rfl (by decide) ?_
        exact zv_zret K T dX0_isKnown_43 rfl (⟨congrArg (fun z => some (Value.int z)) (Eq.symm (zB_f (by simp_all [z_ltn, z_nlt, z_nle, z_len]))), rfl⟩)
      · skip
        refine zv_iload_n K 35 dX0_isKnown_34 rfl rfl ?_
        refine zv_if_ne K 42 38 dX0_isKnown_35 (by decide) rfl (fun h8 => ?_) (fun h8 => ?_)
        · skip
          refine zv_iconst K 0 43 dX0_isKnown_42 rfl (by decide) ?_
          exact zv_zret K T dX0_isKnown_43 rfl (⟨congrArg (fun z => some (Value.int z)) (Eq.symm (zB_f (by simp_all [z_ltn, z_nlt, z_nle, z_len]))), rfl⟩)
        · skip
          refine zv_iconst K 1 39 dX0_isKnown_38 rfl (by decide) ?_
          refine zv_goto K 43 dX0_isKnown_39 (by decide) ?_
          exact zv_zret K T dX0_isKnown_43 rfl (⟨congrArg (fun z => some (Value.int z)) (Eq.symm (zB_t (by simp_all [z_ltn, z_nlt, z_nle, z_len]))), rfl⟩)

set_option maxHeartbeats 4000000 in
set_option maxRecDepth 100000 in
theorem kX0_putFeet (l : Launch) (D : va_G) (ty : zTy) (a : Nat → Nat) (σ : zC) (x p q : Int32) (f : Nat) (hx : x = nI f) (hf : f < 90) : zv_ct l D ty yX0_putFeet cX0_putFeet 4 none (zR 1 23) [.ref (a 1), .int x, .int p, .int q] (zc a ty σ) (fun v_ w_ => v_ = none ∧ w_ = zc a ty (zp (zp σ f 6 p) f 7 q)) := by
  refine zv_open (by decide) rfl rfl [some (.ref (a 1)), some (.int x), some (.int p), some (.int q)] (by simp [zv_one, Value.category]) (zle rfl) rfl ?_
  intro k K T
  refine zv_aload_n K 1 dX0_putFeet_0 rfl rfl ?_
  refine zv_iload_n K 2 dX0_putFeet_1 rfl rfl ?_
  refine zv_bipush K 6 4 dX0_putFeet_2 rfl (by decide) ?_
  refine zv_iload_n K 5 dX0_putFeet_4 rfl rfl ?_
  refine zv_cV0 K (q0 := 1) (As := [.int x, .int 6, .int p]) (rest := []) 3 8 (kX0_put l D ty a σ x 6 p f 6 hx rfl hf (by decide)) dX0_putFeet_5 rfl zw_1_177 zw_1_178 zw_1_179 zw_1_2 zw_1_180 ⟨rfl, rfl⟩ zh_yX0_put ⟨by decide, by decide⟩ (zc_at (j := 1) (by decide)) rfl rfl rfl (zle rfl) rfl ?_
  refine zv_aload_n K 9 dX0_putFeet_8 rfl rfl ?_
  refine zv_iload_n K 10 dX0_putFeet_9 rfl rfl ?_
  refine zv_bipush K 7 12 dX0_putFeet_10 rfl (by decide) ?_
  refine zv_iload_n K 13 dX0_putFeet_12 rfl rfl ?_
  refine zv_cV0 K (q0 := 1) (As := [.int x, .int 7, .int q]) (rest := []) 3 16 (kX0_put l D ty a (zp σ f 6 p) x 7 q f 7 hx rfl hf (by decide)) dX0_putFeet_13 rfl zw_1_177 zw_1_178 zw_1_179 zw_1_2 zw_1_180 ⟨rfl, rfl⟩ zh_yX0_put ⟨by decide, by decide⟩ (zc_at (j := 1) (by decide)) rfl rfl rfl (zle rfl) rfl ?_
  exact zv_vret K T dX0_putFeet_16 (⟨rfl, rfl⟩)

def zins (kf : Int32 → Int32) (ab f : Int32) : Nat → (Nat → Int32) → (Nat → Int32)
  | 0, G => upd G 0 f
  | m + 1, G => if ab < kf (G m) then zins kf ab f m (upd G (m + 1) (G m)) else upd G (m + 1) f
def zky (σ : zC) (x : Int32) : Int32 := zg σ x.toNatClampNeg 1
def zval (G : Nat → Int32) (n : Nat) : Prop := ∀ i, i < n → ∃ f : Nat, f < 90 ∧ G i = nI f
theorem zg_Fa5 (σ : zC) (G : Nat → Int32) (f c : Nat) : zg (zFa σ 5 G) f c = zg σ f c := rfl
theorem zky_nI (σ : zC) {f : Nat} (h : f < 90) : zky σ (nI f) = zg σ f 1 := by unfold zky; rw [nI_clamp (by omega)]
theorem zins_s {kf : Int32 → Int32} {ab f : Int32} {m : Nat} {G : Nat → Int32} (h : 0 < m) : zins kf ab f m G = if ab < kf (G (m - 1)) then zins kf ab f (m - 1) (upd G m (G (m - 1))) else upd G m f := by
  obtain ⟨n, rfl⟩ : ∃ n, m = n + 1 := ⟨m - 1, by omega⟩
  rfl
set_option maxHeartbeats 4000000 in
set_option maxRecDepth 100000 in
theorem kX0_setInOrder_l (l : Launch) (D : va_G) (ty : zTy) (a : Nat → Nat) (σ : zC) (x y : Int32) (Fin : Nat → Int32) {k : zKx} (K : zv_ok k l D (zR 1 22) cX0_setInOrder 4 yX0_setInOrder.cls ty) (T : zv_rt k none (fun v_ w_ => v_ = none ∧ w_ = zc a ty (zFa σ 5 Fin))) : ∀ p : Nat × (Nat → Int32), p.1 < 90 → zval p.2 p.1 → zins (zky σ) y x p.1 p.2 = Fin → zv k 5 [some (.ref (a 1)), some (.int x), some (.int y), some (.int (nI p.1))] [] (zc a ty (zFa σ 5 p.2)) := by
  refine z_wf (fun p : Nat × (Nat → Int32) => p.1) ?_
  intro ⟨m, G⟩ ih hm hG hfin
  replace hm : m < 90 := hm
  replace hG : zval G m := hG
  replace hfin : zins (zky σ) y x m G = Fin := hfin
  show zv k 5 [some (.ref (a 1)), some (.int x), some (.int y), some (.int (nI m))] [] (zc a ty (zFa σ 5 G))
  refine zv_iload_n K 6 dX0_setInOrder_5 rfl rfl ?_
  refine zv_if_le K 46 9 dX0_setInOrder_6 (by decide) rfl (fun hz => ?_) (fun hz => ?_)
  · skip
    refine zv_aload_n K 47 dX0_setInOrder_46 rfl rfl ?_
    refine zv_get (v := .ref (a 5)) (C := RX0) (T := TX0) (N := 5) K 1 4 50 dX0_setInOrder_47 rfl zy_X0 (zc_at (j := 1) (by decide)) rfl (by decide) zw_1_30 rfl ?_
    refine zv_iload_n K 51 dX0_setInOrder_50 rfl rfl ?_
    refine zv_iload_n K 52 dX0_setInOrder_51 rfl rfl ?_
    refine zv_iast K 5 m 53 (zc a ty (zF (zFa σ 5 G) 5 m x)) dX0_setInOrder_52 rfl (zc_at (j := 5) (by decide)) rfl (by omega) (by decide) (zc_F 5 m (by decide) rfl) ?_
    exact zv_vret K T dX0_setInOrder_53 (⟨rfl, congrArg (zc a ty) (by first | (rw [zF_Fa, ← hfin, z_zero hz (by omega)]; rfl) | (rw [zF_Fa, ← hfin, zins_s hpos, if_neg]; rw [eq, zky_nI σ hq]; exact z_len hc))⟩)
  · skip
    have hpos : 0 < m := z_pos hz
    refine zv_aload_n K 10 dX0_setInOrder_9 rfl rfl ?_
    refine zv_aload_n K 11 dX0_setInOrder_10 rfl rfl ?_
    refine zv_get (v := .ref (a 5)) (C := RX0) (T := TX0) (N := 5) K 1 4 14 dX0_setInOrder_11 rfl zy_X0 (zc_at (j := 1) (by decide)) rfl (by decide) zw_1_30 rfl ?_
    refine zv_iload_n K 15 dX0_setInOrder_14 rfl rfl ?_
    refine zv_iconst K 1 16 dX0_setInOrder_15 rfl (by decide) ?_
    refine zv_isub K 17 dX0_setInOrder_16 rfl ?_
    refine zv_iald (F := (zFa σ 5 G).2 5) K 5 (m - 1) 18 dX0_setInOrder_17 rfl (zc_at (j := 5) (by decide)) (z_sub1 hpos) (by omega) (by decide) ?_
    obtain ⟨q, hq, eq⟩ := hG (m - 1) (by omega)
    have eq2 : (zFa σ 5 G).2 5 (m - 1) = nI q := eq
    refine zv_iconst K 1 19 dX0_setInOrder_18 rfl (by decide) ?_
    refine zv_cV1 K (q0 := 1) (As := [.int ((zFa σ 5 G).2 5 (m - 1)), .int 1]) (rest := []) 2 22 (kX0_get l D ty a (zFa σ 5 G) ((zFa σ 5 G).2 5 (m - 1)) 1 q 1 eq rfl hq (by decide)) dX0_setInOrder_19 rfl zw_1_185 zw_1_186 zw_1_187 zw_1_2 zw_1_188 ⟨rfl, rfl⟩ zh_yX0_get ⟨by decide, by decide⟩ (zc_at (j := 1) (by decide)) rfl rfl rfl (zle rfl) rfl ?_
    refine zv_iload_n K 23 dX0_setInOrder_22 rfl rfl ?_
    refine zv_icmp_le K 46 26 dX0_setInOrder_23 (by decide) rfl (fun hc => ?_) (fun hc => ?_)
    · skip
      refine zv_aload_n K 47 dX0_setInOrder_46 rfl rfl ?_
      refine zv_get (v := .ref (a 5)) (C := RX0) (T := TX0) (N := 5) K 1 4 50 dX0_setInOrder_47 rfl zy_X0 (zc_at (j := 1) (by decide)) rfl (by decide) zw_1_30 rfl ?_
      refine zv_iload_n K 51 dX0_setInOrder_50 rfl rfl ?_
      refine zv_iload_n K 52 dX0_setInOrder_51 rfl rfl ?_
      refine zv_iast K 5 m 53 (zc a ty (zF (zFa σ 5 G) 5 m x)) dX0_setInOrder_52 rfl (zc_at (j := 5) (by decide)) rfl (by omega) (by decide) (zc_F 5 m (by decide) rfl) ?_
      exact zv_vret K T dX0_setInOrder_53 (⟨rfl, congrArg (zc a ty) (by first | (rw [zF_Fa, ← hfin, z_zero hz (by omega)]; rfl) | (rw [zF_Fa, ← hfin, zins_s hpos, if_neg]; rw [eq, zky_nI σ hq]; exact z_len hc))⟩)
    · skip
      refine zv_aload_n K 27 dX0_setInOrder_26 rfl rfl ?_
      refine zv_get (v := .ref (a 5)) (C := RX0) (T := TX0) (N := 5) K 1 4 30 dX0_setInOrder_27 rfl zy_X0 (zc_at (j := 1) (by decide)) rfl (by decide) zw_1_30 rfl ?_
      refine zv_iload_n K 31 dX0_setInOrder_30 rfl rfl ?_
      refine zv_aload_n K 32 dX0_setInOrder_31 rfl rfl ?_
      refine zv_get (v := .ref (a 5)) (C := RX0) (T := TX0) (N := 5) K 1 4 35 dX0_setInOrder_32 rfl zy_X0 (zc_at (j := 1) (by decide)) rfl (by decide) zw_1_30 rfl ?_
      refine zv_iload_n K 36 dX0_setInOrder_35 rfl rfl ?_
      refine zv_iconst K 1 37 dX0_setInOrder_36 rfl (by decide) ?_
      refine zv_isub K 38 dX0_setInOrder_37 rfl ?_
      refine zv_iald (F := (zFa σ 5 G).2 5) K 5 (m - 1) 39 dX0_setInOrder_38 rfl (zc_at (j := 5) (by decide)) (z_sub1 hpos) (by omega) (by decide) ?_
      refine zv_iast K 5 m 40 (zc a ty (zF (zFa σ 5 G) 5 m ((zFa σ 5 G).2 5 (m - 1)))) dX0_setInOrder_39 rfl (zc_at (j := 5) (by decide)) rfl (by omega) (by decide) (zc_F 5 m (by decide) rfl) ?_
      refine zv_iinc K (nI (m - 1)) [some (.ref (a 1)), some (.int x), some (.int y), some (.int (nI (m - 1)))] 43 dX0_setInOrder_40 rfl rfl (z_dec hpos) rfl ?_
      refine zv_goto K 5 dX0_setInOrder_43 (by decide) ?_
      refine zv_ws (congrArg (zc a ty) (zF_Fa σ 5 m G _)) ?_
      exact ih (m - 1, upd G m (G (m - 1))) (by show m - 1 < m; omega) (by show m - 1 < 90; omega) (fun i hi => by obtain ⟨f, h1, h2⟩ := hG i (by have : i < m - 1 := hi; omega); exact ⟨f, h1, by show upd G m (G (m - 1)) i = _; rw [upd, if_neg (by have : i < m - 1 := hi; omega)]; exact h2⟩) (by show zins (zky σ) y x (m - 1) (upd G m (G (m - 1))) = Fin; rw [← hfin, zins_s hpos, if_pos]; rw [eq, zky_nI σ hq]; exact z_nle hc)

set_option maxHeartbeats 4000000 in
set_option maxRecDepth 100000 in
theorem kX0_setInOrder (l : Launch) (D : va_G) (ty : zTy) (a : Nat → Nat) (σ : zC) (x y : Int32) (n : Nat) (hn : n < 90) (hc : σ.1 1 1 = nI n) (hG : zval (σ.2 5) n) : zv_ct l D ty yX0_setInOrder cX0_setInOrder 4 none (zR 1 22) [.ref (a 1), .int x, .int y] (zc a ty σ) (fun v_ w_ => v_ = none ∧ w_ = zc a ty (zFa σ 5 (zins (zky σ) y x n (σ.2 5)))) := by
  refine zv_open (by decide) rfl rfl [some (.ref (a 1)), some (.int x), some (.int y), none] (by simp [zv_one, Value.category]) (zle rfl) rfl ?_
  intro k K T
  refine zv_aload_n K 1 dX0_setInOrder_0 rfl rfl ?_
  refine zv_get (v := .int (σ.1 1 1)) (C := RX0) (T := TX0) (N := 5) K 1 1 4 dX0_setInOrder_1 rfl zy_X0 (zc_at (j := 1) (by decide)) rfl (by decide) zw_1_24 rfl ?_
  refine zv_topi (nI n) hc ?_
  refine zv_istore_n K [some (.ref (a 1)), some (.int x), some (.int y), some (.int (nI n))] 5 dX0_setInOrder_4 rfl rfl (zlt rfl) ?_
  refine zv_ws (congrArg (zc a ty) (zFa_self σ 5).symm) ?_
  exact kX0_setInOrder_l l D ty a σ x y _ K T (n, σ.2 5) hn hG rfl

def zfi (n m : Nat) (g : Nat → Int32) : Nat → Int32 := fun i => if n * 11 ≤ i ∧ i < n * 11 + m then -4 else g i
theorem zfi_s (σ : zC) (n m : Nat) (g : Nat → Int32) : zp (zFa σ 4 (zfi n m g)) n m (-4) = zFa σ 4 (zfi n (m + 1) g) := by
  unfold zp
  rw [zF_Fa]
  congr 1
  funext i
  unfold upd zfi
  by_cases h : i = n * 11 + m
  · rw [if_pos h, if_pos (by omega)]
  · rw [if_neg h]
    by_cases h2 : n * 11 ≤ i ∧ i < n * 11 + m
    · rw [if_pos h2, if_pos (by omega)]
    · rw [if_neg h2, if_neg (by omega)]
theorem zfi_0 (n : Nat) (g : Nat → Int32) : zfi n 0 g = g := by
  funext i
  unfold zfi
  rw [if_neg (by omega)]
def zapC (σ : zC) (n : Nat) (kd ab vn : Int32) : zC := zp (zp (zp (zp (zp (zFa σ 4 (zfi n 11 (σ.2 4))) n 0 kd) n 1 ab) n 2 (σ.1 1 0)) n 4 vn) n 8 0
def zap (σ : zC) (n : Nat) (kd ab vn : Int32) : zC := zO (zFa (zapC σ n kd ab vn) 5 (zins (zky (zapC σ n kd ab vn)) ab (nI n) n (σ.2 5))) 1 1 (nI (n + 1))
set_option maxHeartbeats 4000000 in
set_option maxRecDepth 100000 in
theorem kX0_append_l (l : Launch) (D : va_G) (ty : zTy) (a : Nat → Nat) (σ : zC) (kd ab vn : Int32) (n : Nat) (hn : n < 90) (hc : σ.1 1 1 = nI n) (hG : zval (σ.2 5) n) {k : zKx} (K : zv_ok k l D (zR 2 45) cX0_append 6 yX0_append.cls ty) (T : zv_rt k (some .int) (fun v_ w_ => v_ = some (.int (nI n)) ∧ w_ = zc a ty (zap σ n kd ab vn))) : ∀ m : Nat, m ≤ 11 → zv k 9 [some (.ref (a 1)), some (.int kd), some (.int ab), some (.int vn), some (.int (nI n)), some (.int (nI m))] [] (zc a ty (zFa σ 4 (zfi n m (σ.2 4)))) := by
  refine z_wf (fun m : Nat => 11 - m) ?_
  intro m ih hm
  refine zv_iload K 11 dX0_append_9 rfl rfl ?_
  refine zv_bipush K 11 13 dX0_append_11 rfl (by decide) ?_
  refine zv_icmp_ge K 32 16 dX0_append_13 (by decide) rfl (fun hb => ?_) (fun hb => ?_)
  · skip
    have hm2 : m = 11 := by have := z_ge (c := 11) hb (by decide) (by omega); omega
    subst hm2
    refine zv_aload_n K 33 dX0_append_32 rfl rfl ?_
    refine zv_iload K 35 dX0_append_33 rfl rfl ?_
    refine zv_iconst K 0 36 dX0_append_35 rfl (by decide) ?_
    refine zv_iload_n K 37 dX0_append_36 rfl rfl ?_
    refine zv_cV0 K (q0 := 1) (As := [.int (nI n), .int 0, .int kd]) (rest := []) 3 40 (kX0_put l D ty a (zFa σ 4 (zfi n 11 (σ.2 4))) (nI n) 0 kd n 0 rfl rfl hn (by decide)) dX0_append_37 rfl zw_1_177 zw_1_178 zw_1_179 zw_1_2 zw_1_180 ⟨rfl, rfl⟩ zh_yX0_put ⟨by decide, by decide⟩ (zc_at (j := 1) (by decide)) rfl rfl rfl (zle rfl) rfl ?_
    refine zv_aload_n K 41 dX0_append_40 rfl rfl ?_
    refine zv_iload K 43 dX0_append_41 rfl rfl ?_
    refine zv_iconst K 1 44 dX0_append_43 rfl (by decide) ?_
    refine zv_iload_n K 45 dX0_append_44 rfl rfl ?_
    refine zv_cV0 K (q0 := 1) (As := [.int (nI n), .int 1, .int ab]) (rest := []) 3 48 (kX0_put l D ty a (zp (zFa σ 4 (zfi n 11 (σ.2 4))) n 0 kd) (nI n) 1 ab n 1 rfl rfl hn (by decide)) dX0_append_45 rfl zw_1_177 zw_1_178 zw_1_179 zw_1_2 zw_1_180 ⟨rfl, rfl⟩ zh_yX0_put ⟨by decide, by decide⟩ (zc_at (j := 1) (by decide)) rfl rfl rfl (zle rfl) rfl ?_
    refine zv_aload_n K 49 dX0_append_48 rfl rfl ?_
    refine zv_iload K 51 dX0_append_49 rfl rfl ?_
    refine zv_iconst K 2 52 dX0_append_51 rfl (by decide) ?_
    refine zv_aload_n K 53 dX0_append_52 rfl rfl ?_
    refine zv_get (v := .int (σ.1 1 0)) (C := RX0) (T := TX0) (N := 5) K 1 0 56 dX0_append_53 rfl zy_X0 (zc_at (j := 1) (by decide)) rfl (by decide) zw_1_23 rfl ?_
    refine zv_cV0 K (q0 := 1) (As := [.int (nI n), .int 2, .int (σ.1 1 0)]) (rest := []) 3 59 (kX0_put l D ty a (zp (zp (zFa σ 4 (zfi n 11 (σ.2 4))) n 0 kd) n 1 ab) (nI n) 2 (σ.1 1 0) n 2 rfl rfl hn (by decide)) dX0_append_56 rfl zw_1_177 zw_1_178 zw_1_179 zw_1_2 zw_1_180 ⟨rfl, rfl⟩ zh_yX0_put ⟨by decide, by decide⟩ (zc_at (j := 1) (by decide)) rfl rfl rfl (zle rfl) rfl ?_
    refine zv_aload_n K 60 dX0_append_59 rfl rfl ?_
    refine zv_iload K 62 dX0_append_60 rfl rfl ?_
    refine zv_iconst K 4 63 dX0_append_62 rfl (by decide) ?_
    refine zv_iload_n K 64 dX0_append_63 rfl rfl ?_
    refine zv_cV0 K (q0 := 1) (As := [.int (nI n), .int 4, .int vn]) (rest := []) 3 67 (kX0_put l D ty a (zp (zp (zp (zFa σ 4 (zfi n 11 (σ.2 4))) n 0 kd) n 1 ab) n 2 (σ.1 1 0)) (nI n) 4 vn n 4 rfl rfl hn (by decide)) dX0_append_64 rfl zw_1_177 zw_1_178 zw_1_179 zw_1_2 zw_1_180 ⟨rfl, rfl⟩ zh_yX0_put ⟨by decide, by decide⟩ (zc_at (j := 1) (by decide)) rfl rfl rfl (zle rfl) rfl ?_
    refine zv_aload_n K 68 dX0_append_67 rfl rfl ?_
    refine zv_iload K 70 dX0_append_68 rfl rfl ?_
    refine zv_bipush K 8 72 dX0_append_70 rfl (by decide) ?_
    refine zv_iconst K 0 73 dX0_append_72 rfl (by decide) ?_
    refine zv_cV0 K (q0 := 1) (As := [.int (nI n), .int 8, .int 0]) (rest := []) 3 76 (kX0_put l D ty a (zp (zp (zp (zp (zFa σ 4 (zfi n 11 (σ.2 4))) n 0 kd) n 1 ab) n 2 (σ.1 1 0)) n 4 vn) (nI n) 8 0 n 8 rfl rfl hn (by decide)) dX0_append_73 rfl zw_1_177 zw_1_178 zw_1_179 zw_1_2 zw_1_180 ⟨rfl, rfl⟩ zh_yX0_put ⟨by decide, by decide⟩ (zc_at (j := 1) (by decide)) rfl rfl rfl (zle rfl) rfl ?_
    refine zv_aload_n K 77 dX0_append_76 rfl rfl ?_
    refine zv_iload K 79 dX0_append_77 rfl rfl ?_
    refine zv_iload_n K 80 dX0_append_79 rfl rfl ?_
    refine zv_cV0 K (q0 := 1) (As := [.int (nI n), .int ab]) (rest := []) 2 83 (kX0_setInOrder l D ty a (zp (zp (zp (zp (zp (zFa σ 4 (zfi n 11 (σ.2 4))) n 0 kd) n 1 ab) n 2 (σ.1 1 0)) n 4 vn) n 8 0) (nI n) ab n hn hc hG) dX0_append_80 rfl zw_1_181 zw_1_183 zw_p1_1 zw_1_2 zw_1_184 ⟨rfl, rfl⟩ zh_yX0_setInOrder ⟨by decide, by decide⟩ (zc_at (j := 1) (by decide)) rfl rfl rfl (zle rfl) rfl ?_
    refine zv_aload_n K 84 dX0_append_83 rfl rfl ?_
    refine zv_dup K 85 dX0_append_84 rfl rfl ?_
    refine zv_get (v := .int (σ.1 1 1)) (C := RX0) (T := TX0) (N := 5) K 1 1 88 dX0_append_85 rfl zy_X0 (zc_at (j := 1) (by decide)) rfl (by decide) zw_1_24 rfl ?_
    refine zv_topi (nI n) hc ?_
    refine zv_iconst K 1 89 dX0_append_88 rfl (by decide) ?_
    refine zv_iadd K 90 dX0_append_89 rfl ?_
    refine zv_topi (nI (n + 1)) (nI_1 n) ?_
    refine zv_put (C := RX0) (T := TX0) (N := 5) K 1 1 93 (zc a ty (zO (zFa (zp (zp (zp (zp (zp (zFa σ 4 (zfi n 11 (σ.2 4))) n 0 kd) n 1 ab) n 2 (σ.1 1 0)) n 4 vn) n 8 0) 5 (zins (zky (zp (zp (zp (zp (zp (zFa σ 4 (zfi n 11 (σ.2 4))) n 0 kd) n 1 ab) n 2 (σ.1 1 0)) n 4 vn) n 8 0)) ab (nI n) n (σ.2 5))) 1 1 (nI (n + 1)))) dX0_append_90 rfl zy_X0 tyX0_ok nmX0 (zc_at (j := 1) (by decide)) rfl (by decide) zw_1_24 rfl rfl rfl rfl (zlt rfl) (zc_O 1 1 (by decide) rfl) ?_
    refine zv_iload K 95 dX0_append_93 rfl rfl ?_
    exact zv_iret K T dX0_append_95 (⟨rfl, rfl⟩)
  · skip
    have hm11 : m < 11 := z_lt (c := 11) hb (by omega)
    refine zv_aload_n K 17 dX0_append_16 rfl rfl ?_
    refine zv_iload K 19 dX0_append_17 rfl rfl ?_
    refine zv_iload K 21 dX0_append_19 rfl rfl ?_
    refine zv_bipush K (-4) 23 dX0_append_21 rfl (by decide) ?_
    refine zv_cV0 K (q0 := 1) (As := [.int (nI n), .int (nI m), .int (-4)]) (rest := []) 3 26 (kX0_put l D ty a (zFa σ 4 (zfi n m (σ.2 4))) (nI n) (nI m) (-4) n m rfl rfl hn hm11) dX0_append_23 rfl zw_1_177 zw_1_178 zw_1_179 zw_1_2 zw_1_180 ⟨rfl, rfl⟩ zh_yX0_put ⟨by decide, by decide⟩ (zc_at (j := 1) (by decide)) rfl rfl rfl (zle rfl) rfl ?_
    refine zv_iinc K (nI (m + 1)) [some (.ref (a 1)), some (.int kd), some (.int ab), some (.int vn), some (.int (nI n)), some (.int (nI (m + 1)))] 29 dX0_append_26 rfl rfl (z_inc m) rfl ?_
    refine zv_goto K 9 dX0_append_29 (by decide) ?_
    refine zv_ws (congrArg (zc a ty) (zfi_s σ n m _)) ?_
    exact ih (m + 1) (by omega) (by omega)

set_option maxHeartbeats 4000000 in
set_option maxRecDepth 100000 in
theorem kX0_append (l : Launch) (D : va_G) (ty : zTy) (a : Nat → Nat) (σ : zC) (kd ab vn : Int32) (n : Nat) (hn : n < 90) (hc : σ.1 1 1 = nI n) (hG : zval (σ.2 5) n) : zv_ct l D ty yX0_append cX0_append 6 (some .int) (zR 2 45) [.ref (a 1), .int kd, .int ab, .int vn] (zc a ty σ) (fun v_ w_ => v_ = some (.int (nI n)) ∧ w_ = zc a ty (zap σ n kd ab vn)) := by
  refine zv_open (by decide) rfl rfl [some (.ref (a 1)), some (.int kd), some (.int ab), some (.int vn), none, none] (by simp [zv_one, Value.category]) (zle rfl) rfl ?_
  intro k K T
  refine zv_aload_n K 1 dX0_append_0 rfl rfl ?_
  refine zv_get (v := .int (σ.1 1 1)) (C := RX0) (T := TX0) (N := 5) K 1 1 4 dX0_append_1 rfl zy_X0 (zc_at (j := 1) (by decide)) rfl (by decide) zw_1_24 rfl ?_
  refine zv_topi (nI n) hc ?_
  refine zv_istore K [some (.ref (a 1)), some (.int kd), some (.int ab), some (.int vn), some (.int (nI n)), none] 6 dX0_append_4 rfl rfl (zlt rfl) ?_
  refine zv_iconst K 0 7 dX0_append_6 rfl (by decide) ?_
  refine zv_istore K [some (.ref (a 1)), some (.int kd), some (.int ab), some (.int vn), some (.int (nI n)), some (.int 0)] 9 dX0_append_7 rfl rfl (zlt rfl) ?_
  refine zv_ws (congrArg (zc a ty) (show σ = zFa σ 4 (zfi n 0 (σ.2 4)) by rw [zfi_0, zFa_self])) ?_
  exact kX0_append_l l D ty a σ kd ab vn n hn hc hG K T 0 (by decide)

set_option maxHeartbeats 4000000 in
set_option maxRecDepth 100000 in
theorem kX0_appendOf (l : Launch) (D : va_G) (ty : zTy) (a : Nat → Nat) (σ : zC) (kd ab x : Int32) (f n : Nat) (hx : x = nI f) (hf : f < 90) (hn : n < 90) (hc : σ.1 1 1 = nI n) (hG : zval (σ.2 5) n) : zv_ct l D ty yX0_appendOf cX0_appendOf 5 (some .int) (zR 3 70) [.ref (a 1), .int kd, .int ab, .int x] (zc a ty σ) (fun v_ w_ => v_ = some (.int (nI n)) ∧ w_ = zc a ty (zp (zap σ n kd ab (zg σ f 4)) n 9 x)) := by
  refine zv_open (by decide) rfl rfl [some (.ref (a 1)), some (.int kd), some (.int ab), some (.int x), none] (by simp [zv_one, Value.category]) (zle rfl) rfl ?_
  intro k K T
  refine zv_aload_n K 1 dX0_appendOf_0 rfl rfl ?_
  refine zv_iload_n K 2 dX0_appendOf_1 rfl rfl ?_
  refine zv_iload_n K 3 dX0_appendOf_2 rfl rfl ?_
  refine zv_aload_n K 4 dX0_appendOf_3 rfl rfl ?_
  refine zv_iload_n K 5 dX0_appendOf_4 rfl rfl ?_
  refine zv_iconst K 4 6 dX0_appendOf_5 rfl (by decide) ?_
  refine zv_cV1 K (q0 := 1) (As := [.int x, .int 4]) (rest := [.int ab, .int kd, .ref (a 1)]) 2 9 (kX0_get l D ty a σ x 4 f 4 hx rfl hf (by decide)) dX0_appendOf_6 rfl zw_1_185 zw_1_186 zw_1_187 zw_1_2 zw_1_188 ⟨rfl, rfl⟩ zh_yX0_get ⟨by decide, by decide⟩ (zc_at (j := 1) (by decide)) rfl rfl rfl (zle rfl) rfl ?_
  refine zv_cV1 K (q0 := 1) (As := [.int kd, .int ab, .int (zg σ f 4)]) (rest := []) 3 12 (kX0_append l D ty a σ kd ab (zg σ f 4) n hn hc hG) dX0_appendOf_9 rfl zw_1_220 zw_1_174 zw_1_175 zw_1_2 zw_1_176 ⟨rfl, rfl⟩ zh_yX0_append ⟨by decide, by decide⟩ (zc_at (j := 1) (by decide)) rfl rfl rfl (zle rfl) rfl ?_
  refine zv_istore K [some (.ref (a 1)), some (.int kd), some (.int ab), some (.int x), some (.int (nI n))] 14 dX0_appendOf_12 rfl rfl (zlt rfl) ?_
  refine zv_aload_n K 15 dX0_appendOf_14 rfl rfl ?_
  refine zv_iload K 17 dX0_appendOf_15 rfl rfl ?_
  refine zv_bipush K 9 19 dX0_appendOf_17 rfl (by decide) ?_
  refine zv_iload_n K 20 dX0_appendOf_19 rfl rfl ?_
  refine zv_cV0 K (q0 := 1) (As := [.int (nI n), .int 9, .int x]) (rest := []) 3 23 (kX0_put l D ty a (zap σ n kd ab (zg σ f 4)) (nI n) 9 x n 9 rfl rfl hn (by decide)) dX0_appendOf_20 rfl zw_1_177 zw_1_178 zw_1_179 zw_1_2 zw_1_180 ⟨rfl, rfl⟩ zh_yX0_put ⟨by decide, by decide⟩ (zc_at (j := 1) (by decide)) rfl rfl rfl (zle rfl) rfl ?_
  refine zv_iload K 25 dX0_appendOf_23 rfl rfl ?_
  exact zv_iret K T dX0_appendOf_25 (⟨rfl, rfl⟩)

def zct (p : Nat → Bool) : Nat → Nat
  | 0 => 0
  | n + 1 => zct p n + (if p n then 1 else 0)
theorem zct_le (p : Nat → Bool) : ∀ n, zct p n ≤ n
  | 0 => Nat.le_refl 0
  | n + 1 => by
    have h := zct_le p n
    unfold zct
    split <;> omega
theorem zct_t {p : Nat → Bool} {n : Nat} (h : p n = true) : zct p (n + 1) = zct p n + 1 := by simp [zct, h]
theorem zct_f {p : Nat → Bool} {n : Nat} (h : p n = false) : zct p (n + 1) = zct p n := by simp [zct, h]
theorem zct_congr {p q : Nat → Bool} : ∀ {n : Nat}, (∀ i, i < n → p i = q i) → zct p n = zct q n
  | 0, _ => rfl
  | n + 1, h => by unfold zct; rw [zct_congr (fun i hi => h i (by omega)), h n (by omega)]
set_option maxHeartbeats 4000000 in
set_option maxRecDepth 100000 in
theorem kX0_countWithdrawn_l (l : Launch) (D : va_G) (ty : zTy) (a : Nat → Nat) (σ : zC) (n : Nat) (hn : n ≤ 90) (hc : σ.1 1 1 = nI n) {k : zKx} (K : zv_ok k l D (zR 2 43) cX0_countWithdrawn 3 yX0_countWithdrawn.cls ty) (T : zv_rt k (some .int) (fun v_ w_ => v_ = some (.int (nI (zct (fun f => decide (¬ zg σ f 3 = -4)) n))) ∧ w_ = zc a ty σ)) : ∀ m : Nat, m ≤ n → zv k 4 [some (.ref (a 1)), some (.int (nI (zct (fun f => decide (¬ zg σ f 3 = -4)) m))), some (.int (nI m))] [] (zc a ty σ) := by
  refine z_wf (fun m : Nat => n - m) ?_
  intro m ih hm
  refine zv_iload_n K 5 dX0_countWithdrawn_4 rfl rfl ?_
  refine zv_aload_n K 6 dX0_countWithdrawn_5 rfl rfl ?_
  refine zv_get (v := .int (σ.1 1 1)) (C := RX0) (T := TX0) (N := 5) K 1 1 9 dX0_countWithdrawn_6 rfl zy_X0 (zc_at (j := 1) (by decide)) rfl (by decide) zw_1_24 rfl ?_
  refine zv_topi (nI n) hc ?_
  refine zv_icmp_ge K 29 12 dX0_countWithdrawn_9 (by decide) rfl (fun hb => ?_) (fun hb => ?_)
  · skip
    have hm2 : m = n := by have := z_ge hb (by omega) (by omega); omega
    refine zv_iload_n K 30 dX0_countWithdrawn_29 rfl rfl ?_
    exact zv_iret K T dX0_countWithdrawn_30 (⟨by rw [hm2], rfl⟩)
  · skip
    have hlt : m < n := z_lt hb (by omega)
    refine zv_aload_n K 13 dX0_countWithdrawn_12 rfl rfl ?_
    refine zv_iload_n K 14 dX0_countWithdrawn_13 rfl rfl ?_
    refine zv_cV1 K (q0 := 1) (As := [.int (nI m)]) (rest := []) 1 17 (kX0_isWithdrawn l D ty a σ (nI m) m rfl (by omega)) dX0_countWithdrawn_14 rfl zw_2_41 zw_2_6 zw_2_7 zw_1_2 zw_2_8 ⟨rfl, rfl⟩ zh_yX0_isWithdrawn ⟨by decide, by decide⟩ (zc_at (j := 1) (by decide)) rfl rfl rfl (zle rfl) rfl ?_
    refine zv_ifB_eq K 23 20 dX0_countWithdrawn_17 (by decide) rfl (fun hw => ?_) (fun hw => ?_)
    · skip
      refine zv_iinc K (nI (m + 1)) [some (.ref (a 1)), some (.int (nI (zct (fun f => decide (¬ zg σ f 3 = -4)) m))), some (.int (nI (m + 1)))] 26 dX0_countWithdrawn_23 rfl rfl (z_inc m) rfl ?_
      refine zv_goto K 4 dX0_countWithdrawn_26 (by decide) ?_
      refine zv_eq (lv2 := [some (.ref (a 1)), some (.int (nI (zct (fun f => decide (¬ zg σ f 3 = -4)) (m + 1)))), some (.int (nI (m + 1)))]) rfl (by first | rw [zct_t (decide_eq_true hw)] | rw [zct_f (decide_eq_false hw)]) rfl rfl ?_
      exact ih (m + 1) (by omega) (by omega)
    · skip
      refine zv_iinc K (nI ((zct (fun f => decide (¬ zg σ f 3 = -4))) m + 1)) [some (.ref (a 1)), some (.int (nI ((zct (fun f => decide (¬ zg σ f 3 = -4))) m + 1))), some (.int (nI m))] 23 dX0_countWithdrawn_20 rfl rfl (nI_1 _) rfl ?_
      refine zv_iinc K (nI (m + 1)) [some (.ref (a 1)), some (.int (nI ((zct (fun f => decide (¬ zg σ f 3 = -4))) m + 1))), some (.int (nI (m + 1)))] 26 dX0_countWithdrawn_23 rfl rfl (z_inc m) rfl ?_
      refine zv_goto K 4 dX0_countWithdrawn_26 (by decide) ?_
      refine zv_eq (lv2 := [some (.ref (a 1)), some (.int (nI (zct (fun f => decide (¬ zg σ f 3 = -4)) (m + 1)))), some (.int (nI (m + 1)))]) rfl (by first | rw [zct_t (decide_eq_true hw)] | rw [zct_f (decide_eq_false hw)]) rfl rfl ?_
      exact ih (m + 1) (by omega) (by omega)

set_option maxHeartbeats 4000000 in
set_option maxRecDepth 100000 in
theorem kX0_countWithdrawn (l : Launch) (D : va_G) (ty : zTy) (a : Nat → Nat) (σ : zC) (n : Nat) (hn : n ≤ 90) (hc : σ.1 1 1 = nI n) : zv_ct l D ty yX0_countWithdrawn cX0_countWithdrawn 3 (some .int) (zR 2 43) [.ref (a 1)] (zc a ty σ) (fun v_ w_ => v_ = some (.int (nI (zct (fun f => decide (¬ zg σ f 3 = -4)) n))) ∧ w_ = zc a ty σ) := by
  refine zv_open (by decide) rfl rfl [some (.ref (a 1)), none, none] (by simp [zv_one, Value.category]) (zle rfl) rfl ?_
  intro k K T
  refine zv_iconst K 0 1 dX0_countWithdrawn_0 rfl (by decide) ?_
  refine zv_istore_n K [some (.ref (a 1)), some (.int 0), none] 2 dX0_countWithdrawn_1 rfl rfl (zlt rfl) ?_
  refine zv_iconst K 0 3 dX0_countWithdrawn_2 rfl (by decide) ?_
  refine zv_istore_n K [some (.ref (a 1)), some (.int 0), some (.int 0)] 4 dX0_countWithdrawn_3 rfl rfl (zlt rfl) ?_
  exact kX0_countWithdrawn_l l D ty a σ n hn hc K T 0 (Nat.zero_le _)

def zcp1 (σ : zC) : zC := (zFa (zFa (zO (zO (zO σ 1 0 (σ.1 2 0)) 1 1 (σ.1 2 1)) 1 2 (σ.1 2 2)) 4 (va_cpy (σ.2 6) (σ.2 4) 0 0 990)) 5 (va_cpy (σ.2 7) (σ.2 5) 0 0 90))
set_option maxHeartbeats 4000000 in
set_option maxRecDepth 100000 in
theorem kX0_copyFrom1 (l : Launch) (D : va_G) (ty : zTy) (a : Nat → Nat) (σ : zC) : zv_ct l D ty yX0_copyFrom cX0_copyFrom 2 none (zR 1 40) [.ref (a 1), .ref (a 2)] (zc a ty σ) (fun v_ w_ => v_ = none ∧ w_ = zc a ty (zcp1 σ)) := by
  refine zv_open (by decide) rfl rfl [some (.ref (a 1)), some (.ref (a 2))] (by simp [zv_one, Value.category]) (zle rfl) rfl ?_
  intro k K T
  refine zv_aload_n K 1 dX0_copyFrom_0 rfl rfl ?_
  refine zv_aload_n K 2 dX0_copyFrom_1 rfl rfl ?_
  refine zv_get (v := .int (σ.1 2 0)) (C := RX0) (T := TX0) (N := 5) K 2 0 5 dX0_copyFrom_2 rfl zy_X0 (zc_at (j := 2) (by decide)) rfl (by decide) zw_1_23 rfl ?_
  refine zv_put (C := RX0) (T := TX0) (N := 5) K 1 0 8 (zc a ty (zO σ 1 0 (σ.1 2 0))) dX0_copyFrom_5 rfl zy_X0 tyX0_ok nmX0 (zc_at (j := 1) (by decide)) rfl (by decide) zw_1_23 rfl rfl rfl rfl (zlt rfl) (zc_O 1 0 (by decide) rfl) ?_
  refine zv_aload_n K 9 dX0_copyFrom_8 rfl rfl ?_
  refine zv_aload_n K 10 dX0_copyFrom_9 rfl rfl ?_
  refine zv_get (v := .int (σ.1 2 1)) (C := RX0) (T := TX0) (N := 5) K 2 1 13 dX0_copyFrom_10 rfl zy_X0 (zc_at (j := 2) (by decide)) rfl (by decide) zw_1_24 rfl ?_
  refine zv_put (C := RX0) (T := TX0) (N := 5) K 1 1 16 (zc a ty (zO (zO σ 1 0 (σ.1 2 0)) 1 1 (σ.1 2 1))) dX0_copyFrom_13 rfl zy_X0 tyX0_ok nmX0 (zc_at (j := 1) (by decide)) rfl (by decide) zw_1_24 rfl rfl rfl rfl (zlt rfl) (zc_O 1 1 (by decide) rfl) ?_
  refine zv_aload_n K 17 dX0_copyFrom_16 rfl rfl ?_
  refine zv_aload_n K 18 dX0_copyFrom_17 rfl rfl ?_
  refine zv_get (v := .int (σ.1 2 2)) (C := RX0) (T := TX0) (N := 5) K 2 2 21 dX0_copyFrom_18 rfl zy_X0 (zc_at (j := 2) (by decide)) rfl (by decide) zw_1_28 rfl ?_
  refine zv_put (C := RX0) (T := TX0) (N := 5) K 1 2 24 (zc a ty (zO (zO (zO σ 1 0 (σ.1 2 0)) 1 1 (σ.1 2 1)) 1 2 (σ.1 2 2))) dX0_copyFrom_21 rfl zy_X0 tyX0_ok nmX0 (zc_at (j := 1) (by decide)) rfl (by decide) zw_1_28 rfl rfl rfl rfl (zlt rfl) (zc_O 1 2 (by decide) rfl) ?_
  refine zv_aload_n K 25 dX0_copyFrom_24 rfl rfl ?_
  refine zv_get (v := .ref (a 6)) (C := RX0) (T := TX0) (N := 5) K 2 3 28 dX0_copyFrom_25 rfl zy_X0 (zc_at (j := 2) (by decide)) rfl (by decide) zw_1_29 rfl ?_
  refine zv_iconst K 0 29 dX0_copyFrom_28 rfl (by decide) ?_
  refine zv_aload_n K 30 dX0_copyFrom_29 rfl rfl ?_
  refine zv_get (v := .ref (a 4)) (C := RX0) (T := TX0) (N := 5) K 1 3 33 dX0_copyFrom_30 rfl zy_X0 (zc_at (j := 1) (by decide)) rfl (by decide) zw_1_29 rfl ?_
  refine zv_iconst K 0 34 dX0_copyFrom_33 rfl (by decide) ?_
  refine zv_aload_n K 35 dX0_copyFrom_34 rfl rfl ?_
  refine zv_get (v := .ref (a 4)) (C := RX0) (T := TX0) (N := 5) K 1 3 38 dX0_copyFrom_35 rfl zy_X0 (zc_at (j := 1) (by decide)) rfl (by decide) zw_1_29 rfl ?_
  refine zv_alen K 4 39 990 dX0_copyFrom_38 rfl (zc_at (j := 4) (by decide)) rfl ?_
  refine zv_copy (F := σ.2 6) (G := σ.2 4) K 6 4 42 (zc a ty (zFa (zO (zO (zO σ 1 0 (σ.1 2 0)) 1 1 (σ.1 2 1)) 1 2 (σ.1 2 2)) 4 (va_cpy (σ.2 6) (σ.2 4) 0 0 990))) dX0_copyFrom_39 rfl zw_2_175 zw_2_177 zw_2_176 zw_1_7 (zc_at (j := 6) (by decide)) (zc_at (j := 4) (by decide)) (by decide) (by decide) (by decide) (by decide) (by decide) (by decide) (by decide) rfl (zc_Fa 4 (by decide) rfl) ?_
  refine zv_aload_n K 43 dX0_copyFrom_42 rfl rfl ?_
  refine zv_get (v := .ref (a 7)) (C := RX0) (T := TX0) (N := 5) K 2 4 46 dX0_copyFrom_43 rfl zy_X0 (zc_at (j := 2) (by decide)) rfl (by decide) zw_1_30 rfl ?_
  refine zv_iconst K 0 47 dX0_copyFrom_46 rfl (by decide) ?_
  refine zv_aload_n K 48 dX0_copyFrom_47 rfl rfl ?_
  refine zv_get (v := .ref (a 5)) (C := RX0) (T := TX0) (N := 5) K 1 4 51 dX0_copyFrom_48 rfl zy_X0 (zc_at (j := 1) (by decide)) rfl (by decide) zw_1_30 rfl ?_
  refine zv_iconst K 0 52 dX0_copyFrom_51 rfl (by decide) ?_
  refine zv_aload_n K 53 dX0_copyFrom_52 rfl rfl ?_
  refine zv_get (v := .ref (a 5)) (C := RX0) (T := TX0) (N := 5) K 1 4 56 dX0_copyFrom_53 rfl zy_X0 (zc_at (j := 1) (by decide)) rfl (by decide) zw_1_30 rfl ?_
  refine zv_alen K 5 57 90 dX0_copyFrom_56 rfl (zc_at (j := 5) (by decide)) rfl ?_
  refine zv_copy (F := σ.2 7) (G := σ.2 5) K 7 5 60 (zc a ty (zFa (zFa (zO (zO (zO σ 1 0 (σ.1 2 0)) 1 1 (σ.1 2 1)) 1 2 (σ.1 2 2)) 4 (va_cpy (σ.2 6) (σ.2 4) 0 0 990)) 5 (va_cpy (σ.2 7) (σ.2 5) 0 0 90))) dX0_copyFrom_57 rfl zw_2_175 zw_2_177 zw_2_176 zw_1_7 (zc_at (j := 7) (by decide)) (zc_at (j := 5) (by decide)) (by decide) (by decide) (by decide) (by decide) (by decide) (by decide) (by decide) rfl (zc_Fa 5 (by decide) rfl) ?_
  exact zv_vret K T dX0_copyFrom_60 (⟨rfl, rfl⟩)

def zcp2 (σ : zC) : zC := (zFa (zFa (zO (zO (zO σ 2 0 (σ.1 1 0)) 2 1 (σ.1 1 1)) 2 2 (σ.1 1 2)) 6 (va_cpy (σ.2 4) (σ.2 6) 0 0 990)) 7 (va_cpy (σ.2 5) (σ.2 7) 0 0 90))
set_option maxHeartbeats 4000000 in
set_option maxRecDepth 100000 in
theorem kX0_copyFrom2 (l : Launch) (D : va_G) (ty : zTy) (a : Nat → Nat) (σ : zC) : zv_ct l D ty yX0_copyFrom cX0_copyFrom 2 none (zR 1 40) [.ref (a 2), .ref (a 1)] (zc a ty σ) (fun v_ w_ => v_ = none ∧ w_ = zc a ty (zcp2 σ)) := by
  refine zv_open (by decide) rfl rfl [some (.ref (a 2)), some (.ref (a 1))] (by simp [zv_one, Value.category]) (zle rfl) rfl ?_
  intro k K T
  refine zv_aload_n K 1 dX0_copyFrom_0 rfl rfl ?_
  refine zv_aload_n K 2 dX0_copyFrom_1 rfl rfl ?_
  refine zv_get (v := .int (σ.1 1 0)) (C := RX0) (T := TX0) (N := 5) K 1 0 5 dX0_copyFrom_2 rfl zy_X0 (zc_at (j := 1) (by decide)) rfl (by decide) zw_1_23 rfl ?_
  refine zv_put (C := RX0) (T := TX0) (N := 5) K 2 0 8 (zc a ty (zO σ 2 0 (σ.1 1 0))) dX0_copyFrom_5 rfl zy_X0 tyX0_ok nmX0 (zc_at (j := 2) (by decide)) rfl (by decide) zw_1_23 rfl rfl rfl rfl (zlt rfl) (zc_O 2 0 (by decide) rfl) ?_
  refine zv_aload_n K 9 dX0_copyFrom_8 rfl rfl ?_
  refine zv_aload_n K 10 dX0_copyFrom_9 rfl rfl ?_
  refine zv_get (v := .int (σ.1 1 1)) (C := RX0) (T := TX0) (N := 5) K 1 1 13 dX0_copyFrom_10 rfl zy_X0 (zc_at (j := 1) (by decide)) rfl (by decide) zw_1_24 rfl ?_
  refine zv_put (C := RX0) (T := TX0) (N := 5) K 2 1 16 (zc a ty (zO (zO σ 2 0 (σ.1 1 0)) 2 1 (σ.1 1 1))) dX0_copyFrom_13 rfl zy_X0 tyX0_ok nmX0 (zc_at (j := 2) (by decide)) rfl (by decide) zw_1_24 rfl rfl rfl rfl (zlt rfl) (zc_O 2 1 (by decide) rfl) ?_
  refine zv_aload_n K 17 dX0_copyFrom_16 rfl rfl ?_
  refine zv_aload_n K 18 dX0_copyFrom_17 rfl rfl ?_
  refine zv_get (v := .int (σ.1 1 2)) (C := RX0) (T := TX0) (N := 5) K 1 2 21 dX0_copyFrom_18 rfl zy_X0 (zc_at (j := 1) (by decide)) rfl (by decide) zw_1_28 rfl ?_
  refine zv_put (C := RX0) (T := TX0) (N := 5) K 2 2 24 (zc a ty (zO (zO (zO σ 2 0 (σ.1 1 0)) 2 1 (σ.1 1 1)) 2 2 (σ.1 1 2))) dX0_copyFrom_21 rfl zy_X0 tyX0_ok nmX0 (zc_at (j := 2) (by decide)) rfl (by decide) zw_1_28 rfl rfl rfl rfl (zlt rfl) (zc_O 2 2 (by decide) rfl) ?_
  refine zv_aload_n K 25 dX0_copyFrom_24 rfl rfl ?_
  refine zv_get (v := .ref (a 4)) (C := RX0) (T := TX0) (N := 5) K 1 3 28 dX0_copyFrom_25 rfl zy_X0 (zc_at (j := 1) (by decide)) rfl (by decide) zw_1_29 rfl ?_
  refine zv_iconst K 0 29 dX0_copyFrom_28 rfl (by decide) ?_
  refine zv_aload_n K 30 dX0_copyFrom_29 rfl rfl ?_
  refine zv_get (v := .ref (a 6)) (C := RX0) (T := TX0) (N := 5) K 2 3 33 dX0_copyFrom_30 rfl zy_X0 (zc_at (j := 2) (by decide)) rfl (by decide) zw_1_29 rfl ?_
  refine zv_iconst K 0 34 dX0_copyFrom_33 rfl (by decide) ?_
  refine zv_aload_n K 35 dX0_copyFrom_34 rfl rfl ?_
  refine zv_get (v := .ref (a 6)) (C := RX0) (T := TX0) (N := 5) K 2 3 38 dX0_copyFrom_35 rfl zy_X0 (zc_at (j := 2) (by decide)) rfl (by decide) zw_1_29 rfl ?_
  refine zv_alen K 6 39 990 dX0_copyFrom_38 rfl (zc_at (j := 6) (by decide)) rfl ?_
  refine zv_copy (F := σ.2 4) (G := σ.2 6) K 4 6 42 (zc a ty (zFa (zO (zO (zO σ 2 0 (σ.1 1 0)) 2 1 (σ.1 1 1)) 2 2 (σ.1 1 2)) 6 (va_cpy (σ.2 4) (σ.2 6) 0 0 990))) dX0_copyFrom_39 rfl zw_2_175 zw_2_177 zw_2_176 zw_1_7 (zc_at (j := 4) (by decide)) (zc_at (j := 6) (by decide)) (by decide) (by decide) (by decide) (by decide) (by decide) (by decide) (by decide) rfl (zc_Fa 6 (by decide) rfl) ?_
  refine zv_aload_n K 43 dX0_copyFrom_42 rfl rfl ?_
  refine zv_get (v := .ref (a 5)) (C := RX0) (T := TX0) (N := 5) K 1 4 46 dX0_copyFrom_43 rfl zy_X0 (zc_at (j := 1) (by decide)) rfl (by decide) zw_1_30 rfl ?_
  refine zv_iconst K 0 47 dX0_copyFrom_46 rfl (by decide) ?_
  refine zv_aload_n K 48 dX0_copyFrom_47 rfl rfl ?_
  refine zv_get (v := .ref (a 7)) (C := RX0) (T := TX0) (N := 5) K 2 4 51 dX0_copyFrom_48 rfl zy_X0 (zc_at (j := 2) (by decide)) rfl (by decide) zw_1_30 rfl ?_
  refine zv_iconst K 0 52 dX0_copyFrom_51 rfl (by decide) ?_
  refine zv_aload_n K 53 dX0_copyFrom_52 rfl rfl ?_
  refine zv_get (v := .ref (a 7)) (C := RX0) (T := TX0) (N := 5) K 2 4 56 dX0_copyFrom_53 rfl zy_X0 (zc_at (j := 2) (by decide)) rfl (by decide) zw_1_30 rfl ?_
  refine zv_alen K 7 57 90 dX0_copyFrom_56 rfl (zc_at (j := 7) (by decide)) rfl ?_
  refine zv_copy (F := σ.2 5) (G := σ.2 7) K 5 7 60 (zc a ty (zFa (zFa (zO (zO (zO σ 2 0 (σ.1 1 0)) 2 1 (σ.1 1 1)) 2 2 (σ.1 1 2)) 6 (va_cpy (σ.2 4) (σ.2 6) 0 0 990)) 7 (va_cpy (σ.2 5) (σ.2 7) 0 0 90))) dX0_copyFrom_57 rfl zw_2_175 zw_2_177 zw_2_176 zw_1_7 (zc_at (j := 5) (by decide)) (zc_at (j := 7) (by decide)) (by decide) (by decide) (by decide) (by decide) (by decide) (by decide) (by decide) rfl (zc_Fa 7 (by decide) rfl) ?_
  exact zv_vret K T dX0_copyFrom_60 (⟨rfl, rfl⟩)

