set_option maxHeartbeats 4000000 in
set_option maxRecDepth 100000 in
theorem kX1_setFeet (l : Launch) (D : va_G) (ty : zTy) (a : Nat → Nat) (σ : zC) (i : Nat) (hi : i < 20) (r sh : Nat → Int32) (p q : Int32) : zv_ct l D ty yX1_setFeet cX1_setFeet 3 none (zR 0 0) [.ref (a (i + 11)), .int p, .int q] (zc a ty (zCl σ i r sh)) (fun v_ w_ => v_ = none ∧ w_ = zc a ty (zCl σ i (upd (upd r 3 p) 4 q) sh)) := by
  refine zv_open (by decide) rfl rfl [some (.ref (a (i + 11))), some (.int p), some (.int q)] (by simp [zv_one, Value.category]) (zle rfl) rfl ?_
  intro k K T
  refine zv_aload_n K 1 dX1_setFeet_0 rfl rfl ?_
  refine zv_iload_n K 2 dX1_setFeet_1 rfl rfl ?_
  refine zk_put (t0 := .int) K hi 3 5 dX1_setFeet_2 rfl (by decide) zw_1_64 rfl rfl rfl rfl (zCl_O3 _ _ _ _) ?_
  refine zv_aload_n K 6 dX1_setFeet_5 rfl rfl ?_
  refine zv_iload_n K 7 dX1_setFeet_6 rfl rfl ?_
  refine zk_put (t0 := .int) K hi 4 10 dX1_setFeet_7 rfl (by decide) zw_1_67 rfl rfl rfl rfl (zCl_O4 _ _ _ _) ?_
  exact zv_vret K T dX1_setFeet_10 (⟨rfl, rfl⟩)

set_option maxHeartbeats 4000000 in
set_option maxRecDepth 100000 in
theorem kX1_setWorked (l : Launch) (D : va_G) (ty : zTy) (a : Nat → Nat) (σ : zC) (i : Nat) (hi : i < 20) (r sh : Nat → Int32) (d : Int32) : zv_ct l D ty yX1_setWorked cX1_setWorked 2 none (zR 0 0) [.ref (a (i + 11)), .int d] (zc a ty (zCl σ i r sh)) (fun v_ w_ => v_ = none ∧ w_ = zc a ty (zCl σ i (upd (upd r 6 d) 7 0) sh)) := by
  refine zv_open (by decide) rfl rfl [some (.ref (a (i + 11))), some (.int d)] (by simp [zv_one, Value.category]) (zle rfl) rfl ?_
  intro k K T
  refine zv_aload_n K 1 dX1_setWorked_0 rfl rfl ?_
  refine zv_iload_n K 2 dX1_setWorked_1 rfl rfl ?_
  refine zk_put (t0 := .int) K hi 6 5 dX1_setWorked_2 rfl (by decide) zw_1_73 rfl rfl rfl rfl (zCl_O6 _ _ _ _) ?_
  refine zv_aload_n K 6 dX1_setWorked_5 rfl rfl ?_
  refine zv_iconst K 0 7 dX1_setWorked_6 rfl (by decide) ?_
  refine zk_put (t0 := .int) K hi 7 10 dX1_setWorked_7 rfl (by decide) zw_1_75 rfl rfl rfl rfl (zCl_O7 _ _ _ _) ?_
  exact zv_vret K T dX1_setWorked_10 (⟨rfl, rfl⟩)

set_option maxHeartbeats 4000000 in
set_option maxRecDepth 100000 in
theorem kX1_passTo_l (l : Launch) (D : va_G) (ty : zTy) (a : Nat → Nat) (σ : zC) (i : Nat) (hi : i < 20) (r sh : Nat → Int32) (m d : Int32) {k : zKx} (K : zv_ok k l D (zR 1 21) cX1_passTo 4 yX1_passTo.cls ty) (T : zv_rt k none (fun v_ w_ => v_ = none ∧ w_ = zc a ty (zCl σ i (rPass r m d) (sPass sh m)))) : ∀ n : Nat, n ≤ 10 → zv k 7 [some (.ref (a (i + 11))), some (.int m), some (.int d), some (.int (nI n))] [] (zc a ty (zCl σ i (upd r 5 m) (sPassN n sh m))) := by
  refine z_wf (fun n : Nat => 10 - n) ?_
  intro n ih hn
  refine zv_iload_n K 8 dX1_passTo_7 rfl rfl ?_
  refine zv_bipush K 10 10 dX1_passTo_8 rfl (by decide) ?_
  refine zv_icmp_ge K 36 13 dX1_passTo_10 (by decide) rfl (fun hb => ?_) (fun hb => ?_)
  · skip
    have hn2 : n = 10 := by have := z_ge (c := 10) hb (by decide) (by omega); omega
    refine zv_aload_n K 37 dX1_passTo_36 rfl rfl ?_
    refine zv_iload_n K 38 dX1_passTo_37 rfl rfl ?_
    refine zv_cV0 K (q0 := (i + 11)) (As := [.int d]) (rest := []) 1 41 (kX1_setWorked l D ty a σ i hi (upd r 5 m) (sPassN n sh m) d) dX1_passTo_38 rfl zw_2_63 zw_2_65 zw_p1_9 zw_1_4 zw_2_66 ⟨rfl, rfl⟩ zh_yX1_setWorked ⟨by decide, by decide⟩ (zc_cl hi) rfl rfl rfl (zle rfl) rfl ?_
    exact zv_vret K T dX1_passTo_41 (⟨rfl, by subst hn2; rfl⟩)
  · skip
    have hn10 : n < 10 := z_lt (c := 10) hb (by omega)
    refine zv_aload_n K 14 dX1_passTo_13 rfl rfl ?_
    refine zk_get (v := .ref (a (i + 31))) K hi 11 17 dX1_passTo_14 rfl (by decide) zw_1_80 rfl ?_
    refine zv_iload_n K 18 dX1_passTo_17 rfl rfl ?_
    refine zv_iload_n K 19 dX1_passTo_18 rfl rfl ?_
    refine zv_iload_n K 20 dX1_passTo_19 rfl rfl ?_
    refine zv_icmp_ne K 28 23 dX1_passTo_20 (by decide) rfl (fun he => ?_) (fun he => ?_)
    · skip
      refine zv_iconst K 0 29 dX1_passTo_28 rfl (by decide) ?_
      refine zk_ast K hi n 30 dX1_passTo_29 rfl rfl hn10 ?_
      refine zv_iinc K (nI (n + 1)) [some (.ref (a (i + 11))), some (.int m), some (.int d), some (.int (nI (n + 1)))] 33 dX1_passTo_30 rfl rfl (z_inc n) rfl ?_
      refine zv_goto K 7 dX1_passTo_33 (by decide) ?_
      refine zv_ws (congrArg (zc a ty) (congrArg (zCl σ i (upd r 5 m)) (sPassN_s n sh m _ (by first | rw [if_pos he] | rw [if_neg he])))) ?_
      exact ih (n + 1) (by omega) (by omega)
    · skip
      refine zv_bipush K 24 25 dX1_passTo_23 rfl (by decide) ?_
      refine zv_goto K 29 dX1_passTo_25 (by decide) ?_
      refine zk_ast K hi n 30 dX1_passTo_29 rfl rfl hn10 ?_
      refine zv_iinc K (nI (n + 1)) [some (.ref (a (i + 11))), some (.int m), some (.int d), some (.int (nI (n + 1)))] 33 dX1_passTo_30 rfl rfl (z_inc n) rfl ?_
      refine zv_goto K 7 dX1_passTo_33 (by decide) ?_
      refine zv_ws (congrArg (zc a ty) (congrArg (zCl σ i (upd r 5 m)) (sPassN_s n sh m _ (by first | rw [if_pos he] | rw [if_neg he])))) ?_
      exact ih (n + 1) (by omega) (by omega)

set_option maxHeartbeats 4000000 in
set_option maxRecDepth 100000 in
theorem kX1_passTo (l : Launch) (D : va_G) (ty : zTy) (a : Nat → Nat) (σ : zC) (i : Nat) (hi : i < 20) (r sh : Nat → Int32) (m d : Int32) : zv_ct l D ty yX1_passTo cX1_passTo 4 none (zR 1 21) [.ref (a (i + 11)), .int m, .int d] (zc a ty (zCl σ i r sh)) (fun v_ w_ => v_ = none ∧ w_ = zc a ty (zCl σ i (rPass r m d) (sPass sh m))) := by
  refine zv_open (by decide) rfl rfl [some (.ref (a (i + 11))), some (.int m), some (.int d), none] (by simp [zv_one, Value.category]) (zle rfl) rfl ?_
  intro k K T
  refine zv_aload_n K 1 dX1_passTo_0 rfl rfl ?_
  refine zv_iload_n K 2 dX1_passTo_1 rfl rfl ?_
  refine zk_put (t0 := .int) K hi 5 5 dX1_passTo_2 rfl (by decide) zw_1_71 rfl rfl rfl rfl (zCl_O5 _ _ _ _) ?_
  refine zv_iconst K 0 6 dX1_passTo_5 rfl (by decide) ?_
  refine zv_istore_n K [some (.ref (a (i + 11))), some (.int m), some (.int d), some (.int 0)] 7 dX1_passTo_6 rfl rfl (zlt rfl) ?_
  refine zv_ws (congrArg (zc a ty) (congrArg (zCl σ i (upd r 5 m)) (sPassN_0 sh m).symm)) ?_
  exact kX1_passTo_l l D ty a σ i hi r sh m d K T 0 (by decide)

set_option maxHeartbeats 4000000 in
set_option maxRecDepth 100000 in
theorem kX1_begin (l : Launch) (D : va_G) (ty : zTy) (a : Nat → Nat) (σ : zC) (i : Nat) (hi : i < 20) (r sh : Nat → Int32) (x : Int32) (f : Nat) (hx : x = nI f) (hf : f < 90) : zv_ct l D ty yX1_begin cX1_begin 3 none (zR 2 44) [.ref (a (i + 11)), .ref (a 1), .int x] (zc a ty (zCl σ i r sh)) (fun v_ w_ => v_ = none ∧ w_ = zc a ty (zCl σ i (rBegin σ r f) (sPass sh (zg σ f 5)))) := by
  refine zv_open (by decide) rfl rfl [some (.ref (a (i + 11))), some (.ref (a 1)), some (.int x)] (by simp [zv_one, Value.category]) (zle rfl) rfl ?_
  intro k K T
  refine zv_aload_n K 1 dX1_begin_0 rfl rfl ?_
  refine zv_iconst K 1 2 dX1_begin_1 rfl (by decide) ?_
  refine zk_put (t0 := .boolean) K hi 0 5 dX1_begin_2 rfl (by decide) zw_1_57 rfl rfl rfl rfl (zCl_O0 _ _ _ _) ?_
  refine zv_aload_n K 6 dX1_begin_5 rfl rfl ?_
  refine zv_iload_n K 7 dX1_begin_6 rfl rfl ?_
  refine zk_put (t0 := .int) K hi 1 10 dX1_begin_7 rfl (by decide) zw_1_59 rfl rfl rfl rfl (zCl_O1 _ _ _ _) ?_
  refine zv_aload_n K 11 dX1_begin_10 rfl rfl ?_
  refine zv_aload_n K 12 dX1_begin_11 rfl rfl ?_
  refine zv_iload_n K 13 dX1_begin_12 rfl rfl ?_
  refine zv_iconst K 4 14 dX1_begin_13 rfl (by decide) ?_
  refine zv_cV1 K (q0 := 1) (As := [.int x, .int 4]) (rest := [.ref (a (i + 11))]) 2 17 (kX0_get l D ty a (zCl σ i (upd (upd r 0 1) 1 x) sh) x 4 f 4 hx rfl hf (by decide)) dX1_begin_14 rfl zw_2_54 zw_1_186 zw_1_187 zw_1_2 zw_1_188 ⟨rfl, rfl⟩ zh_yX0_get ⟨by decide, by decide⟩ (zc_at (j := 1) (by decide)) rfl rfl rfl (zle rfl) rfl ?_
  refine zv_topi (zg σ f 4) (zg_Cl _ _ _ _ _ _) ?_
  refine zk_put (t0 := .int) K hi 2 20 dX1_begin_17 rfl (by decide) zw_1_62 rfl rfl rfl rfl (zCl_O2 _ _ _ _) ?_
  refine zv_aload_n K 21 dX1_begin_20 rfl rfl ?_
  refine zv_aload_n K 22 dX1_begin_21 rfl rfl ?_
  refine zv_iload_n K 23 dX1_begin_22 rfl rfl ?_
  refine zv_bipush K 6 25 dX1_begin_23 rfl (by decide) ?_
  refine zv_cV1 K (q0 := 1) (As := [.int x, .int 6]) (rest := [.ref (a (i + 11))]) 2 28 (kX0_get l D ty a (zCl σ i (upd (upd (upd r 0 1) 1 x) 2 (zg σ f 4)) sh) x 6 f 6 hx rfl hf (by decide)) dX1_begin_25 rfl zw_2_54 zw_1_186 zw_1_187 zw_1_2 zw_1_188 ⟨rfl, rfl⟩ zh_yX0_get ⟨by decide, by decide⟩ (zc_at (j := 1) (by decide)) rfl rfl rfl (zle rfl) rfl ?_
  refine zv_topi (zg σ f 6) (zg_Cl _ _ _ _ _ _) ?_
  refine zv_aload_n K 29 dX1_begin_28 rfl rfl ?_
  refine zv_iload_n K 30 dX1_begin_29 rfl rfl ?_
  refine zv_bipush K 7 32 dX1_begin_30 rfl (by decide) ?_
  refine zv_cV1 K (q0 := 1) (As := [.int x, .int 7]) (rest := [.int (zg σ f 6), .ref (a (i + 11))]) 2 35 (kX0_get l D ty a (zCl σ i (upd (upd (upd r 0 1) 1 x) 2 (zg σ f 4)) sh) x 7 f 7 hx rfl hf (by decide)) dX1_begin_32 rfl zw_2_54 zw_1_186 zw_1_187 zw_1_2 zw_1_188 ⟨rfl, rfl⟩ zh_yX0_get ⟨by decide, by decide⟩ (zc_at (j := 1) (by decide)) rfl rfl rfl (zle rfl) rfl ?_
  refine zv_topi (zg σ f 7) (zg_Cl _ _ _ _ _ _) ?_
  refine zv_cV0 K (q0 := (i + 11)) (As := [.int (zg σ f 6), .int (zg σ f 7)]) (rest := []) 2 38 (kX1_setFeet l D ty a σ i hi (upd (upd (upd r 0 1) 1 x) 2 (zg σ f 4)) sh (zg σ f 6) (zg σ f 7)) dX1_begin_35 rfl zw_2_55 zw_2_57 zw_p1_7 zw_1_4 zw_2_58 ⟨rfl, rfl⟩ zh_yX1_setFeet ⟨by decide, by decide⟩ (zc_cl hi) rfl rfl rfl (zle rfl) rfl ?_
  refine zv_aload_n K 39 dX1_begin_38 rfl rfl ?_
  refine zv_aload_n K 40 dX1_begin_39 rfl rfl ?_
  refine zv_iload_n K 41 dX1_begin_40 rfl rfl ?_
  refine zv_iconst K 5 42 dX1_begin_41 rfl (by decide) ?_
  refine zv_cV1 K (q0 := 1) (As := [.int x, .int 5]) (rest := [.ref (a (i + 11))]) 2 45 (kX0_get l D ty a (zCl σ i (upd (upd (upd (upd (upd r 0 1) 1 x) 2 (zg σ f 4)) 3 (zg σ f 6)) 4 (zg σ f 7)) sh) x 5 f 5 hx rfl hf (by decide)) dX1_begin_42 rfl zw_2_54 zw_1_186 zw_1_187 zw_1_2 zw_1_188 ⟨rfl, rfl⟩ zh_yX0_get ⟨by decide, by decide⟩ (zc_at (j := 1) (by decide)) rfl rfl rfl (zle rfl) rfl ?_
  refine zv_topi (zg σ f 5) (zg_Cl _ _ _ _ _ _) ?_
  refine zv_aload_n K 46 dX1_begin_45 rfl rfl ?_
  refine zv_iload_n K 47 dX1_begin_46 rfl rfl ?_
  refine zv_iconst K 1 48 dX1_begin_47 rfl (by decide) ?_
  refine zv_cV1 K (q0 := 1) (As := [.int x, .int 1]) (rest := [.int (zg σ f 5), .ref (a (i + 11))]) 2 51 (kX0_get l D ty a (zCl σ i (upd (upd (upd (upd (upd r 0 1) 1 x) 2 (zg σ f 4)) 3 (zg σ f 6)) 4 (zg σ f 7)) sh) x 1 f 1 hx rfl hf (by decide)) dX1_begin_48 rfl zw_2_54 zw_1_186 zw_1_187 zw_1_2 zw_1_188 ⟨rfl, rfl⟩ zh_yX0_get ⟨by decide, by decide⟩ (zc_at (j := 1) (by decide)) rfl rfl rfl (zle rfl) rfl ?_
  refine zv_topi (zg σ f 1) (zg_Cl _ _ _ _ _ _) ?_
  refine zv_cV0 K (q0 := (i + 11)) (As := [.int (zg σ f 5), .int (zg σ f 1)]) (rest := []) 2 54 (kX1_passTo l D ty a σ i hi (upd (upd (upd (upd (upd r 0 1) 1 x) 2 (zg σ f 4)) 3 (zg σ f 6)) 4 (zg σ f 7)) sh (zg σ f 5) (zg σ f 1)) dX1_begin_51 rfl zw_2_59 zw_2_61 zw_p1_8 zw_1_4 zw_2_62 ⟨rfl, rfl⟩ zh_yX1_passTo ⟨by decide, by decide⟩ (zc_cl hi) rfl rfl rfl (zle rfl) rfl ?_
  exact zv_vret K T dX1_begin_54 (⟨rfl, by subst hx; rfl⟩)

set_option maxHeartbeats 4000000 in
set_option maxRecDepth 100000 in
theorem kX1_isIdle (l : Launch) (D : va_G) (ty : zTy) (a : Nat → Nat) (σ : zC) (i : Nat) (hi : i < 20) (r sh : Nat → Int32) (d idle : Int32) : zv_ct l D ty yX1_isIdle cX1_isIdle 3 (some .boolean) (zR 0 0) [.ref (a (i + 11)), .int d, .int idle] (zc a ty (zCl σ i r sh)) (fun v_ w_ => v_ = some (.int (zB (idle < d - r 6))) ∧ w_ = zc a ty (zCl σ i r sh)) := by
  refine zv_open (by decide) rfl rfl [some (.ref (a (i + 11))), some (.int d), some (.int idle)] (by simp [zv_one, Value.category]) (zle rfl) rfl ?_
  intro k K T
  refine zv_iload_n K 1 dX1_isIdle_0 rfl rfl ?_
  refine zv_aload_n K 2 dX1_isIdle_1 rfl rfl ?_
  refine zk_get (v := .int (r 6)) K hi 6 5 dX1_isIdle_2 rfl (by decide) zw_1_73 rfl ?_
  refine zv_isub K 6 dX1_isIdle_5 rfl ?_
  refine zv_iload_n K 7 dX1_isIdle_6 rfl rfl ?_
  refine zv_icmp_le K 14 10 dX1_isIdle_7 (by decide) rfl (fun h1 => ?_) (fun h1 => ?_)
  · skip
    refine zv_iconst K 0 15 dX1_isIdle_14 rfl (by decide) ?_
    exact zv_zret K T dX1_isIdle_15 rfl (⟨congrArg (fun z => some (Value.int z)) (Eq.symm (zB_f (by first | exact z_nle (by assumption) | exact z_len (by assumption)))), rfl⟩)
  · skip
    refine zv_iconst K 1 11 dX1_isIdle_10 rfl (by decide) ?_
    refine zv_goto K 15 dX1_isIdle_11 (by decide) ?_
    exact zv_zret K T dX1_isIdle_15 rfl (⟨congrArg (fun z => some (Value.int z)) (Eq.symm (zB_t (by first | exact z_nle (by assumption) | exact z_len (by assumption)))), rfl⟩)

set_option maxHeartbeats 4000000 in
set_option maxRecDepth 100000 in
theorem kX1_isOver (l : Launch) (D : va_G) (ty : zTy) (a : Nat → Nat) (σ : zC) (i : Nat) (hi : i < 20) (r sh : Nat → Int32) (vn ft : Int32) : zv_ct l D ty yX1_isOver cX1_isOver 3 (some .boolean) (zR 1 22) [.ref (a (i + 11)), .int vn, .int ft] (zc a ty (zCl σ i r sh)) (fun v_ w_ => v_ = some (.int (zB (¬ r 0 = 0 ∧ r 2 = vn ∧ r 3 ≤ ft ∧ ft ≤ r 4))) ∧ w_ = zc a ty (zCl σ i r sh)) := by
  refine zv_open (by decide) rfl rfl [some (.ref (a (i + 11))), some (.int vn), some (.int ft)] (by simp [zv_one, Value.category]) (zle rfl) rfl ?_
  intro k K T
  refine zv_aload_n K 1 dX1_isOver_0 rfl rfl ?_
  refine zk_get (v := .int (r 0)) K hi 0 4 dX1_isOver_1 rfl (by decide) zw_1_57 rfl ?_
  refine zv_if_eq K 34 7 dX1_isOver_4 (by decide) rfl (fun h1 => ?_) (fun h1 => ?_)
  · skip
    refine zv_iconst K 0 35 dX1_isOver_34 rfl (by decide) ?_
    exact zv_zret K T dX1_isOver_35 rfl (⟨congrArg (fun z => some (Value.int z)) (Eq.symm (zB_f (by simp_all))), rfl⟩)
  · skip
    refine zv_aload_n K 8 dX1_isOver_7 rfl rfl ?_
    refine zk_get (v := .int (r 2)) K hi 2 11 dX1_isOver_8 rfl (by decide) zw_1_62 rfl ?_
    refine zv_iload_n K 12 dX1_isOver_11 rfl rfl ?_
    refine zv_icmp_ne K 34 15 dX1_isOver_12 (by decide) rfl (fun h2 => ?_) (fun h2 => ?_)
    · skip
      refine zv_iconst K 0 35 dX1_isOver_34 rfl (by decide) ?_
      exact zv_zret K T dX1_isOver_35 rfl (⟨congrArg (fun z => some (Value.int z)) (Eq.symm (zB_f (by simp_all))), rfl⟩)
    · skip
      refine zv_iload_n K 16 dX1_isOver_15 rfl rfl ?_
      refine zv_aload_n K 17 dX1_isOver_16 rfl rfl ?_
      refine zk_get (v := .int (r 3)) K hi 3 20 dX1_isOver_17 rfl (by decide) zw_1_64 rfl ?_
      refine zv_aload_n K 21 dX1_isOver_20 rfl rfl ?_
      refine zk_get (v := .int (r 4)) K hi 4 24 dX1_isOver_21 rfl (by decide) zw_1_67 rfl ?_
      refine zv_cSN1 K (As := [.int ft, .int (r 3), .int (r 4)]) (rest := []) 3 27 (kX3_isWithin l D ty (zc a ty (zCl σ i r sh)) ft (r 3) (r 4)) dX1_isOver_24 rfl zn_22 zw_1_146 zw_1_1 zw_1_147 ⟨rfl, rfl⟩ zh_yX3_isWithin ⟨by decide, by decide⟩ rfl rfl (zle rfl) rfl ?_
      refine zv_ifB_eq K 34 30 dX1_isOver_27 (by decide) rfl (fun h3 => ?_) (fun h3 => ?_)
      · skip
        refine zv_iconst K 0 35 dX1_isOver_34 rfl (by decide) ?_
        exact zv_zret K T dX1_isOver_35 rfl (⟨congrArg (fun z => some (Value.int z)) (Eq.symm (zB_f (by simp_all))), rfl⟩)
      · skip
        refine zv_iconst K 1 31 dX1_isOver_30 rfl (by decide) ?_
        refine zv_goto K 35 dX1_isOver_31 (by decide) ?_
        exact zv_zret K T dX1_isOver_35 rfl (⟨congrArg (fun z => some (Value.int z)) (Eq.symm (zB_t (by simp_all))), rfl⟩)

set_option maxHeartbeats 4000000 in
set_option maxRecDepth 100000 in
theorem kX1_addNick (l : Launch) (D : va_G) (ty : zTy) (a : Nat → Nat) (σ : zC) (i : Nat) (hi : i < 20) (r sh : Nat → Int32) (m d : Int32) : zv_ct l D ty yX1_addNick cX1_addNick 3 none (zR 0 0) [.ref (a (i + 11)), .int m, .int d] (zc a ty (zCl σ i r sh)) (fun v_ w_ => v_ = none ∧ w_ = zc a ty (zCl σ i (rAdd r m d) sh)) := by
  refine zv_open (by decide) rfl rfl [some (.ref (a (i + 11))), some (.int m), some (.int d)] (by simp [zv_one, Value.category]) (zle rfl) rfl ?_
  intro k K T
  refine zv_aload_n K 1 dX1_addNick_0 rfl rfl ?_
  refine zk_get (v := .int (r 7)) K hi 7 4 dX1_addNick_1 rfl (by decide) zw_1_75 rfl ?_
  refine zv_if_ne K 12 7 dX1_addNick_4 (by decide) rfl (fun hz => ?_) (fun hz => ?_)
  · skip
    refine zv_aload_n K 13 dX1_addNick_12 rfl rfl ?_
    refine zv_iload_n K 14 dX1_addNick_13 rfl rfl ?_
    refine zk_put (t0 := .int) K hi 8 17 dX1_addNick_14 rfl (by decide) zw_1_77 rfl rfl rfl rfl (zCl_O8 _ _ _ _) ?_
    refine zv_aload_n K 18 dX1_addNick_17 rfl rfl ?_
    refine zv_iload_n K 19 dX1_addNick_18 rfl rfl ?_
    refine zk_put (t0 := .int) K hi 10 22 dX1_addNick_19 rfl (by decide) zw_1_79 rfl rfl rfl rfl (zCl_O10 _ _ _ _) ?_
    refine zv_aload_n K 23 dX1_addNick_22 rfl rfl ?_
    refine zv_dup K 24 dX1_addNick_23 rfl rfl ?_
    refine zk_get (v := .int (r 7)) K hi 7 27 dX1_addNick_24 rfl (by decide) zw_1_75 rfl ?_
    refine zv_iconst K 1 28 dX1_addNick_27 rfl (by decide) ?_
    refine zv_iadd K 29 dX1_addNick_28 rfl ?_
    refine zk_put (t0 := .int) K hi 7 32 dX1_addNick_29 rfl (by decide) zw_1_75 rfl rfl rfl rfl (zCl_O7 _ _ _ _) ?_
    exact zv_vret K T dX1_addNick_32 (⟨rfl, congrArg (fun z => zc a ty (zCl σ i z sh)) (by unfold rAdd; first | (rw [if_pos hz]; done) | (rw [if_neg hz]; done) | (rw [if_pos hz]; rfl) | (rw [if_neg hz]; rfl))⟩)
  · skip
    refine zv_aload_n K 8 dX1_addNick_7 rfl rfl ?_
    refine zv_iload_n K 9 dX1_addNick_8 rfl rfl ?_
    refine zk_put (t0 := .int) K hi 9 12 dX1_addNick_9 rfl (by decide) zw_1_78 rfl rfl rfl rfl (zCl_O9 _ _ _ _) ?_
    refine zv_aload_n K 13 dX1_addNick_12 rfl rfl ?_
    refine zv_iload_n K 14 dX1_addNick_13 rfl rfl ?_
    refine zk_put (t0 := .int) K hi 8 17 dX1_addNick_14 rfl (by decide) zw_1_77 rfl rfl rfl rfl (zCl_O8 _ _ _ _) ?_
    refine zv_aload_n K 18 dX1_addNick_17 rfl rfl ?_
    refine zv_iload_n K 19 dX1_addNick_18 rfl rfl ?_
    refine zk_put (t0 := .int) K hi 10 22 dX1_addNick_19 rfl (by decide) zw_1_79 rfl rfl rfl rfl (zCl_O10 _ _ _ _) ?_
    refine zv_aload_n K 23 dX1_addNick_22 rfl rfl ?_
    refine zv_dup K 24 dX1_addNick_23 rfl rfl ?_
    refine zk_get (v := .int (r 7)) K hi 7 27 dX1_addNick_24 rfl (by decide) zw_1_75 rfl ?_
    refine zv_iconst K 1 28 dX1_addNick_27 rfl (by decide) ?_
    refine zv_iadd K 29 dX1_addNick_28 rfl ?_
    refine zk_put (t0 := .int) K hi 7 32 dX1_addNick_29 rfl (by decide) zw_1_75 rfl rfl rfl rfl (zCl_O7 _ _ _ _) ?_
    exact zv_vret K T dX1_addNick_32 (⟨rfl, congrArg (fun z => zc a ty (zCl σ i z sh)) (by unfold rAdd; first | (rw [if_pos hz]; done) | (rw [if_neg hz]; done) | (rw [if_pos hz]; rfl) | (rw [if_neg hz]; rfl))⟩)

set_option maxHeartbeats 4000000 in
set_option maxRecDepth 100000 in
theorem kX1_moveShares (l : Launch) (D : va_G) (ty : zTy) (a : Nat → Nat) (σ : zC) (i : Nat) (hi : i < 20) (r sh : Nat → Int32) (x y n : Int32) (p q : Nat) (hx : x = nI p) (hp : p < 10) (hy : y = nI q) (hq : q < 10) : zv_ct l D ty yX1_moveShares cX1_moveShares 4 none (zR 0 0) [.ref (a (i + 11)), .int x, .int y, .int n] (zc a ty (zCl σ i r sh)) (fun v_ w_ => v_ = none ∧ w_ = zc a ty (zCl σ i r (sMove sh p q n))) := by
  refine zv_open (by decide) rfl rfl [some (.ref (a (i + 11))), some (.int x), some (.int y), some (.int n)] (by simp [zv_one, Value.category]) (zle rfl) rfl ?_
  intro k K T
  refine zv_aload_n K 1 dX1_moveShares_0 rfl rfl ?_
  refine zk_get (v := .ref (a (i + 31))) K hi 11 4 dX1_moveShares_1 rfl (by decide) zw_1_80 rfl ?_
  refine zv_iload_n K 5 dX1_moveShares_4 rfl rfl ?_
  refine zk_ald K hi p 6 dX1_moveShares_5 rfl hx hp ?_
  refine zv_iload_n K 7 dX1_moveShares_6 rfl rfl ?_
  refine zv_icmp_lt K 30 10 dX1_moveShares_7 (by decide) rfl (fun hb => ?_) (fun hb => ?_)
  · skip
    exact zv_vret K T dX1_moveShares_30 (⟨rfl, congrArg (fun z => zc a ty (zCl σ i r z)) (by unfold sMove; first | (rw [if_pos hb]; done) | (rw [if_neg hb]; done))⟩)
  · skip
    refine zv_aload_n K 11 dX1_moveShares_10 rfl rfl ?_
    refine zk_get (v := .ref (a (i + 31))) K hi 11 14 dX1_moveShares_11 rfl (by decide) zw_1_80 rfl ?_
    refine zv_iload_n K 15 dX1_moveShares_14 rfl rfl ?_
    refine zv_dup2 K 16 dX1_moveShares_15 rfl rfl rfl ?_
    refine zk_ald K hi p 17 dX1_moveShares_16 rfl hx hp ?_
    refine zv_iload_n K 18 dX1_moveShares_17 rfl rfl ?_
    refine zv_isub K 19 dX1_moveShares_18 rfl ?_
    refine zk_ast K hi p 20 dX1_moveShares_19 rfl hx hp ?_
    refine zv_aload_n K 21 dX1_moveShares_20 rfl rfl ?_
    refine zk_get (v := .ref (a (i + 31))) K hi 11 24 dX1_moveShares_21 rfl (by decide) zw_1_80 rfl ?_
    refine zv_iload_n K 25 dX1_moveShares_24 rfl rfl ?_
    refine zv_dup2 K 26 dX1_moveShares_25 rfl rfl rfl ?_
    refine zk_ald K hi q 27 dX1_moveShares_26 rfl hy hq ?_
    refine zv_iload_n K 28 dX1_moveShares_27 rfl rfl ?_
    refine zv_iadd K 29 dX1_moveShares_28 rfl ?_
    refine zk_ast K hi q 30 dX1_moveShares_29 rfl hy hq ?_
    exact zv_vret K T dX1_moveShares_30 (⟨rfl, congrArg (fun z => zc a ty (zCl σ i r z)) (by unfold sMove; first | (rw [if_pos hb]; done) | (rw [if_neg hb]; done))⟩)

set_option maxHeartbeats 4000000 in
set_option maxRecDepth 100000 in
theorem kX1_takeNick (l : Launch) (D : va_G) (ty : zTy) (a : Nat → Nat) (σ : zC) (i : Nat) (hi : i < 20) (r sh : Nat → Int32) (m d idle : Int32) : zv_ct l D ty yX1_takeNick cX1_takeNick 4 none (zR 2 44) [.ref (a (i + 11)), .int m, .int d, .int idle] (zc a ty (zCl σ i r sh)) (fun v_ w_ => v_ = none ∧ w_ = zc a ty (zCl σ i (rNick r m d idle) (sNick r sh m d idle))) := by
  refine zv_open (by decide) rfl rfl [some (.ref (a (i + 11))), some (.int m), some (.int d), some (.int idle)] (by simp [zv_one, Value.category]) (zle rfl) rfl ?_
  intro k K T
  refine zv_iload_n K 1 dX1_takeNick_0 rfl rfl ?_
  refine zv_aload_n K 2 dX1_takeNick_1 rfl rfl ?_
  refine zk_get (v := .int (r 5)) K hi 5 5 dX1_takeNick_2 rfl (by decide) zw_1_71 rfl ?_
  refine zv_icmp_eq K 17 8 dX1_takeNick_5 (by decide) rfl (fun h1 => ?_) (fun h1 => ?_)
  · skip
    exact zv_vret K T dX1_takeNick_17 (⟨rfl, by simp only [rNick, sNick, if_pos (show m = r 5 ∨ ¬ idle < d - r 6 from Or.inl h1)]⟩)
  · skip
    refine zv_aload_n K 9 dX1_takeNick_8 rfl rfl ?_
    refine zv_iload_n K 10 dX1_takeNick_9 rfl rfl ?_
    refine zv_iload_n K 11 dX1_takeNick_10 rfl rfl ?_
    refine zv_cV1 K (q0 := (i + 11)) (As := [.int d, .int idle]) (rest := []) 2 14 (kX1_isIdle l D ty a σ i hi r sh d idle) dX1_takeNick_11 rfl zw_2_92 zw_2_93 zw_2_94 zw_1_4 zw_2_95 ⟨rfl, rfl⟩ zh_yX1_isIdle ⟨by decide, by decide⟩ (zc_cl hi) rfl rfl rfl (zle rfl) rfl ?_
    refine zv_ifB_ne K 18 17 dX1_takeNick_14 (by decide) rfl (fun h2 => ?_) (fun h2 => ?_)
    · skip
      refine zv_iload_n K 19 dX1_takeNick_18 rfl rfl ?_
      refine zv_aload_n K 20 dX1_takeNick_19 rfl rfl ?_
      refine zk_get (v := .int (r 8)) K hi 8 23 dX1_takeNick_20 rfl (by decide) zw_1_77 rfl ?_
      refine zv_icmp_ne K 37 26 dX1_takeNick_23 (by decide) rfl (fun h3 => ?_) (fun h3 => ?_)
      · skip
        refine zv_aload_n K 38 dX1_takeNick_37 rfl rfl ?_
        refine zv_iconst K 0 39 dX1_takeNick_38 rfl (by decide) ?_
        refine zk_put (t0 := .int) K hi 7 42 dX1_takeNick_39 rfl (by decide) zw_1_75 rfl rfl rfl rfl (zCl_O7 _ _ _ _) ?_
        refine zv_aload_n K 43 dX1_takeNick_42 rfl rfl ?_
        refine zk_get (v := .int 0) K hi 7 46 dX1_takeNick_43 rfl (by decide) zw_1_75 rfl ?_
        refine zv_if_le K 58 49 dX1_takeNick_46 (by decide) rfl (fun h4 => ?_) (fun h4 => ?_)
        · skip
          refine zv_aload_n K 59 dX1_takeNick_58 rfl rfl ?_
          refine zv_iload_n K 60 dX1_takeNick_59 rfl rfl ?_
          refine zv_iload_n K 61 dX1_takeNick_60 rfl rfl ?_
          refine zv_cV0 K (q0 := (i + 11)) (As := [.int m, .int d]) (rest := []) 2 64 (kX1_addNick l D ty a σ i hi (upd r 7 0) sh m d) dX1_takeNick_61 rfl zw_2_96 zw_2_98 zw_p1_12 zw_1_4 zw_2_99 ⟨rfl, rfl⟩ zh_yX1_addNick ⟨by decide, by decide⟩ (zc_cl hi) rfl rfl rfl (zle rfl) rfl ?_
          refine zv_aload_n K 65 dX1_takeNick_64 rfl rfl ?_
          refine zk_get (v := .int ((rAdd (upd r 7 0) m d) 7)) K hi 7 68 dX1_takeNick_65 rfl (by decide) zw_1_75 rfl ?_
          refine zv_iconst K 3 69 dX1_takeNick_68 rfl (by decide) ?_
          refine zv_icmp_lt K 78 72 dX1_takeNick_69 (by decide) rfl (fun h5 => ?_) (fun h5 => ?_)
          · skip
            exact zv_vret K T dX1_takeNick_78 (⟨rfl, by have c1 : ¬ (m = r 5 ∨ ¬ idle < d - r 6) := fun q => q.elim (fun q => h1 q) (fun q => q h2); have e : rStale r m d = upd r 7 0 := if_pos (Or.inl h3); have c2 : ¬ (0 < (upd r 7 0) 7 ∧ (upd r 7 0) 10 = d) := fun q => z_len h4 q.1; have c3 : ¬ 3 ≤ rAdd (upd r 7 0) m d 7 := z_ltn h5; simp only [rNick, sNick, if_neg c1, e, if_neg c2, if_neg c3]⟩)
          · skip
            refine zv_aload_n K 73 dX1_takeNick_72 rfl rfl ?_
            refine zv_iload_n K 74 dX1_takeNick_73 rfl rfl ?_
            refine zv_iload_n K 75 dX1_takeNick_74 rfl rfl ?_
            refine zv_cV0 K (q0 := (i + 11)) (As := [.int m, .int d]) (rest := []) 2 78 (kX1_passTo l D ty a σ i hi (rAdd (upd r 7 0) m d) sh m d) dX1_takeNick_75 rfl zw_2_59 zw_2_61 zw_p1_8 zw_1_4 zw_2_62 ⟨rfl, rfl⟩ zh_yX1_passTo ⟨by decide, by decide⟩ (zc_cl hi) rfl rfl rfl (zle rfl) rfl ?_
            exact zv_vret K T dX1_takeNick_78 (⟨rfl, by have c1 : ¬ (m = r 5 ∨ ¬ idle < d - r 6) := fun q => q.elim (fun q => h1 q) (fun q => q h2); have e : rStale r m d = upd r 7 0 := if_pos (Or.inl h3); have c2 : ¬ (0 < (upd r 7 0) 7 ∧ (upd r 7 0) 10 = d) := fun q => z_len h4 q.1; have c3 : 3 ≤ rAdd (upd r 7 0) m d 7 := z_nlt h5; simp only [rNick, sNick, if_neg c1, e, if_neg c2, if_pos c3]⟩)
        · skip
          refine zv_aload_n K 50 dX1_takeNick_49 rfl rfl ?_
          refine zk_get (v := .int (r 10)) K hi 10 53 dX1_takeNick_50 rfl (by decide) zw_1_79 rfl ?_
          refine zv_iload_n K 54 dX1_takeNick_53 rfl rfl ?_
          refine zv_icmp_ne K 58 57 dX1_takeNick_54 (by decide) rfl (fun h6 => ?_) (fun h6 => ?_)
          · skip
            refine zv_aload_n K 59 dX1_takeNick_58 rfl rfl ?_
            refine zv_iload_n K 60 dX1_takeNick_59 rfl rfl ?_
            refine zv_iload_n K 61 dX1_takeNick_60 rfl rfl ?_
            refine zv_cV0 K (q0 := (i + 11)) (As := [.int m, .int d]) (rest := []) 2 64 (kX1_addNick l D ty a σ i hi (upd r 7 0) sh m d) dX1_takeNick_61 rfl zw_2_96 zw_2_98 zw_p1_12 zw_1_4 zw_2_99 ⟨rfl, rfl⟩ zh_yX1_addNick ⟨by decide, by decide⟩ (zc_cl hi) rfl rfl rfl (zle rfl) rfl ?_
            refine zv_aload_n K 65 dX1_takeNick_64 rfl rfl ?_
            refine zk_get (v := .int ((rAdd (upd r 7 0) m d) 7)) K hi 7 68 dX1_takeNick_65 rfl (by decide) zw_1_75 rfl ?_
            refine zv_iconst K 3 69 dX1_takeNick_68 rfl (by decide) ?_
            refine zv_icmp_lt K 78 72 dX1_takeNick_69 (by decide) rfl (fun h7 => ?_) (fun h7 => ?_)
            · skip
              exact zv_vret K T dX1_takeNick_78 (⟨rfl, by have c1 : ¬ (m = r 5 ∨ ¬ idle < d - r 6) := fun q => q.elim (fun q => h1 q) (fun q => q h2); have e : rStale r m d = upd r 7 0 := if_pos (Or.inl h3); have c2 : ¬ (0 < (upd r 7 0) 7 ∧ (upd r 7 0) 10 = d) := fun q => h6 q.2; have c3 : ¬ 3 ≤ rAdd (upd r 7 0) m d 7 := z_ltn h7; simp only [rNick, sNick, if_neg c1, e, if_neg c2, if_neg c3]⟩)
            · skip
              refine zv_aload_n K 73 dX1_takeNick_72 rfl rfl ?_
              refine zv_iload_n K 74 dX1_takeNick_73 rfl rfl ?_
              refine zv_iload_n K 75 dX1_takeNick_74 rfl rfl ?_
              refine zv_cV0 K (q0 := (i + 11)) (As := [.int m, .int d]) (rest := []) 2 78 (kX1_passTo l D ty a σ i hi (rAdd (upd r 7 0) m d) sh m d) dX1_takeNick_75 rfl zw_2_59 zw_2_61 zw_p1_8 zw_1_4 zw_2_62 ⟨rfl, rfl⟩ zh_yX1_passTo ⟨by decide, by decide⟩ (zc_cl hi) rfl rfl rfl (zle rfl) rfl ?_
              exact zv_vret K T dX1_takeNick_78 (⟨rfl, by have c1 : ¬ (m = r 5 ∨ ¬ idle < d - r 6) := fun q => q.elim (fun q => h1 q) (fun q => q h2); have e : rStale r m d = upd r 7 0 := if_pos (Or.inl h3); have c2 : ¬ (0 < (upd r 7 0) 7 ∧ (upd r 7 0) 10 = d) := fun q => h6 q.2; have c3 : 3 ≤ rAdd (upd r 7 0) m d 7 := z_nlt h7; simp only [rNick, sNick, if_neg c1, e, if_neg c2, if_pos c3]⟩)
          · skip
            exact zv_vret K T dX1_takeNick_57 (⟨rfl, by have c1 : ¬ (m = r 5 ∨ ¬ idle < d - r 6) := fun q => q.elim (fun q => h1 q) (fun q => q h2); have e : rStale r m d = upd r 7 0 := if_pos (Or.inl h3); have c2 : (0 < (upd r 7 0) 7 ∧ (upd r 7 0) 10 = d) := ⟨z_nle h4, h6⟩; simp only [rNick, sNick, if_neg c1, e, if_pos c2]⟩)
      · skip
        refine zv_iload_n K 27 dX1_takeNick_26 rfl rfl ?_
        refine zv_aload_n K 28 dX1_takeNick_27 rfl rfl ?_
        refine zk_get (v := .int (r 9)) K hi 9 31 dX1_takeNick_28 rfl (by decide) zw_1_78 rfl ?_
        refine zv_isub K 32 dX1_takeNick_31 rfl ?_
        refine zv_bipush K 10 34 dX1_takeNick_32 rfl (by decide) ?_
        refine zv_icmp_le K 42 37 dX1_takeNick_34 (by decide) rfl (fun h8 => ?_) (fun h8 => ?_)
        · skip
          refine zv_aload_n K 43 dX1_takeNick_42 rfl rfl ?_
          refine zk_get (v := .int (r 7)) K hi 7 46 dX1_takeNick_43 rfl (by decide) zw_1_75 rfl ?_
          refine zv_if_le K 58 49 dX1_takeNick_46 (by decide) rfl (fun h9 => ?_) (fun h9 => ?_)
          · skip
            refine zv_aload_n K 59 dX1_takeNick_58 rfl rfl ?_
            refine zv_iload_n K 60 dX1_takeNick_59 rfl rfl ?_
            refine zv_iload_n K 61 dX1_takeNick_60 rfl rfl ?_
            refine zv_cV0 K (q0 := (i + 11)) (As := [.int m, .int d]) (rest := []) 2 64 (kX1_addNick l D ty a σ i hi r sh m d) dX1_takeNick_61 rfl zw_2_96 zw_2_98 zw_p1_12 zw_1_4 zw_2_99 ⟨rfl, rfl⟩ zh_yX1_addNick ⟨by decide, by decide⟩ (zc_cl hi) rfl rfl rfl (zle rfl) rfl ?_
            refine zv_aload_n K 65 dX1_takeNick_64 rfl rfl ?_
            refine zk_get (v := .int ((rAdd r m d) 7)) K hi 7 68 dX1_takeNick_65 rfl (by decide) zw_1_75 rfl ?_
            refine zv_iconst K 3 69 dX1_takeNick_68 rfl (by decide) ?_
            refine zv_icmp_lt K 78 72 dX1_takeNick_69 (by decide) rfl (fun h10 => ?_) (fun h10 => ?_)
            · skip
              exact zv_vret K T dX1_takeNick_78 (⟨rfl, by have c1 : ¬ (m = r 5 ∨ ¬ idle < d - r 6) := fun q => q.elim (fun q => h1 q) (fun q => q h2); have e : rStale r m d = r := if_neg (fun q => q.elim (fun q => q h3) (fun q => z_len h8 q)); have c2 : ¬ (0 < r 7 ∧ r 10 = d) := fun q => z_len h9 q.1; have c3 : ¬ 3 ≤ rAdd r m d 7 := z_ltn h10; simp only [rNick, sNick, if_neg c1, e, if_neg c2, if_neg c3]⟩)
            · skip
              refine zv_aload_n K 73 dX1_takeNick_72 rfl rfl ?_
              refine zv_iload_n K 74 dX1_takeNick_73 rfl rfl ?_
              refine zv_iload_n K 75 dX1_takeNick_74 rfl rfl ?_
              refine zv_cV0 K (q0 := (i + 11)) (As := [.int m, .int d]) (rest := []) 2 78 (kX1_passTo l D ty a σ i hi (rAdd r m d) sh m d) dX1_takeNick_75 rfl zw_2_59 zw_2_61 zw_p1_8 zw_1_4 zw_2_62 ⟨rfl, rfl⟩ zh_yX1_passTo ⟨by decide, by decide⟩ (zc_cl hi) rfl rfl rfl (zle rfl) rfl ?_
              exact zv_vret K T dX1_takeNick_78 (⟨rfl, by have c1 : ¬ (m = r 5 ∨ ¬ idle < d - r 6) := fun q => q.elim (fun q => h1 q) (fun q => q h2); have e : rStale r m d = r := if_neg (fun q => q.elim (fun q => q h3) (fun q => z_len h8 q)); have c2 : ¬ (0 < r 7 ∧ r 10 = d) := fun q => z_len h9 q.1; have c3 : 3 ≤ rAdd r m d 7 := z_nlt h10; simp only [rNick, sNick, if_neg c1, e, if_neg c2, if_pos c3]⟩)
          · skip
            refine zv_aload_n K 50 dX1_takeNick_49 rfl rfl ?_
            refine zk_get (v := .int (r 10)) K hi 10 53 dX1_takeNick_50 rfl (by decide) zw_1_79 rfl ?_
            refine zv_iload_n K 54 dX1_takeNick_53 rfl rfl ?_
            refine zv_icmp_ne K 58 57 dX1_takeNick_54 (by decide) rfl (fun h11 => ?_) (fun h11 => ?_)
            · skip
              refine zv_aload_n K 59 dX1_takeNick_58 rfl rfl ?_
              refine zv_iload_n K 60 dX1_takeNick_59 rfl rfl ?_
              refine zv_iload_n K 61 dX1_takeNick_60 rfl rfl ?_
              refine zv_cV0 K (q0 := (i + 11)) (As := [.int m, .int d]) (rest := []) 2 64 (kX1_addNick l D ty a σ i hi r sh m d) dX1_takeNick_61 rfl zw_2_96 zw_2_98 zw_p1_12 zw_1_4 zw_2_99 ⟨rfl, rfl⟩ zh_yX1_addNick ⟨by decide, by decide⟩ (zc_cl hi) rfl rfl rfl (zle rfl) rfl ?_
              refine zv_aload_n K 65 dX1_takeNick_64 rfl rfl ?_
              refine zk_get (v := .int ((rAdd r m d) 7)) K hi 7 68 dX1_takeNick_65 rfl (by decide) zw_1_75 rfl ?_
              refine zv_iconst K 3 69 dX1_takeNick_68 rfl (by decide) ?_
              refine zv_icmp_lt K 78 72 dX1_takeNick_69 (by decide) rfl (fun h12 => ?_) (fun h12 => ?_)
              · skip
                exact zv_vret K T dX1_takeNick_78 (⟨rfl, by have c1 : ¬ (m = r 5 ∨ ¬ idle < d - r 6) := fun q => q.elim (fun q => h1 q) (fun q => q h2); have e : rStale r m d = r := if_neg (fun q => q.elim (fun q => q h3) (fun q => z_len h8 q)); have c2 : ¬ (0 < r 7 ∧ r 10 = d) := fun q => h11 q.2; have c3 : ¬ 3 ≤ rAdd r m d 7 := z_ltn h12; simp only [rNick, sNick, if_neg c1, e, if_neg c2, if_neg c3]⟩)
              · skip
                refine zv_aload_n K 73 dX1_takeNick_72 rfl rfl ?_
                refine zv_iload_n K 74 dX1_takeNick_73 rfl rfl ?_
                refine zv_iload_n K 75 dX1_takeNick_74 rfl rfl ?_
                refine zv_cV0 K (q0 := (i + 11)) (As := [.int m, .int d]) (rest := []) 2 78 (kX1_passTo l D ty a σ i hi (rAdd r m d) sh m d) dX1_takeNick_75 rfl zw_2_59 zw_2_61 zw_p1_8 zw_1_4 zw_2_62 ⟨rfl, rfl⟩ zh_yX1_passTo ⟨by decide, by decide⟩ (zc_cl hi) rfl rfl rfl (zle rfl) rfl ?_
                exact zv_vret K T dX1_takeNick_78 (⟨rfl, by have c1 : ¬ (m = r 5 ∨ ¬ idle < d - r 6) := fun q => q.elim (fun q => h1 q) (fun q => q h2); have e : rStale r m d = r := if_neg (fun q => q.elim (fun q => q h3) (fun q => z_len h8 q)); have c2 : ¬ (0 < r 7 ∧ r 10 = d) := fun q => h11 q.2; have c3 : 3 ≤ rAdd r m d 7 := z_nlt h12; simp only [rNick, sNick, if_neg c1, e, if_neg c2, if_pos c3]⟩)
            · skip
              exact zv_vret K T dX1_takeNick_57 (⟨rfl, by have c1 : ¬ (m = r 5 ∨ ¬ idle < d - r 6) := fun q => q.elim (fun q => h1 q) (fun q => q h2); have e : rStale r m d = r := if_neg (fun q => q.elim (fun q => q h3) (fun q => z_len h8 q)); have c2 : (0 < r 7 ∧ r 10 = d) := ⟨z_nle h9, h11⟩; simp only [rNick, sNick, if_neg c1, e, if_pos c2]⟩)
        · skip
          refine zv_aload_n K 38 dX1_takeNick_37 rfl rfl ?_
          refine zv_iconst K 0 39 dX1_takeNick_38 rfl (by decide) ?_
          refine zk_put (t0 := .int) K hi 7 42 dX1_takeNick_39 rfl (by decide) zw_1_75 rfl rfl rfl rfl (zCl_O7 _ _ _ _) ?_
          refine zv_aload_n K 43 dX1_takeNick_42 rfl rfl ?_
          refine zk_get (v := .int 0) K hi 7 46 dX1_takeNick_43 rfl (by decide) zw_1_75 rfl ?_
          refine zv_if_le K 58 49 dX1_takeNick_46 (by decide) rfl (fun h13 => ?_) (fun h13 => ?_)
          · skip
            refine zv_aload_n K 59 dX1_takeNick_58 rfl rfl ?_
            refine zv_iload_n K 60 dX1_takeNick_59 rfl rfl ?_
            refine zv_iload_n K 61 dX1_takeNick_60 rfl rfl ?_
            refine zv_cV0 K (q0 := (i + 11)) (As := [.int m, .int d]) (rest := []) 2 64 (kX1_addNick l D ty a σ i hi (upd r 7 0) sh m d) dX1_takeNick_61 rfl zw_2_96 zw_2_98 zw_p1_12 zw_1_4 zw_2_99 ⟨rfl, rfl⟩ zh_yX1_addNick ⟨by decide, by decide⟩ (zc_cl hi) rfl rfl rfl (zle rfl) rfl ?_
            refine zv_aload_n K 65 dX1_takeNick_64 rfl rfl ?_
            refine zk_get (v := .int ((rAdd (upd r 7 0) m d) 7)) K hi 7 68 dX1_takeNick_65 rfl (by decide) zw_1_75 rfl ?_
            refine zv_iconst K 3 69 dX1_takeNick_68 rfl (by decide) ?_
            refine zv_icmp_lt K 78 72 dX1_takeNick_69 (by decide) rfl (fun h14 => ?_) (fun h14 => ?_)
            · skip
              exact zv_vret K T dX1_takeNick_78 (⟨rfl, by have c1 : ¬ (m = r 5 ∨ ¬ idle < d - r 6) := fun q => q.elim (fun q => h1 q) (fun q => q h2); have e : rStale r m d = upd r 7 0 := if_pos (Or.inr (z_nle h8)); have c2 : ¬ (0 < (upd r 7 0) 7 ∧ (upd r 7 0) 10 = d) := fun q => z_len h13 q.1; have c3 : ¬ 3 ≤ rAdd (upd r 7 0) m d 7 := z_ltn h14; simp only [rNick, sNick, if_neg c1, e, if_neg c2, if_neg c3]⟩)
            · skip
              refine zv_aload_n K 73 dX1_takeNick_72 rfl rfl ?_
              refine zv_iload_n K 74 dX1_takeNick_73 rfl rfl ?_
              refine zv_iload_n K 75 dX1_takeNick_74 rfl rfl ?_
              refine zv_cV0 K (q0 := (i + 11)) (As := [.int m, .int d]) (rest := []) 2 78 (kX1_passTo l D ty a σ i hi (rAdd (upd r 7 0) m d) sh m d) dX1_takeNick_75 rfl zw_2_59 zw_2_61 zw_p1_8 zw_1_4 zw_2_62 ⟨rfl, rfl⟩ zh_yX1_passTo ⟨by decide, by decide⟩ (zc_cl hi) rfl rfl rfl (zle rfl) rfl ?_
              exact zv_vret K T dX1_takeNick_78 (⟨rfl, by have c1 : ¬ (m = r 5 ∨ ¬ idle < d - r 6) := fun q => q.elim (fun q => h1 q) (fun q => q h2); have e : rStale r m d = upd r 7 0 := if_pos (Or.inr (z_nle h8)); have c2 : ¬ (0 < (upd r 7 0) 7 ∧ (upd r 7 0) 10 = d) := fun q => z_len h13 q.1; have c3 : 3 ≤ rAdd (upd r 7 0) m d 7 := z_nlt h14; simp only [rNick, sNick, if_neg c1, e, if_neg c2, if_pos c3]⟩)
          · skip
            refine zv_aload_n K 50 dX1_takeNick_49 rfl rfl ?_
            refine zk_get (v := .int (r 10)) K hi 10 53 dX1_takeNick_50 rfl (by decide) zw_1_79 rfl ?_
            refine zv_iload_n K 54 dX1_takeNick_53 rfl rfl ?_
            refine zv_icmp_ne K 58 57 dX1_takeNick_54 (by decide) rfl (fun h15 => ?_) (fun h15 => ?_)
            · skip
              refine zv_aload_n K 59 dX1_takeNick_58 rfl rfl ?_
              refine zv_iload_n K 60 dX1_takeNick_59 rfl rfl ?_
              refine zv_iload_n K 61 dX1_takeNick_60 rfl rfl ?_
              refine zv_cV0 K (q0 := (i + 11)) (As := [.int m, .int d]) (rest := []) 2 64 (kX1_addNick l D ty a σ i hi (upd r 7 0) sh m d) dX1_takeNick_61 rfl zw_2_96 zw_2_98 zw_p1_12 zw_1_4 zw_2_99 ⟨rfl, rfl⟩ zh_yX1_addNick ⟨by decide, by decide⟩ (zc_cl hi) rfl rfl rfl (zle rfl) rfl ?_
              refine zv_aload_n K 65 dX1_takeNick_64 rfl rfl ?_
              refine zk_get (v := .int ((rAdd (upd r 7 0) m d) 7)) K hi 7 68 dX1_takeNick_65 rfl (by decide) zw_1_75 rfl ?_
              refine zv_iconst K 3 69 dX1_takeNick_68 rfl (by decide) ?_
              refine zv_icmp_lt K 78 72 dX1_takeNick_69 (by decide) rfl (fun h16 => ?_) (fun h16 => ?_)
              · skip
                exact zv_vret K T dX1_takeNick_78 (⟨rfl, by have c1 : ¬ (m = r 5 ∨ ¬ idle < d - r 6) := fun q => q.elim (fun q => h1 q) (fun q => q h2); have e : rStale r m d = upd r 7 0 := if_pos (Or.inr (z_nle h8)); have c2 : ¬ (0 < (upd r 7 0) 7 ∧ (upd r 7 0) 10 = d) := fun q => h15 q.2; have c3 : ¬ 3 ≤ rAdd (upd r 7 0) m d 7 := z_ltn h16; simp only [rNick, sNick, if_neg c1, e, if_neg c2, if_neg c3]⟩)
              · skip
                refine zv_aload_n K 73 dX1_takeNick_72 rfl rfl ?_
                refine zv_iload_n K 74 dX1_takeNick_73 rfl rfl ?_
                refine zv_iload_n K 75 dX1_takeNick_74 rfl rfl ?_
                refine zv_cV0 K (q0 := (i + 11)) (As := [.int m, .int d]) (rest := []) 2 78 (kX1_passTo l D ty a σ i hi (rAdd (upd r 7 0) m d) sh m d) dX1_takeNick_75 rfl zw_2_59 zw_2_61 zw_p1_8 zw_1_4 zw_2_62 ⟨rfl, rfl⟩ zh_yX1_passTo ⟨by decide, by decide⟩ (zc_cl hi) rfl rfl rfl (zle rfl) rfl ?_
                exact zv_vret K T dX1_takeNick_78 (⟨rfl, by have c1 : ¬ (m = r 5 ∨ ¬ idle < d - r 6) := fun q => q.elim (fun q => h1 q) (fun q => q h2); have e : rStale r m d = upd r 7 0 := if_pos (Or.inr (z_nle h8)); have c2 : ¬ (0 < (upd r 7 0) 7 ∧ (upd r 7 0) 10 = d) := fun q => h15 q.2; have c3 : 3 ≤ rAdd (upd r 7 0) m d 7 := z_nlt h16; simp only [rNick, sNick, if_neg c1, e, if_neg c2, if_pos c3]⟩)
            · skip
              exact zv_vret K T dX1_takeNick_57 (⟨rfl, by have c1 : ¬ (m = r 5 ∨ ¬ idle < d - r 6) := fun q => q.elim (fun q => h1 q) (fun q => q h2); have e : rStale r m d = upd r 7 0 := if_pos (Or.inr (z_nle h8)); have c2 : (0 < (upd r 7 0) 7 ∧ (upd r 7 0) 10 = d) := ⟨z_nle h13, h15⟩; simp only [rNick, sNick, if_neg c1, e, if_pos c2]⟩)
    · skip
      exact zv_vret K T dX1_takeNick_17 (⟨rfl, by simp only [rNick, sNick, if_pos (show m = r 5 ∨ ¬ idle < d - r 6 from Or.inr h2)]⟩)

set_option maxHeartbeats 4000000 in
set_option maxRecDepth 100000 in
theorem kX1_turn (l : Launch) (D : va_G) (ty : zTy) (a : Nat → Nat) (σ : zC) (i : Nat) (hi : i < 20) (r sh : Nat → Int32) (x idle : Int32) (f : Nat) (hx : x = nI f) (hf : f < 90) (h5 : zg σ f 0 = 5 → ∃ p q : Nat, p < 10 ∧ zg σ f 5 = nI p ∧ q < 10 ∧ zg σ f 10 = nI q) : zv_ct l D ty yX1_turn cX1_turn 5 none (zR 3 67) [.ref (a (i + 11)), .ref (a 1), .int x, .int idle] (zc a ty (zCl σ i r sh)) (fun v_ w_ => v_ = none ∧ w_ = zc a ty (zCl σ i (rTurn σ r f idle) (sTurn σ r sh f idle))) := by
  refine zv_open (by decide) rfl rfl [some (.ref (a (i + 11))), some (.ref (a 1)), some (.int x), some (.int idle), none] (by simp [zv_one, Value.category]) (zle rfl) rfl ?_
  intro k K T
  refine zv_aload_n K 1 dX1_turn_0 rfl rfl ?_
  refine zv_iload_n K 2 dX1_turn_1 rfl rfl ?_
  refine zv_iconst K 1 3 dX1_turn_2 rfl (by decide) ?_
  refine zv_cV1 K (q0 := 1) (As := [.int x, .int 1]) (rest := []) 2 6 (kX0_get l D ty a (zCl σ i r sh) x 1 f 1 hx rfl hf (by decide)) dX1_turn_3 rfl zw_2_54 zw_1_186 zw_1_187 zw_1_2 zw_1_188 ⟨rfl, rfl⟩ zh_yX0_get ⟨by decide, by decide⟩ (zc_at (j := 1) (by decide)) rfl rfl rfl (zle rfl) rfl ?_
  refine zv_topi (zg σ f 1) (zg_Cl _ _ _ _ _ _) ?_
  refine zv_istore K [some (.ref (a (i + 11))), some (.ref (a 1)), some (.int x), some (.int idle), some (.int (zg σ f 1))] 8 dX1_turn_6 rfl rfl (zlt rfl) ?_
  refine zv_aload_n K 9 dX1_turn_8 rfl rfl ?_
  refine zv_iload_n K 10 dX1_turn_9 rfl rfl ?_
  refine zv_iconst K 0 11 dX1_turn_10 rfl (by decide) ?_
  refine zv_cV1 K (q0 := 1) (As := [.int x, .int 0]) (rest := []) 2 14 (kX0_get l D ty a (zCl σ i r sh) x 0 f 0 hx rfl hf (by decide)) dX1_turn_11 rfl zw_2_54 zw_1_186 zw_1_187 zw_1_2 zw_1_188 ⟨rfl, rfl⟩ zh_yX0_get ⟨by decide, by decide⟩ (zc_at (j := 1) (by decide)) rfl rfl rfl (zle rfl) rfl ?_
  refine zv_topi (zg σ f 0) (zg_Cl _ _ _ _ _ _) ?_
  by_cases e_1 : zg σ f 0 = 1
  · refine zv_tableIn (off := 34) K 48 dX1_turn_14 (by rw [e_1]; decide) (by rw [e_1]; decide) (by rw [e_1]; rfl) (by decide) ?_
    refine zv_aload_n K 49 dX1_turn_48 rfl rfl ?_
    refine zv_iload K 51 dX1_turn_49 rfl rfl ?_
    refine zv_cV0 K (q0 := (i + 11)) (As := [.int (zg σ f 1)]) (rest := []) 1 54 (kX1_setWorked l D ty a σ i hi r sh (zg σ f 1)) dX1_turn_51 rfl zw_2_63 zw_2_65 zw_p1_9 zw_1_4 zw_2_66 ⟨rfl, rfl⟩ zh_yX1_setWorked ⟨by decide, by decide⟩ (zc_cl hi) rfl rfl rfl (zle rfl) rfl ?_
    refine zv_goto K 129 dX1_turn_54 (by decide) ?_
    exact zv_vret K T dX1_turn_129 (⟨rfl, by have n_2 : ¬ zg σ f 0 = 2 := (by rw [e_1]; decide); have n_3 : ¬ zg σ f 0 = 3 := (by rw [e_1]; decide); have n_4 : ¬ zg σ f 0 = 4 := (by rw [e_1]; decide); have n_5 : ¬ zg σ f 0 = 5 := (by rw [e_1]; decide); simp only [rTurn, sTurn, if_pos e_1, if_neg n_2, if_neg n_3, if_neg n_4, if_neg n_5]⟩)
  · skip
    by_cases e_2 : zg σ f 0 = 2
    · refine zv_tableIn (off := 43) K 57 dX1_turn_14 (by rw [e_2]; decide) (by rw [e_2]; decide) (by rw [e_2]; rfl) (by decide) ?_
      refine zv_aload_n K 58 dX1_turn_57 rfl rfl ?_
      refine zv_aload_n K 59 dX1_turn_58 rfl rfl ?_
      refine zv_iload_n K 60 dX1_turn_59 rfl rfl ?_
      refine zv_iconst K 5 61 dX1_turn_60 rfl (by decide) ?_
      refine zv_cV1 K (q0 := 1) (As := [.int x, .int 5]) (rest := [.ref (a (i + 11))]) 2 64 (kX0_get l D ty a (zCl σ i r sh) x 5 f 5 hx rfl hf (by decide)) dX1_turn_61 rfl zw_2_54 zw_1_186 zw_1_187 zw_1_2 zw_1_188 ⟨rfl, rfl⟩ zh_yX0_get ⟨by decide, by decide⟩ (zc_at (j := 1) (by decide)) rfl rfl rfl (zle rfl) rfl ?_
      refine zv_topi (zg σ f 5) (zg_Cl _ _ _ _ _ _) ?_
      refine zv_iload K 66 dX1_turn_64 rfl rfl ?_
      refine zv_iload_n K 67 dX1_turn_66 rfl rfl ?_
      refine zv_cV0 K (q0 := (i + 11)) (As := [.int (zg σ f 5), .int (zg σ f 1), .int idle]) (rest := []) 3 70 (kX1_takeNick l D ty a σ i hi r sh (zg σ f 5) (zg σ f 1) idle) dX1_turn_67 rfl zw_2_88 zw_2_90 zw_p1_11 zw_1_4 zw_2_91 ⟨rfl, rfl⟩ zh_yX1_takeNick ⟨by decide, by decide⟩ (zc_cl hi) rfl rfl rfl (zle rfl) rfl ?_
      refine zv_goto K 129 dX1_turn_70 (by decide) ?_
      exact zv_vret K T dX1_turn_129 (⟨rfl, by have n_1 : ¬ zg σ f 0 = 1 := (by rw [e_2]; decide); have n_3 : ¬ zg σ f 0 = 3 := (by rw [e_2]; decide); have n_4 : ¬ zg σ f 0 = 4 := (by rw [e_2]; decide); have n_5 : ¬ zg σ f 0 = 5 := (by rw [e_2]; decide); simp only [rTurn, sTurn, if_pos e_2, if_neg n_1, if_neg n_3, if_neg n_4, if_neg n_5]⟩)
    · skip
      by_cases e_3 : zg σ f 0 = 3
      · refine zv_tableIn (off := 59) K 73 dX1_turn_14 (by rw [e_3]; decide) (by rw [e_3]; decide) (by rw [e_3]; rfl) (by decide) ?_
        refine zv_aload_n K 74 dX1_turn_73 rfl rfl ?_
        refine zv_iconst K 0 75 dX1_turn_74 rfl (by decide) ?_
        refine zk_put (t0 := .boolean) K hi 0 78 dX1_turn_75 rfl (by decide) zw_1_57 rfl rfl rfl rfl (zCl_O0 _ _ _ _) ?_
        refine zv_goto K 129 dX1_turn_78 (by decide) ?_
        exact zv_vret K T dX1_turn_129 (⟨rfl, by have n_1 : ¬ zg σ f 0 = 1 := (by rw [e_3]; decide); have n_2 : ¬ zg σ f 0 = 2 := (by rw [e_3]; decide); have n_4 : ¬ zg σ f 0 = 4 := (by rw [e_3]; decide); have n_5 : ¬ zg σ f 0 = 5 := (by rw [e_3]; decide); simp only [rTurn, sTurn, if_pos e_3, if_neg n_1, if_neg n_2, if_neg n_4, if_neg n_5]⟩)
      · skip
        by_cases e_4 : zg σ f 0 = 4
        · refine zv_tableIn (off := 67) K 81 dX1_turn_14 (by rw [e_4]; decide) (by rw [e_4]; decide) (by rw [e_4]; rfl) (by decide) ?_
          refine zv_aload_n K 82 dX1_turn_81 rfl rfl ?_
          refine zv_aload_n K 83 dX1_turn_82 rfl rfl ?_
          refine zv_iload_n K 84 dX1_turn_83 rfl rfl ?_
          refine zv_bipush K 6 86 dX1_turn_84 rfl (by decide) ?_
          refine zv_cV1 K (q0 := 1) (As := [.int x, .int 6]) (rest := [.ref (a (i + 11))]) 2 89 (kX0_get l D ty a (zCl σ i r sh) x 6 f 6 hx rfl hf (by decide)) dX1_turn_86 rfl zw_2_54 zw_1_186 zw_1_187 zw_1_2 zw_1_188 ⟨rfl, rfl⟩ zh_yX0_get ⟨by decide, by decide⟩ (zc_at (j := 1) (by decide)) rfl rfl rfl (zle rfl) rfl ?_
          refine zv_topi (zg σ f 6) (zg_Cl _ _ _ _ _ _) ?_
          refine zv_aload_n K 90 dX1_turn_89 rfl rfl ?_
          refine zv_iload_n K 91 dX1_turn_90 rfl rfl ?_
          refine zv_bipush K 7 93 dX1_turn_91 rfl (by decide) ?_
          refine zv_cV1 K (q0 := 1) (As := [.int x, .int 7]) (rest := [.int (zg σ f 6), .ref (a (i + 11))]) 2 96 (kX0_get l D ty a (zCl σ i r sh) x 7 f 7 hx rfl hf (by decide)) dX1_turn_93 rfl zw_2_54 zw_1_186 zw_1_187 zw_1_2 zw_1_188 ⟨rfl, rfl⟩ zh_yX0_get ⟨by decide, by decide⟩ (zc_at (j := 1) (by decide)) rfl rfl rfl (zle rfl) rfl ?_
          refine zv_topi (zg σ f 7) (zg_Cl _ _ _ _ _ _) ?_
          refine zv_cV0 K (q0 := (i + 11)) (As := [.int (zg σ f 6), .int (zg σ f 7)]) (rest := []) 2 99 (kX1_setFeet l D ty a σ i hi r sh (zg σ f 6) (zg σ f 7)) dX1_turn_96 rfl zw_2_55 zw_2_57 zw_p1_7 zw_1_4 zw_2_58 ⟨rfl, rfl⟩ zh_yX1_setFeet ⟨by decide, by decide⟩ (zc_cl hi) rfl rfl rfl (zle rfl) rfl ?_
          refine zv_goto K 129 dX1_turn_99 (by decide) ?_
          exact zv_vret K T dX1_turn_129 (⟨rfl, by have n_1 : ¬ zg σ f 0 = 1 := (by rw [e_4]; decide); have n_2 : ¬ zg σ f 0 = 2 := (by rw [e_4]; decide); have n_3 : ¬ zg σ f 0 = 3 := (by rw [e_4]; decide); have n_5 : ¬ zg σ f 0 = 5 := (by rw [e_4]; decide); simp only [rTurn, sTurn, if_pos e_4, if_neg n_1, if_neg n_2, if_neg n_3, if_neg n_5]⟩)
        · skip
          by_cases e_5 : zg σ f 0 = 5
          · refine zv_tableIn (off := 88) K 102 dX1_turn_14 (by rw [e_5]; decide) (by rw [e_5]; decide) (by rw [e_5]; rfl) (by decide) ?_
            obtain ⟨p, q, h50, h51, h52, h53⟩ := h5 e_5
            refine zv_aload_n K 103 dX1_turn_102 rfl rfl ?_
            refine zv_aload_n K 104 dX1_turn_103 rfl rfl ?_
            refine zv_iload_n K 105 dX1_turn_104 rfl rfl ?_
            refine zv_iconst K 5 106 dX1_turn_105 rfl (by decide) ?_
            refine zv_cV1 K (q0 := 1) (As := [.int x, .int 5]) (rest := [.ref (a (i + 11))]) 2 109 (kX0_get l D ty a (zCl σ i r sh) x 5 f 5 hx rfl hf (by decide)) dX1_turn_106 rfl zw_2_54 zw_1_186 zw_1_187 zw_1_2 zw_1_188 ⟨rfl, rfl⟩ zh_yX0_get ⟨by decide, by decide⟩ (zc_at (j := 1) (by decide)) rfl rfl rfl (zle rfl) rfl ?_
            refine zv_topi (zg σ f 5) (zg_Cl _ _ _ _ _ _) ?_
            refine zv_aload_n K 110 dX1_turn_109 rfl rfl ?_
            refine zv_iload_n K 111 dX1_turn_110 rfl rfl ?_
            refine zv_bipush K 10 113 dX1_turn_111 rfl (by decide) ?_
            refine zv_cV1 K (q0 := 1) (As := [.int x, .int 10]) (rest := [.int (zg σ f 5), .ref (a (i + 11))]) 2 116 (kX0_get l D ty a (zCl σ i r sh) x 10 f 10 hx rfl hf (by decide)) dX1_turn_113 rfl zw_2_54 zw_1_186 zw_1_187 zw_1_2 zw_1_188 ⟨rfl, rfl⟩ zh_yX0_get ⟨by decide, by decide⟩ (zc_at (j := 1) (by decide)) rfl rfl rfl (zle rfl) rfl ?_
            refine zv_topi (zg σ f 10) (zg_Cl _ _ _ _ _ _) ?_
            refine zv_aload_n K 117 dX1_turn_116 rfl rfl ?_
            refine zv_iload_n K 118 dX1_turn_117 rfl rfl ?_
            refine zv_bipush K 8 120 dX1_turn_118 rfl (by decide) ?_
            refine zv_cV1 K (q0 := 1) (As := [.int x, .int 8]) (rest := [.int (zg σ f 10), .int (zg σ f 5), .ref (a (i + 11))]) 2 123 (kX0_get l D ty a (zCl σ i r sh) x 8 f 8 hx rfl hf (by decide)) dX1_turn_120 rfl zw_2_54 zw_1_186 zw_1_187 zw_1_2 zw_1_188 ⟨rfl, rfl⟩ zh_yX0_get ⟨by decide, by decide⟩ (zc_at (j := 1) (by decide)) rfl rfl rfl (zle rfl) rfl ?_
            refine zv_topi (zg σ f 8) (zg_Cl _ _ _ _ _ _) ?_
            refine zv_cV0 K (q0 := (i + 11)) (As := [.int (zg σ f 5), .int (zg σ f 10), .int (zg σ f 8)]) (rest := []) 3 126 (kX1_moveShares l D ty a σ i hi r sh (zg σ f 5) (zg σ f 10) (zg σ f 8) p q h51 h50 h53 h52) dX1_turn_123 rfl zw_2_100 zw_2_102 zw_p1_13 zw_1_4 zw_2_103 ⟨rfl, rfl⟩ zh_yX1_moveShares ⟨by decide, by decide⟩ (zc_cl hi) rfl rfl rfl (zle rfl) rfl ?_
            refine zv_goto K 129 dX1_turn_126 (by decide) ?_
            exact zv_vret K T dX1_turn_129 (⟨rfl, by have n_1 : ¬ zg σ f 0 = 1 := (by rw [e_5]; decide); have n_2 : ¬ zg σ f 0 = 2 := (by rw [e_5]; decide); have n_3 : ¬ zg σ f 0 = 3 := (by rw [e_5]; decide); have n_4 : ¬ zg σ f 0 = 4 := (by rw [e_5]; decide); simp only [rTurn, sTurn, if_pos e_5, if_neg n_1, if_neg n_2, if_neg n_3, if_neg n_4, h51, h53, nI_clamp (show p < 2 ^ 31 by omega), nI_clamp (show q < 2 ^ 31 by omega)]⟩)
          · skip
            refine zv_tableOut K 129 dX1_turn_14 (by have n_1 := lv_neT e_1 (a := 1) rfl; have n_2 := lv_neT e_2 (a := 2) rfl; have n_3 := lv_neT e_3 (a := 3) rfl; have n_4 := lv_neT e_4 (a := 4) rfl; have n_5 := lv_neT e_5 (a := 5) rfl; omega) (by decide) ?_
            exact zv_vret K T dX1_turn_129 (⟨rfl, by simp only [rTurn, sTurn, if_neg e_1, if_neg e_2, if_neg e_3, if_neg e_4, if_neg e_5]⟩)

