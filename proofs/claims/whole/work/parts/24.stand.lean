set_option maxHeartbeats 4000000 in
set_option maxRecDepth 100000 in
theorem kX2_find_l (l : Launch) (D : va_G) (ty : zTy) (a : Nat → Nat) (σ : zC) (c : Nat) (hc : σ.1 3 0 = nI c) (hc20 : c ≤ 20) (x : Int32) {k : zKx} (K : zv_ok k l D (zR 0 0) cX2_find 3 yX2_find.cls ty) (T : zv_rt k (Option.some (Jvm.ClassFile.FieldType.object "VeinCourt$Claim")) (fun v_ w_ => w_ = zc a ty σ ∧ ((zfst (zfd σ x) c = none ∧ v_ = some .null) ∨ ∃ q : Nat, zfst (zfd σ x) c = some q ∧ v_ = some (.ref (a (q + 11)))))) : ∀ i : Nat, i ≤ c → zfst (zfd σ x) i = none → zv k 2 [some (.ref (a 3)), some (.int x), some (.int (nI i))] [] (zc a ty σ) := by
  refine z_wf (fun i : Nat => c - i) ?_
  intro i ih hi hz
  refine zv_iload_n K 3 dX2_find_2 rfl rfl ?_
  refine zv_aload_n K 4 dX2_find_3 rfl rfl ?_
  refine zv_get (v := .int (σ.1 3 0)) (C := RX2) (T := TX2) (N := 3) K 3 0 7 dX2_find_4 rfl zy_X2 (zc_at (j := 3) (by decide)) rfl (by decide) zw_1_108 rfl ?_
  refine zv_topi (nI c) hc ?_
  refine zv_icmp_ge K 48 10 dX2_find_7 (by decide) rfl (fun hb => ?_) (fun hb => ?_)
  · skip
    refine zv_null K 49 dX2_find_48 rfl ?_
    exact zv_aret K T dX2_find_49 (Or.inl rfl) (⟨rfl, Or.inl ⟨by have e : i = c := (by have := z_ge hb (by omega) (by omega); omega); rw [← e]; exact hz, rfl⟩⟩)
  · skip
    have hlt : i < c := z_lt hb (by omega)
    refine zv_aload_n K 11 dX2_find_10 rfl rfl ?_
    refine zv_get (v := .ref (a 8)) (C := RX2) (T := TX2) (N := 3) K 3 1 14 dX2_find_11 rfl zy_X2 (zc_at (j := 3) (by decide)) rfl (by decide) zw_1_109 rfl ?_
    refine zv_iload_n K 15 dX2_find_14 rfl rfl ?_
    refine zv_aald (b := a (i + 11)) K 8 i 16 dX2_find_15 rfl (zc_at (j := 8) (by decide)) rfl (by omega) (by decide) rfl ?_
    refine zv_getN (v := .int (σ.1 (i + 11) 0)) (C := RX1) (T := TX1) (N := 12) K (i + 11) 0 19 dX2_find_16 rfl zy_X1 (zc_cl (by omega)) rfl (by decide) zn_7 rfl ?_
    refine zv_if_eq K 42 22 dX2_find_19 (by decide) rfl (fun h0 => ?_) (fun h0 => ?_)
    · skip
      refine zv_iinc K (nI (i + 1)) [some (.ref (a 3)), some (.int x), some (.int (nI (i + 1)))] 45 dX2_find_42 rfl rfl (z_inc i) rfl ?_
      refine zv_goto K 2 dX2_find_45 (by decide) ?_
      exact ih (i + 1) (by omega) (by omega) (zfst_next hz (decide_eq_false (fun q => q.1 h0)))
    · skip
      refine zv_aload_n K 23 dX2_find_22 rfl rfl ?_
      refine zv_get (v := .ref (a 8)) (C := RX2) (T := TX2) (N := 3) K 3 1 26 dX2_find_23 rfl zy_X2 (zc_at (j := 3) (by decide)) rfl (by decide) zw_1_109 rfl ?_
      refine zv_iload_n K 27 dX2_find_26 rfl rfl ?_
      refine zv_aald (b := a (i + 11)) K 8 i 28 dX2_find_27 rfl (zc_at (j := 8) (by decide)) rfl (by omega) (by decide) rfl ?_
      refine zv_getN (v := .int (σ.1 (i + 11) 1)) (C := RX1) (T := TX1) (N := 12) K (i + 11) 1 31 dX2_find_28 rfl zy_X1 (zc_cl (by omega)) rfl (by decide) zn_8 rfl ?_
      refine zv_iload_n K 32 dX2_find_31 rfl rfl ?_
      refine zv_icmp_ne K 42 35 dX2_find_32 (by decide) rfl (fun h1 => ?_) (fun h1 => ?_)
      · skip
        refine zv_iinc K (nI (i + 1)) [some (.ref (a 3)), some (.int x), some (.int (nI (i + 1)))] 45 dX2_find_42 rfl rfl (z_inc i) rfl ?_
        refine zv_goto K 2 dX2_find_45 (by decide) ?_
        exact ih (i + 1) (by omega) (by omega) (zfst_next hz (decide_eq_false (fun q => h1 q.2)))
      · skip
        refine zv_aload_n K 36 dX2_find_35 rfl rfl ?_
        refine zv_get (v := .ref (a 8)) (C := RX2) (T := TX2) (N := 3) K 3 1 39 dX2_find_36 rfl zy_X2 (zc_at (j := 3) (by decide)) rfl (by decide) zw_1_109 rfl ?_
        refine zv_iload_n K 40 dX2_find_39 rfl rfl ?_
        refine zv_aald (b := a (i + 11)) K 8 i 41 dX2_find_40 rfl (zc_at (j := 8) (by decide)) rfl (by omega) (by decide) rfl ?_
        exact zv_aret K T dX2_find_41 (Or.inr ⟨_, rfl⟩) (⟨rfl, Or.inr ⟨i, zfst_at hz (decide_eq_true (⟨h0, h1⟩)) hlt, rfl⟩⟩)

set_option maxHeartbeats 4000000 in
set_option maxRecDepth 100000 in
theorem kX2_find (l : Launch) (D : va_G) (ty : zTy) (a : Nat → Nat) (σ : zC) (c : Nat) (hc : σ.1 3 0 = nI c) (hc20 : c ≤ 20) (x : Int32) : zv_ct l D ty yX2_find cX2_find 3 (Option.some (Jvm.ClassFile.FieldType.object "VeinCourt$Claim")) (zR 0 0) [.ref (a 3), .int x] (zc a ty σ) (fun v_ w_ => w_ = zc a ty σ ∧ ((zfst (zfd σ x) c = none ∧ v_ = some .null) ∨ ∃ q : Nat, zfst (zfd σ x) c = some q ∧ v_ = some (.ref (a (q + 11))))) := by
  refine zv_open (by decide) rfl rfl [some (.ref (a 3)), some (.int x), none] (by simp [zv_one, Value.category]) (zle rfl) rfl ?_
  intro k K T
  refine zv_iconst K 0 1 dX2_find_0 rfl (by decide) ?_
  refine zv_istore_n K [some (.ref (a 3)), some (.int x), some (.int 0)] 2 dX2_find_1 rfl rfl (zlt rfl) ?_
  exact kX2_find_l l D ty a σ c hc hc20 x K T 0 (Nat.zero_le _) rfl

set_option maxHeartbeats 4000000 in
set_option maxRecDepth 100000 in
theorem kX2_eldestOver_l (l : Launch) (D : va_G) (ty : zTy) (a : Nat → Nat) (σ : zC) (c : Nat) (hc : σ.1 3 0 = nI c) (hc20 : c ≤ 20) (vn ft : Int32) {k : zKx} (K : zv_ok k l D (zR 2 44) cX2_eldestOver 4 yX2_eldestOver.cls ty) (T : zv_rt k (Option.some (Jvm.ClassFile.FieldType.object "VeinCourt$Claim")) (fun v_ w_ => w_ = zc a ty σ ∧ ((zfst (zov σ vn ft) c = none ∧ v_ = some .null) ∨ ∃ q : Nat, zfst (zov σ vn ft) c = some q ∧ v_ = some (.ref (a (q + 11)))))) : ∀ i : Nat, i ≤ c → zfst (zov σ vn ft) i = none → zv k 2 [some (.ref (a 3)), some (.int vn), some (.int ft), some (.int (nI i))] [] (zc a ty σ) := by
  refine z_wf (fun i : Nat => c - i) ?_
  intro i ih hi hz
  refine zv_iload_n K 3 dX2_eldestOver_2 rfl rfl ?_
  refine zv_aload_n K 4 dX2_eldestOver_3 rfl rfl ?_
  refine zv_get (v := .int (σ.1 3 0)) (C := RX2) (T := TX2) (N := 3) K 3 0 7 dX2_eldestOver_4 rfl zy_X2 (zc_at (j := 3) (by decide)) rfl (by decide) zw_1_108 rfl ?_
  refine zv_topi (nI c) hc ?_
  refine zv_icmp_ge K 37 10 dX2_eldestOver_7 (by decide) rfl (fun hb => ?_) (fun hb => ?_)
  · skip
    refine zv_null K 38 dX2_eldestOver_37 rfl ?_
    exact zv_aret K T dX2_eldestOver_38 (Or.inl rfl) (⟨rfl, Or.inl ⟨by have e : i = c := (by have := z_ge hb (by omega) (by omega); omega); rw [← e]; exact hz, rfl⟩⟩)
  · skip
    have hlt : i < c := z_lt hb (by omega)
    refine zv_aload_n K 11 dX2_eldestOver_10 rfl rfl ?_
    refine zv_get (v := .ref (a 8)) (C := RX2) (T := TX2) (N := 3) K 3 1 14 dX2_eldestOver_11 rfl zy_X2 (zc_at (j := 3) (by decide)) rfl (by decide) zw_1_109 rfl ?_
    refine zv_iload_n K 15 dX2_eldestOver_14 rfl rfl ?_
    refine zv_aald (b := a (i + 11)) K 8 i 16 dX2_eldestOver_15 rfl (zc_at (j := 8) (by decide)) rfl (by omega) (by decide) rfl ?_
    refine zv_iload_n K 17 dX2_eldestOver_16 rfl rfl ?_
    refine zv_iload_n K 18 dX2_eldestOver_17 rfl rfl ?_
    refine zv_ws (congrArg (zc a ty) (zCl_self σ i).symm) ?_
    refine zv_cV1 K (q0 := (i + 11)) (As := [.int vn, .int ft]) (rest := []) 2 21 (kX1_isOver l D ty a σ i (by omega) (σ.1 (i + 11)) (σ.2 (i + 31)) vn ft) dX2_eldestOver_18 rfl zw_2_75 zw_2_76 zw_2_77 zw_1_4 zw_2_78 ⟨rfl, rfl⟩ zh_yX1_isOver ⟨by decide, by decide⟩ (zk_at (by omega)) rfl rfl rfl (zle rfl) rfl ?_
    refine zv_ws (congrArg (zc a ty) (zCl_self σ i)) ?_
    refine zv_ifB_eq K 31 24 dX2_eldestOver_21 (by decide) rfl (fun h0 => ?_) (fun h0 => ?_)
    · skip
      refine zv_iinc K (nI (i + 1)) [some (.ref (a 3)), some (.int vn), some (.int ft), some (.int (nI (i + 1)))] 34 dX2_eldestOver_31 rfl rfl (z_inc i) rfl ?_
      refine zv_goto K 2 dX2_eldestOver_34 (by decide) ?_
      exact ih (i + 1) (by omega) (by omega) (zfst_next hz (decide_eq_false h0))
    · skip
      refine zv_aload_n K 25 dX2_eldestOver_24 rfl rfl ?_
      refine zv_get (v := .ref (a 8)) (C := RX2) (T := TX2) (N := 3) K 3 1 28 dX2_eldestOver_25 rfl zy_X2 (zc_at (j := 3) (by decide)) rfl (by decide) zw_1_109 rfl ?_
      refine zv_iload_n K 29 dX2_eldestOver_28 rfl rfl ?_
      refine zv_aald (b := a (i + 11)) K 8 i 30 dX2_eldestOver_29 rfl (zc_at (j := 8) (by decide)) rfl (by omega) (by decide) rfl ?_
      exact zv_aret K T dX2_eldestOver_30 (Or.inr ⟨_, rfl⟩) (⟨rfl, Or.inr ⟨i, zfst_at hz (decide_eq_true (h0)) hlt, rfl⟩⟩)

set_option maxHeartbeats 4000000 in
set_option maxRecDepth 100000 in
theorem kX2_eldestOver (l : Launch) (D : va_G) (ty : zTy) (a : Nat → Nat) (σ : zC) (c : Nat) (hc : σ.1 3 0 = nI c) (hc20 : c ≤ 20) (vn ft : Int32) : zv_ct l D ty yX2_eldestOver cX2_eldestOver 4 (Option.some (Jvm.ClassFile.FieldType.object "VeinCourt$Claim")) (zR 2 44) [.ref (a 3), .int vn, .int ft] (zc a ty σ) (fun v_ w_ => w_ = zc a ty σ ∧ ((zfst (zov σ vn ft) c = none ∧ v_ = some .null) ∨ ∃ q : Nat, zfst (zov σ vn ft) c = some q ∧ v_ = some (.ref (a (q + 11))))) := by
  refine zv_open (by decide) rfl rfl [some (.ref (a 3)), some (.int vn), some (.int ft), none] (by simp [zv_one, Value.category]) (zle rfl) rfl ?_
  intro k K T
  refine zv_iconst K 0 1 dX2_eldestOver_0 rfl (by decide) ?_
  refine zv_istore_n K [some (.ref (a 3)), some (.int vn), some (.int ft), some (.int 0)] 2 dX2_eldestOver_1 rfl rfl (zlt rfl) ?_
  exact kX2_eldestOver_l l D ty a σ c hc hc20 vn ft K T 0 (Nat.zero_le _) rfl

set_option maxHeartbeats 4000000 in
set_option maxRecDepth 100000 in
theorem kX2_holderOver (l : Launch) (D : va_G) (ty : zTy) (a : Nat → Nat) (σ : zC) (c : Nat) (hc : σ.1 3 0 = nI c) (hc20 : c ≤ 20) (vn ft : Int32) : zv_ct l D ty yX2_holderOver cX2_holderOver 4 (some .int) (zR 3 67) [.ref (a 3), .int vn, .int ft] (zc a ty σ) (fun v_ w_ => v_ = some (.int (zhold σ c vn ft)) ∧ w_ = zc a ty σ) := by
  refine zv_open (by decide) rfl rfl [some (.ref (a 3)), some (.int vn), some (.int ft), none] (by simp [zv_one, Value.category]) (zle rfl) rfl ?_
  intro k K T
  refine zv_aload_n K 1 dX2_holderOver_0 rfl rfl ?_
  refine zv_iload_n K 2 dX2_holderOver_1 rfl rfl ?_
  refine zv_iload_n K 3 dX2_holderOver_2 rfl rfl ?_
  refine zv_cV K (q0 := 3) (As := [.int vn, .int ft]) (rest := []) 2 6 (kX2_eldestOver l D ty a σ c hc hc20 vn ft) dX2_holderOver_3 rfl zw_2_71 zw_2_72 zw_2_73 zw_1_3 zw_2_74 ⟨rfl, rfl⟩ zh_yX2_eldestOver ⟨by decide, by decide⟩ (zc_at (j := 3) (by decide)) rfl rfl rfl (zle rfl) rfl ?_
  intro v_ w_ hv_
  obtain ⟨rfl, hv_⟩ := hv_
  rcases hv_ with ⟨hz, rfl⟩ | ⟨q, hz, rfl⟩
  · show zv k 6 [some (.ref (a 3)), some (.int vn), some (.int ft), none] (.null :: []) (zc a ty σ)
    refine zv_astore_nN K [some (.ref (a 3)), some (.int vn), some (.int ft), some (.null)] 7 dX2_holderOver_6 rfl rfl (zlt rfl) ?_
    refine zv_aload_nN K 8 dX2_holderOver_7 rfl rfl ?_
    refine zv_ifnonnullN K 11 dX2_holderOver_8 rfl ?_
    refine zv_bipush K (-4) 13 dX2_holderOver_11 rfl (by decide) ?_
    refine zv_goto K 20 dX2_holderOver_13 (by decide) ?_
    exact zv_iret K T dX2_holderOver_20 (⟨by simp only [zhold, hz], rfl⟩)
  · have hq20 : q < 20 := by have := zfst_lt hz; have := hc20; omega
    show zv k 6 [some (.ref (a 3)), some (.int vn), some (.int ft), none] (.ref (a (q + 11)) :: []) (zc a ty σ)
    refine zv_astore_n K [some (.ref (a 3)), some (.int vn), some (.int ft), some (.ref (a (q + 11)))] 7 dX2_holderOver_6 rfl rfl (zlt rfl) ?_
    refine zv_aload_n K 8 dX2_holderOver_7 rfl rfl ?_
    refine zv_ifnonnull K 16 dX2_holderOver_8 (by decide) ?_
    refine zv_aload_n K 17 dX2_holderOver_16 rfl rfl ?_
    refine zv_getN (v := .int (σ.1 (q + 11) 5)) (C := RX1) (T := TX1) (N := 12) K (q + 11) 5 20 dX2_holderOver_17 rfl zy_X1 (zc_cl hq20) rfl (by decide) zn_15 rfl ?_
    exact zv_iret K T dX2_holderOver_20 (⟨by simp only [zhold, hz], rfl⟩)

set_option maxHeartbeats 4000000 in
set_option maxRecDepth 100000 in
theorem kX2_countOver_l (l : Launch) (D : va_G) (ty : zTy) (a : Nat → Nat) (σ : zC) (c : Nat) (hc : σ.1 3 0 = nI c) (hc20 : c ≤ 20) (vn ft : Int32) {k : zKx} (K : zv_ok k l D (zR 2 44) cX2_countOver 5 yX2_countOver.cls ty) (T : zv_rt k (some .int) (fun v_ w_ => v_ = some (.int (nI (zct (zov σ vn ft) c))) ∧ w_ = zc a ty σ)) : ∀ i : Nat, i ≤ c → zv k 5 [some (.ref (a 3)), some (.int vn), some (.int ft), some (.int (nI (zct (zov σ vn ft) i))), some (.int (nI i))] [] (zc a ty σ) := by
  refine z_wf (fun i : Nat => c - i) ?_
  intro i ih hi
  refine zv_iload K 7 dX2_countOver_5 rfl rfl ?_
  refine zv_aload_n K 8 dX2_countOver_7 rfl rfl ?_
  refine zv_get (v := .int (σ.1 3 0)) (C := RX2) (T := TX2) (N := 3) K 3 0 11 dX2_countOver_8 rfl zy_X2 (zc_at (j := 3) (by decide)) rfl (by decide) zw_1_108 rfl ?_
  refine zv_topi (nI c) hc ?_
  refine zv_icmp_ge K 38 14 dX2_countOver_11 (by decide) rfl (fun hb => ?_) (fun hb => ?_)
  · skip
    have e : i = c := by have := z_ge hb (by omega) (by omega); omega
    refine zv_iload_n K 39 dX2_countOver_38 rfl rfl ?_
    exact zv_iret K T dX2_countOver_39 (⟨by rw [e], rfl⟩)
  · skip
    have hlt : i < c := z_lt hb (by omega)
    refine zv_aload_n K 15 dX2_countOver_14 rfl rfl ?_
    refine zv_get (v := .ref (a 8)) (C := RX2) (T := TX2) (N := 3) K 3 1 18 dX2_countOver_15 rfl zy_X2 (zc_at (j := 3) (by decide)) rfl (by decide) zw_1_109 rfl ?_
    refine zv_iload K 20 dX2_countOver_18 rfl rfl ?_
    refine zv_aald (b := a (i + 11)) K 8 i 21 dX2_countOver_20 rfl (zc_at (j := 8) (by decide)) rfl (by omega) (by decide) rfl ?_
    refine zv_iload_n K 22 dX2_countOver_21 rfl rfl ?_
    refine zv_iload_n K 23 dX2_countOver_22 rfl rfl ?_
    refine zv_ws (congrArg (zc a ty) (zCl_self σ i).symm) ?_
    refine zv_cV1 K (q0 := (i + 11)) (As := [.int vn, .int ft]) (rest := []) 2 26 (kX1_isOver l D ty a σ i (by omega) (σ.1 (i + 11)) (σ.2 (i + 31)) vn ft) dX2_countOver_23 rfl zw_2_75 zw_2_76 zw_2_77 zw_1_4 zw_2_78 ⟨rfl, rfl⟩ zh_yX1_isOver ⟨by decide, by decide⟩ (zk_at (by omega)) rfl rfl rfl (zle rfl) rfl ?_
    refine zv_ws (congrArg (zc a ty) (zCl_self σ i)) ?_
    refine zv_ifB_eq K 32 29 dX2_countOver_26 (by decide) rfl (fun h0 => ?_) (fun h0 => ?_)
    · skip
      refine zv_iinc K (nI (i + 1)) [some (.ref (a 3)), some (.int vn), some (.int ft), some (.int (nI (zct (zov σ vn ft) i))), some (.int (nI (i + 1)))] 35 dX2_countOver_32 rfl rfl (z_inc i) rfl ?_
      refine zv_goto K 5 dX2_countOver_35 (by decide) ?_
      refine zv_eq (lv2 := [some (.ref (a 3)), some (.int vn), some (.int ft), some (.int (nI (zct (zov σ vn ft) (i + 1)))), some (.int (nI (i + 1)))]) rfl (by first | rw [zct_t (decide_eq_true h0)] | rw [zct_f (decide_eq_false h0)]) rfl rfl ?_
      exact ih (i + 1) (by omega) (by omega)
    · skip
      refine zv_iinc K (nI (zct (zov σ vn ft) i + 1)) [some (.ref (a 3)), some (.int vn), some (.int ft), some (.int (nI (zct (zov σ vn ft) i + 1))), some (.int (nI i))] 32 dX2_countOver_29 rfl rfl (nI_1 _) rfl ?_
      refine zv_iinc K (nI (i + 1)) [some (.ref (a 3)), some (.int vn), some (.int ft), some (.int (nI (zct (zov σ vn ft) i + 1))), some (.int (nI (i + 1)))] 35 dX2_countOver_32 rfl rfl (z_inc i) rfl ?_
      refine zv_goto K 5 dX2_countOver_35 (by decide) ?_
      refine zv_eq (lv2 := [some (.ref (a 3)), some (.int vn), some (.int ft), some (.int (nI (zct (zov σ vn ft) (i + 1)))), some (.int (nI (i + 1)))]) rfl (by first | rw [zct_t (decide_eq_true h0)] | rw [zct_f (decide_eq_false h0)]) rfl rfl ?_
      exact ih (i + 1) (by omega) (by omega)

set_option maxHeartbeats 4000000 in
set_option maxRecDepth 100000 in
theorem kX2_countOver (l : Launch) (D : va_G) (ty : zTy) (a : Nat → Nat) (σ : zC) (c : Nat) (hc : σ.1 3 0 = nI c) (hc20 : c ≤ 20) (vn ft : Int32) : zv_ct l D ty yX2_countOver cX2_countOver 5 (some .int) (zR 2 44) [.ref (a 3), .int vn, .int ft] (zc a ty σ) (fun v_ w_ => v_ = some (.int (nI (zct (zov σ vn ft) c))) ∧ w_ = zc a ty σ) := by
  refine zv_open (by decide) rfl rfl [some (.ref (a 3)), some (.int vn), some (.int ft), none, none] (by simp [zv_one, Value.category]) (zle rfl) rfl ?_
  intro k K T
  refine zv_iconst K 0 1 dX2_countOver_0 rfl (by decide) ?_
  refine zv_istore_n K [some (.ref (a 3)), some (.int vn), some (.int ft), some (.int 0), none] 2 dX2_countOver_1 rfl rfl (zlt rfl) ?_
  refine zv_iconst K 0 3 dX2_countOver_2 rfl (by decide) ?_
  refine zv_istore K [some (.ref (a 3)), some (.int vn), some (.int ft), some (.int 0), some (.int 0)] 5 dX2_countOver_3 rfl rfl (zlt rfl) ?_
  exact kX2_countOver_l l D ty a σ c hc hc20 vn ft K T 0 (Nat.zero_le _)

set_option maxHeartbeats 4000000 in
set_option maxRecDepth 100000 in
theorem kX2_countOwned_l (l : Launch) (D : va_G) (ty : zTy) (a : Nat → Nat) (σ : zC) (c : Nat) (hc : σ.1 3 0 = nI c) (hc20 : c ≤ 20) (q0 p0 l0 : Nat) (hq0 : q0 < 20) (hp0 : σ.1 (q0 + 11) 3 = nI p0) (hl0 : σ.1 (q0 + 11) 4 = nI l0) (hpl : p0 ≤ l0) (hl9 : l0 < 60) {k : zKx} (K : zv_ok k l D (zR 3 67) cX2_countOwned 5 yX2_countOwned.cls ty) (T : zv_rt k (some .int) (fun v_ w_ => v_ = some (.int (nI (zct (zownb σ c q0 p0) (l0 + 1)))) ∧ w_ = zc a ty σ)) : ∀ g : Nat, p0 ≤ g → g ≤ l0 + 1 → ∀ o4 : Option Value, zv k 7 [some (.ref (a 3)), some (.ref (a (q0 + 11))), some (.int (nI (zct (zownb σ c q0 p0) g))), some (.int (nI g)), o4] [] (zc a ty σ) := by
  refine z_wf (fun g : Nat => l0 + 1 - g) ?_
  intro g ih hg hgl o4
  refine zv_iload_n K 8 dX2_countOwned_7 rfl rfl ?_
  refine zv_aload_n K 9 dX2_countOwned_8 rfl rfl ?_
  refine zv_getN (v := .int (σ.1 (q0 + 11) 4)) (C := RX1) (T := TX1) (N := 12) K (q0 + 11) 4 12 dX2_countOwned_9 rfl zy_X1 (zc_cl hq0) rfl (by decide) zn_13 rfl ?_
  refine zv_topi (nI l0) hl0 ?_
  refine zv_icmp_gt K 52 15 dX2_countOwned_12 (by decide) rfl (fun hb => ?_) (fun hb => ?_)
  · skip
    refine zv_iload_n K 53 dX2_countOwned_52 rfl rfl ?_
    exact zv_iret K T dX2_countOwned_53 (⟨by have e : g = l0 + 1 := (by have := (nI_ltI (by omega) (by omega)).mp hb; omega); rw [e], rfl⟩)
  · skip
    have hlt : g ≤ l0 := by rcases Nat.lt_or_ge l0 g with z | z; exact absurd (nI_lt z (by omega)) hb; exact z
    refine zv_aload_n K 16 dX2_countOwned_15 rfl rfl ?_
    refine zv_aload_n K 17 dX2_countOwned_16 rfl rfl ?_
    refine zv_getN (v := .int (σ.1 (q0 + 11) 2)) (C := RX1) (T := TX1) (N := 12) K (q0 + 11) 2 20 dX2_countOwned_17 rfl zy_X1 (zc_cl hq0) rfl (by decide) zn_10 rfl ?_
    refine zv_iload_n K 21 dX2_countOwned_20 rfl rfl ?_
    refine zv_cV K (q0 := 3) (As := [.int (σ.1 (q0 + 11) 2), .int (nI g)]) (rest := []) 2 24 (kX2_eldestOver l D ty a σ c hc hc20 (σ.1 (q0 + 11) 2) (nI g)) dX2_countOwned_21 rfl zw_2_71 zw_2_72 zw_2_73 zw_1_3 zw_2_74 ⟨rfl, rfl⟩ zh_yX2_eldestOver ⟨by decide, by decide⟩ (zc_at (j := 3) (by decide)) rfl rfl rfl (zle rfl) rfl ?_
    intro v_ w_ hv_
    obtain ⟨rfl, hv_⟩ := hv_
    rcases hv_ with ⟨hz, rfl⟩ | ⟨q, hz, rfl⟩
    · show zv k 24 [some (.ref (a 3)), some (.ref (a (q0 + 11))), some (.int (nI (zct (zownb σ c q0 p0) g))), some (.int (nI g)), o4] (.null :: []) (zc a ty σ)
      refine zv_astoreN K [some (.ref (a 3)), some (.ref (a (q0 + 11))), some (.int (nI (zct (zownb σ c q0 p0) g))), some (.int (nI g)), some (.null)] 26 dX2_countOwned_24 rfl rfl (zlt rfl) ?_
      refine zv_aloadN K 28 dX2_countOwned_26 rfl rfl ?_
      refine zv_ifnullN K 46 dX2_countOwned_28 (by decide) ?_
      refine zv_iinc K (nI (g + 1)) [some (.ref (a 3)), some (.ref (a (q0 + 11))), some (.int (nI (zct (zownb σ c q0 p0) g))), some (.int (nI (g + 1))), some (.null)] 49 dX2_countOwned_46 rfl rfl (z_inc g) rfl ?_
      refine zv_goto K 7 dX2_countOwned_49 (by decide) ?_
      refine zv_eq (lv2 := [some (.ref (a 3)), some (.ref (a (q0 + 11))), some (.int (nI (zct (zownb σ c q0 p0) (g + 1)))), some (.int (nI (g + 1))), some (.null)]) rfl (by rw [zct_f (by simp only [zownb, hz, decide_eq_true hg, Bool.true_and])]) rfl rfl ?_
      exact ih (g + 1) (by omega) (by omega) (by omega) (some .null)
    · have hq20 : q < 20 := by have := zfst_lt hz; have := hc20; omega
      show zv k 24 [some (.ref (a 3)), some (.ref (a (q0 + 11))), some (.int (nI (zct (zownb σ c q0 p0) g))), some (.int (nI g)), o4] (.ref (a (q + 11)) :: []) (zc a ty σ)
      refine zv_astore K [some (.ref (a 3)), some (.ref (a (q0 + 11))), some (.int (nI (zct (zownb σ c q0 p0) g))), some (.int (nI g)), some (.ref (a (q + 11)))] 26 dX2_countOwned_24 rfl rfl (zlt rfl) ?_
      refine zv_aload K 28 dX2_countOwned_26 rfl rfl ?_
      refine zv_ifnull K 31 dX2_countOwned_28 rfl ?_
      refine zv_aload K 33 dX2_countOwned_31 rfl rfl ?_
      refine zv_getN (v := .int (σ.1 (q + 11) 1)) (C := RX1) (T := TX1) (N := 12) K (q + 11) 1 36 dX2_countOwned_33 rfl zy_X1 (zc_cl hq20) rfl (by decide) zn_8 rfl ?_
      refine zv_aload_n K 37 dX2_countOwned_36 rfl rfl ?_
      refine zv_getN (v := .int (σ.1 (q0 + 11) 1)) (C := RX1) (T := TX1) (N := 12) K (q0 + 11) 1 40 dX2_countOwned_37 rfl zy_X1 (zc_cl hq0) rfl (by decide) zn_8 rfl ?_
      refine zv_icmp_ne K 46 43 dX2_countOwned_40 (by decide) rfl (fun h1 => ?_) (fun h1 => ?_)
      · skip
        refine zv_iinc K (nI (g + 1)) [some (.ref (a 3)), some (.ref (a (q0 + 11))), some (.int (nI (zct (zownb σ c q0 p0) g))), some (.int (nI (g + 1))), some (.ref (a (q + 11)))] 49 dX2_countOwned_46 rfl rfl (z_inc g) rfl ?_
        refine zv_goto K 7 dX2_countOwned_49 (by decide) ?_
        refine zv_eq (lv2 := [some (.ref (a 3)), some (.ref (a (q0 + 11))), some (.int (nI (zct (zownb σ c q0 p0) (g + 1)))), some (.int (nI (g + 1))), some (.ref (a (q + 11)))]) rfl (by rw [zct_f (by simp only [zownb, hz, decide_eq_true hg, Bool.true_and]; exact decide_eq_false h1)]) rfl rfl ?_
        exact ih (g + 1) (by omega) (by omega) (by omega) (some (.ref (a (q + 11))))
      · skip
        refine zv_iinc K (nI (zct (zownb σ c q0 p0) g + 1)) [some (.ref (a 3)), some (.ref (a (q0 + 11))), some (.int (nI (zct (zownb σ c q0 p0) g + 1))), some (.int (nI g)), some (.ref (a (q + 11)))] 46 dX2_countOwned_43 rfl rfl (nI_1 _) rfl ?_
        refine zv_iinc K (nI (g + 1)) [some (.ref (a 3)), some (.ref (a (q0 + 11))), some (.int (nI (zct (zownb σ c q0 p0) g + 1))), some (.int (nI (g + 1))), some (.ref (a (q + 11)))] 49 dX2_countOwned_46 rfl rfl (z_inc g) rfl ?_
        refine zv_goto K 7 dX2_countOwned_49 (by decide) ?_
        refine zv_eq (lv2 := [some (.ref (a 3)), some (.ref (a (q0 + 11))), some (.int (nI (zct (zownb σ c q0 p0) (g + 1)))), some (.int (nI (g + 1))), some (.ref (a (q + 11)))]) rfl (by rw [zct_t (by simp only [zownb, hz, decide_eq_true hg, Bool.true_and]; exact decide_eq_true h1)]) rfl rfl ?_
        exact ih (g + 1) (by omega) (by omega) (by omega) (some (.ref (a (q + 11))))

theorem zown_0 (σ : zC) (c q p0 : Nat) : ∀ n, n ≤ p0 → zct (zownb σ c q p0) n = 0
  | 0, _ => rfl
  | n + 1, h => by rw [zct_f (by simp only [zownb, decide_eq_false (show ¬ p0 ≤ n by omega), Bool.false_and]), zown_0 σ c q p0 n (by omega)]
set_option maxHeartbeats 4000000 in
set_option maxRecDepth 100000 in
theorem kX2_countOwned (l : Launch) (D : va_G) (ty : zTy) (a : Nat → Nat) (σ : zC) (c : Nat) (hc : σ.1 3 0 = nI c) (hc20 : c ≤ 20) (q0 p0 l0 : Nat) (hq0 : q0 < 20) (hp0 : σ.1 (q0 + 11) 3 = nI p0) (hl0 : σ.1 (q0 + 11) 4 = nI l0) (hpl : p0 ≤ l0) (hl9 : l0 < 60) : zv_ct l D ty yX2_countOwned cX2_countOwned 5 (some .int) (zR 3 67) [.ref (a 3), .ref (a (q0 + 11))] (zc a ty σ) (fun v_ w_ => v_ = some (.int (nI (zct (zownb σ c q0 p0) (l0 + 1)))) ∧ w_ = zc a ty σ) := by
  refine zv_open (by decide) rfl rfl [some (.ref (a 3)), some (.ref (a (q0 + 11))), none, none, none] (by simp [zv_one, Value.category]) (zle rfl) rfl ?_
  intro k K T
  refine zv_iconst K 0 1 dX2_countOwned_0 rfl (by decide) ?_
  refine zv_istore_n K [some (.ref (a 3)), some (.ref (a (q0 + 11))), some (.int 0), none, none] 2 dX2_countOwned_1 rfl rfl (zlt rfl) ?_
  refine zv_aload_n K 3 dX2_countOwned_2 rfl rfl ?_
  refine zv_getN (v := .int (σ.1 (q0 + 11) 3)) (C := RX1) (T := TX1) (N := 12) K (q0 + 11) 3 6 dX2_countOwned_3 rfl zy_X1 (zc_cl hq0) rfl (by decide) zn_11 rfl ?_
  refine zv_topi (nI p0) hp0 ?_
  refine zv_istore_n K [some (.ref (a 3)), some (.ref (a (q0 + 11))), some (.int 0), some (.int (nI p0)), none] 7 dX2_countOwned_6 rfl rfl (zlt rfl) ?_
  refine zv_eq (lv2 := [some (.ref (a 3)), some (.ref (a (q0 + 11))), some (.int (nI (zct (zownb σ c q0 p0) p0))), some (.int (nI p0)), none]) rfl (by rw [zown_0 σ c q0 p0 p0 (Nat.le_refl _)]; rfl) rfl rfl ?_
  exact kX2_countOwned_l l D ty a σ c hc hc20 q0 p0 l0 hq0 hp0 hl0 hpl hl9 K T p0 (Nat.le_refl _) (by omega) none

set_option maxHeartbeats 4000000 in
set_option maxRecDepth 100000 in
theorem kX2_clear_l (l : Launch) (D : va_G) (ty : zTy) (a : Nat → Nat) (σ : zC) {k : zKx} (K : zv_ok k l D (zR 0 0) cX2_clear 2 yX2_clear.cls ty) (T : zv_rt k none (fun v_ w_ => v_ = none ∧ w_ = zc a ty (zclear σ))) : ∀ n : Nat, n ≤ 11 → zv k 7 [some (.ref (a 3)), some (.int (nI n))] [] (zc a ty (zFa (zO σ 3 0 0) 9 (zclr n (σ.2 9)))) := by
  refine z_wf (fun n : Nat => 11 - n) ?_
  intro n ih hn
  refine zv_iload_n K 8 dX2_clear_7 rfl rfl ?_
  refine zv_aload_n K 9 dX2_clear_8 rfl rfl ?_
  refine zv_get (v := .ref (a 9)) (C := RX2) (T := TX2) (N := 3) K 3 2 12 dX2_clear_9 rfl zy_X2 (zc_at (j := 3) (by decide)) rfl (by decide) zw_1_110 rfl ?_
  refine zv_alen K 9 13 11 dX2_clear_12 rfl (zc_at (j := 9) (by decide)) rfl ?_
  refine zv_icmp_ge K 29 16 dX2_clear_13 (by decide) rfl (fun hb => ?_) (fun hb => ?_)
  · skip
    have e : n = 11 := by have := z_ge (c := 11) hb (by decide) (by omega); omega
    exact zv_vret K T dX2_clear_29 (⟨rfl, by rw [e]; rfl⟩)
  · skip
    have hlt : n < 11 := z_lt (c := 11) hb (by omega)
    refine zv_aload_n K 17 dX2_clear_16 rfl rfl ?_
    refine zv_get (v := .ref (a 9)) (C := RX2) (T := TX2) (N := 3) K 3 2 20 dX2_clear_17 rfl zy_X2 (zc_at (j := 3) (by decide)) rfl (by decide) zw_1_110 rfl ?_
    refine zv_iload_n K 21 dX2_clear_20 rfl rfl ?_
    refine zv_iconst K 0 22 dX2_clear_21 rfl (by decide) ?_
    refine zv_iast K 9 n 23 (zc a ty (zF (zFa (zO σ 3 0 0) 9 (zclr n (σ.2 9))) 9 n 0)) dX2_clear_22 rfl (zc_at (j := 9) (by decide)) rfl hlt (by decide) (zc_F 9 n (by decide) rfl) ?_
    refine zv_iinc K (nI (n + 1)) [some (.ref (a 3)), some (.int (nI (n + 1)))] 26 dX2_clear_23 rfl rfl (z_inc n) rfl ?_
    refine zv_goto K 7 dX2_clear_26 (by decide) ?_
    refine zv_ws (congrArg (zc a ty) ((zF_Fa _ 9 n _ 0).trans (congrArg (zFa (zO σ 3 0 0) 9) (zclr_s n (σ.2 9))))) ?_
    exact ih (n + 1) (by omega) (by omega)

set_option maxHeartbeats 4000000 in
set_option maxRecDepth 100000 in
theorem kX2_clear (l : Launch) (D : va_G) (ty : zTy) (a : Nat → Nat) (σ : zC) : zv_ct l D ty yX2_clear cX2_clear 2 none (zR 0 0) [.ref (a 3)] (zc a ty σ) (fun v_ w_ => v_ = none ∧ w_ = zc a ty (zclear σ)) := by
  refine zv_open (by decide) rfl rfl [some (.ref (a 3)), none] (by simp [zv_one, Value.category]) (zle rfl) rfl ?_
  intro k K T
  refine zv_aload_n K 1 dX2_clear_0 rfl rfl ?_
  refine zv_iconst K 0 2 dX2_clear_1 rfl (by decide) ?_
  refine zv_put (C := RX2) (T := TX2) (N := 3) K 3 0 5 (zc a ty (zO σ 3 0 0)) dX2_clear_2 rfl zy_X2 tyX2_ok nmX2 (zc_at (j := 3) (by decide)) rfl (by decide) zw_1_108 rfl rfl rfl rfl (zlt rfl) (zc_O 3 0 (by decide) rfl) ?_
  refine zv_iconst K 0 6 dX2_clear_5 rfl (by decide) ?_
  refine zv_istore_n K [some (.ref (a 3)), some (.int 0)] 7 dX2_clear_6 rfl rfl (zlt rfl) ?_
  refine zv_ws (congrArg (zc a ty) (show zO σ 3 0 0 = zFa (zO σ 3 0 0) 9 (zclr 0 (σ.2 9)) by rw [zclr_0]; exact (zFa_self (zO σ 3 0 0) 9).symm)) ?_
  exact kX2_clear_l l D ty a σ K T 0 (by decide)

theorem zCl_3 (σ : zC) (c : Nat) (r sh : Nat → Int32) : (zCl σ c r sh).1 3 = σ.1 3 := zCl_1n σ r sh (by omega)
set_option maxHeartbeats 4000000 in
set_option maxRecDepth 100000 in
theorem kX2_addClaim (l : Launch) (D : va_G) (ty : zTy) (a : Nat → Nat) (σ : zC) (c : Nat) (hc : σ.1 3 0 = nI c) (hc20 : c ≤ 20) (x : Int32) (f : Nat) (hx : x = nI f) (hf : f < 90) : zv_ct l D ty yX2_addClaim cX2_addClaim 3 none (zR 3 66) [.ref (a 3), .ref (a 1), .int x] (zc a ty σ) (fun v_ w_ => v_ = none ∧ w_ = zc a ty (zadd σ c f)) := by
  refine zv_open (by decide) rfl rfl [some (.ref (a 3)), some (.ref (a 1)), some (.int x)] (by simp [zv_one, Value.category]) (zle rfl) rfl ?_
  intro k K T
  refine zv_aload_n K 1 dX2_addClaim_0 rfl rfl ?_
  refine zv_get (v := .int (σ.1 3 0)) (C := RX2) (T := TX2) (N := 3) K 3 0 4 dX2_addClaim_1 rfl zy_X2 (zc_at (j := 3) (by decide)) rfl (by decide) zw_1_108 rfl ?_
  refine zv_topi (nI c) hc ?_
  refine zv_bipush K 20 6 dX2_addClaim_4 rfl (by decide) ?_
  refine zv_icmp_ge K 33 9 dX2_addClaim_6 (by decide) rfl (fun hb => ?_) (fun hb => ?_)
  · skip
    exact zv_vret K T dX2_addClaim_33 (⟨rfl, congrArg (zc a ty) (by unfold zadd; first | (rw [if_pos hlt]; done) | (rw [if_neg (by have := z_ge (c := 20) hb (by decide) (by omega); omega)]; done))⟩)
  · skip
    have hlt : c < 20 := z_lt (c := 20) hb (by omega)
    refine zv_aload_n K 10 dX2_addClaim_9 rfl rfl ?_
    refine zv_get (v := .ref (a 8)) (C := RX2) (T := TX2) (N := 3) K 3 1 13 dX2_addClaim_10 rfl zy_X2 (zc_at (j := 3) (by decide)) rfl (by decide) zw_1_109 rfl ?_
    refine zv_aload_n K 14 dX2_addClaim_13 rfl rfl ?_
    refine zv_get (v := .int (σ.1 3 0)) (C := RX2) (T := TX2) (N := 3) K 3 0 17 dX2_addClaim_14 rfl zy_X2 (zc_at (j := 3) (by decide)) rfl (by decide) zw_1_108 rfl ?_
    refine zv_topi (nI c) hc ?_
    refine zv_aald (b := a (c + 11)) K 8 c 18 dX2_addClaim_17 rfl (zc_at (j := 8) (by decide)) rfl hlt (by decide) rfl ?_
    refine zv_aload_n K 19 dX2_addClaim_18 rfl rfl ?_
    refine zv_iload_n K 20 dX2_addClaim_19 rfl rfl ?_
    refine zv_ws (congrArg (zc a ty) (zCl_self σ c).symm) ?_
    refine zv_cV0 K (q0 := (c + 11)) (As := [.ref (a 1), .int x]) (rest := []) 2 23 (kX1_begin l D ty a σ c hlt (σ.1 (c + 11)) (σ.2 (c + 31)) x f hx hf) dX2_addClaim_20 rfl zw_2_50 zw_2_51 zw_2_52 zw_1_4 zw_2_53 ⟨rfl, rfl⟩ zh_yX1_begin ⟨by decide, by decide⟩ (zk_at hlt) rfl rfl rfl (zle rfl) rfl ?_
    refine zv_aload_n K 24 dX2_addClaim_23 rfl rfl ?_
    refine zv_dup K 25 dX2_addClaim_24 rfl rfl ?_
    refine zv_get (v := .int ((zCl σ c (rBegin σ (σ.1 (c + 11)) f) (sPass (σ.2 (c + 31)) (zg σ f 5))).1 3 0)) (C := RX2) (T := TX2) (N := 3) K 3 0 28 dX2_addClaim_25 rfl zy_X2 (zc_at (j := 3) (by decide)) rfl (by decide) zw_1_108 rfl ?_
    refine zv_topi (nI c) (by rw [zCl_3]; exact hc) ?_
    refine zv_iconst K 1 29 dX2_addClaim_28 rfl (by decide) ?_
    refine zv_iadd K 30 dX2_addClaim_29 rfl ?_
    refine zv_topi (nI (c + 1)) (nI_1 c) ?_
    refine zv_put (C := RX2) (T := TX2) (N := 3) K 3 0 33 (zc a ty (zO (zCl σ c (rBegin σ (σ.1 (c + 11)) f) (sPass (σ.2 (c + 31)) (zg σ f 5))) 3 0 (nI (c + 1)))) dX2_addClaim_30 rfl zy_X2 tyX2_ok nmX2 (zc_at (j := 3) (by decide)) rfl (by decide) zw_1_108 rfl rfl rfl rfl (zlt rfl) (zc_O 3 0 (by decide) rfl) ?_
    exact zv_vret K T dX2_addClaim_33 (⟨rfl, congrArg (zc a ty) (by unfold zadd; first | (rw [if_pos hlt]; done) | (rw [if_neg (by have := z_ge (c := 20) hb (by decide) (by omega); omega)]; done))⟩)

set_option maxHeartbeats 4000000 in
set_option maxRecDepth 100000 in
theorem kX2_bringOre_l (l : Launch) (D : va_G) (ty : zTy) (a : Nat → Nat) (σ : zC) (c : Nat) (vn ft v : Int32) (q : Nat) (hq20 : q < 20) (hz : zfst (zov σ vn ft) c = some q) {k : zKx} (K : zv_ok k l D (zR 3 67) cX2_bringOre 6 yX2_bringOre.cls ty) (T : zv_rt k none (fun v_ w_ => v_ = none ∧ w_ = zc a ty (zbo σ c vn ft v))) : ∀ n : Nat, n ≤ 10 → zv k 31 [some (.ref (a 3)), some (.int vn), some (.int ft), some (.int v), some (.ref (a (q + 11))), some (.int (nI n))] [] (zc a ty (zFa σ 9 (zorN σ q n v))) := by
  refine z_wf (fun n : Nat => 10 - n) ?_
  intro n ih hn
  refine zv_iload K 33 dX2_bringOre_31 rfl rfl ?_
  refine zv_bipush K 10 35 dX2_bringOre_33 rfl (by decide) ?_
  refine zv_icmp_ge K 64 38 dX2_bringOre_35 (by decide) rfl (fun hb => ?_) (fun hb => ?_)
  · skip
    have e : n = 10 := by have := z_ge (c := 10) hb (by decide) (by omega); omega
    exact zv_vret K T dX2_bringOre_64 (⟨rfl, congrArg (zc a ty) (by simp only [zbo, hz]; rw [e])⟩)
  · skip
    have hlt : n < 10 := z_lt (c := 10) hb (by omega)
    refine zv_aload_n K 39 dX2_bringOre_38 rfl rfl ?_
    refine zv_get (v := .ref (a 9)) (C := RX2) (T := TX2) (N := 3) K 3 2 42 dX2_bringOre_39 rfl zy_X2 (zc_at (j := 3) (by decide)) rfl (by decide) zw_1_110 rfl ?_
    refine zv_iload K 44 dX2_bringOre_42 rfl rfl ?_
    refine zv_dup2 K 45 dX2_bringOre_44 rfl rfl rfl ?_
    refine zv_iald (F := (zFa σ 9 (zorN σ q n v)).2 9) K 9 n 46 dX2_bringOre_45 rfl (zc_at (j := 9) (by decide)) rfl (by omega) (by decide) ?_
    refine zv_iload_n K 47 dX2_bringOre_46 rfl rfl ?_
    refine zv_aload K 49 dX2_bringOre_47 rfl rfl ?_
    refine zv_getN (v := .ref (a (q + 31))) (C := RX1) (T := TX1) (N := 12) K (q + 11) 11 52 dX2_bringOre_49 rfl zy_X1 (zc_cl hq20) rfl (by decide) zn_19 rfl ?_
    refine zv_iload K 54 dX2_bringOre_52 rfl rfl ?_
    refine zv_iald (F := (zFa σ 9 (zorN σ q n v)).2 (q + 31)) K (q + 31) n 55 dX2_bringOre_54 rfl (zc_sh hq20) rfl hlt (by decide) ?_
    refine zv_topi (σ.2 (q + 31) n) (by simp [zFa]) ?_
    refine zv_imul K 56 dX2_bringOre_55 rfl ?_
    refine zv_iadd K 57 dX2_bringOre_56 rfl ?_
    refine zv_iast K 9 n 58 (zc a ty (zF (zFa σ 9 (zorN σ q n v)) 9 n (((zFa σ 9 (zorN σ q n v)).2 9 n) + (v * (σ.2 (q + 31) n))))) dX2_bringOre_57 rfl (zc_at (j := 9) (by decide)) rfl (by omega) (by decide) (zc_F 9 n (by decide) rfl) ?_
    refine zv_iinc K (nI (n + 1)) [some (.ref (a 3)), some (.int vn), some (.int ft), some (.int v), some (.ref (a (q + 11))), some (.int (nI (n + 1)))] 61 dX2_bringOre_58 rfl rfl (z_inc n) rfl ?_
    refine zv_goto K 31 dX2_bringOre_61 (by decide) ?_
    refine zv_ws (congrArg (zc a ty) ((zF_Fa σ 9 n _ _).trans (congrArg (zFa σ 9) (zorN_s σ q n v)))) ?_
    exact ih (n + 1) (by omega) (by omega)

set_option maxHeartbeats 4000000 in
set_option maxRecDepth 100000 in
theorem kX2_bringOre (l : Launch) (D : va_G) (ty : zTy) (a : Nat → Nat) (σ : zC) (c : Nat) (hc : σ.1 3 0 = nI c) (hc20 : c ≤ 20) (vn ft v : Int32) : zv_ct l D ty yX2_bringOre cX2_bringOre 6 none (zR 3 67) [.ref (a 3), .int vn, .int ft, .int v] (zc a ty σ) (fun v_ w_ => v_ = none ∧ w_ = zc a ty (zbo σ c vn ft v)) := by
  refine zv_open (by decide) rfl rfl [some (.ref (a 3)), some (.int vn), some (.int ft), some (.int v), none, none] (by simp [zv_one, Value.category]) (zle rfl) rfl ?_
  intro k K T
  refine zv_aload_n K 1 dX2_bringOre_0 rfl rfl ?_
  refine zv_iload_n K 2 dX2_bringOre_1 rfl rfl ?_
  refine zv_iload_n K 3 dX2_bringOre_2 rfl rfl ?_
  refine zv_cV K (q0 := 3) (As := [.int vn, .int ft]) (rest := []) 2 6 (kX2_eldestOver l D ty a σ c hc hc20 vn ft) dX2_bringOre_3 rfl zw_2_71 zw_2_72 zw_2_73 zw_1_3 zw_2_74 ⟨rfl, rfl⟩ zh_yX2_eldestOver ⟨by decide, by decide⟩ (zc_at (j := 3) (by decide)) rfl rfl rfl (zle rfl) rfl ?_
  intro v_ w_ hv_
  obtain ⟨rfl, hv_⟩ := hv_
  rcases hv_ with ⟨hz, rfl⟩ | ⟨q, hz, rfl⟩
  · show zv k 6 [some (.ref (a 3)), some (.int vn), some (.int ft), some (.int v), none, none] (.null :: []) (zc a ty σ)
    refine zv_astoreN K [some (.ref (a 3)), some (.int vn), some (.int ft), some (.int v), some (.null), none] 8 dX2_bringOre_6 rfl rfl (zlt rfl) ?_
    refine zv_aloadN K 10 dX2_bringOre_8 rfl rfl ?_
    refine zv_ifnonnullN K 13 dX2_bringOre_10 rfl ?_
    refine zv_aload_n K 14 dX2_bringOre_13 rfl rfl ?_
    refine zv_get (v := .ref (a 9)) (C := RX2) (T := TX2) (N := 3) K 3 2 17 dX2_bringOre_14 rfl zy_X2 (zc_at (j := 3) (by decide)) rfl (by decide) zw_1_110 rfl ?_
    refine zv_bipush K 10 19 dX2_bringOre_17 rfl (by decide) ?_
    refine zv_dup2 K 20 dX2_bringOre_19 rfl rfl rfl ?_
    refine zv_iald (F := σ.2 9) K 9 10 21 dX2_bringOre_20 rfl (zc_at (j := 9) (by decide)) rfl (by decide) (by decide) ?_
    refine zv_iload_n K 22 dX2_bringOre_21 rfl rfl ?_
    refine zv_bipush K 24 24 dX2_bringOre_22 rfl (by decide) ?_
    refine zv_imul K 25 dX2_bringOre_24 rfl ?_
    refine zv_iadd K 26 dX2_bringOre_25 rfl ?_
    refine zv_iast K 9 10 27 (zc a ty (zF σ 9 10 ((σ.2 9 10) + (v * 24)))) dX2_bringOre_26 rfl (zc_at (j := 9) (by decide)) rfl (by decide) (by decide) (zc_F 9 10 (by decide) rfl) ?_
    exact zv_vret K T dX2_bringOre_27 (⟨rfl, congrArg (zc a ty) (by simp only [zbo, hz])⟩)
  · have hq20 : q < 20 := by have := zfst_lt hz; have := hc20; omega
    show zv k 6 [some (.ref (a 3)), some (.int vn), some (.int ft), some (.int v), none, none] (.ref (a (q + 11)) :: []) (zc a ty σ)
    refine zv_astore K [some (.ref (a 3)), some (.int vn), some (.int ft), some (.int v), some (.ref (a (q + 11))), none] 8 dX2_bringOre_6 rfl rfl (zlt rfl) ?_
    refine zv_aload K 10 dX2_bringOre_8 rfl rfl ?_
    refine zv_ifnonnull K 28 dX2_bringOre_10 (by decide) ?_
    refine zv_iconst K 0 29 dX2_bringOre_28 rfl (by decide) ?_
    refine zv_istore K [some (.ref (a 3)), some (.int vn), some (.int ft), some (.int v), some (.ref (a (q + 11))), some (.int 0)] 31 dX2_bringOre_29 rfl rfl (zlt rfl) ?_
    refine zv_ws (congrArg (zc a ty) (show σ = zFa σ 9 (zorN σ q 0 v) by rw [zorN_0]; exact (zFa_self σ 9).symm)) ?_
    exact kX2_bringOre_l l D ty a σ c vn ft v q hq20 hz K T 0 (by decide)

set_option maxHeartbeats 4000000 in
set_option maxRecDepth 100000 in
theorem kX2_apply (l : Launch) (D : va_G) (ty : zTy) (a : Nat → Nat) (σ : zC) (c : Nat) (hc : σ.1 3 0 = nI c) (hc20 : c ≤ 20) (x idle : Int32) (f : Nat) (hx : x = nI f) (hf : f < 90) (h5 : zg σ f 0 = 5 → ∃ p q : Nat, p < 10 ∧ zg σ f 5 = nI p ∧ q < 10 ∧ zg σ f 10 = nI q) : zv_ct l D ty yX2_apply cX2_apply 6 none (zR 4 92) [.ref (a 3), .ref (a 1), .int x, .int idle] (zc a ty σ) (fun v_ w_ => v_ = none ∧ w_ = zc a ty (zapl σ c f idle)) := by
  refine zv_open (by decide) rfl rfl [some (.ref (a 3)), some (.ref (a 1)), some (.int x), some (.int idle), none, none] (by simp [zv_one, Value.category]) (zle rfl) rfl ?_
  intro k K T
  refine zv_aload_n K 1 dX2_apply_0 rfl rfl ?_
  refine zv_iload_n K 2 dX2_apply_1 rfl rfl ?_
  refine zv_iconst K 0 3 dX2_apply_2 rfl (by decide) ?_
  refine zv_cV1 K (q0 := 1) (As := [.int x, .int 0]) (rest := []) 2 6 (kX0_get l D ty a σ x 0 f 0 hx rfl hf (by decide)) dX2_apply_3 rfl zw_2_36 zw_1_186 zw_1_187 zw_1_2 zw_1_188 ⟨rfl, rfl⟩ zh_yX0_get ⟨by decide, by decide⟩ (zc_at (j := 1) (by decide)) rfl rfl rfl (zle rfl) rfl ?_
  refine zv_istore K [some (.ref (a 3)), some (.ref (a 1)), some (.int x), some (.int idle), some (.int (zg σ f 0)), none] 8 dX2_apply_6 rfl rfl (zlt rfl) ?_
  refine zv_iload K 10 dX2_apply_8 rfl rfl ?_
  refine zv_if_ne K 22 13 dX2_apply_10 (by decide) rfl (fun h0 => ?_) (fun h0 => ?_)
  · skip
    refine zv_iload K 24 dX2_apply_22 rfl rfl ?_
    refine zv_bipush K 6 26 dX2_apply_24 rfl (by decide) ?_
    refine zv_icmp_ne K 56 29 dX2_apply_26 (by decide) rfl (fun h1 => ?_) (fun h1 => ?_)
    · skip
      refine zv_aload_n K 57 dX2_apply_56 rfl rfl ?_
      refine zv_aload_n K 58 dX2_apply_57 rfl rfl ?_
      refine zv_iload_n K 59 dX2_apply_58 rfl rfl ?_
      refine zv_bipush K 9 61 dX2_apply_59 rfl (by decide) ?_
      refine zv_cV1 K (q0 := 1) (As := [.int x, .int 9]) (rest := [.ref (a 3)]) 2 64 (kX0_get l D ty a σ x 9 f 9 hx rfl hf (by decide)) dX2_apply_61 rfl zw_2_36 zw_1_186 zw_1_187 zw_1_2 zw_1_188 ⟨rfl, rfl⟩ zh_yX0_get ⟨by decide, by decide⟩ (zc_at (j := 1) (by decide)) rfl rfl rfl (zle rfl) rfl ?_
      refine zv_cV K (q0 := 3) (As := [.int (zg σ f 9)]) (rest := []) 1 67 (kX2_find l D ty a σ c hc hc20 (zg σ f 9)) dX2_apply_64 rfl zw_2_80 zw_2_81 zw_2_82 zw_1_3 zw_2_83 ⟨rfl, rfl⟩ zh_yX2_find ⟨by decide, by decide⟩ (zc_at (j := 3) (by decide)) rfl rfl rfl (zle rfl) rfl ?_
      intro v_ w_ hv_
      obtain ⟨rfl, hv_⟩ := hv_
      rcases hv_ with ⟨hz, rfl⟩ | ⟨q, hz, rfl⟩
      · show zv k 67 [some (.ref (a 3)), some (.ref (a 1)), some (.int x), some (.int idle), some (.int (zg σ f 0)), none] (.null :: []) (zc a ty σ)
        refine zv_astoreN K [some (.ref (a 3)), some (.ref (a 1)), some (.int x), some (.int idle), some (.int (zg σ f 0)), some (.null)] 69 dX2_apply_67 rfl rfl (zlt rfl) ?_
        refine zv_aloadN K 71 dX2_apply_69 rfl rfl ?_
        refine zv_ifnullN K 82 dX2_apply_71 (by decide) ?_
        exact zv_vret K T dX2_apply_82 (⟨rfl, congrArg (zc a ty) (by unfold zapl; rw [if_neg h0, if_neg h1]; simp only [ztn, hz])⟩)
      · have hq20 : q < 20 := by have := zfst_lt hz; have := hc20; omega
        show zv k 67 [some (.ref (a 3)), some (.ref (a 1)), some (.int x), some (.int idle), some (.int (zg σ f 0)), none] (.ref (a (q + 11)) :: []) (zc a ty σ)
        refine zv_astore K [some (.ref (a 3)), some (.ref (a 1)), some (.int x), some (.int idle), some (.int (zg σ f 0)), some (.ref (a (q + 11)))] 69 dX2_apply_67 rfl rfl (zlt rfl) ?_
        refine zv_aload K 71 dX2_apply_69 rfl rfl ?_
        refine zv_ifnull K 74 dX2_apply_71 rfl ?_
        refine zv_aload K 76 dX2_apply_74 rfl rfl ?_
        refine zv_aload_n K 77 dX2_apply_76 rfl rfl ?_
        refine zv_iload_n K 78 dX2_apply_77 rfl rfl ?_
        refine zv_iload_n K 79 dX2_apply_78 rfl rfl ?_
        refine zv_ws (congrArg (zc a ty) (zCl_self σ q).symm) ?_
        refine zv_cV0 K (q0 := (q + 11)) (As := [.ref (a 1), .int x, .int idle]) (rest := []) 3 82 (kX1_turn l D ty a σ q hq20 (σ.1 (q + 11)) (σ.2 (q + 31)) x idle f hx hf h5) dX2_apply_79 rfl zw_2_84 zw_2_85 zw_2_86 zw_1_4 zw_2_87 ⟨rfl, rfl⟩ zh_yX1_turn ⟨by decide, by decide⟩ (zk_at hq20) rfl rfl rfl (zle rfl) rfl ?_
        exact zv_vret K T dX2_apply_82 (⟨rfl, congrArg (zc a ty) (by unfold zapl; rw [if_neg h0, if_neg h1]; simp only [ztn, hz])⟩)
    · skip
      refine zv_aload_n K 30 dX2_apply_29 rfl rfl ?_
      refine zv_aload_n K 31 dX2_apply_30 rfl rfl ?_
      refine zv_iload_n K 32 dX2_apply_31 rfl rfl ?_
      refine zv_iconst K 4 33 dX2_apply_32 rfl (by decide) ?_
      refine zv_cV1 K (q0 := 1) (As := [.int x, .int 4]) (rest := [.ref (a 3)]) 2 36 (kX0_get l D ty a σ x 4 f 4 hx rfl hf (by decide)) dX2_apply_33 rfl zw_2_36 zw_1_186 zw_1_187 zw_1_2 zw_1_188 ⟨rfl, rfl⟩ zh_yX0_get ⟨by decide, by decide⟩ (zc_at (j := 1) (by decide)) rfl rfl rfl (zle rfl) rfl ?_
      refine zv_aload_n K 37 dX2_apply_36 rfl rfl ?_
      refine zv_iload_n K 38 dX2_apply_37 rfl rfl ?_
      refine zv_bipush K 6 40 dX2_apply_38 rfl (by decide) ?_
      refine zv_cV1 K (q0 := 1) (As := [.int x, .int 6]) (rest := [.int (zg σ f 4), .ref (a 3)]) 2 43 (kX0_get l D ty a σ x 6 f 6 hx rfl hf (by decide)) dX2_apply_40 rfl zw_2_36 zw_1_186 zw_1_187 zw_1_2 zw_1_188 ⟨rfl, rfl⟩ zh_yX0_get ⟨by decide, by decide⟩ (zc_at (j := 1) (by decide)) rfl rfl rfl (zle rfl) rfl ?_
      refine zv_aload_n K 44 dX2_apply_43 rfl rfl ?_
      refine zv_iload_n K 45 dX2_apply_44 rfl rfl ?_
      refine zv_bipush K 8 47 dX2_apply_45 rfl (by decide) ?_
      refine zv_cV1 K (q0 := 1) (As := [.int x, .int 8]) (rest := [.int (zg σ f 6), .int (zg σ f 4), .ref (a 3)]) 2 50 (kX0_get l D ty a σ x 8 f 8 hx rfl hf (by decide)) dX2_apply_47 rfl zw_2_36 zw_1_186 zw_1_187 zw_1_2 zw_1_188 ⟨rfl, rfl⟩ zh_yX0_get ⟨by decide, by decide⟩ (zc_at (j := 1) (by decide)) rfl rfl rfl (zle rfl) rfl ?_
      refine zv_cV0 K (q0 := 3) (As := [.int (zg σ f 4), .int (zg σ f 6), .int (zg σ f 8)]) (rest := []) 3 53 (kX2_bringOre l D ty a σ c hc hc20 (zg σ f 4) (zg σ f 6) (zg σ f 8)) dX2_apply_50 rfl zw_2_67 zw_2_69 zw_p1_10 zw_1_3 zw_2_70 ⟨rfl, rfl⟩ zh_yX2_bringOre ⟨by decide, by decide⟩ (zc_at (j := 3) (by decide)) rfl rfl rfl (zle rfl) rfl ?_
      refine zv_goto K 82 dX2_apply_53 (by decide) ?_
      exact zv_vret K T dX2_apply_82 (⟨rfl, congrArg (zc a ty) (by unfold zapl; rw [if_neg h0, if_pos h1])⟩)
  · skip
    refine zv_aload_n K 14 dX2_apply_13 rfl rfl ?_
    refine zv_aload_n K 15 dX2_apply_14 rfl rfl ?_
    refine zv_iload_n K 16 dX2_apply_15 rfl rfl ?_
    refine zv_cV0 K (q0 := 3) (As := [.ref (a 1), .int x]) (rest := []) 2 19 (kX2_addClaim l D ty a σ c hc hc20 x f hx hf) dX2_apply_16 rfl zw_2_46 zw_2_48 zw_p1_6 zw_1_3 zw_2_49 ⟨rfl, rfl⟩ zh_yX2_addClaim ⟨by decide, by decide⟩ (zc_at (j := 3) (by decide)) rfl rfl rfl (zle rfl) rfl ?_
    refine zv_goto K 82 dX2_apply_19 (by decide) ?_
    exact zv_vret K T dX2_apply_82 (⟨rfl, congrArg (zc a ty) (by unfold zapl; rw [if_pos h0])⟩)

