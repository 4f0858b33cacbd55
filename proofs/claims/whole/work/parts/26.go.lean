set_option maxHeartbeats 4000000 in
set_option maxRecDepth 100000 in
theorem kX2_goThrough_l (l : Launch) (D : va_G) (ty : zTy) (a : Nat → Nat) (σ : zC) (O : Nat → Nat) (n : Nat) (hn : n ≤ 90) (hcn : σ.1 1 1 = nI n) (hO : ∀ i, i < n → σ.2 5 i = nI (O i) ∧ O i < 90) (h5 : ∀ i, i < n → zg σ (O i) 0 = 5 → ∃ p q : Nat, p < 10 ∧ zg σ (O i) 5 = nI p ∧ q < 10 ∧ zg σ (O i) 10 = nI q) (day known idle : Int32) (Fin : zC) {k : zKx} (K : zv_ok k l D (zR 5 117) cX2_goThrough 7 yX2_goThrough.cls ty) (T : zv_rt k none (fun v_ w_ => v_ = none ∧ w_ = zc a ty Fin)) : ∀ p : Nat × zC, p.1 ≤ n → zfr σ p.2 → zcok p.2 → zrun O day known idle (n - p.1) p.1 p.2 = Fin → ∀ o6 : Option Value, zv k 7 [some (.ref (a 3)), some (.ref (a 1)), some (.int day), some (.int known), some (.int idle), some (.int (nI p.1)), o6] [] (zc a ty p.2) := by
  refine z_wf (fun p : Nat × zC => n - p.1) ?_
  intro ⟨i, ρ⟩ ih hi hfr hcc hfin o6
  replace hi : i ≤ n := hi
  replace hfr : zfr σ ρ := hfr
  obtain ⟨c, hc20, hc⟩ := hcc
  replace hc : ρ.1 3 0 = nI c := hc
  replace hfin : zrun O day known idle (n - i) i ρ = Fin := hfin
  show zv k 7 [some (.ref (a 3)), some (.ref (a 1)), some (.int day), some (.int known), some (.int idle), some (.int (nI i)), o6] [] (zc a ty ρ)
  refine zv_iload K 9 dX2_goThrough_7 rfl rfl ?_
  refine zv_aload_n K 10 dX2_goThrough_9 rfl rfl ?_
  refine zv_getN (v := .int (ρ.1 1 1)) (C := RX0) (T := TX0) (N := 5) K 1 1 13 dX2_goThrough_10 rfl zy_X0 (zc_at (j := 1) (by decide)) rfl (by decide) zn_2 rfl ?_
  refine zv_topi (nI n) (by rw [hfr.1 1 (by decide)]; exact hcn) ?_
  refine zv_icmp_ge K 62 16 dX2_goThrough_13 (by decide) rfl (fun hb => ?_) (fun hb => ?_)
  · skip
    exact zv_vret K T dX2_goThrough_62 (⟨rfl, congrArg (zc a ty) (by have e : n - i = 0 := (by have := z_ge hb (by omega) (by omega); omega); rw [← hfin, e]; rfl)⟩)
  · skip
    have hlt : i < n := z_lt hb (by omega)
    refine zv_aload_n K 17 dX2_goThrough_16 rfl rfl ?_
    refine zv_getN (v := .ref (a 5)) (C := RX0) (T := TX0) (N := 5) K 1 4 20 dX2_goThrough_17 rfl zy_X0 (zc_at (j := 1) (by decide)) rfl (by decide) zn_5 rfl ?_
    refine zv_iload K 22 dX2_goThrough_20 rfl rfl ?_
    refine zv_iald (F := ρ.2 5) K 5 i 23 dX2_goThrough_22 rfl (zc_at (j := 5) (by decide)) rfl (by omega) (by decide) ?_
    refine zv_topi (nI (O i)) (by rw [hfr.2 5 (by decide)]; exact (hO i hlt).1) ?_
    refine zv_istore K [some (.ref (a 3)), some (.ref (a 1)), some (.int day), some (.int known), some (.int idle), some (.int (nI i)), some (.int (nI (O i)))] 25 dX2_goThrough_23 rfl rfl (zlt rfl) ?_
    refine zv_aload_n K 26 dX2_goThrough_25 rfl rfl ?_
    refine zv_iload K 28 dX2_goThrough_26 rfl rfl ?_
    refine zv_iconst K 1 29 dX2_goThrough_28 rfl (by decide) ?_
    refine zv_cV1 K (q0 := 1) (As := [.int (nI (O i)), .int 1]) (rest := []) 2 32 (kX0_get l D ty a ρ (nI (O i)) 1 (O i) 1 rfl rfl ((hO i hlt).2) (by decide)) dX2_goThrough_29 rfl zw_2_36 zw_1_186 zw_1_187 zw_1_2 zw_1_188 ⟨rfl, rfl⟩ zh_yX0_get ⟨by decide, by decide⟩ (zc_at (j := 1) (by decide)) rfl rfl rfl (zle rfl) rfl ?_
    refine zv_iload_n K 33 dX2_goThrough_32 rfl rfl ?_
    refine zv_icmp_le K 37 36 dX2_goThrough_33 (by decide) rfl (fun hd => ?_) (fun hd => ?_)
    · skip
      refine zv_aload_n K 38 dX2_goThrough_37 rfl rfl ?_
      refine zv_iload K 40 dX2_goThrough_38 rfl rfl ?_
      refine zv_iload_n K 41 dX2_goThrough_40 rfl rfl ?_
      refine zv_cV1 K (q0 := 1) (As := [.int (nI (O i)), .int known]) (rest := []) 2 44 (kX0_isKnown l D ty a ρ (nI (O i)) (O i) rfl ((hO i hlt).2) known) dX2_goThrough_41 rfl zw_2_37 zw_2_38 zw_2_39 zw_1_2 zw_2_40 ⟨rfl, rfl⟩ zh_yX0_isKnown ⟨by decide, by decide⟩ (zc_at (j := 1) (by decide)) rfl rfl rfl (zle rfl) rfl ?_
      refine zv_ifB_eq K 56 47 dX2_goThrough_44 (by decide) rfl (fun hk => ?_) (fun hk => ?_)
      · skip
        refine zv_iinc K (nI (i + 1)) [some (.ref (a 3)), some (.ref (a 1)), some (.int day), some (.int known), some (.int idle), some (.int (nI (i + 1))), some (.int (nI (O i)))] 59 dX2_goThrough_56 rfl rfl (z_inc i) rfl ?_
        refine zv_goto K 7 dX2_goThrough_59 (by decide) ?_
        exact ih (i + 1, ρ) (by show n - (i + 1) < n - i; omega) (by show i + 1 ≤ n; omega) hfr ⟨c, hc20, hc⟩ (by rw [← hfin, zrun_s hlt, if_neg (z_len hd), if_neg hk]) (some (.int (nI (O i))))
      · skip
        have h5r : zg ρ (O i) 0 = 5 → ∃ p q : Nat, p < 10 ∧ zg ρ (O i) 5 = nI p ∧ q < 10 ∧ zg ρ (O i) 10 = nI q := by rw [hfr.zg, hfr.zg, hfr.zg]; exact h5 i hlt
        refine zv_aload_n K 48 dX2_goThrough_47 rfl rfl ?_
        refine zv_aload_n K 49 dX2_goThrough_48 rfl rfl ?_
        refine zv_iload K 51 dX2_goThrough_49 rfl rfl ?_
        refine zv_iload K 53 dX2_goThrough_51 rfl rfl ?_
        refine zv_cV0 K (q0 := 3) (As := [.ref (a 1), .int (nI (O i)), .int idle]) (rest := []) 3 56 (kX2_apply l D ty a ρ c hc hc20 (nI (O i)) idle (O i) rfl ((hO i hlt).2) h5r) dX2_goThrough_53 rfl zw_2_42 zw_2_44 zw_p1_5 zw_1_3 zw_2_45 ⟨rfl, rfl⟩ zh_yX2_apply ⟨by decide, by decide⟩ (zc_at (j := 3) (by decide)) rfl rfl rfl (zle rfl) rfl ?_
        refine zv_iinc K (nI (i + 1)) [some (.ref (a 3)), some (.ref (a 1)), some (.int day), some (.int known), some (.int idle), some (.int (nI (i + 1))), some (.int (nI (O i)))] 59 dX2_goThrough_56 rfl rfl (z_inc i) rfl ?_
        refine zv_goto K 7 dX2_goThrough_59 (by decide) ?_
        exact ih (i + 1, zapl ρ c (O i) idle) (by show n - (i + 1) < n - i; omega) (by show i + 1 ≤ n; omega) (hfr.tr (zfr_apl ρ c _ _)) (zcok_apl hc hc20 _ _) (by rw [← hfin, zrun_s hlt, if_neg (z_len hd), if_pos hk, zcn_of hc hc20]) (some (.int (nI (O i))))
    · skip
      exact zv_vret K T dX2_goThrough_36 (⟨rfl, congrArg (zc a ty) (by rw [← hfin, zrun_s hlt, if_pos (z_nle hd)])⟩)

set_option maxHeartbeats 4000000 in
set_option maxRecDepth 100000 in
theorem kX2_goThrough (l : Launch) (D : va_G) (ty : zTy) (a : Nat → Nat) (σ : zC) (O : Nat → Nat) (n : Nat) (hn : n ≤ 90) (hcn : σ.1 1 1 = nI n) (hO : ∀ i, i < n → σ.2 5 i = nI (O i) ∧ O i < 90) (h5 : ∀ i, i < n → zg σ (O i) 0 = 5 → ∃ p q : Nat, p < 10 ∧ zg σ (O i) 5 = nI p ∧ q < 10 ∧ zg σ (O i) 10 = nI q) (day known idle : Int32) : zv_ct l D ty yX2_goThrough cX2_goThrough 7 none (zR 5 117) [.ref (a 3), .ref (a 1), .int day, .int known, .int idle] (zc a ty σ) (fun v_ w_ => v_ = none ∧ w_ = zc a ty (zrun O day known idle n 0 (zclear σ))) := by
  refine zv_open (by decide) rfl rfl [some (.ref (a 3)), some (.ref (a 1)), some (.int day), some (.int known), some (.int idle), none, none] (by simp [zv_one, Value.category]) (zle rfl) rfl ?_
  intro k K T
  refine zv_aload_n K 1 dX2_goThrough_0 rfl rfl ?_
  refine zv_cV0 K (q0 := 3) (As := []) (rest := []) 0 4 (kX2_clear l D ty a σ) dX2_goThrough_1 rfl zw_2_32 zw_2_34 zw_p1_4 zw_1_3 zw_2_35 ⟨rfl, rfl⟩ zh_yX2_clear ⟨by decide, by decide⟩ (zc_at (j := 3) (by decide)) rfl rfl rfl (zle rfl) rfl ?_
  refine zv_iconst K 0 5 dX2_goThrough_4 rfl (by decide) ?_
  refine zv_istore K [some (.ref (a 3)), some (.ref (a 1)), some (.int day), some (.int known), some (.int idle), some (.int 0), none] 7 dX2_goThrough_5 rfl rfl (zlt rfl) ?_
  exact kX2_goThrough_l l D ty a σ O n hn hcn hO h5 day known idle _ K T (0, zclear σ) (Nat.zero_le _) (zfr_clear σ) (zcok_clear σ) rfl none

set_option maxHeartbeats 4000000 in
set_option maxRecDepth 100000 in
theorem kX3_goThrough (l : Launch) (D : va_G) (ty : zTy) (a : Nat → Nat) (σ : zC) (O : Nat → Nat) (n : Nat) (hI : zI σ O n) (day known : Int32) : zv_ct l D ty yX3_goThrough cX3_goThrough 3 none (zR 6 143) [.ref (a 0), .int day, .int known] (zc a ty σ) (fun v_ w_ => v_ = none ∧ w_ = zc a ty (zQ σ O n day known)) := by
  refine zv_open (by decide) rfl rfl [some (.ref (a 0)), some (.int day), some (.int known)] (by simp [zv_one, Value.category]) (zle rfl) rfl ?_
  intro k K T
  refine zv_aload_n K 1 dX3_goThrough_0 rfl rfl ?_
  refine zv_get (v := .ref (a 3)) (C := RX3) (T := TX3) (N := 7) K 0 5 4 dX3_goThrough_1 rfl zy_X3 (zc_at (j := 0) (by decide)) rfl (by decide) zw_1_124 rfl ?_
  refine zv_aload_n K 5 dX3_goThrough_4 rfl rfl ?_
  refine zv_get (v := .ref (a 1)) (C := RX3) (T := TX3) (N := 7) K 0 0 8 dX3_goThrough_5 rfl zy_X3 (zc_at (j := 0) (by decide)) rfl (by decide) zw_1_119 rfl ?_
  refine zv_iload_n K 9 dX3_goThrough_8 rfl rfl ?_
  refine zv_iload_n K 10 dX3_goThrough_9 rfl rfl ?_
  refine zv_aload_n K 11 dX3_goThrough_10 rfl rfl ?_
  refine zv_get (v := .int (σ.1 0 4)) (C := RX3) (T := TX3) (N := 7) K 0 4 14 dX3_goThrough_11 rfl zy_X3 (zc_at (j := 0) (by decide)) rfl (by decide) zw_1_123 rfl ?_
  refine zv_cV0 K (q0 := 3) (As := [.ref (a 1), .int day, .int known, .int (σ.1 0 4)]) (rest := []) 4 17 (kX2_goThrough l D ty a σ O n hI.1 hI.2.1 hI.2.2.1 hI.2.2.2 day known (σ.1 0 4)) dX3_goThrough_14 rfl zw_2_28 zw_2_29 zw_2_30 zw_1_3 zw_2_31 ⟨rfl, rfl⟩ zh_yX2_goThrough ⟨by decide, by decide⟩ (zc_at (j := 3) (by decide)) rfl rfl rfl (zle rfl) rfl ?_
  exact zv_vret K T dX3_goThrough_17 (⟨rfl, rfl⟩)

set_option maxHeartbeats 4000000 in
set_option maxRecDepth 100000 in
theorem kX3_noteHolders_l (l : Launch) (D : va_G) (ty : zTy) (a : Nat → Nat) (σ : zC) (c : Nat) (hc : σ.1 3 0 = nI c) (hc20 : c ≤ 20) {k : zKx} (K : zv_ok k l D (zR 4 90) cX3_noteHolders 2 yX3_noteHolders.cls ty) (T : zv_rt k none (fun v_ w_ => v_ = none ∧ w_ = zc a ty (zFa σ 10 (zhN σ c 240 (σ.2 10))))) : ∀ j : Nat, j ≤ 240 → zv k 2 [some (.ref (a 0)), some (.int (nI j))] [] (zc a ty (zFa σ 10 (zhN σ c j (σ.2 10)))) := by
  refine z_wf (fun j : Nat => 240 - j) ?_
  intro j ih hj
  refine zv_iload_n K 3 dX3_noteHolders_2 rfl rfl ?_
  refine zv_aload_n K 4 dX3_noteHolders_3 rfl rfl ?_
  refine zv_get (v := .ref (a 10)) (C := RX3) (T := TX3) (N := 7) K 0 6 7 dX3_noteHolders_4 rfl zy_X3 (zc_at (j := 0) (by decide)) rfl (by decide) zw_1_125 rfl ?_
  refine zv_alen K 10 8 240 dX3_noteHolders_7 rfl (zc_at (j := 10) (by decide)) rfl ?_
  refine zv_icmp_ge K 38 11 dX3_noteHolders_8 (by decide) rfl (fun hb => ?_) (fun hb => ?_)
  · skip
    have e : j = 240 := by have := z_ge (c := 240) hb (by decide) (by omega); omega
    exact zv_vret K T dX3_noteHolders_38 (⟨rfl, by rw [e]⟩)
  · skip
    have hlt : j < 240 := z_lt (c := 240) hb (by omega)
    refine zv_aload_n K 12 dX3_noteHolders_11 rfl rfl ?_
    refine zv_get (v := .ref (a 10)) (C := RX3) (T := TX3) (N := 7) K 0 6 15 dX3_noteHolders_12 rfl zy_X3 (zc_at (j := 0) (by decide)) rfl (by decide) zw_1_125 rfl ?_
    refine zv_iload_n K 16 dX3_noteHolders_15 rfl rfl ?_
    refine zv_aload_n K 17 dX3_noteHolders_16 rfl rfl ?_
    refine zv_get (v := .ref (a 3)) (C := RX3) (T := TX3) (N := 7) K 0 5 20 dX3_noteHolders_17 rfl zy_X3 (zc_at (j := 0) (by decide)) rfl (by decide) zw_1_124 rfl ?_
    refine zv_iload_n K 21 dX3_noteHolders_20 rfl rfl ?_
    refine zv_bipush K 60 23 dX3_noteHolders_21 rfl (by decide) ?_
    refine zv_idiv K 24 dX3_noteHolders_23 rfl (by decide) ?_
    refine zv_topi (nI (j / 60)) (zdiv60 hlt) ?_
    refine zv_iload_n K 25 dX3_noteHolders_24 rfl rfl ?_
    refine zv_bipush K 60 27 dX3_noteHolders_25 rfl (by decide) ?_
    refine zv_irem K 28 dX3_noteHolders_27 rfl (by decide) ?_
    refine zv_topi (nI (j % 60)) (zrem60 hlt) ?_
    refine zv_cV1 K (q0 := 3) (As := [.int (nI (j / 60)), .int (nI (j % 60))]) (rest := [.int (nI j), .ref (a 10)]) 2 31 (kX2_holderOver l D ty a (zFa σ 10 (zhN σ c j (σ.2 10))) c hc hc20 (nI (j / 60)) (nI (j % 60))) dX3_noteHolders_28 rfl zw_2_104 zw_2_105 zw_2_106 zw_1_3 zw_2_107 ⟨rfl, rfl⟩ zh_yX2_holderOver ⟨by decide, by decide⟩ (zc_at (j := 3) (by decide)) rfl rfl rfl (zle rfl) rfl ?_
    refine zv_topi (zhj σ c j) (by exact zhold_fr (fun _ => rfl) c _ _) ?_
    refine zv_iast K 10 j 32 (zc a ty (zF (zFa σ 10 (zhN σ c j (σ.2 10))) 10 j (zhj σ c j))) dX3_noteHolders_31 rfl (zc_at (j := 10) (by decide)) rfl hlt (by decide) (zc_F 10 j (by decide) rfl) ?_
    refine zv_iinc K (nI (j + 1)) [some (.ref (a 0)), some (.int (nI (j + 1)))] 35 dX3_noteHolders_32 rfl rfl (z_inc j) rfl ?_
    refine zv_goto K 2 dX3_noteHolders_35 (by decide) ?_
    refine zv_ws (congrArg (zc a ty) ((zF_Fa σ 10 j _ _).trans (congrArg (zFa σ 10) (zhN_s σ c j (σ.2 10))))) ?_
    exact ih (j + 1) (by omega) (by omega)

set_option maxHeartbeats 4000000 in
set_option maxRecDepth 100000 in
theorem kX3_noteHolders (l : Launch) (D : va_G) (ty : zTy) (a : Nat → Nat) (σ : zC) (c : Nat) (hc : σ.1 3 0 = nI c) (hc20 : c ≤ 20) : zv_ct l D ty yX3_noteHolders cX3_noteHolders 2 none (zR 4 90) [.ref (a 0)] (zc a ty σ) (fun v_ w_ => v_ = none ∧ w_ = zc a ty (zFa σ 10 (zhN σ c 240 (σ.2 10)))) := by
  refine zv_open (by decide) rfl rfl [some (.ref (a 0)), none] (by simp [zv_one, Value.category]) (zle rfl) rfl ?_
  intro k K T
  refine zv_iconst K 0 1 dX3_noteHolders_0 rfl (by decide) ?_
  refine zv_istore_n K [some (.ref (a 0)), some (.int 0)] 2 dX3_noteHolders_1 rfl rfl (zlt rfl) ?_
  refine zv_ws (congrArg (zc a ty) (show σ = zFa σ 10 (zhN σ c 0 (σ.2 10)) by rw [zhN_0]; exact (zFa_self σ 10).symm)) ?_
  exact kX3_noteHolders_l l D ty a σ c hc hc20 K T 0 (by decide)

