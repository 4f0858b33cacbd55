set_option maxHeartbeats 4000000 in
set_option maxRecDepth 100000 in
theorem kX4_isKnown (l : Launch) (D : va_G) (ty : zTy) (b : Nat → Nat) (τ : zM) (x y : Int32) (f : Nat) (hx : x = nI f) (hf : f < 90) : zv_ct l D ty yX4_isKnown cX4_isKnown 3 (some .boolean) (zR 0 0) [.ref (b 0), .int x, .int y] (zm b ty τ) (fun v_ w_ => v_ = some (.int (zB (τ.2 7 f ≤ y ∧ (τ.2 8 f = -4 ∨ ¬ τ.2 8 f ≤ y)))) ∧ w_ = zm b ty τ) := by
  refine zv_open (by decide) rfl rfl [some (.ref (b 0)), some (.int x), some (.int y)] (by simp [zv_one, Value.category]) (zle rfl) rfl ?_
  intro k K T
  refine zv_aload_n K 1 dX4_isKnown_0 rfl rfl ?_
  refine zm_get (v := .ref (b 7)) K 7 4 dX4_isKnown_1 rfl (by decide) zw_2_195 rfl ?_
  refine zv_iload_n K 5 dX4_isKnown_4 rfl rfl ?_
  refine zv_iald (F := τ.2 7) K 3 f 6 dX4_isKnown_5 rfl (zm_at (p := 3) (j := 7) rfl) hx hf (by decide) ?_
  refine zv_iload_n K 7 dX4_isKnown_6 rfl rfl ?_
  refine zv_icmp_gt K 35 10 dX4_isKnown_7 (by decide) rfl (fun h1 => ?_) (fun h1 => ?_)
  · skip
    refine zv_iconst K 0 36 dX4_isKnown_35 rfl (by decide) ?_
    exact zv_zret K T dX4_isKnown_36 rfl (⟨congrArg (fun z => some (Value.int z)) (Eq.symm (zB_f (by simp_all [z_ltn, z_nlt, z_nle, z_len]))), rfl⟩)
  · skip
    refine zv_aload_n K 11 dX4_isKnown_10 rfl rfl ?_
    refine zm_get (v := .ref (b 8)) K 8 14 dX4_isKnown_11 rfl (by decide) zw_2_196 rfl ?_
    refine zv_iload_n K 15 dX4_isKnown_14 rfl rfl ?_
    refine zv_iald (F := τ.2 8) K 4 f 16 dX4_isKnown_15 rfl (zm_at (p := 4) (j := 8) rfl) hx hf (by decide) ?_
    refine zv_bipush K (-4) 18 dX4_isKnown_16 rfl (by decide) ?_
    refine zv_icmp_eq K 31 21 dX4_isKnown_18 (by decide) rfl (fun h2 => ?_) (fun h2 => ?_)
    · skip
      refine zv_iconst K 1 32 dX4_isKnown_31 rfl (by decide) ?_
      refine zv_goto K 36 dX4_isKnown_32 (by decide) ?_
      exact zv_zret K T dX4_isKnown_36 rfl (⟨congrArg (fun z => some (Value.int z)) (Eq.symm (zB_t (by simp_all [z_ltn, z_nlt, z_nle, z_len]))), rfl⟩)
    · skip
      refine zv_aload_n K 22 dX4_isKnown_21 rfl rfl ?_
      refine zm_get (v := .ref (b 8)) K 8 25 dX4_isKnown_22 rfl (by decide) zw_2_196 rfl ?_
      refine zv_iload_n K 26 dX4_isKnown_25 rfl rfl ?_
      refine zv_iald (F := τ.2 8) K 4 f 27 dX4_isKnown_26 rfl (zm_at (p := 4) (j := 8) rfl) hx hf (by decide) ?_
      refine zv_iload_n K 28 dX4_isKnown_27 rfl rfl ?_
      refine zv_icmp_le K 35 31 dX4_isKnown_28 (by decide) rfl (fun h3 => ?_) (fun h3 => ?_)
      · skip
        refine zv_iconst K 0 36 dX4_isKnown_35 rfl (by decide) ?_
        exact zv_zret K T dX4_isKnown_36 rfl (⟨congrArg (fun z => some (Value.int z)) (Eq.symm (zB_f (by simp_all [z_ltn, z_nlt, z_nle, z_len]))), rfl⟩)
      · skip
        refine zv_iconst K 1 32 dX4_isKnown_31 rfl (by decide) ?_
        refine zv_goto K 36 dX4_isKnown_32 (by decide) ?_
        exact zv_zret K T dX4_isKnown_36 rfl (⟨congrArg (fun z => some (Value.int z)) (Eq.symm (zB_t (by simp_all [z_ltn, z_nlt, z_nle, z_len]))), rfl⟩)

set_option maxHeartbeats 4000000 in
set_option maxRecDepth 100000 in
theorem kX4_holds_l (l : Launch) (D : va_G) (ty : zTy) (b : Nat → Nat) (τ : zM) (x : Int32) (c : Nat) (hx : x = nI c) (hcx : c < 90) (m d : Int32) {k : zKx} (K : zv_ok k l D (zR 0 0) cX4_holds 5 yX4_holds.cls ty) (T : zv_rt k none (fun v_ w_ => v_ = none ∧ w_ = zm b ty (mhold τ c m d))) : ∀ m_ : Nat, m_ ≤ 10 → zv k 10 [some (.ref (b 0)), some (.int x), some (.int m), some (.int d), some (.int (nI m_))] [] (zm b ty (zmFa (zmF τ 20 c m) 21 (msN c m_ (τ.2 21) m))) := by
  refine z_wf (fun m_ : Nat => 10 - m_) ?_
  intro m_ ih hm
  refine zv_iload K 12 dX4_holds_10 rfl rfl ?_
  refine zv_bipush K 10 14 dX4_holds_12 rfl (by decide) ?_
  refine zv_icmp_ge K 47 17 dX4_holds_14 (by decide) rfl (fun hb => ?_) (fun hb => ?_)
  · skip
    have e : m_ = 10 := by have := z_ge (c := 10) hb (by decide) (by omega); omega
    refine zv_aload_n K 48 dX4_holds_47 rfl rfl ?_
    refine zm_get (v := .ref (b 22)) K 22 51 dX4_holds_48 rfl (by decide) zw_2_210 rfl ?_
    refine zv_iload_n K 52 dX4_holds_51 rfl rfl ?_
    refine zv_iload_n K 53 dX4_holds_52 rfl rfl ?_
    refine zv_iast K 17 c 54 (zm b ty (zmF (zmFa (zmF τ 20 c m) 21 (msN c m_ (τ.2 21) m)) 22 c d)) dX4_holds_53 rfl (zm_at (p := 17) (j := 22) rfl) hx hcx (by decide) (zm_F 22 c rfl (by decide) rfl) ?_
    refine zv_aload_n K 55 dX4_holds_54 rfl rfl ?_
    refine zm_get (v := .ref (b 26)) K 26 58 dX4_holds_55 rfl (by decide) zw_2_214 rfl ?_
    refine zv_iload_n K 59 dX4_holds_58 rfl rfl ?_
    refine zv_iconst K 0 60 dX4_holds_59 rfl (by decide) ?_
    refine zv_iast K 21 c 61 (zm b ty (zmF (zmF (zmFa (zmF τ 20 c m) 21 (msN c m_ (τ.2 21) m)) 22 c d) 26 c 0)) dX4_holds_60 rfl (zm_at (p := 21) (j := 26) rfl) hx hcx (by decide) (zm_F 26 c rfl (by decide) rfl) ?_
    exact zv_vret K T dX4_holds_61 (⟨rfl, by rw [e]; rfl⟩)
  · skip
    have hlt : m_ < 10 := z_lt (c := 10) hb (by omega)
    refine zv_aload_n K 18 dX4_holds_17 rfl rfl ?_
    refine zm_get (v := .ref (b 21)) K 21 21 dX4_holds_18 rfl (by decide) zw_2_209 rfl ?_
    refine zv_bipush K 10 23 dX4_holds_21 rfl (by decide) ?_
    refine zv_iload_n K 24 dX4_holds_23 rfl rfl ?_
    refine zv_imul K 25 dX4_holds_24 rfl ?_
    refine zv_iload K 27 dX4_holds_25 rfl rfl ?_
    refine zv_iadd K 28 dX4_holds_27 rfl ?_
    refine zv_iload K 30 dX4_holds_28 rfl rfl ?_
    refine zv_iload_n K 31 dX4_holds_30 rfl rfl ?_
    refine zv_icmp_ne K 39 34 dX4_holds_31 (by decide) rfl (fun he => ?_) (fun he => ?_)
    · skip
      refine zv_iconst K 0 40 dX4_holds_39 rfl (by decide) ?_
      refine zv_iast K 16 (10 * c + m_) 41 (zm b ty (zmF (zmFa (zmF τ 20 c m) 21 (msN c m_ (τ.2 21) m)) 21 (10 * c + m_) 0)) dX4_holds_40 rfl (zm_at (p := 16) (j := 21) rfl) (by rw [hx]; exact zi10 c m_) (by omega) (by decide) (zm_F 21 (10 * c + m_) rfl (by decide) rfl) ?_
      refine zv_iinc K (nI (m_ + 1)) [some (.ref (b 0)), some (.int x), some (.int m), some (.int d), some (.int (nI (m_ + 1)))] 44 dX4_holds_41 rfl rfl (z_inc m_) rfl ?_
      refine zv_goto K 10 dX4_holds_44 (by decide) ?_
      refine zv_ws (congrArg (zm b ty) ((zmF_Fa (zmF τ 20 c m) 21 (10 * c + m_) _ _).trans (congrArg (zmFa (zmF τ 20 c m) 21) (msN_s c m_ (τ.2 21) m _ (by first | rw [if_pos he] | rw [if_neg he]))))) ?_
      exact ih (m_ + 1) (by omega) (by omega)
    · skip
      refine zv_bipush K 24 36 dX4_holds_34 rfl (by decide) ?_
      refine zv_goto K 40 dX4_holds_36 (by decide) ?_
      refine zv_iast K 16 (10 * c + m_) 41 (zm b ty (zmF (zmFa (zmF τ 20 c m) 21 (msN c m_ (τ.2 21) m)) 21 (10 * c + m_) 24)) dX4_holds_40 rfl (zm_at (p := 16) (j := 21) rfl) (by rw [hx]; exact zi10 c m_) (by omega) (by decide) (zm_F 21 (10 * c + m_) rfl (by decide) rfl) ?_
      refine zv_iinc K (nI (m_ + 1)) [some (.ref (b 0)), some (.int x), some (.int m), some (.int d), some (.int (nI (m_ + 1)))] 44 dX4_holds_41 rfl rfl (z_inc m_) rfl ?_
      refine zv_goto K 10 dX4_holds_44 (by decide) ?_
      refine zv_ws (congrArg (zm b ty) ((zmF_Fa (zmF τ 20 c m) 21 (10 * c + m_) _ _).trans (congrArg (zmFa (zmF τ 20 c m) 21) (msN_s c m_ (τ.2 21) m _ (by first | rw [if_pos he] | rw [if_neg he]))))) ?_
      exact ih (m_ + 1) (by omega) (by omega)

set_option maxHeartbeats 4000000 in
set_option maxRecDepth 100000 in
theorem kX4_holds (l : Launch) (D : va_G) (ty : zTy) (b : Nat → Nat) (τ : zM) (x : Int32) (c : Nat) (hx : x = nI c) (hcx : c < 90) (m d : Int32) : zv_ct l D ty yX4_holds cX4_holds 5 none (zR 0 0) [.ref (b 0), .int x, .int m, .int d] (zm b ty τ) (fun v_ w_ => v_ = none ∧ w_ = zm b ty (mhold τ c m d)) := by
  refine zv_open (by decide) rfl rfl [some (.ref (b 0)), some (.int x), some (.int m), some (.int d), none] (by simp [zv_one, Value.category]) (zle rfl) rfl ?_
  intro k K T
  refine zv_aload_n K 1 dX4_holds_0 rfl rfl ?_
  refine zm_get (v := .ref (b 20)) K 20 4 dX4_holds_1 rfl (by decide) zw_2_208 rfl ?_
  refine zv_iload_n K 5 dX4_holds_4 rfl rfl ?_
  refine zv_iload_n K 6 dX4_holds_5 rfl rfl ?_
  refine zv_iast K 15 c 7 (zm b ty (zmF τ 20 c m)) dX4_holds_6 rfl (zm_at (p := 15) (j := 20) rfl) hx hcx (by decide) (zm_F 20 c rfl (by decide) rfl) ?_
  refine zv_iconst K 0 8 dX4_holds_7 rfl (by decide) ?_
  refine zv_istore K [some (.ref (b 0)), some (.int x), some (.int m), some (.int d), some (.int 0)] 10 dX4_holds_8 rfl rfl (zlt rfl) ?_
  refine zv_ws (congrArg (zm b ty) (show zmF τ 20 c m = zmFa (zmF τ 20 c m) 21 (msN c 0 (τ.2 21) m) by rw [msN_0]; exact (zmFa_self (zmF τ 20 c m) 21).symm)) ?_
  exact kX4_holds_l l D ty b τ x c hx hcx m d K T 0 (by decide)

def fX4_nicked (τ : zM) (c : Nat) (m : Int32) (d : Int32) : zM :=
  if (d - (τ.2 22 c)) ≤ (τ.1 2) then
    τ
  else
    if m = (τ.2 20 c) then
      τ
    else
      if (τ.2 26 c) ≤ 0 then
        if (τ.2 26 c) = 0 then
          if ((zmF (zmF (zmF (zmF τ 27 c d) 28 c d) 25 c m) 26 c ((τ.2 26 c) + 1)).2 26 c) = 3 then
            (mhold (zmF (zmF (zmF (zmF τ 27 c d) 28 c d) 25 c m) 26 c ((τ.2 26 c) + 1)) c m d)
          else
            (zmF (zmF (zmF (zmF τ 27 c d) 28 c d) 25 c m) 26 c ((τ.2 26 c) + 1))
        else
          if ((zmF (zmF (zmF (zmF τ 27 c (τ.2 27 c)) 28 c d) 25 c m) 26 c ((τ.2 26 c) + 1)).2 26 c) = 3 then
            (mhold (zmF (zmF (zmF (zmF τ 27 c (τ.2 27 c)) 28 c d) 25 c m) 26 c ((τ.2 26 c) + 1)) c m d)
          else
            (zmF (zmF (zmF (zmF τ 27 c (τ.2 27 c)) 28 c d) 25 c m) 26 c ((τ.2 26 c) + 1))
      else
        if (τ.2 25 c) = m then
          if (d - (τ.2 27 c)) ≤ 10 then
            if (τ.2 28 c) = d then
              τ
            else
              if (τ.2 26 c) = 0 then
                if ((zmF (zmF (zmF (zmF τ 27 c d) 28 c d) 25 c m) 26 c ((τ.2 26 c) + 1)).2 26 c) = 3 then
                  (mhold (zmF (zmF (zmF (zmF τ 27 c d) 28 c d) 25 c m) 26 c ((τ.2 26 c) + 1)) c m d)
                else
                  (zmF (zmF (zmF (zmF τ 27 c d) 28 c d) 25 c m) 26 c ((τ.2 26 c) + 1))
              else
                if ((zmF (zmF (zmF (zmF τ 27 c (τ.2 27 c)) 28 c d) 25 c m) 26 c ((τ.2 26 c) + 1)).2 26 c) = 3 then
                  (mhold (zmF (zmF (zmF (zmF τ 27 c (τ.2 27 c)) 28 c d) 25 c m) 26 c ((τ.2 26 c) + 1)) c m d)
                else
                  (zmF (zmF (zmF (zmF τ 27 c (τ.2 27 c)) 28 c d) 25 c m) 26 c ((τ.2 26 c) + 1))
          else
            if ((zmF τ 26 c 0).2 26 c) ≤ 0 then
              if ((zmF τ 26 c 0).2 26 c) = 0 then
                if ((zmF (zmF (zmF (zmF (zmF τ 26 c 0) 27 c d) 28 c d) 25 c m) 26 c (((zmF τ 26 c 0).2 26 c) + 1)).2 26 c) = 3 then
                  (mhold (zmF (zmF (zmF (zmF (zmF τ 26 c 0) 27 c d) 28 c d) 25 c m) 26 c (((zmF τ 26 c 0).2 26 c) + 1)) c m d)
                else
                  (zmF (zmF (zmF (zmF (zmF τ 26 c 0) 27 c d) 28 c d) 25 c m) 26 c (((zmF τ 26 c 0).2 26 c) + 1))
              else
                if ((zmF (zmF (zmF (zmF (zmF τ 26 c 0) 27 c (τ.2 27 c)) 28 c d) 25 c m) 26 c (((zmF τ 26 c 0).2 26 c) + 1)).2 26 c) = 3 then
                  (mhold (zmF (zmF (zmF (zmF (zmF τ 26 c 0) 27 c (τ.2 27 c)) 28 c d) 25 c m) 26 c (((zmF τ 26 c 0).2 26 c) + 1)) c m d)
                else
                  (zmF (zmF (zmF (zmF (zmF τ 26 c 0) 27 c (τ.2 27 c)) 28 c d) 25 c m) 26 c (((zmF τ 26 c 0).2 26 c) + 1))
            else
              if (τ.2 28 c) = d then
                (zmF τ 26 c 0)
              else
                if ((zmF τ 26 c 0).2 26 c) = 0 then
                  if ((zmF (zmF (zmF (zmF (zmF τ 26 c 0) 27 c d) 28 c d) 25 c m) 26 c (((zmF τ 26 c 0).2 26 c) + 1)).2 26 c) = 3 then
                    (mhold (zmF (zmF (zmF (zmF (zmF τ 26 c 0) 27 c d) 28 c d) 25 c m) 26 c (((zmF τ 26 c 0).2 26 c) + 1)) c m d)
                  else
                    (zmF (zmF (zmF (zmF (zmF τ 26 c 0) 27 c d) 28 c d) 25 c m) 26 c (((zmF τ 26 c 0).2 26 c) + 1))
                else
                  if ((zmF (zmF (zmF (zmF (zmF τ 26 c 0) 27 c (τ.2 27 c)) 28 c d) 25 c m) 26 c (((zmF τ 26 c 0).2 26 c) + 1)).2 26 c) = 3 then
                    (mhold (zmF (zmF (zmF (zmF (zmF τ 26 c 0) 27 c (τ.2 27 c)) 28 c d) 25 c m) 26 c (((zmF τ 26 c 0).2 26 c) + 1)) c m d)
                  else
                    (zmF (zmF (zmF (zmF (zmF τ 26 c 0) 27 c (τ.2 27 c)) 28 c d) 25 c m) 26 c (((zmF τ 26 c 0).2 26 c) + 1))
        else
          if ((zmF τ 26 c 0).2 26 c) ≤ 0 then
            if ((zmF τ 26 c 0).2 26 c) = 0 then
              if ((zmF (zmF (zmF (zmF (zmF τ 26 c 0) 27 c d) 28 c d) 25 c m) 26 c (((zmF τ 26 c 0).2 26 c) + 1)).2 26 c) = 3 then
                (mhold (zmF (zmF (zmF (zmF (zmF τ 26 c 0) 27 c d) 28 c d) 25 c m) 26 c (((zmF τ 26 c 0).2 26 c) + 1)) c m d)
              else
                (zmF (zmF (zmF (zmF (zmF τ 26 c 0) 27 c d) 28 c d) 25 c m) 26 c (((zmF τ 26 c 0).2 26 c) + 1))
            else
              if ((zmF (zmF (zmF (zmF (zmF τ 26 c 0) 27 c (τ.2 27 c)) 28 c d) 25 c m) 26 c (((zmF τ 26 c 0).2 26 c) + 1)).2 26 c) = 3 then
                (mhold (zmF (zmF (zmF (zmF (zmF τ 26 c 0) 27 c (τ.2 27 c)) 28 c d) 25 c m) 26 c (((zmF τ 26 c 0).2 26 c) + 1)) c m d)
              else
                (zmF (zmF (zmF (zmF (zmF τ 26 c 0) 27 c (τ.2 27 c)) 28 c d) 25 c m) 26 c (((zmF τ 26 c 0).2 26 c) + 1))
          else
            if (τ.2 28 c) = d then
              (zmF τ 26 c 0)
            else
              if ((zmF τ 26 c 0).2 26 c) = 0 then
                if ((zmF (zmF (zmF (zmF (zmF τ 26 c 0) 27 c d) 28 c d) 25 c m) 26 c (((zmF τ 26 c 0).2 26 c) + 1)).2 26 c) = 3 then
                  (mhold (zmF (zmF (zmF (zmF (zmF τ 26 c 0) 27 c d) 28 c d) 25 c m) 26 c (((zmF τ 26 c 0).2 26 c) + 1)) c m d)
                else
                  (zmF (zmF (zmF (zmF (zmF τ 26 c 0) 27 c d) 28 c d) 25 c m) 26 c (((zmF τ 26 c 0).2 26 c) + 1))
              else
                if ((zmF (zmF (zmF (zmF (zmF τ 26 c 0) 27 c (τ.2 27 c)) 28 c d) 25 c m) 26 c (((zmF τ 26 c 0).2 26 c) + 1)).2 26 c) = 3 then
                  (mhold (zmF (zmF (zmF (zmF (zmF τ 26 c 0) 27 c (τ.2 27 c)) 28 c d) 25 c m) 26 c (((zmF τ 26 c 0).2 26 c) + 1)) c m d)
                else
                  (zmF (zmF (zmF (zmF (zmF τ 26 c 0) 27 c (τ.2 27 c)) 28 c d) 25 c m) 26 c (((zmF τ 26 c 0).2 26 c) + 1))
set_option maxHeartbeats 4000000 in
set_option maxRecDepth 100000 in
theorem kX4_nicked (l : Launch) (D : va_G) (ty : zTy) (b : Nat → Nat) (τ : zM) (x : Int32) (c : Nat) (hx : x = nI c) (hcx : c < 90) (m d : Int32) : zv_ct l D ty yX4_nicked cX4_nicked 4 none (zR 1 24) [.ref (b 0), .int x, .int m, .int d] (zm b ty τ) (fun v_ w_ => v_ = none ∧ w_ = zm b ty (fX4_nicked τ c m d)) := by
  refine zv_open (by decide) rfl rfl [some (.ref (b 0)), some (.int x), some (.int m), some (.int d)] (by simp [zv_one, Value.category]) (zle rfl) rfl ?_
  intro k K T
  refine zv_iload_n K 1 dX4_nicked_0 rfl rfl ?_
  refine zv_aload_n K 2 dX4_nicked_1 rfl rfl ?_
  refine zm_get (v := .ref (b 22)) K 22 5 dX4_nicked_2 rfl (by decide) zw_2_210 rfl ?_
  refine zv_iload_n K 6 dX4_nicked_5 rfl rfl ?_
  refine zv_iald (F := τ.2 22) K 17 c 7 dX4_nicked_6 rfl (zm_at (p := 17) (j := 22) rfl) hx hcx (by decide) ?_
  refine zv_isub K 8 dX4_nicked_7 rfl ?_
  refine zv_aload_n K 9 dX4_nicked_8 rfl rfl ?_
  refine zm_get (v := .int (τ.1 2)) K 2 12 dX4_nicked_9 rfl (by decide) zw_2_190 rfl ?_
  refine zv_icmp_le K 25 15 dX4_nicked_12 (by decide) rfl (fun h1 => ?_) (fun h1 => ?_)
  · skip
    exact zv_vret K T dX4_nicked_25 (⟨rfl, by simp only [fX4_nicked, if_pos h1]⟩)
  · skip
    refine zv_iload_n K 16 dX4_nicked_15 rfl rfl ?_
    refine zv_aload_n K 17 dX4_nicked_16 rfl rfl ?_
    refine zm_get (v := .ref (b 20)) K 20 20 dX4_nicked_17 rfl (by decide) zw_2_208 rfl ?_
    refine zv_iload_n K 21 dX4_nicked_20 rfl rfl ?_
    refine zv_iald (F := τ.2 20) K 15 c 22 dX4_nicked_21 rfl (zm_at (p := 15) (j := 20) rfl) hx hcx (by decide) ?_
    refine zv_icmp_ne K 26 25 dX4_nicked_22 (by decide) rfl (fun h2 => ?_) (fun h2 => ?_)
    · skip
      refine zv_aload_n K 27 dX4_nicked_26 rfl rfl ?_
      refine zm_get (v := .ref (b 26)) K 26 30 dX4_nicked_27 rfl (by decide) zw_2_214 rfl ?_
      refine zv_iload_n K 31 dX4_nicked_30 rfl rfl ?_
      refine zv_iald (F := τ.2 26) K 21 c 32 dX4_nicked_31 rfl (zm_at (p := 21) (j := 26) rfl) hx hcx (by decide) ?_
      refine zv_if_le K 65 35 dX4_nicked_32 (by decide) rfl (fun h3 => ?_) (fun h3 => ?_)
      · skip
        refine zv_aload_n K 66 dX4_nicked_65 rfl rfl ?_
        refine zm_get (v := .ref (b 26)) K 26 69 dX4_nicked_66 rfl (by decide) zw_2_214 rfl ?_
        refine zv_iload_n K 70 dX4_nicked_69 rfl rfl ?_
        refine zv_iald (F := τ.2 26) K 21 c 71 dX4_nicked_70 rfl (zm_at (p := 21) (j := 26) rfl) hx hcx (by decide) ?_
        refine zv_if_le K 85 74 dX4_nicked_71 (by decide) rfl (fun h4 => ?_) (fun h4 => ?_)
        rotate_left
        · exact absurd h3 h4
        · skip
          refine zv_aload_n K 86 dX4_nicked_85 rfl rfl ?_
          refine zm_get (v := .ref (b 27)) K 27 89 dX4_nicked_86 rfl (by decide) zw_2_215 rfl ?_
          refine zv_iload_n K 90 dX4_nicked_89 rfl rfl ?_
          refine zv_aload_n K 91 dX4_nicked_90 rfl rfl ?_
          refine zm_get (v := .ref (b 26)) K 26 94 dX4_nicked_91 rfl (by decide) zw_2_214 rfl ?_
          refine zv_iload_n K 95 dX4_nicked_94 rfl rfl ?_
          refine zv_iald (F := τ.2 26) K 21 c 96 dX4_nicked_95 rfl (zm_at (p := 21) (j := 26) rfl) hx hcx (by decide) ?_
          refine zv_if_ne K 103 99 dX4_nicked_96 (by decide) rfl (fun h5 => ?_) (fun h5 => ?_)
          · skip
            refine zv_aload_n K 104 dX4_nicked_103 rfl rfl ?_
            refine zm_get (v := .ref (b 27)) K 27 107 dX4_nicked_104 rfl (by decide) zw_2_215 rfl ?_
            refine zv_iload_n K 108 dX4_nicked_107 rfl rfl ?_
            refine zv_iald (F := τ.2 27) K 22 c 109 dX4_nicked_108 rfl (zm_at (p := 22) (j := 27) rfl) hx hcx (by decide) ?_
            refine zv_iast K 22 c 110 (zm b ty (zmF τ 27 c (τ.2 27 c))) dX4_nicked_109 rfl (zm_at (p := 22) (j := 27) rfl) hx hcx (by decide) (zm_F 27 c rfl (by decide) rfl) ?_
            refine zv_aload_n K 111 dX4_nicked_110 rfl rfl ?_
            refine zm_get (v := .ref (b 28)) K 28 114 dX4_nicked_111 rfl (by decide) zw_2_216 rfl ?_
            refine zv_iload_n K 115 dX4_nicked_114 rfl rfl ?_
            refine zv_iload_n K 116 dX4_nicked_115 rfl rfl ?_
            refine zv_iast K 23 c 117 (zm b ty (zmF (zmF τ 27 c (τ.2 27 c)) 28 c d)) dX4_nicked_116 rfl (zm_at (p := 23) (j := 28) rfl) hx hcx (by decide) (zm_F 28 c rfl (by decide) rfl) ?_
            refine zv_aload_n K 118 dX4_nicked_117 rfl rfl ?_
            refine zm_get (v := .ref (b 25)) K 25 121 dX4_nicked_118 rfl (by decide) zw_2_213 rfl ?_
            refine zv_iload_n K 122 dX4_nicked_121 rfl rfl ?_
            refine zv_iload_n K 123 dX4_nicked_122 rfl rfl ?_
            refine zv_iast K 20 c 124 (zm b ty (zmF (zmF (zmF τ 27 c (τ.2 27 c)) 28 c d) 25 c m)) dX4_nicked_123 rfl (zm_at (p := 20) (j := 25) rfl) hx hcx (by decide) (zm_F 25 c rfl (by decide) rfl) ?_
            refine zv_aload_n K 125 dX4_nicked_124 rfl rfl ?_
            refine zm_get (v := .ref (b 26)) K 26 128 dX4_nicked_125 rfl (by decide) zw_2_214 rfl ?_
            refine zv_iload_n K 129 dX4_nicked_128 rfl rfl ?_
            refine zv_dup2 K 130 dX4_nicked_129 rfl rfl rfl ?_
            refine zv_iald (F := τ.2 26) K 21 c 131 dX4_nicked_130 rfl (zm_at (p := 21) (j := 26) rfl) hx hcx (by decide) ?_
            refine zv_iconst K 1 132 dX4_nicked_131 rfl (by decide) ?_
            refine zv_iadd K 133 dX4_nicked_132 rfl ?_
            refine zv_iast K 21 c 134 (zm b ty (zmF (zmF (zmF (zmF τ 27 c (τ.2 27 c)) 28 c d) 25 c m) 26 c ((τ.2 26 c) + 1))) dX4_nicked_133 rfl (zm_at (p := 21) (j := 26) rfl) hx hcx (by decide) (zm_F 26 c rfl (by decide) rfl) ?_
            refine zv_aload_n K 135 dX4_nicked_134 rfl rfl ?_
            refine zm_get (v := .ref (b 26)) K 26 138 dX4_nicked_135 rfl (by decide) zw_2_214 rfl ?_
            refine zv_iload_n K 139 dX4_nicked_138 rfl rfl ?_
            refine zv_iald (F := (zmF (zmF (zmF (zmF τ 27 c (τ.2 27 c)) 28 c d) 25 c m) 26 c ((τ.2 26 c) + 1)).2 26) K 21 c 140 dX4_nicked_139 rfl (zm_at (p := 21) (j := 26) rfl) hx hcx (by decide) ?_
            refine zv_iconst K 3 141 dX4_nicked_140 rfl (by decide) ?_
            refine zv_icmp_ne K 151 144 dX4_nicked_141 (by decide) rfl (fun h6 => ?_) (fun h6 => ?_)
            · skip
              exact zv_vret K T dX4_nicked_151 (⟨rfl, by simp only [fX4_nicked, if_neg h1, if_neg h2, if_pos h3, if_neg h5, if_neg h6]⟩)
            · skip
              refine zv_aload_n K 145 dX4_nicked_144 rfl rfl ?_
              refine zv_iload_n K 146 dX4_nicked_145 rfl rfl ?_
              refine zv_iload_n K 147 dX4_nicked_146 rfl rfl ?_
              refine zv_iload_n K 148 dX4_nicked_147 rfl rfl ?_
              refine zv_cV0 K (q0 := 0) (As := [.int x, .int m, .int d]) (rest := []) 3 151 (kX4_holds l D ty b (zmF (zmF (zmF (zmF τ 27 c (τ.2 27 c)) 28 c d) 25 c m) 26 c ((τ.2 26 c) + 1)) x c hx hcx m d) dX4_nicked_148 rfl zw_3_134 zw_3_136 zw_p2_6 zw_1_5 zw_3_137 ⟨rfl, rfl⟩ zh_yX4_holds ⟨by decide, by decide⟩ (zm_at (p := 0) (j := 0) rfl) rfl rfl rfl (zle rfl) rfl ?_
              exact zv_vret K T dX4_nicked_151 (⟨rfl, by simp only [fX4_nicked, if_neg h1, if_neg h2, if_pos h3, if_neg h5, if_pos h6]⟩)
          · skip
            refine zv_iload_n K 100 dX4_nicked_99 rfl rfl ?_
            refine zv_goto K 109 dX4_nicked_100 (by decide) ?_
            refine zv_iast K 22 c 110 (zm b ty (zmF τ 27 c d)) dX4_nicked_109 rfl (zm_at (p := 22) (j := 27) rfl) hx hcx (by decide) (zm_F 27 c rfl (by decide) rfl) ?_
            refine zv_aload_n K 111 dX4_nicked_110 rfl rfl ?_
            refine zm_get (v := .ref (b 28)) K 28 114 dX4_nicked_111 rfl (by decide) zw_2_216 rfl ?_
            refine zv_iload_n K 115 dX4_nicked_114 rfl rfl ?_
            refine zv_iload_n K 116 dX4_nicked_115 rfl rfl ?_
            refine zv_iast K 23 c 117 (zm b ty (zmF (zmF τ 27 c d) 28 c d)) dX4_nicked_116 rfl (zm_at (p := 23) (j := 28) rfl) hx hcx (by decide) (zm_F 28 c rfl (by decide) rfl) ?_
            refine zv_aload_n K 118 dX4_nicked_117 rfl rfl ?_
            refine zm_get (v := .ref (b 25)) K 25 121 dX4_nicked_118 rfl (by decide) zw_2_213 rfl ?_
            refine zv_iload_n K 122 dX4_nicked_121 rfl rfl ?_
            refine zv_iload_n K 123 dX4_nicked_122 rfl rfl ?_
            refine zv_iast K 20 c 124 (zm b ty (zmF (zmF (zmF τ 27 c d) 28 c d) 25 c m)) dX4_nicked_123 rfl (zm_at (p := 20) (j := 25) rfl) hx hcx (by decide) (zm_F 25 c rfl (by decide) rfl) ?_
            refine zv_aload_n K 125 dX4_nicked_124 rfl rfl ?_
            refine zm_get (v := .ref (b 26)) K 26 128 dX4_nicked_125 rfl (by decide) zw_2_214 rfl ?_
            refine zv_iload_n K 129 dX4_nicked_128 rfl rfl ?_
            refine zv_dup2 K 130 dX4_nicked_129 rfl rfl rfl ?_
            refine zv_iald (F := τ.2 26) K 21 c 131 dX4_nicked_130 rfl (zm_at (p := 21) (j := 26) rfl) hx hcx (by decide) ?_
            refine zv_iconst K 1 132 dX4_nicked_131 rfl (by decide) ?_
            refine zv_iadd K 133 dX4_nicked_132 rfl ?_
            refine zv_iast K 21 c 134 (zm b ty (zmF (zmF (zmF (zmF τ 27 c d) 28 c d) 25 c m) 26 c ((τ.2 26 c) + 1))) dX4_nicked_133 rfl (zm_at (p := 21) (j := 26) rfl) hx hcx (by decide) (zm_F 26 c rfl (by decide) rfl) ?_
            refine zv_aload_n K 135 dX4_nicked_134 rfl rfl ?_
            refine zm_get (v := .ref (b 26)) K 26 138 dX4_nicked_135 rfl (by decide) zw_2_214 rfl ?_
            refine zv_iload_n K 139 dX4_nicked_138 rfl rfl ?_
            refine zv_iald (F := (zmF (zmF (zmF (zmF τ 27 c d) 28 c d) 25 c m) 26 c ((τ.2 26 c) + 1)).2 26) K 21 c 140 dX4_nicked_139 rfl (zm_at (p := 21) (j := 26) rfl) hx hcx (by decide) ?_
            refine zv_iconst K 3 141 dX4_nicked_140 rfl (by decide) ?_
            refine zv_icmp_ne K 151 144 dX4_nicked_141 (by decide) rfl (fun h7 => ?_) (fun h7 => ?_)
            · skip
              exact zv_vret K T dX4_nicked_151 (⟨rfl, by simp only [fX4_nicked, if_neg h1, if_neg h2, if_pos h3, if_pos h5, if_neg h7]⟩)
            · skip
              refine zv_aload_n K 145 dX4_nicked_144 rfl rfl ?_
              refine zv_iload_n K 146 dX4_nicked_145 rfl rfl ?_
              refine zv_iload_n K 147 dX4_nicked_146 rfl rfl ?_
              refine zv_iload_n K 148 dX4_nicked_147 rfl rfl ?_
              refine zv_cV0 K (q0 := 0) (As := [.int x, .int m, .int d]) (rest := []) 3 151 (kX4_holds l D ty b (zmF (zmF (zmF (zmF τ 27 c d) 28 c d) 25 c m) 26 c ((τ.2 26 c) + 1)) x c hx hcx m d) dX4_nicked_148 rfl zw_3_134 zw_3_136 zw_p2_6 zw_1_5 zw_3_137 ⟨rfl, rfl⟩ zh_yX4_holds ⟨by decide, by decide⟩ (zm_at (p := 0) (j := 0) rfl) rfl rfl rfl (zle rfl) rfl ?_
              exact zv_vret K T dX4_nicked_151 (⟨rfl, by simp only [fX4_nicked, if_neg h1, if_neg h2, if_pos h3, if_pos h5, if_pos h7]⟩)
      · skip
        refine zv_aload_n K 36 dX4_nicked_35 rfl rfl ?_
        refine zm_get (v := .ref (b 25)) K 25 39 dX4_nicked_36 rfl (by decide) zw_2_213 rfl ?_
        refine zv_iload_n K 40 dX4_nicked_39 rfl rfl ?_
        refine zv_iald (F := τ.2 25) K 20 c 41 dX4_nicked_40 rfl (zm_at (p := 20) (j := 25) rfl) hx hcx (by decide) ?_
        refine zv_iload_n K 42 dX4_nicked_41 rfl rfl ?_
        refine zv_icmp_ne K 58 45 dX4_nicked_42 (by decide) rfl (fun h8 => ?_) (fun h8 => ?_)
        · skip
          refine zv_aload_n K 59 dX4_nicked_58 rfl rfl ?_
          refine zm_get (v := .ref (b 26)) K 26 62 dX4_nicked_59 rfl (by decide) zw_2_214 rfl ?_
          refine zv_iload_n K 63 dX4_nicked_62 rfl rfl ?_
          refine zv_iconst K 0 64 dX4_nicked_63 rfl (by decide) ?_
          refine zv_iast K 21 c 65 (zm b ty (zmF τ 26 c 0)) dX4_nicked_64 rfl (zm_at (p := 21) (j := 26) rfl) hx hcx (by decide) (zm_F 26 c rfl (by decide) rfl) ?_
          refine zv_aload_n K 66 dX4_nicked_65 rfl rfl ?_
          refine zm_get (v := .ref (b 26)) K 26 69 dX4_nicked_66 rfl (by decide) zw_2_214 rfl ?_
          refine zv_iload_n K 70 dX4_nicked_69 rfl rfl ?_
          refine zv_iald (F := (zmF τ 26 c 0).2 26) K 21 c 71 dX4_nicked_70 rfl (zm_at (p := 21) (j := 26) rfl) hx hcx (by decide) ?_
          refine zv_if_le K 85 74 dX4_nicked_71 (by decide) rfl (fun h9 => ?_) (fun h9 => ?_)
          · skip
            refine zv_aload_n K 86 dX4_nicked_85 rfl rfl ?_
            refine zm_get (v := .ref (b 27)) K 27 89 dX4_nicked_86 rfl (by decide) zw_2_215 rfl ?_
            refine zv_iload_n K 90 dX4_nicked_89 rfl rfl ?_
            refine zv_aload_n K 91 dX4_nicked_90 rfl rfl ?_
            refine zm_get (v := .ref (b 26)) K 26 94 dX4_nicked_91 rfl (by decide) zw_2_214 rfl ?_
            refine zv_iload_n K 95 dX4_nicked_94 rfl rfl ?_
            refine zv_iald (F := (zmF τ 26 c 0).2 26) K 21 c 96 dX4_nicked_95 rfl (zm_at (p := 21) (j := 26) rfl) hx hcx (by decide) ?_
            refine zv_if_ne K 103 99 dX4_nicked_96 (by decide) rfl (fun h10 => ?_) (fun h10 => ?_)
            · skip
              refine zv_aload_n K 104 dX4_nicked_103 rfl rfl ?_
              refine zm_get (v := .ref (b 27)) K 27 107 dX4_nicked_104 rfl (by decide) zw_2_215 rfl ?_
              refine zv_iload_n K 108 dX4_nicked_107 rfl rfl ?_
              refine zv_iald (F := τ.2 27) K 22 c 109 dX4_nicked_108 rfl (zm_at (p := 22) (j := 27) rfl) hx hcx (by decide) ?_
              refine zv_iast K 22 c 110 (zm b ty (zmF (zmF τ 26 c 0) 27 c (τ.2 27 c))) dX4_nicked_109 rfl (zm_at (p := 22) (j := 27) rfl) hx hcx (by decide) (zm_F 27 c rfl (by decide) rfl) ?_
              refine zv_aload_n K 111 dX4_nicked_110 rfl rfl ?_
              refine zm_get (v := .ref (b 28)) K 28 114 dX4_nicked_111 rfl (by decide) zw_2_216 rfl ?_
              refine zv_iload_n K 115 dX4_nicked_114 rfl rfl ?_
              refine zv_iload_n K 116 dX4_nicked_115 rfl rfl ?_
              refine zv_iast K 23 c 117 (zm b ty (zmF (zmF (zmF τ 26 c 0) 27 c (τ.2 27 c)) 28 c d)) dX4_nicked_116 rfl (zm_at (p := 23) (j := 28) rfl) hx hcx (by decide) (zm_F 28 c rfl (by decide) rfl) ?_
              refine zv_aload_n K 118 dX4_nicked_117 rfl rfl ?_
              refine zm_get (v := .ref (b 25)) K 25 121 dX4_nicked_118 rfl (by decide) zw_2_213 rfl ?_
              refine zv_iload_n K 122 dX4_nicked_121 rfl rfl ?_
              refine zv_iload_n K 123 dX4_nicked_122 rfl rfl ?_
              refine zv_iast K 20 c 124 (zm b ty (zmF (zmF (zmF (zmF τ 26 c 0) 27 c (τ.2 27 c)) 28 c d) 25 c m)) dX4_nicked_123 rfl (zm_at (p := 20) (j := 25) rfl) hx hcx (by decide) (zm_F 25 c rfl (by decide) rfl) ?_
              refine zv_aload_n K 125 dX4_nicked_124 rfl rfl ?_
              refine zm_get (v := .ref (b 26)) K 26 128 dX4_nicked_125 rfl (by decide) zw_2_214 rfl ?_
              refine zv_iload_n K 129 dX4_nicked_128 rfl rfl ?_
              refine zv_dup2 K 130 dX4_nicked_129 rfl rfl rfl ?_
              refine zv_iald (F := (zmF τ 26 c 0).2 26) K 21 c 131 dX4_nicked_130 rfl (zm_at (p := 21) (j := 26) rfl) hx hcx (by decide) ?_
              refine zv_iconst K 1 132 dX4_nicked_131 rfl (by decide) ?_
              refine zv_iadd K 133 dX4_nicked_132 rfl ?_
              refine zv_iast K 21 c 134 (zm b ty (zmF (zmF (zmF (zmF (zmF τ 26 c 0) 27 c (τ.2 27 c)) 28 c d) 25 c m) 26 c (((zmF τ 26 c 0).2 26 c) + 1))) dX4_nicked_133 rfl (zm_at (p := 21) (j := 26) rfl) hx hcx (by decide) (zm_F 26 c rfl (by decide) rfl) ?_
              refine zv_aload_n K 135 dX4_nicked_134 rfl rfl ?_
              refine zm_get (v := .ref (b 26)) K 26 138 dX4_nicked_135 rfl (by decide) zw_2_214 rfl ?_
              refine zv_iload_n K 139 dX4_nicked_138 rfl rfl ?_
              refine zv_iald (F := (zmF (zmF (zmF (zmF (zmF τ 26 c 0) 27 c (τ.2 27 c)) 28 c d) 25 c m) 26 c (((zmF τ 26 c 0).2 26 c) + 1)).2 26) K 21 c 140 dX4_nicked_139 rfl (zm_at (p := 21) (j := 26) rfl) hx hcx (by decide) ?_
              refine zv_iconst K 3 141 dX4_nicked_140 rfl (by decide) ?_
              refine zv_icmp_ne K 151 144 dX4_nicked_141 (by decide) rfl (fun h11 => ?_) (fun h11 => ?_)
              · skip
                exact zv_vret K T dX4_nicked_151 (⟨rfl, by simp only [fX4_nicked, if_neg h1, if_neg h2, if_neg h3, if_neg h8, if_pos h9, if_neg h10, if_neg h11]⟩)
              · skip
                refine zv_aload_n K 145 dX4_nicked_144 rfl rfl ?_
                refine zv_iload_n K 146 dX4_nicked_145 rfl rfl ?_
                refine zv_iload_n K 147 dX4_nicked_146 rfl rfl ?_
                refine zv_iload_n K 148 dX4_nicked_147 rfl rfl ?_
                refine zv_cV0 K (q0 := 0) (As := [.int x, .int m, .int d]) (rest := []) 3 151 (kX4_holds l D ty b (zmF (zmF (zmF (zmF (zmF τ 26 c 0) 27 c (τ.2 27 c)) 28 c d) 25 c m) 26 c (((zmF τ 26 c 0).2 26 c) + 1)) x c hx hcx m d) dX4_nicked_148 rfl zw_3_134 zw_3_136 zw_p2_6 zw_1_5 zw_3_137 ⟨rfl, rfl⟩ zh_yX4_holds ⟨by decide, by decide⟩ (zm_at (p := 0) (j := 0) rfl) rfl rfl rfl (zle rfl) rfl ?_
                exact zv_vret K T dX4_nicked_151 (⟨rfl, by simp only [fX4_nicked, if_neg h1, if_neg h2, if_neg h3, if_neg h8, if_pos h9, if_neg h10, if_pos h11]⟩)
            · skip
              refine zv_iload_n K 100 dX4_nicked_99 rfl rfl ?_
              refine zv_goto K 109 dX4_nicked_100 (by decide) ?_
              refine zv_iast K 22 c 110 (zm b ty (zmF (zmF τ 26 c 0) 27 c d)) dX4_nicked_109 rfl (zm_at (p := 22) (j := 27) rfl) hx hcx (by decide) (zm_F 27 c rfl (by decide) rfl) ?_
              refine zv_aload_n K 111 dX4_nicked_110 rfl rfl ?_
              refine zm_get (v := .ref (b 28)) K 28 114 dX4_nicked_111 rfl (by decide) zw_2_216 rfl ?_
              refine zv_iload_n K 115 dX4_nicked_114 rfl rfl ?_
              refine zv_iload_n K 116 dX4_nicked_115 rfl rfl ?_
              refine zv_iast K 23 c 117 (zm b ty (zmF (zmF (zmF τ 26 c 0) 27 c d) 28 c d)) dX4_nicked_116 rfl (zm_at (p := 23) (j := 28) rfl) hx hcx (by decide) (zm_F 28 c rfl (by decide) rfl) ?_
              refine zv_aload_n K 118 dX4_nicked_117 rfl rfl ?_
              refine zm_get (v := .ref (b 25)) K 25 121 dX4_nicked_118 rfl (by decide) zw_2_213 rfl ?_
              refine zv_iload_n K 122 dX4_nicked_121 rfl rfl ?_
              refine zv_iload_n K 123 dX4_nicked_122 rfl rfl ?_
              refine zv_iast K 20 c 124 (zm b ty (zmF (zmF (zmF (zmF τ 26 c 0) 27 c d) 28 c d) 25 c m)) dX4_nicked_123 rfl (zm_at (p := 20) (j := 25) rfl) hx hcx (by decide) (zm_F 25 c rfl (by decide) rfl) ?_
              refine zv_aload_n K 125 dX4_nicked_124 rfl rfl ?_
              refine zm_get (v := .ref (b 26)) K 26 128 dX4_nicked_125 rfl (by decide) zw_2_214 rfl ?_
              refine zv_iload_n K 129 dX4_nicked_128 rfl rfl ?_
              refine zv_dup2 K 130 dX4_nicked_129 rfl rfl rfl ?_
              refine zv_iald (F := (zmF τ 26 c 0).2 26) K 21 c 131 dX4_nicked_130 rfl (zm_at (p := 21) (j := 26) rfl) hx hcx (by decide) ?_
              refine zv_iconst K 1 132 dX4_nicked_131 rfl (by decide) ?_
              refine zv_iadd K 133 dX4_nicked_132 rfl ?_
              refine zv_iast K 21 c 134 (zm b ty (zmF (zmF (zmF (zmF (zmF τ 26 c 0) 27 c d) 28 c d) 25 c m) 26 c (((zmF τ 26 c 0).2 26 c) + 1))) dX4_nicked_133 rfl (zm_at (p := 21) (j := 26) rfl) hx hcx (by decide) (zm_F 26 c rfl (by decide) rfl) ?_
              refine zv_aload_n K 135 dX4_nicked_134 rfl rfl ?_
              refine zm_get (v := .ref (b 26)) K 26 138 dX4_nicked_135 rfl (by decide) zw_2_214 rfl ?_
              refine zv_iload_n K 139 dX4_nicked_138 rfl rfl ?_
              refine zv_iald (F := (zmF (zmF (zmF (zmF (zmF τ 26 c 0) 27 c d) 28 c d) 25 c m) 26 c (((zmF τ 26 c 0).2 26 c) + 1)).2 26) K 21 c 140 dX4_nicked_139 rfl (zm_at (p := 21) (j := 26) rfl) hx hcx (by decide) ?_
              refine zv_iconst K 3 141 dX4_nicked_140 rfl (by decide) ?_
              refine zv_icmp_ne K 151 144 dX4_nicked_141 (by decide) rfl (fun h12 => ?_) (fun h12 => ?_)
              · skip
                exact zv_vret K T dX4_nicked_151 (⟨rfl, by simp only [fX4_nicked, if_neg h1, if_neg h2, if_neg h3, if_neg h8, if_pos h9, if_pos h10, if_neg h12]⟩)
              · skip
                refine zv_aload_n K 145 dX4_nicked_144 rfl rfl ?_
                refine zv_iload_n K 146 dX4_nicked_145 rfl rfl ?_
                refine zv_iload_n K 147 dX4_nicked_146 rfl rfl ?_
                refine zv_iload_n K 148 dX4_nicked_147 rfl rfl ?_
                refine zv_cV0 K (q0 := 0) (As := [.int x, .int m, .int d]) (rest := []) 3 151 (kX4_holds l D ty b (zmF (zmF (zmF (zmF (zmF τ 26 c 0) 27 c d) 28 c d) 25 c m) 26 c (((zmF τ 26 c 0).2 26 c) + 1)) x c hx hcx m d) dX4_nicked_148 rfl zw_3_134 zw_3_136 zw_p2_6 zw_1_5 zw_3_137 ⟨rfl, rfl⟩ zh_yX4_holds ⟨by decide, by decide⟩ (zm_at (p := 0) (j := 0) rfl) rfl rfl rfl (zle rfl) rfl ?_
                exact zv_vret K T dX4_nicked_151 (⟨rfl, by simp only [fX4_nicked, if_neg h1, if_neg h2, if_neg h3, if_neg h8, if_pos h9, if_pos h10, if_pos h12]⟩)
          · skip
            refine zv_aload_n K 75 dX4_nicked_74 rfl rfl ?_
            refine zm_get (v := .ref (b 28)) K 28 78 dX4_nicked_75 rfl (by decide) zw_2_216 rfl ?_
            refine zv_iload_n K 79 dX4_nicked_78 rfl rfl ?_
            refine zv_iald (F := τ.2 28) K 23 c 80 dX4_nicked_79 rfl (zm_at (p := 23) (j := 28) rfl) hx hcx (by decide) ?_
            refine zv_iload_n K 81 dX4_nicked_80 rfl rfl ?_
            refine zv_icmp_ne K 85 84 dX4_nicked_81 (by decide) rfl (fun h13 => ?_) (fun h13 => ?_)
            · skip
              refine zv_aload_n K 86 dX4_nicked_85 rfl rfl ?_
              refine zm_get (v := .ref (b 27)) K 27 89 dX4_nicked_86 rfl (by decide) zw_2_215 rfl ?_
              refine zv_iload_n K 90 dX4_nicked_89 rfl rfl ?_
              refine zv_aload_n K 91 dX4_nicked_90 rfl rfl ?_
              refine zm_get (v := .ref (b 26)) K 26 94 dX4_nicked_91 rfl (by decide) zw_2_214 rfl ?_
              refine zv_iload_n K 95 dX4_nicked_94 rfl rfl ?_
              refine zv_iald (F := (zmF τ 26 c 0).2 26) K 21 c 96 dX4_nicked_95 rfl (zm_at (p := 21) (j := 26) rfl) hx hcx (by decide) ?_
              refine zv_if_ne K 103 99 dX4_nicked_96 (by decide) rfl (fun h14 => ?_) (fun h14 => ?_)
              · skip
                refine zv_aload_n K 104 dX4_nicked_103 rfl rfl ?_
                refine zm_get (v := .ref (b 27)) K 27 107 dX4_nicked_104 rfl (by decide) zw_2_215 rfl ?_
                refine zv_iload_n K 108 dX4_nicked_107 rfl rfl ?_
                refine zv_iald (F := τ.2 27) K 22 c 109 dX4_nicked_108 rfl (zm_at (p := 22) (j := 27) rfl) hx hcx (by decide) ?_
                refine zv_iast K 22 c 110 (zm b ty (zmF (zmF τ 26 c 0) 27 c (τ.2 27 c))) dX4_nicked_109 rfl (zm_at (p := 22) (j := 27) rfl) hx hcx (by decide) (zm_F 27 c rfl (by decide) rfl) ?_
                refine zv_aload_n K 111 dX4_nicked_110 rfl rfl ?_
                refine zm_get (v := .ref (b 28)) K 28 114 dX4_nicked_111 rfl (by decide) zw_2_216 rfl ?_
                refine zv_iload_n K 115 dX4_nicked_114 rfl rfl ?_
                refine zv_iload_n K 116 dX4_nicked_115 rfl rfl ?_
                refine zv_iast K 23 c 117 (zm b ty (zmF (zmF (zmF τ 26 c 0) 27 c (τ.2 27 c)) 28 c d)) dX4_nicked_116 rfl (zm_at (p := 23) (j := 28) rfl) hx hcx (by decide) (zm_F 28 c rfl (by decide) rfl) ?_
                refine zv_aload_n K 118 dX4_nicked_117 rfl rfl ?_
                refine zm_get (v := .ref (b 25)) K 25 121 dX4_nicked_118 rfl (by decide) zw_2_213 rfl ?_
                refine zv_iload_n K 122 dX4_nicked_121 rfl rfl ?_
                refine zv_iload_n K 123 dX4_nicked_122 rfl rfl ?_
                refine zv_iast K 20 c 124 (zm b ty (zmF (zmF (zmF (zmF τ 26 c 0) 27 c (τ.2 27 c)) 28 c d) 25 c m)) dX4_nicked_123 rfl (zm_at (p := 20) (j := 25) rfl) hx hcx (by decide) (zm_F 25 c rfl (by decide) rfl) ?_
                refine zv_aload_n K 125 dX4_nicked_124 rfl rfl ?_
                refine zm_get (v := .ref (b 26)) K 26 128 dX4_nicked_125 rfl (by decide) zw_2_214 rfl ?_
                refine zv_iload_n K 129 dX4_nicked_128 rfl rfl ?_
                refine zv_dup2 K 130 dX4_nicked_129 rfl rfl rfl ?_
                refine zv_iald (F := (zmF τ 26 c 0).2 26) K 21 c 131 dX4_nicked_130 rfl (zm_at (p := 21) (j := 26) rfl) hx hcx (by decide) ?_
                refine zv_iconst K 1 132 dX4_nicked_131 rfl (by decide) ?_
                refine zv_iadd K 133 dX4_nicked_132 rfl ?_
                refine zv_iast K 21 c 134 (zm b ty (zmF (zmF (zmF (zmF (zmF τ 26 c 0) 27 c (τ.2 27 c)) 28 c d) 25 c m) 26 c (((zmF τ 26 c 0).2 26 c) + 1))) dX4_nicked_133 rfl (zm_at (p := 21) (j := 26) rfl) hx hcx (by decide) (zm_F 26 c rfl (by decide) rfl) ?_
                refine zv_aload_n K 135 dX4_nicked_134 rfl rfl ?_
                refine zm_get (v := .ref (b 26)) K 26 138 dX4_nicked_135 rfl (by decide) zw_2_214 rfl ?_
                refine zv_iload_n K 139 dX4_nicked_138 rfl rfl ?_
                refine zv_iald (F := (zmF (zmF (zmF (zmF (zmF τ 26 c 0) 27 c (τ.2 27 c)) 28 c d) 25 c m) 26 c (((zmF τ 26 c 0).2 26 c) + 1)).2 26) K 21 c 140 dX4_nicked_139 rfl (zm_at (p := 21) (j := 26) rfl) hx hcx (by decide) ?_
                refine zv_iconst K 3 141 dX4_nicked_140 rfl (by decide) ?_
                refine zv_icmp_ne K 151 144 dX4_nicked_141 (by decide) rfl (fun h15 => ?_) (fun h15 => ?_)
                · skip
                  exact zv_vret K T dX4_nicked_151 (⟨rfl, by simp only [fX4_nicked, if_neg h1, if_neg h2, if_neg h3, if_neg h8, if_neg h9, if_neg h13, if_neg h14, if_neg h15]⟩)
                · skip
                  refine zv_aload_n K 145 dX4_nicked_144 rfl rfl ?_
                  refine zv_iload_n K 146 dX4_nicked_145 rfl rfl ?_
                  refine zv_iload_n K 147 dX4_nicked_146 rfl rfl ?_
                  refine zv_iload_n K 148 dX4_nicked_147 rfl rfl ?_
                  refine zv_cV0 K (q0 := 0) (As := [.int x, .int m, .int d]) (rest := []) 3 151 (kX4_holds l D ty b (zmF (zmF (zmF (zmF (zmF τ 26 c 0) 27 c (τ.2 27 c)) 28 c d) 25 c m) 26 c (((zmF τ 26 c 0).2 26 c) + 1)) x c hx hcx m d) dX4_nicked_148 rfl zw_3_134 zw_3_136 zw_p2_6 zw_1_5 zw_3_137 ⟨rfl, rfl⟩ zh_yX4_holds ⟨by decide, by decide⟩ (zm_at (p := 0) (j := 0) rfl) rfl rfl rfl (zle rfl) rfl ?_
                  exact zv_vret K T dX4_nicked_151 (⟨rfl, by simp only [fX4_nicked, if_neg h1, if_neg h2, if_neg h3, if_neg h8, if_neg h9, if_neg h13, if_neg h14, if_pos h15]⟩)
              · skip
                refine zv_iload_n K 100 dX4_nicked_99 rfl rfl ?_
                refine zv_goto K 109 dX4_nicked_100 (by decide) ?_
                refine zv_iast K 22 c 110 (zm b ty (zmF (zmF τ 26 c 0) 27 c d)) dX4_nicked_109 rfl (zm_at (p := 22) (j := 27) rfl) hx hcx (by decide) (zm_F 27 c rfl (by decide) rfl) ?_
                refine zv_aload_n K 111 dX4_nicked_110 rfl rfl ?_
                refine zm_get (v := .ref (b 28)) K 28 114 dX4_nicked_111 rfl (by decide) zw_2_216 rfl ?_
                refine zv_iload_n K 115 dX4_nicked_114 rfl rfl ?_
                refine zv_iload_n K 116 dX4_nicked_115 rfl rfl ?_
                refine zv_iast K 23 c 117 (zm b ty (zmF (zmF (zmF τ 26 c 0) 27 c d) 28 c d)) dX4_nicked_116 rfl (zm_at (p := 23) (j := 28) rfl) hx hcx (by decide) (zm_F 28 c rfl (by decide) rfl) ?_
                refine zv_aload_n K 118 dX4_nicked_117 rfl rfl ?_
                refine zm_get (v := .ref (b 25)) K 25 121 dX4_nicked_118 rfl (by decide) zw_2_213 rfl ?_
                refine zv_iload_n K 122 dX4_nicked_121 rfl rfl ?_
                refine zv_iload_n K 123 dX4_nicked_122 rfl rfl ?_
                refine zv_iast K 20 c 124 (zm b ty (zmF (zmF (zmF (zmF τ 26 c 0) 27 c d) 28 c d) 25 c m)) dX4_nicked_123 rfl (zm_at (p := 20) (j := 25) rfl) hx hcx (by decide) (zm_F 25 c rfl (by decide) rfl) ?_
                refine zv_aload_n K 125 dX4_nicked_124 rfl rfl ?_
                refine zm_get (v := .ref (b 26)) K 26 128 dX4_nicked_125 rfl (by decide) zw_2_214 rfl ?_
                refine zv_iload_n K 129 dX4_nicked_128 rfl rfl ?_
                refine zv_dup2 K 130 dX4_nicked_129 rfl rfl rfl ?_
                refine zv_iald (F := (zmF τ 26 c 0).2 26) K 21 c 131 dX4_nicked_130 rfl (zm_at (p := 21) (j := 26) rfl) hx hcx (by decide) ?_
                refine zv_iconst K 1 132 dX4_nicked_131 rfl (by decide) ?_
                refine zv_iadd K 133 dX4_nicked_132 rfl ?_
                refine zv_iast K 21 c 134 (zm b ty (zmF (zmF (zmF (zmF (zmF τ 26 c 0) 27 c d) 28 c d) 25 c m) 26 c (((zmF τ 26 c 0).2 26 c) + 1))) dX4_nicked_133 rfl (zm_at (p := 21) (j := 26) rfl) hx hcx (by decide) (zm_F 26 c rfl (by decide) rfl) ?_
                refine zv_aload_n K 135 dX4_nicked_134 rfl rfl ?_
                refine zm_get (v := .ref (b 26)) K 26 138 dX4_nicked_135 rfl (by decide) zw_2_214 rfl ?_
                refine zv_iload_n K 139 dX4_nicked_138 rfl rfl ?_
                refine zv_iald (F := (zmF (zmF (zmF (zmF (zmF τ 26 c 0) 27 c d) 28 c d) 25 c m) 26 c (((zmF τ 26 c 0).2 26 c) + 1)).2 26) K 21 c 140 dX4_nicked_139 rfl (zm_at (p := 21) (j := 26) rfl) hx hcx (by decide) ?_
                refine zv_iconst K 3 141 dX4_nicked_140 rfl (by decide) ?_
                refine zv_icmp_ne K 151 144 dX4_nicked_141 (by decide) rfl (fun h16 => ?_) (fun h16 => ?_)
                · skip
                  exact zv_vret K T dX4_nicked_151 (⟨rfl, by simp only [fX4_nicked, if_neg h1, if_neg h2, if_neg h3, if_neg h8, if_neg h9, if_neg h13, if_pos h14, if_neg h16]⟩)
                · skip
                  refine zv_aload_n K 145 dX4_nicked_144 rfl rfl ?_
                  refine zv_iload_n K 146 dX4_nicked_145 rfl rfl ?_
                  refine zv_iload_n K 147 dX4_nicked_146 rfl rfl ?_
                  refine zv_iload_n K 148 dX4_nicked_147 rfl rfl ?_
                  refine zv_cV0 K (q0 := 0) (As := [.int x, .int m, .int d]) (rest := []) 3 151 (kX4_holds l D ty b (zmF (zmF (zmF (zmF (zmF τ 26 c 0) 27 c d) 28 c d) 25 c m) 26 c (((zmF τ 26 c 0).2 26 c) + 1)) x c hx hcx m d) dX4_nicked_148 rfl zw_3_134 zw_3_136 zw_p2_6 zw_1_5 zw_3_137 ⟨rfl, rfl⟩ zh_yX4_holds ⟨by decide, by decide⟩ (zm_at (p := 0) (j := 0) rfl) rfl rfl rfl (zle rfl) rfl ?_
                  exact zv_vret K T dX4_nicked_151 (⟨rfl, by simp only [fX4_nicked, if_neg h1, if_neg h2, if_neg h3, if_neg h8, if_neg h9, if_neg h13, if_pos h14, if_pos h16]⟩)
            · skip
              exact zv_vret K T dX4_nicked_84 (⟨rfl, by simp only [fX4_nicked, if_neg h1, if_neg h2, if_neg h3, if_neg h8, if_neg h9, if_pos h13]⟩)
        · skip
          refine zv_iload_n K 46 dX4_nicked_45 rfl rfl ?_
          refine zv_aload_n K 47 dX4_nicked_46 rfl rfl ?_
          refine zm_get (v := .ref (b 27)) K 27 50 dX4_nicked_47 rfl (by decide) zw_2_215 rfl ?_
          refine zv_iload_n K 51 dX4_nicked_50 rfl rfl ?_
          refine zv_iald (F := τ.2 27) K 22 c 52 dX4_nicked_51 rfl (zm_at (p := 22) (j := 27) rfl) hx hcx (by decide) ?_
          refine zv_isub K 53 dX4_nicked_52 rfl ?_
          refine zv_bipush K 10 55 dX4_nicked_53 rfl (by decide) ?_
          refine zv_icmp_le K 65 58 dX4_nicked_55 (by decide) rfl (fun h17 => ?_) (fun h17 => ?_)
          · skip
            refine zv_aload_n K 66 dX4_nicked_65 rfl rfl ?_
            refine zm_get (v := .ref (b 26)) K 26 69 dX4_nicked_66 rfl (by decide) zw_2_214 rfl ?_
            refine zv_iload_n K 70 dX4_nicked_69 rfl rfl ?_
            refine zv_iald (F := τ.2 26) K 21 c 71 dX4_nicked_70 rfl (zm_at (p := 21) (j := 26) rfl) hx hcx (by decide) ?_
            refine zv_if_le K 85 74 dX4_nicked_71 (by decide) rfl (fun h18 => ?_) (fun h18 => ?_)
            · exact absurd h18 h3
            · skip
              refine zv_aload_n K 75 dX4_nicked_74 rfl rfl ?_
              refine zm_get (v := .ref (b 28)) K 28 78 dX4_nicked_75 rfl (by decide) zw_2_216 rfl ?_
              refine zv_iload_n K 79 dX4_nicked_78 rfl rfl ?_
              refine zv_iald (F := τ.2 28) K 23 c 80 dX4_nicked_79 rfl (zm_at (p := 23) (j := 28) rfl) hx hcx (by decide) ?_
              refine zv_iload_n K 81 dX4_nicked_80 rfl rfl ?_
              refine zv_icmp_ne K 85 84 dX4_nicked_81 (by decide) rfl (fun h19 => ?_) (fun h19 => ?_)
              · skip
                refine zv_aload_n K 86 dX4_nicked_85 rfl rfl ?_
                refine zm_get (v := .ref (b 27)) K 27 89 dX4_nicked_86 rfl (by decide) zw_2_215 rfl ?_
                refine zv_iload_n K 90 dX4_nicked_89 rfl rfl ?_
                refine zv_aload_n K 91 dX4_nicked_90 rfl rfl ?_
                refine zm_get (v := .ref (b 26)) K 26 94 dX4_nicked_91 rfl (by decide) zw_2_214 rfl ?_
                refine zv_iload_n K 95 dX4_nicked_94 rfl rfl ?_
                refine zv_iald (F := τ.2 26) K 21 c 96 dX4_nicked_95 rfl (zm_at (p := 21) (j := 26) rfl) hx hcx (by decide) ?_
                refine zv_if_ne K 103 99 dX4_nicked_96 (by decide) rfl (fun h20 => ?_) (fun h20 => ?_)
                · skip
                  refine zv_aload_n K 104 dX4_nicked_103 rfl rfl ?_
                  refine zm_get (v := .ref (b 27)) K 27 107 dX4_nicked_104 rfl (by decide) zw_2_215 rfl ?_
                  refine zv_iload_n K 108 dX4_nicked_107 rfl rfl ?_
                  refine zv_iald (F := τ.2 27) K 22 c 109 dX4_nicked_108 rfl (zm_at (p := 22) (j := 27) rfl) hx hcx (by decide) ?_
                  refine zv_iast K 22 c 110 (zm b ty (zmF τ 27 c (τ.2 27 c))) dX4_nicked_109 rfl (zm_at (p := 22) (j := 27) rfl) hx hcx (by decide) (zm_F 27 c rfl (by decide) rfl) ?_
                  refine zv_aload_n K 111 dX4_nicked_110 rfl rfl ?_
                  refine zm_get (v := .ref (b 28)) K 28 114 dX4_nicked_111 rfl (by decide) zw_2_216 rfl ?_
                  refine zv_iload_n K 115 dX4_nicked_114 rfl rfl ?_
                  refine zv_iload_n K 116 dX4_nicked_115 rfl rfl ?_
                  refine zv_iast K 23 c 117 (zm b ty (zmF (zmF τ 27 c (τ.2 27 c)) 28 c d)) dX4_nicked_116 rfl (zm_at (p := 23) (j := 28) rfl) hx hcx (by decide) (zm_F 28 c rfl (by decide) rfl) ?_
                  refine zv_aload_n K 118 dX4_nicked_117 rfl rfl ?_
                  refine zm_get (v := .ref (b 25)) K 25 121 dX4_nicked_118 rfl (by decide) zw_2_213 rfl ?_
                  refine zv_iload_n K 122 dX4_nicked_121 rfl rfl ?_
                  refine zv_iload_n K 123 dX4_nicked_122 rfl rfl ?_
                  refine zv_iast K 20 c 124 (zm b ty (zmF (zmF (zmF τ 27 c (τ.2 27 c)) 28 c d) 25 c m)) dX4_nicked_123 rfl (zm_at (p := 20) (j := 25) rfl) hx hcx (by decide) (zm_F 25 c rfl (by decide) rfl) ?_
                  refine zv_aload_n K 125 dX4_nicked_124 rfl rfl ?_
                  refine zm_get (v := .ref (b 26)) K 26 128 dX4_nicked_125 rfl (by decide) zw_2_214 rfl ?_
                  refine zv_iload_n K 129 dX4_nicked_128 rfl rfl ?_
                  refine zv_dup2 K 130 dX4_nicked_129 rfl rfl rfl ?_
                  refine zv_iald (F := τ.2 26) K 21 c 131 dX4_nicked_130 rfl (zm_at (p := 21) (j := 26) rfl) hx hcx (by decide) ?_
                  refine zv_iconst K 1 132 dX4_nicked_131 rfl (by decide) ?_
                  refine zv_iadd K 133 dX4_nicked_132 rfl ?_
                  refine zv_iast K 21 c 134 (zm b ty (zmF (zmF (zmF (zmF τ 27 c (τ.2 27 c)) 28 c d) 25 c m) 26 c ((τ.2 26 c) + 1))) dX4_nicked_133 rfl (zm_at (p := 21) (j := 26) rfl) hx hcx (by decide) (zm_F 26 c rfl (by decide) rfl) ?_
                  refine zv_aload_n K 135 dX4_nicked_134 rfl rfl ?_
                  refine zm_get (v := .ref (b 26)) K 26 138 dX4_nicked_135 rfl (by decide) zw_2_214 rfl ?_
                  refine zv_iload_n K 139 dX4_nicked_138 rfl rfl ?_
                  refine zv_iald (F := (zmF (zmF (zmF (zmF τ 27 c (τ.2 27 c)) 28 c d) 25 c m) 26 c ((τ.2 26 c) + 1)).2 26) K 21 c 140 dX4_nicked_139 rfl (zm_at (p := 21) (j := 26) rfl) hx hcx (by decide) ?_
                  refine zv_iconst K 3 141 dX4_nicked_140 rfl (by decide) ?_
                  refine zv_icmp_ne K 151 144 dX4_nicked_141 (by decide) rfl (fun h21 => ?_) (fun h21 => ?_)
                  · skip
                    exact zv_vret K T dX4_nicked_151 (⟨rfl, by simp only [fX4_nicked, if_neg h1, if_neg h2, if_neg h3, if_pos h8, if_pos h17, if_neg h19, if_neg h20, if_neg h21]⟩)
                  · skip
                    refine zv_aload_n K 145 dX4_nicked_144 rfl rfl ?_
                    refine zv_iload_n K 146 dX4_nicked_145 rfl rfl ?_
                    refine zv_iload_n K 147 dX4_nicked_146 rfl rfl ?_
                    refine zv_iload_n K 148 dX4_nicked_147 rfl rfl ?_
                    refine zv_cV0 K (q0 := 0) (As := [.int x, .int m, .int d]) (rest := []) 3 151 (kX4_holds l D ty b (zmF (zmF (zmF (zmF τ 27 c (τ.2 27 c)) 28 c d) 25 c m) 26 c ((τ.2 26 c) + 1)) x c hx hcx m d) dX4_nicked_148 rfl zw_3_134 zw_3_136 zw_p2_6 zw_1_5 zw_3_137 ⟨rfl, rfl⟩ zh_yX4_holds ⟨by decide, by decide⟩ (zm_at (p := 0) (j := 0) rfl) rfl rfl rfl (zle rfl) rfl ?_
                    exact zv_vret K T dX4_nicked_151 (⟨rfl, by simp only [fX4_nicked, if_neg h1, if_neg h2, if_neg h3, if_pos h8, if_pos h17, if_neg h19, if_neg h20, if_pos h21]⟩)
                · skip
                  refine zv_iload_n K 100 dX4_nicked_99 rfl rfl ?_
                  refine zv_goto K 109 dX4_nicked_100 (by decide) ?_
                  refine zv_iast K 22 c 110 (zm b ty (zmF τ 27 c d)) dX4_nicked_109 rfl (zm_at (p := 22) (j := 27) rfl) hx hcx (by decide) (zm_F 27 c rfl (by decide) rfl) ?_
                  refine zv_aload_n K 111 dX4_nicked_110 rfl rfl ?_
                  refine zm_get (v := .ref (b 28)) K 28 114 dX4_nicked_111 rfl (by decide) zw_2_216 rfl ?_
                  refine zv_iload_n K 115 dX4_nicked_114 rfl rfl ?_
                  refine zv_iload_n K 116 dX4_nicked_115 rfl rfl ?_
                  refine zv_iast K 23 c 117 (zm b ty (zmF (zmF τ 27 c d) 28 c d)) dX4_nicked_116 rfl (zm_at (p := 23) (j := 28) rfl) hx hcx (by decide) (zm_F 28 c rfl (by decide) rfl) ?_
                  refine zv_aload_n K 118 dX4_nicked_117 rfl rfl ?_
                  refine zm_get (v := .ref (b 25)) K 25 121 dX4_nicked_118 rfl (by decide) zw_2_213 rfl ?_
                  refine zv_iload_n K 122 dX4_nicked_121 rfl rfl ?_
                  refine zv_iload_n K 123 dX4_nicked_122 rfl rfl ?_
                  refine zv_iast K 20 c 124 (zm b ty (zmF (zmF (zmF τ 27 c d) 28 c d) 25 c m)) dX4_nicked_123 rfl (zm_at (p := 20) (j := 25) rfl) hx hcx (by decide) (zm_F 25 c rfl (by decide) rfl) ?_
                  refine zv_aload_n K 125 dX4_nicked_124 rfl rfl ?_
                  refine zm_get (v := .ref (b 26)) K 26 128 dX4_nicked_125 rfl (by decide) zw_2_214 rfl ?_
                  refine zv_iload_n K 129 dX4_nicked_128 rfl rfl ?_
                  refine zv_dup2 K 130 dX4_nicked_129 rfl rfl rfl ?_
                  refine zv_iald (F := τ.2 26) K 21 c 131 dX4_nicked_130 rfl (zm_at (p := 21) (j := 26) rfl) hx hcx (by decide) ?_
                  refine zv_iconst K 1 132 dX4_nicked_131 rfl (by decide) ?_
                  refine zv_iadd K 133 dX4_nicked_132 rfl ?_
                  refine zv_iast K 21 c 134 (zm b ty (zmF (zmF (zmF (zmF τ 27 c d) 28 c d) 25 c m) 26 c ((τ.2 26 c) + 1))) dX4_nicked_133 rfl (zm_at (p := 21) (j := 26) rfl) hx hcx (by decide) (zm_F 26 c rfl (by decide) rfl) ?_
                  refine zv_aload_n K 135 dX4_nicked_134 rfl rfl ?_
                  refine zm_get (v := .ref (b 26)) K 26 138 dX4_nicked_135 rfl (by decide) zw_2_214 rfl ?_
                  refine zv_iload_n K 139 dX4_nicked_138 rfl rfl ?_
                  refine zv_iald (F := (zmF (zmF (zmF (zmF τ 27 c d) 28 c d) 25 c m) 26 c ((τ.2 26 c) + 1)).2 26) K 21 c 140 dX4_nicked_139 rfl (zm_at (p := 21) (j := 26) rfl) hx hcx (by decide) ?_
                  refine zv_iconst K 3 141 dX4_nicked_140 rfl (by decide) ?_
                  refine zv_icmp_ne K 151 144 dX4_nicked_141 (by decide) rfl (fun h22 => ?_) (fun h22 => ?_)
                  · skip
                    exact zv_vret K T dX4_nicked_151 (⟨rfl, by simp only [fX4_nicked, if_neg h1, if_neg h2, if_neg h3, if_pos h8, if_pos h17, if_neg h19, if_pos h20, if_neg h22]⟩)
                  · skip
                    refine zv_aload_n K 145 dX4_nicked_144 rfl rfl ?_
                    refine zv_iload_n K 146 dX4_nicked_145 rfl rfl ?_
                    refine zv_iload_n K 147 dX4_nicked_146 rfl rfl ?_
                    refine zv_iload_n K 148 dX4_nicked_147 rfl rfl ?_
                    refine zv_cV0 K (q0 := 0) (As := [.int x, .int m, .int d]) (rest := []) 3 151 (kX4_holds l D ty b (zmF (zmF (zmF (zmF τ 27 c d) 28 c d) 25 c m) 26 c ((τ.2 26 c) + 1)) x c hx hcx m d) dX4_nicked_148 rfl zw_3_134 zw_3_136 zw_p2_6 zw_1_5 zw_3_137 ⟨rfl, rfl⟩ zh_yX4_holds ⟨by decide, by decide⟩ (zm_at (p := 0) (j := 0) rfl) rfl rfl rfl (zle rfl) rfl ?_
                    exact zv_vret K T dX4_nicked_151 (⟨rfl, by simp only [fX4_nicked, if_neg h1, if_neg h2, if_neg h3, if_pos h8, if_pos h17, if_neg h19, if_pos h20, if_pos h22]⟩)
              · skip
                exact zv_vret K T dX4_nicked_84 (⟨rfl, by simp only [fX4_nicked, if_neg h1, if_neg h2, if_neg h3, if_pos h8, if_pos h17, if_pos h19]⟩)
          · skip
            refine zv_aload_n K 59 dX4_nicked_58 rfl rfl ?_
            refine zm_get (v := .ref (b 26)) K 26 62 dX4_nicked_59 rfl (by decide) zw_2_214 rfl ?_
            refine zv_iload_n K 63 dX4_nicked_62 rfl rfl ?_
            refine zv_iconst K 0 64 dX4_nicked_63 rfl (by decide) ?_
            refine zv_iast K 21 c 65 (zm b ty (zmF τ 26 c 0)) dX4_nicked_64 rfl (zm_at (p := 21) (j := 26) rfl) hx hcx (by decide) (zm_F 26 c rfl (by decide) rfl) ?_
            refine zv_aload_n K 66 dX4_nicked_65 rfl rfl ?_
            refine zm_get (v := .ref (b 26)) K 26 69 dX4_nicked_66 rfl (by decide) zw_2_214 rfl ?_
            refine zv_iload_n K 70 dX4_nicked_69 rfl rfl ?_
            refine zv_iald (F := (zmF τ 26 c 0).2 26) K 21 c 71 dX4_nicked_70 rfl (zm_at (p := 21) (j := 26) rfl) hx hcx (by decide) ?_
            refine zv_if_le K 85 74 dX4_nicked_71 (by decide) rfl (fun h23 => ?_) (fun h23 => ?_)
            · skip
              refine zv_aload_n K 86 dX4_nicked_85 rfl rfl ?_
              refine zm_get (v := .ref (b 27)) K 27 89 dX4_nicked_86 rfl (by decide) zw_2_215 rfl ?_
              refine zv_iload_n K 90 dX4_nicked_89 rfl rfl ?_
              refine zv_aload_n K 91 dX4_nicked_90 rfl rfl ?_
              refine zm_get (v := .ref (b 26)) K 26 94 dX4_nicked_91 rfl (by decide) zw_2_214 rfl ?_
              refine zv_iload_n K 95 dX4_nicked_94 rfl rfl ?_
              refine zv_iald (F := (zmF τ 26 c 0).2 26) K 21 c 96 dX4_nicked_95 rfl (zm_at (p := 21) (j := 26) rfl) hx hcx (by decide) ?_
              refine zv_if_ne K 103 99 dX4_nicked_96 (by decide) rfl (fun h24 => ?_) (fun h24 => ?_)
              · skip
                refine zv_aload_n K 104 dX4_nicked_103 rfl rfl ?_
                refine zm_get (v := .ref (b 27)) K 27 107 dX4_nicked_104 rfl (by decide) zw_2_215 rfl ?_
                refine zv_iload_n K 108 dX4_nicked_107 rfl rfl ?_
                refine zv_iald (F := τ.2 27) K 22 c 109 dX4_nicked_108 rfl (zm_at (p := 22) (j := 27) rfl) hx hcx (by decide) ?_
                refine zv_iast K 22 c 110 (zm b ty (zmF (zmF τ 26 c 0) 27 c (τ.2 27 c))) dX4_nicked_109 rfl (zm_at (p := 22) (j := 27) rfl) hx hcx (by decide) (zm_F 27 c rfl (by decide) rfl) ?_
                refine zv_aload_n K 111 dX4_nicked_110 rfl rfl ?_
                refine zm_get (v := .ref (b 28)) K 28 114 dX4_nicked_111 rfl (by decide) zw_2_216 rfl ?_
                refine zv_iload_n K 115 dX4_nicked_114 rfl rfl ?_
                refine zv_iload_n K 116 dX4_nicked_115 rfl rfl ?_
                refine zv_iast K 23 c 117 (zm b ty (zmF (zmF (zmF τ 26 c 0) 27 c (τ.2 27 c)) 28 c d)) dX4_nicked_116 rfl (zm_at (p := 23) (j := 28) rfl) hx hcx (by decide) (zm_F 28 c rfl (by decide) rfl) ?_
                refine zv_aload_n K 118 dX4_nicked_117 rfl rfl ?_
                refine zm_get (v := .ref (b 25)) K 25 121 dX4_nicked_118 rfl (by decide) zw_2_213 rfl ?_
                refine zv_iload_n K 122 dX4_nicked_121 rfl rfl ?_
                refine zv_iload_n K 123 dX4_nicked_122 rfl rfl ?_
                refine zv_iast K 20 c 124 (zm b ty (zmF (zmF (zmF (zmF τ 26 c 0) 27 c (τ.2 27 c)) 28 c d) 25 c m)) dX4_nicked_123 rfl (zm_at (p := 20) (j := 25) rfl) hx hcx (by decide) (zm_F 25 c rfl (by decide) rfl) ?_
                refine zv_aload_n K 125 dX4_nicked_124 rfl rfl ?_
                refine zm_get (v := .ref (b 26)) K 26 128 dX4_nicked_125 rfl (by decide) zw_2_214 rfl ?_
                refine zv_iload_n K 129 dX4_nicked_128 rfl rfl ?_
                refine zv_dup2 K 130 dX4_nicked_129 rfl rfl rfl ?_
                refine zv_iald (F := (zmF τ 26 c 0).2 26) K 21 c 131 dX4_nicked_130 rfl (zm_at (p := 21) (j := 26) rfl) hx hcx (by decide) ?_
                refine zv_iconst K 1 132 dX4_nicked_131 rfl (by decide) ?_
                refine zv_iadd K 133 dX4_nicked_132 rfl ?_
                refine zv_iast K 21 c 134 (zm b ty (zmF (zmF (zmF (zmF (zmF τ 26 c 0) 27 c (τ.2 27 c)) 28 c d) 25 c m) 26 c (((zmF τ 26 c 0).2 26 c) + 1))) dX4_nicked_133 rfl (zm_at (p := 21) (j := 26) rfl) hx hcx (by decide) (zm_F 26 c rfl (by decide) rfl) ?_
                refine zv_aload_n K 135 dX4_nicked_134 rfl rfl ?_
                refine zm_get (v := .ref (b 26)) K 26 138 dX4_nicked_135 rfl (by decide) zw_2_214 rfl ?_
                refine zv_iload_n K 139 dX4_nicked_138 rfl rfl ?_
                refine zv_iald (F := (zmF (zmF (zmF (zmF (zmF τ 26 c 0) 27 c (τ.2 27 c)) 28 c d) 25 c m) 26 c (((zmF τ 26 c 0).2 26 c) + 1)).2 26) K 21 c 140 dX4_nicked_139 rfl (zm_at (p := 21) (j := 26) rfl) hx hcx (by decide) ?_
                refine zv_iconst K 3 141 dX4_nicked_140 rfl (by decide) ?_
                refine zv_icmp_ne K 151 144 dX4_nicked_141 (by decide) rfl (fun h25 => ?_) (fun h25 => ?_)
                · skip
                  exact zv_vret K T dX4_nicked_151 (⟨rfl, by simp only [fX4_nicked, if_neg h1, if_neg h2, if_neg h3, if_pos h8, if_neg h17, if_pos h23, if_neg h24, if_neg h25]⟩)
                · skip
                  refine zv_aload_n K 145 dX4_nicked_144 rfl rfl ?_
                  refine zv_iload_n K 146 dX4_nicked_145 rfl rfl ?_
                  refine zv_iload_n K 147 dX4_nicked_146 rfl rfl ?_
                  refine zv_iload_n K 148 dX4_nicked_147 rfl rfl ?_
                  refine zv_cV0 K (q0 := 0) (As := [.int x, .int m, .int d]) (rest := []) 3 151 (kX4_holds l D ty b (zmF (zmF (zmF (zmF (zmF τ 26 c 0) 27 c (τ.2 27 c)) 28 c d) 25 c m) 26 c (((zmF τ 26 c 0).2 26 c) + 1)) x c hx hcx m d) dX4_nicked_148 rfl zw_3_134 zw_3_136 zw_p2_6 zw_1_5 zw_3_137 ⟨rfl, rfl⟩ zh_yX4_holds ⟨by decide, by decide⟩ (zm_at (p := 0) (j := 0) rfl) rfl rfl rfl (zle rfl) rfl ?_
                  exact zv_vret K T dX4_nicked_151 (⟨rfl, by simp only [fX4_nicked, if_neg h1, if_neg h2, if_neg h3, if_pos h8, if_neg h17, if_pos h23, if_neg h24, if_pos h25]⟩)
              · skip
                refine zv_iload_n K 100 dX4_nicked_99 rfl rfl ?_
                refine zv_goto K 109 dX4_nicked_100 (by decide) ?_
                refine zv_iast K 22 c 110 (zm b ty (zmF (zmF τ 26 c 0) 27 c d)) dX4_nicked_109 rfl (zm_at (p := 22) (j := 27) rfl) hx hcx (by decide) (zm_F 27 c rfl (by decide) rfl) ?_
                refine zv_aload_n K 111 dX4_nicked_110 rfl rfl ?_
                refine zm_get (v := .ref (b 28)) K 28 114 dX4_nicked_111 rfl (by decide) zw_2_216 rfl ?_
                refine zv_iload_n K 115 dX4_nicked_114 rfl rfl ?_
                refine zv_iload_n K 116 dX4_nicked_115 rfl rfl ?_
                refine zv_iast K 23 c 117 (zm b ty (zmF (zmF (zmF τ 26 c 0) 27 c d) 28 c d)) dX4_nicked_116 rfl (zm_at (p := 23) (j := 28) rfl) hx hcx (by decide) (zm_F 28 c rfl (by decide) rfl) ?_
                refine zv_aload_n K 118 dX4_nicked_117 rfl rfl ?_
                refine zm_get (v := .ref (b 25)) K 25 121 dX4_nicked_118 rfl (by decide) zw_2_213 rfl ?_
                refine zv_iload_n K 122 dX4_nicked_121 rfl rfl ?_
                refine zv_iload_n K 123 dX4_nicked_122 rfl rfl ?_
                refine zv_iast K 20 c 124 (zm b ty (zmF (zmF (zmF (zmF τ 26 c 0) 27 c d) 28 c d) 25 c m)) dX4_nicked_123 rfl (zm_at (p := 20) (j := 25) rfl) hx hcx (by decide) (zm_F 25 c rfl (by decide) rfl) ?_
                refine zv_aload_n K 125 dX4_nicked_124 rfl rfl ?_
                refine zm_get (v := .ref (b 26)) K 26 128 dX4_nicked_125 rfl (by decide) zw_2_214 rfl ?_
                refine zv_iload_n K 129 dX4_nicked_128 rfl rfl ?_
                refine zv_dup2 K 130 dX4_nicked_129 rfl rfl rfl ?_
                refine zv_iald (F := (zmF τ 26 c 0).2 26) K 21 c 131 dX4_nicked_130 rfl (zm_at (p := 21) (j := 26) rfl) hx hcx (by decide) ?_
                refine zv_iconst K 1 132 dX4_nicked_131 rfl (by decide) ?_
                refine zv_iadd K 133 dX4_nicked_132 rfl ?_
                refine zv_iast K 21 c 134 (zm b ty (zmF (zmF (zmF (zmF (zmF τ 26 c 0) 27 c d) 28 c d) 25 c m) 26 c (((zmF τ 26 c 0).2 26 c) + 1))) dX4_nicked_133 rfl (zm_at (p := 21) (j := 26) rfl) hx hcx (by decide) (zm_F 26 c rfl (by decide) rfl) ?_
                refine zv_aload_n K 135 dX4_nicked_134 rfl rfl ?_
                refine zm_get (v := .ref (b 26)) K 26 138 dX4_nicked_135 rfl (by decide) zw_2_214 rfl ?_
                refine zv_iload_n K 139 dX4_nicked_138 rfl rfl ?_
                refine zv_iald (F := (zmF (zmF (zmF (zmF (zmF τ 26 c 0) 27 c d) 28 c d) 25 c m) 26 c (((zmF τ 26 c 0).2 26 c) + 1)).2 26) K 21 c 140 dX4_nicked_139 rfl (zm_at (p := 21) (j := 26) rfl) hx hcx (by decide) ?_
                refine zv_iconst K 3 141 dX4_nicked_140 rfl (by decide) ?_
                refine zv_icmp_ne K 151 144 dX4_nicked_141 (by decide) rfl (fun h26 => ?_) (fun h26 => ?_)
                · skip
                  exact zv_vret K T dX4_nicked_151 (⟨rfl, by simp only [fX4_nicked, if_neg h1, if_neg h2, if_neg h3, if_pos h8, if_neg h17, if_pos h23, if_pos h24, if_neg h26]⟩)
                · skip
                  refine zv_aload_n K 145 dX4_nicked_144 rfl rfl ?_
                  refine zv_iload_n K 146 dX4_nicked_145 rfl rfl ?_
                  refine zv_iload_n K 147 dX4_nicked_146 rfl rfl ?_
                  refine zv_iload_n K 148 dX4_nicked_147 rfl rfl ?_
                  refine zv_cV0 K (q0 := 0) (As := [.int x, .int m, .int d]) (rest := []) 3 151 (kX4_holds l D ty b (zmF (zmF (zmF (zmF (zmF τ 26 c 0) 27 c d) 28 c d) 25 c m) 26 c (((zmF τ 26 c 0).2 26 c) + 1)) x c hx hcx m d) dX4_nicked_148 rfl zw_3_134 zw_3_136 zw_p2_6 zw_1_5 zw_3_137 ⟨rfl, rfl⟩ zh_yX4_holds ⟨by decide, by decide⟩ (zm_at (p := 0) (j := 0) rfl) rfl rfl rfl (zle rfl) rfl ?_
                  exact zv_vret K T dX4_nicked_151 (⟨rfl, by simp only [fX4_nicked, if_neg h1, if_neg h2, if_neg h3, if_pos h8, if_neg h17, if_pos h23, if_pos h24, if_pos h26]⟩)
            · skip
              refine zv_aload_n K 75 dX4_nicked_74 rfl rfl ?_
              refine zm_get (v := .ref (b 28)) K 28 78 dX4_nicked_75 rfl (by decide) zw_2_216 rfl ?_
              refine zv_iload_n K 79 dX4_nicked_78 rfl rfl ?_
              refine zv_iald (F := τ.2 28) K 23 c 80 dX4_nicked_79 rfl (zm_at (p := 23) (j := 28) rfl) hx hcx (by decide) ?_
              refine zv_iload_n K 81 dX4_nicked_80 rfl rfl ?_
              refine zv_icmp_ne K 85 84 dX4_nicked_81 (by decide) rfl (fun h27 => ?_) (fun h27 => ?_)
              · skip
                refine zv_aload_n K 86 dX4_nicked_85 rfl rfl ?_
                refine zm_get (v := .ref (b 27)) K 27 89 dX4_nicked_86 rfl (by decide) zw_2_215 rfl ?_
                refine zv_iload_n K 90 dX4_nicked_89 rfl rfl ?_
                refine zv_aload_n K 91 dX4_nicked_90 rfl rfl ?_
                refine zm_get (v := .ref (b 26)) K 26 94 dX4_nicked_91 rfl (by decide) zw_2_214 rfl ?_
                refine zv_iload_n K 95 dX4_nicked_94 rfl rfl ?_
                refine zv_iald (F := (zmF τ 26 c 0).2 26) K 21 c 96 dX4_nicked_95 rfl (zm_at (p := 21) (j := 26) rfl) hx hcx (by decide) ?_
                refine zv_if_ne K 103 99 dX4_nicked_96 (by decide) rfl (fun h28 => ?_) (fun h28 => ?_)
                · skip
                  refine zv_aload_n K 104 dX4_nicked_103 rfl rfl ?_
                  refine zm_get (v := .ref (b 27)) K 27 107 dX4_nicked_104 rfl (by decide) zw_2_215 rfl ?_
                  refine zv_iload_n K 108 dX4_nicked_107 rfl rfl ?_
                  refine zv_iald (F := τ.2 27) K 22 c 109 dX4_nicked_108 rfl (zm_at (p := 22) (j := 27) rfl) hx hcx (by decide) ?_
                  refine zv_iast K 22 c 110 (zm b ty (zmF (zmF τ 26 c 0) 27 c (τ.2 27 c))) dX4_nicked_109 rfl (zm_at (p := 22) (j := 27) rfl) hx hcx (by decide) (zm_F 27 c rfl (by decide) rfl) ?_
                  refine zv_aload_n K 111 dX4_nicked_110 rfl rfl ?_
                  refine zm_get (v := .ref (b 28)) K 28 114 dX4_nicked_111 rfl (by decide) zw_2_216 rfl ?_
                  refine zv_iload_n K 115 dX4_nicked_114 rfl rfl ?_
                  refine zv_iload_n K 116 dX4_nicked_115 rfl rfl ?_
                  refine zv_iast K 23 c 117 (zm b ty (zmF (zmF (zmF τ 26 c 0) 27 c (τ.2 27 c)) 28 c d)) dX4_nicked_116 rfl (zm_at (p := 23) (j := 28) rfl) hx hcx (by decide) (zm_F 28 c rfl (by decide) rfl) ?_
                  refine zv_aload_n K 118 dX4_nicked_117 rfl rfl ?_
                  refine zm_get (v := .ref (b 25)) K 25 121 dX4_nicked_118 rfl (by decide) zw_2_213 rfl ?_
                  refine zv_iload_n K 122 dX4_nicked_121 rfl rfl ?_
                  refine zv_iload_n K 123 dX4_nicked_122 rfl rfl ?_
                  refine zv_iast K 20 c 124 (zm b ty (zmF (zmF (zmF (zmF τ 26 c 0) 27 c (τ.2 27 c)) 28 c d) 25 c m)) dX4_nicked_123 rfl (zm_at (p := 20) (j := 25) rfl) hx hcx (by decide) (zm_F 25 c rfl (by decide) rfl) ?_
                  refine zv_aload_n K 125 dX4_nicked_124 rfl rfl ?_
                  refine zm_get (v := .ref (b 26)) K 26 128 dX4_nicked_125 rfl (by decide) zw_2_214 rfl ?_
                  refine zv_iload_n K 129 dX4_nicked_128 rfl rfl ?_
                  refine zv_dup2 K 130 dX4_nicked_129 rfl rfl rfl ?_
                  refine zv_iald (F := (zmF τ 26 c 0).2 26) K 21 c 131 dX4_nicked_130 rfl (zm_at (p := 21) (j := 26) rfl) hx hcx (by decide) ?_
                  refine zv_iconst K 1 132 dX4_nicked_131 rfl (by decide) ?_
                  refine zv_iadd K 133 dX4_nicked_132 rfl ?_
                  refine zv_iast K 21 c 134 (zm b ty (zmF (zmF (zmF (zmF (zmF τ 26 c 0) 27 c (τ.2 27 c)) 28 c d) 25 c m) 26 c (((zmF τ 26 c 0).2 26 c) + 1))) dX4_nicked_133 rfl (zm_at (p := 21) (j := 26) rfl) hx hcx (by decide) (zm_F 26 c rfl (by decide) rfl) ?_
                  refine zv_aload_n K 135 dX4_nicked_134 rfl rfl ?_
                  refine zm_get (v := .ref (b 26)) K 26 138 dX4_nicked_135 rfl (by decide) zw_2_214 rfl ?_
                  refine zv_iload_n K 139 dX4_nicked_138 rfl rfl ?_
                  refine zv_iald (F := (zmF (zmF (zmF (zmF (zmF τ 26 c 0) 27 c (τ.2 27 c)) 28 c d) 25 c m) 26 c (((zmF τ 26 c 0).2 26 c) + 1)).2 26) K 21 c 140 dX4_nicked_139 rfl (zm_at (p := 21) (j := 26) rfl) hx hcx (by decide) ?_
                  refine zv_iconst K 3 141 dX4_nicked_140 rfl (by decide) ?_
                  refine zv_icmp_ne K 151 144 dX4_nicked_141 (by decide) rfl (fun h29 => ?_) (fun h29 => ?_)
                  · skip
                    exact zv_vret K T dX4_nicked_151 (⟨rfl, by simp only [fX4_nicked, if_neg h1, if_neg h2, if_neg h3, if_pos h8, if_neg h17, if_neg h23, if_neg h27, if_neg h28, if_neg h29]⟩)
                  · skip
                    refine zv_aload_n K 145 dX4_nicked_144 rfl rfl ?_
                    refine zv_iload_n K 146 dX4_nicked_145 rfl rfl ?_
                    refine zv_iload_n K 147 dX4_nicked_146 rfl rfl ?_
                    refine zv_iload_n K 148 dX4_nicked_147 rfl rfl ?_
                    refine zv_cV0 K (q0 := 0) (As := [.int x, .int m, .int d]) (rest := []) 3 151 (kX4_holds l D ty b (zmF (zmF (zmF (zmF (zmF τ 26 c 0) 27 c (τ.2 27 c)) 28 c d) 25 c m) 26 c (((zmF τ 26 c 0).2 26 c) + 1)) x c hx hcx m d) dX4_nicked_148 rfl zw_3_134 zw_3_136 zw_p2_6 zw_1_5 zw_3_137 ⟨rfl, rfl⟩ zh_yX4_holds ⟨by decide, by decide⟩ (zm_at (p := 0) (j := 0) rfl) rfl rfl rfl (zle rfl) rfl ?_
                    exact zv_vret K T dX4_nicked_151 (⟨rfl, by simp only [fX4_nicked, if_neg h1, if_neg h2, if_neg h3, if_pos h8, if_neg h17, if_neg h23, if_neg h27, if_neg h28, if_pos h29]⟩)
                · skip
                  refine zv_iload_n K 100 dX4_nicked_99 rfl rfl ?_
                  refine zv_goto K 109 dX4_nicked_100 (by decide) ?_
                  refine zv_iast K 22 c 110 (zm b ty (zmF (zmF τ 26 c 0) 27 c d)) dX4_nicked_109 rfl (zm_at (p := 22) (j := 27) rfl) hx hcx (by decide) (zm_F 27 c rfl (by decide) rfl) ?_
                  refine zv_aload_n K 111 dX4_nicked_110 rfl rfl ?_
                  refine zm_get (v := .ref (b 28)) K 28 114 dX4_nicked_111 rfl (by decide) zw_2_216 rfl ?_
                  refine zv_iload_n K 115 dX4_nicked_114 rfl rfl ?_
                  refine zv_iload_n K 116 dX4_nicked_115 rfl rfl ?_
                  refine zv_iast K 23 c 117 (zm b ty (zmF (zmF (zmF τ 26 c 0) 27 c d) 28 c d)) dX4_nicked_116 rfl (zm_at (p := 23) (j := 28) rfl) hx hcx (by decide) (zm_F 28 c rfl (by decide) rfl) ?_
                  refine zv_aload_n K 118 dX4_nicked_117 rfl rfl ?_
                  refine zm_get (v := .ref (b 25)) K 25 121 dX4_nicked_118 rfl (by decide) zw_2_213 rfl ?_
                  refine zv_iload_n K 122 dX4_nicked_121 rfl rfl ?_
                  refine zv_iload_n K 123 dX4_nicked_122 rfl rfl ?_
                  refine zv_iast K 20 c 124 (zm b ty (zmF (zmF (zmF (zmF τ 26 c 0) 27 c d) 28 c d) 25 c m)) dX4_nicked_123 rfl (zm_at (p := 20) (j := 25) rfl) hx hcx (by decide) (zm_F 25 c rfl (by decide) rfl) ?_
                  refine zv_aload_n K 125 dX4_nicked_124 rfl rfl ?_
                  refine zm_get (v := .ref (b 26)) K 26 128 dX4_nicked_125 rfl (by decide) zw_2_214 rfl ?_
                  refine zv_iload_n K 129 dX4_nicked_128 rfl rfl ?_
                  refine zv_dup2 K 130 dX4_nicked_129 rfl rfl rfl ?_
                  refine zv_iald (F := (zmF τ 26 c 0).2 26) K 21 c 131 dX4_nicked_130 rfl (zm_at (p := 21) (j := 26) rfl) hx hcx (by decide) ?_
                  refine zv_iconst K 1 132 dX4_nicked_131 rfl (by decide) ?_
                  refine zv_iadd K 133 dX4_nicked_132 rfl ?_
                  refine zv_iast K 21 c 134 (zm b ty (zmF (zmF (zmF (zmF (zmF τ 26 c 0) 27 c d) 28 c d) 25 c m) 26 c (((zmF τ 26 c 0).2 26 c) + 1))) dX4_nicked_133 rfl (zm_at (p := 21) (j := 26) rfl) hx hcx (by decide) (zm_F 26 c rfl (by decide) rfl) ?_
                  refine zv_aload_n K 135 dX4_nicked_134 rfl rfl ?_
                  refine zm_get (v := .ref (b 26)) K 26 138 dX4_nicked_135 rfl (by decide) zw_2_214 rfl ?_
                  refine zv_iload_n K 139 dX4_nicked_138 rfl rfl ?_
                  refine zv_iald (F := (zmF (zmF (zmF (zmF (zmF τ 26 c 0) 27 c d) 28 c d) 25 c m) 26 c (((zmF τ 26 c 0).2 26 c) + 1)).2 26) K 21 c 140 dX4_nicked_139 rfl (zm_at (p := 21) (j := 26) rfl) hx hcx (by decide) ?_
                  refine zv_iconst K 3 141 dX4_nicked_140 rfl (by decide) ?_
                  refine zv_icmp_ne K 151 144 dX4_nicked_141 (by decide) rfl (fun h30 => ?_) (fun h30 => ?_)
                  · skip
                    exact zv_vret K T dX4_nicked_151 (⟨rfl, by simp only [fX4_nicked, if_neg h1, if_neg h2, if_neg h3, if_pos h8, if_neg h17, if_neg h23, if_neg h27, if_pos h28, if_neg h30]⟩)
                  · skip
                    refine zv_aload_n K 145 dX4_nicked_144 rfl rfl ?_
                    refine zv_iload_n K 146 dX4_nicked_145 rfl rfl ?_
                    refine zv_iload_n K 147 dX4_nicked_146 rfl rfl ?_
                    refine zv_iload_n K 148 dX4_nicked_147 rfl rfl ?_
                    refine zv_cV0 K (q0 := 0) (As := [.int x, .int m, .int d]) (rest := []) 3 151 (kX4_holds l D ty b (zmF (zmF (zmF (zmF (zmF τ 26 c 0) 27 c d) 28 c d) 25 c m) 26 c (((zmF τ 26 c 0).2 26 c) + 1)) x c hx hcx m d) dX4_nicked_148 rfl zw_3_134 zw_3_136 zw_p2_6 zw_1_5 zw_3_137 ⟨rfl, rfl⟩ zh_yX4_holds ⟨by decide, by decide⟩ (zm_at (p := 0) (j := 0) rfl) rfl rfl rfl (zle rfl) rfl ?_
                    exact zv_vret K T dX4_nicked_151 (⟨rfl, by simp only [fX4_nicked, if_neg h1, if_neg h2, if_neg h3, if_pos h8, if_neg h17, if_neg h23, if_neg h27, if_pos h28, if_pos h30]⟩)
              · skip
                exact zv_vret K T dX4_nicked_84 (⟨rfl, by simp only [fX4_nicked, if_neg h1, if_neg h2, if_neg h3, if_pos h8, if_neg h17, if_neg h23, if_pos h27]⟩)
    · skip
      exact zv_vret K T dX4_nicked_25 (⟨rfl, by simp only [fX4_nicked, if_neg h1, if_pos h2]⟩)

set_option maxHeartbeats 4000000 in
set_option maxRecDepth 100000 in
theorem kX4_ownerOf_l (l : Launch) (D : va_G) (ty : zTy) (b : Nat → Nat) (τ : zM) (n : Nat) (hn : n ≤ 90) (hc : τ.1 3 = nI n) (vn ft : Int32) {k : zKx} (K : zv_ok k l D (zR 0 0) cX4_ownerOf 6 yX4_ownerOf.cls ty) (T : zv_rt k (some .int) (fun v_ w_ => v_ = some (.int (mI (mow τ vn ft n))) ∧ w_ = zm b ty τ)) : ∀ c : Nat, c ≤ n → ∀ o5 : Option Value, zv k 5 [some (.ref (b 0)), some (.int vn), some (.int ft), some (.int (mI (mow τ vn ft c))), some (.int (nI c)), o5] [] (zm b ty τ) := by
  refine z_wf (fun c : Nat => n - c) ?_
  intro c ih hcn o5
  have hb90 : ∀ g, mow τ vn ft c = some g → g < 90 := fun g q => by have := mow_lt q; omega
  refine zv_iload K 7 dX4_ownerOf_5 rfl rfl ?_
  refine zv_aload_n K 8 dX4_ownerOf_7 rfl rfl ?_
  refine zm_get (v := .int (τ.1 3)) K 3 11 dX4_ownerOf_8 rfl (by decide) zw_2_191 rfl ?_
  refine zv_topi (nI n) hc ?_
  refine zv_icmp_ge K 102 14 dX4_ownerOf_11 (by decide) rfl (fun hb => ?_) (fun hb => ?_)
  · skip
    have e : c = n := by have := z_ge hb (by omega) (by omega); omega
    refine zv_iload_n K 103 dX4_ownerOf_102 rfl rfl ?_
    exact zv_iret K T dX4_ownerOf_103 (⟨by rw [e], rfl⟩)
  · skip
    have hlt : c < n := z_lt hb (by omega)
    refine zv_aload_n K 15 dX4_ownerOf_14 rfl rfl ?_
    refine zm_get (v := .ref (b 19)) K 19 18 dX4_ownerOf_15 rfl (by decide) zw_2_207 rfl ?_
    refine zv_iload K 20 dX4_ownerOf_18 rfl rfl ?_
    refine zv_zald (F := τ.2 19) K 14 c 21 dX4_ownerOf_20 rfl (zm_at (p := 14) (j := 19) rfl) rfl (by omega) (by decide) ?_
    refine zv_if_eq K 61 24 dX4_ownerOf_21 (by decide) rfl (fun h2 => ?_) (fun h2 => ?_)
    · skip
      refine zv_iconst K 0 62 dX4_ownerOf_61 rfl (by decide) ?_
      refine zv_istore K [some (.ref (b 0)), some (.int vn), some (.int ft), some (.int (mI (mow τ vn ft c))), some (.int (nI c)), some (.int 0)] 64 dX4_ownerOf_62 rfl rfl (zlt rfl) ?_
      refine zv_iload K 66 dX4_ownerOf_64 rfl rfl ?_
      refine zv_if_eq K 94 69 dX4_ownerOf_66 (by decide) rfl (fun h3 => ?_) (fun h3 => ?_)
      rotate_left
      · exact absurd h3 (by decide)
      · skip
        refine zv_iload_n K 95 dX4_ownerOf_94 rfl rfl ?_
        refine zv_istore_n K [some (.ref (b 0)), some (.int vn), some (.int ft), some (.int (mI (mow τ vn ft c))), some (.int (nI c)), some (.int 0)] 96 dX4_ownerOf_95 rfl rfl (zlt rfl) ?_
        refine zv_iinc K (nI (c + 1)) [some (.ref (b 0)), some (.int vn), some (.int ft), some (.int (mI (mow τ vn ft c))), some (.int (nI (c + 1))), some (.int 0)] 99 dX4_ownerOf_96 rfl rfl (z_inc c) rfl ?_
        refine zv_goto K 5 dX4_ownerOf_99 (by decide) ?_
        refine zv_eq (lv2 := [some (.ref (b 0)), some (.int vn), some (.int ft), some (.int (mI (mow τ vn ft (c + 1)))), some (.int (nI (c + 1))), some (.int 0)]) rfl (by rw [mow_n1 (fun q => q.1 h2)]; try rfl) rfl rfl ?_
        exact ih (c + 1) (by omega) (by omega) (some (.int 0))
    · skip
      refine zv_aload_n K 25 dX4_ownerOf_24 rfl rfl ?_
      refine zm_get (v := .ref (b 9)) K 9 28 dX4_ownerOf_25 rfl (by decide) zw_2_197 rfl ?_
      refine zv_iload K 30 dX4_ownerOf_28 rfl rfl ?_
      refine zv_iald (F := τ.2 9) K 5 c 31 dX4_ownerOf_30 rfl (zm_at (p := 5) (j := 9) rfl) rfl (by omega) (by decide) ?_
      refine zv_iload_n K 32 dX4_ownerOf_31 rfl rfl ?_
      refine zv_icmp_ne K 61 35 dX4_ownerOf_32 (by decide) rfl (fun h4 => ?_) (fun h4 => ?_)
      · skip
        refine zv_iconst K 0 62 dX4_ownerOf_61 rfl (by decide) ?_
        refine zv_istore K [some (.ref (b 0)), some (.int vn), some (.int ft), some (.int (mI (mow τ vn ft c))), some (.int (nI c)), some (.int 0)] 64 dX4_ownerOf_62 rfl rfl (zlt rfl) ?_
        refine zv_iload K 66 dX4_ownerOf_64 rfl rfl ?_
        refine zv_if_eq K 94 69 dX4_ownerOf_66 (by decide) rfl (fun h5 => ?_) (fun h5 => ?_)
        rotate_left
        · exact absurd h5 (by decide)
        · skip
          refine zv_iload_n K 95 dX4_ownerOf_94 rfl rfl ?_
          refine zv_istore_n K [some (.ref (b 0)), some (.int vn), some (.int ft), some (.int (mI (mow τ vn ft c))), some (.int (nI c)), some (.int 0)] 96 dX4_ownerOf_95 rfl rfl (zlt rfl) ?_
          refine zv_iinc K (nI (c + 1)) [some (.ref (b 0)), some (.int vn), some (.int ft), some (.int (mI (mow τ vn ft c))), some (.int (nI (c + 1))), some (.int 0)] 99 dX4_ownerOf_96 rfl rfl (z_inc c) rfl ?_
          refine zv_goto K 5 dX4_ownerOf_99 (by decide) ?_
          refine zv_eq (lv2 := [some (.ref (b 0)), some (.int vn), some (.int ft), some (.int (mI (mow τ vn ft (c + 1)))), some (.int (nI (c + 1))), some (.int 0)]) rfl (by rw [mow_n1 (fun q => h4 q.2.1)]; try rfl) rfl rfl ?_
          exact ih (c + 1) (by omega) (by omega) (some (.int 0))
      · skip
        refine zv_iload_n K 36 dX4_ownerOf_35 rfl rfl ?_
        refine zv_aload_n K 37 dX4_ownerOf_36 rfl rfl ?_
        refine zm_get (v := .ref (b 23)) K 23 40 dX4_ownerOf_37 rfl (by decide) zw_2_211 rfl ?_
        refine zv_iload K 42 dX4_ownerOf_40 rfl rfl ?_
        refine zv_iald (F := τ.2 23) K 18 c 43 dX4_ownerOf_42 rfl (zm_at (p := 18) (j := 23) rfl) rfl (by omega) (by decide) ?_
        refine zv_icmp_lt K 61 46 dX4_ownerOf_43 (by decide) rfl (fun h6 => ?_) (fun h6 => ?_)
        · skip
          refine zv_iconst K 0 62 dX4_ownerOf_61 rfl (by decide) ?_
          refine zv_istore K [some (.ref (b 0)), some (.int vn), some (.int ft), some (.int (mI (mow τ vn ft c))), some (.int (nI c)), some (.int 0)] 64 dX4_ownerOf_62 rfl rfl (zlt rfl) ?_
          refine zv_iload K 66 dX4_ownerOf_64 rfl rfl ?_
          refine zv_if_eq K 94 69 dX4_ownerOf_66 (by decide) rfl (fun h7 => ?_) (fun h7 => ?_)
          rotate_left
          · exact absurd h7 (by decide)
          · skip
            refine zv_iload_n K 95 dX4_ownerOf_94 rfl rfl ?_
            refine zv_istore_n K [some (.ref (b 0)), some (.int vn), some (.int ft), some (.int (mI (mow τ vn ft c))), some (.int (nI c)), some (.int 0)] 96 dX4_ownerOf_95 rfl rfl (zlt rfl) ?_
            refine zv_iinc K (nI (c + 1)) [some (.ref (b 0)), some (.int vn), some (.int ft), some (.int (mI (mow τ vn ft c))), some (.int (nI (c + 1))), some (.int 0)] 99 dX4_ownerOf_96 rfl rfl (z_inc c) rfl ?_
            refine zv_goto K 5 dX4_ownerOf_99 (by decide) ?_
            refine zv_eq (lv2 := [some (.ref (b 0)), some (.int vn), some (.int ft), some (.int (mI (mow τ vn ft (c + 1)))), some (.int (nI (c + 1))), some (.int 0)]) rfl (by rw [mow_n1 (fun q => q.2.2.1 h6)]; try rfl) rfl rfl ?_
            exact ih (c + 1) (by omega) (by omega) (some (.int 0))
        · skip
          refine zv_iload_n K 47 dX4_ownerOf_46 rfl rfl ?_
          refine zv_aload_n K 48 dX4_ownerOf_47 rfl rfl ?_
          refine zm_get (v := .ref (b 24)) K 24 51 dX4_ownerOf_48 rfl (by decide) zw_2_212 rfl ?_
          refine zv_iload K 53 dX4_ownerOf_51 rfl rfl ?_
          refine zv_iald (F := τ.2 24) K 19 c 54 dX4_ownerOf_53 rfl (zm_at (p := 19) (j := 24) rfl) rfl (by omega) (by decide) ?_
          refine zv_icmp_gt K 61 57 dX4_ownerOf_54 (by decide) rfl (fun h8 => ?_) (fun h8 => ?_)
          · skip
            refine zv_iconst K 0 62 dX4_ownerOf_61 rfl (by decide) ?_
            refine zv_istore K [some (.ref (b 0)), some (.int vn), some (.int ft), some (.int (mI (mow τ vn ft c))), some (.int (nI c)), some (.int 0)] 64 dX4_ownerOf_62 rfl rfl (zlt rfl) ?_
            refine zv_iload K 66 dX4_ownerOf_64 rfl rfl ?_
            refine zv_if_eq K 94 69 dX4_ownerOf_66 (by decide) rfl (fun h9 => ?_) (fun h9 => ?_)
            rotate_left
            · exact absurd h9 (by decide)
            · skip
              refine zv_iload_n K 95 dX4_ownerOf_94 rfl rfl ?_
              refine zv_istore_n K [some (.ref (b 0)), some (.int vn), some (.int ft), some (.int (mI (mow τ vn ft c))), some (.int (nI c)), some (.int 0)] 96 dX4_ownerOf_95 rfl rfl (zlt rfl) ?_
              refine zv_iinc K (nI (c + 1)) [some (.ref (b 0)), some (.int vn), some (.int ft), some (.int (mI (mow τ vn ft c))), some (.int (nI (c + 1))), some (.int 0)] 99 dX4_ownerOf_96 rfl rfl (z_inc c) rfl ?_
              refine zv_goto K 5 dX4_ownerOf_99 (by decide) ?_
              refine zv_eq (lv2 := [some (.ref (b 0)), some (.int vn), some (.int ft), some (.int (mI (mow τ vn ft (c + 1)))), some (.int (nI (c + 1))), some (.int 0)]) rfl (by rw [mow_n1 (fun q => q.2.2.2 h8)]; try rfl) rfl rfl ?_
              exact ih (c + 1) (by omega) (by omega) (some (.int 0))
          · skip
            refine zv_iconst K 1 58 dX4_ownerOf_57 rfl (by decide) ?_
            refine zv_goto K 62 dX4_ownerOf_58 (by decide) ?_
            refine zv_istore K [some (.ref (b 0)), some (.int vn), some (.int ft), some (.int (mI (mow τ vn ft c))), some (.int (nI c)), some (.int 1)] 64 dX4_ownerOf_62 rfl rfl (zlt rfl) ?_
            refine zv_iload K 66 dX4_ownerOf_64 rfl rfl ?_
            refine zv_if_eq K 94 69 dX4_ownerOf_66 (by decide) rfl (fun h10 => ?_) (fun h10 => ?_)
            · exact absurd h10 (by decide)
            · skip
              refine zv_iload_n K 70 dX4_ownerOf_69 rfl rfl ?_
              refine zv_if_lt K 89 73 dX4_ownerOf_70 (by decide) rfl (fun h11 => ?_) (fun h11 => ?_)
              · skip
                refine zv_iload K 91 dX4_ownerOf_89 rfl rfl ?_
                refine zv_goto K 95 dX4_ownerOf_91 (by decide) ?_
                refine zv_istore_n K [some (.ref (b 0)), some (.int vn), some (.int ft), some (.int (nI c)), some (.int (nI c)), some (.int 1)] 96 dX4_ownerOf_95 rfl rfl (zlt rfl) ?_
                refine zv_iinc K (nI (c + 1)) [some (.ref (b 0)), some (.int vn), some (.int ft), some (.int (nI c)), some (.int (nI (c + 1))), some (.int 1)] 99 dX4_ownerOf_96 rfl rfl (z_inc c) rfl ?_
                refine zv_goto K 5 dX4_ownerOf_99 (by decide) ?_
                refine zv_eq (lv2 := [some (.ref (b 0)), some (.int vn), some (.int ft), some (.int (mI (mow τ vn ft (c + 1)))), some (.int (nI (c + 1))), some (.int 1)]) rfl (by rw [mow_y ⟨h2, h4, h6, h8⟩ (Or.inl (mI_neg h11 hb90))]; try rfl) rfl rfl ?_
                exact ih (c + 1) (by omega) (by omega) (some (.int 1))
              · skip
                refine zv_aload_n K 74 dX4_ownerOf_73 rfl rfl ?_
                refine zm_get (v := .ref (b 6)) K 6 77 dX4_ownerOf_74 rfl (by decide) zw_2_194 rfl ?_
                refine zv_iload K 79 dX4_ownerOf_77 rfl rfl ?_
                refine zv_iald (F := τ.2 6) K 2 c 80 dX4_ownerOf_79 rfl (zm_at (p := 2) (j := 6) rfl) rfl (by omega) (by decide) ?_
                refine zv_aload_n K 81 dX4_ownerOf_80 rfl rfl ?_
                refine zm_get (v := .ref (b 6)) K 6 84 dX4_ownerOf_81 rfl (by decide) zw_2_194 rfl ?_
                refine zv_iload_n K 85 dX4_ownerOf_84 rfl rfl ?_
                refine zv_iald (F := τ.2 6) K 2 ((mow τ vn ft c).getD 0) 86 dX4_ownerOf_85 rfl (zm_at (p := 2) (j := 6) rfl) (mI_get h11) (hb90 _ (mI_pos h11)) (by decide) ?_
                refine zv_icmp_ge K 94 89 dX4_ownerOf_86 (by decide) rfl (fun h12 => ?_) (fun h12 => ?_)
                · skip
                  refine zv_iload_n K 95 dX4_ownerOf_94 rfl rfl ?_
                  refine zv_istore_n K [some (.ref (b 0)), some (.int vn), some (.int ft), some (.int (mI (mow τ vn ft c))), some (.int (nI c)), some (.int 1)] 96 dX4_ownerOf_95 rfl rfl (zlt rfl) ?_
                  refine zv_iinc K (nI (c + 1)) [some (.ref (b 0)), some (.int vn), some (.int ft), some (.int (mI (mow τ vn ft c))), some (.int (nI (c + 1))), some (.int 1)] 99 dX4_ownerOf_96 rfl rfl (z_inc c) rfl ?_
                  refine zv_goto K 5 dX4_ownerOf_99 (by decide) ?_
                  refine zv_eq (lv2 := [some (.ref (b 0)), some (.int vn), some (.int ft), some (.int (mI (mow τ vn ft (c + 1)))), some (.int (nI (c + 1))), some (.int 1)]) rfl (by rw [mow_n2 (fun q => h11 (by rw [q]; decide)) (z_len h12)]; try rfl) rfl rfl ?_
                  exact ih (c + 1) (by omega) (by omega) (some (.int 1))
                · skip
                  refine zv_iload K 91 dX4_ownerOf_89 rfl rfl ?_
                  refine zv_goto K 95 dX4_ownerOf_91 (by decide) ?_
                  refine zv_istore_n K [some (.ref (b 0)), some (.int vn), some (.int ft), some (.int (nI c)), some (.int (nI c)), some (.int 1)] 96 dX4_ownerOf_95 rfl rfl (zlt rfl) ?_
                  refine zv_iinc K (nI (c + 1)) [some (.ref (b 0)), some (.int vn), some (.int ft), some (.int (nI c)), some (.int (nI (c + 1))), some (.int 1)] 99 dX4_ownerOf_96 rfl rfl (z_inc c) rfl ?_
                  refine zv_goto K 5 dX4_ownerOf_99 (by decide) ?_
                  refine zv_eq (lv2 := [some (.ref (b 0)), some (.int vn), some (.int ft), some (.int (mI (mow τ vn ft (c + 1)))), some (.int (nI (c + 1))), some (.int 1)]) rfl (by rw [mow_y ⟨h2, h4, h6, h8⟩ (Or.inr (z_nle h12))]; try rfl) rfl rfl ?_
                  exact ih (c + 1) (by omega) (by omega) (some (.int 1))

set_option maxHeartbeats 4000000 in
set_option maxRecDepth 100000 in
theorem kX4_ownerOf (l : Launch) (D : va_G) (ty : zTy) (b : Nat → Nat) (τ : zM) (n : Nat) (hn : n ≤ 90) (hc : τ.1 3 = nI n) (vn ft : Int32) : zv_ct l D ty yX4_ownerOf cX4_ownerOf 6 (some .int) (zR 0 0) [.ref (b 0), .int vn, .int ft] (zm b ty τ) (fun v_ w_ => v_ = some (.int (mI (mow τ vn ft n))) ∧ w_ = zm b ty τ) := by
  refine zv_open (by decide) rfl rfl [some (.ref (b 0)), some (.int vn), some (.int ft), none, none, none] (by simp [zv_one, Value.category]) (zle rfl) rfl ?_
  intro k K T
  refine zv_iconst K (-1) 1 dX4_ownerOf_0 rfl (by decide) ?_
  refine zv_istore_n K [some (.ref (b 0)), some (.int vn), some (.int ft), some (.int (-1)), none, none] 2 dX4_ownerOf_1 rfl rfl (zlt rfl) ?_
  refine zv_iconst K 0 3 dX4_ownerOf_2 rfl (by decide) ?_
  refine zv_istore K [some (.ref (b 0)), some (.int vn), some (.int ft), some (.int (-1)), some (.int 0), none] 5 dX4_ownerOf_3 rfl rfl (zlt rfl) ?_
  exact kX4_ownerOf_l l D ty b τ n hn hc vn ft K T 0 (Nat.zero_le _) none

set_option maxHeartbeats 4000000 in
set_option maxRecDepth 100000 in
theorem kX4_digs_l (l : Launch) (D : va_G) (ty : zTy) (b : Nat → Nat) (τ : zM) (n : Nat) (x : Int32) (f : Nat) (hx : x = nI f) (hf : f < 90) (q : Nat) (hq9 : q < 90) (hq : mow τ (τ.2 9 f) (τ.2 12 f) n = some q) {k : zKx} (K : zv_ok k l D (zR 1 25) cX4_digs 4 yX4_digs.cls ty) (T : zv_rt k none (fun v_ w_ => v_ = none ∧ w_ = zm b ty (mdig τ n f))) : ∀ m_ : Nat, m_ ≤ 10 → zv k 43 [some (.ref (b 0)), some (.int x), some (.int (nI q)), some (.int (nI m_))] [] (zm b ty (zmFa τ 29 (morN τ f q m_))) := by
  refine z_wf (fun m_ : Nat => 10 - m_) ?_
  intro m_ ih hm
  refine zv_iload_n K 44 dX4_digs_43 rfl rfl ?_
  refine zv_bipush K 10 46 dX4_digs_44 rfl (by decide) ?_
  refine zv_icmp_ge K 82 49 dX4_digs_46 (by decide) rfl (fun hb => ?_) (fun hb => ?_)
  · skip
    have e : m_ = 10 := by have := z_ge (c := 10) hb (by decide) (by omega); omega
    exact zv_vret K T dX4_digs_82 (⟨rfl, congrArg (zm b ty) (by simp only [mdig, hq]; rw [e])⟩)
  · skip
    have hlt : m_ < 10 := z_lt (c := 10) hb (by omega)
    refine zv_aload_n K 50 dX4_digs_49 rfl rfl ?_
    refine zm_get (v := .ref (b 29)) K 29 53 dX4_digs_50 rfl (by decide) zw_2_217 rfl ?_
    refine zv_iload_n K 54 dX4_digs_53 rfl rfl ?_
    refine zv_dup2 K 55 dX4_digs_54 rfl rfl rfl ?_
    refine zv_iald (F := (zmFa τ 29 (morN τ f q m_)).2 29) K 24 m_ 56 dX4_digs_55 rfl (zm_at (p := 24) (j := 29) rfl) rfl (by omega) (by decide) ?_
    refine zv_aload_n K 57 dX4_digs_56 rfl rfl ?_
    refine zm_get (v := .ref (b 21)) K 21 60 dX4_digs_57 rfl (by decide) zw_2_209 rfl ?_
    refine zv_bipush K 10 62 dX4_digs_60 rfl (by decide) ?_
    refine zv_iload_n K 63 dX4_digs_62 rfl rfl ?_
    refine zv_imul K 64 dX4_digs_63 rfl ?_
    refine zv_iload_n K 65 dX4_digs_64 rfl rfl ?_
    refine zv_iadd K 66 dX4_digs_65 rfl ?_
    refine zv_iald (F := τ.2 21) K 16 (10 * q + m_) 67 dX4_digs_66 rfl (zm_at (p := 16) (j := 21) rfl) (zi10 q m_) (by omega) (by decide) ?_
    refine zv_aload_n K 68 dX4_digs_67 rfl rfl ?_
    refine zm_get (v := .ref (b 14)) K 14 71 dX4_digs_68 rfl (by decide) zw_2_202 rfl ?_
    refine zv_iload_n K 72 dX4_digs_71 rfl rfl ?_
    refine zv_iald (F := τ.2 14) K 10 f 73 dX4_digs_72 rfl (zm_at (p := 10) (j := 14) rfl) hx hf (by decide) ?_
    refine zv_imul K 74 dX4_digs_73 rfl ?_
    refine zv_iadd K 75 dX4_digs_74 rfl ?_
    refine zv_iast K 24 m_ 76 (zm b ty (zmF (zmFa τ 29 (morN τ f q m_)) 29 m_ (((zmFa τ 29 (morN τ f q m_)).2 29 m_) + ((τ.2 21 (10 * q + m_)) * (τ.2 14 f))))) dX4_digs_75 rfl (zm_at (p := 24) (j := 29) rfl) rfl (by omega) (by decide) (zm_F 29 m_ rfl (by decide) rfl) ?_
    refine zv_iinc K (nI (m_ + 1)) [some (.ref (b 0)), some (.int x), some (.int (nI q)), some (.int (nI (m_ + 1)))] 79 dX4_digs_76 rfl rfl (z_inc m_) rfl ?_
    refine zv_goto K 43 dX4_digs_79 (by decide) ?_
    refine zv_ws (congrArg (zm b ty) ((zmF_Fa τ 29 m_ _ _).trans (congrArg (zmFa τ 29) (morN_s τ f q m_)))) ?_
    exact ih (m_ + 1) (by omega) (by omega)

set_option maxHeartbeats 4000000 in
set_option maxRecDepth 100000 in
theorem kX4_digs (l : Launch) (D : va_G) (ty : zTy) (b : Nat → Nat) (τ : zM) (n : Nat) (hn : n ≤ 90) (hc : τ.1 3 = nI n) (x : Int32) (f : Nat) (hx : x = nI f) (hf : f < 90) : zv_ct l D ty yX4_digs cX4_digs 4 none (zR 1 25) [.ref (b 0), .int x] (zm b ty τ) (fun v_ w_ => v_ = none ∧ w_ = zm b ty (mdig τ n f)) := by
  refine zv_open (by decide) rfl rfl [some (.ref (b 0)), some (.int x), none, none] (by simp [zv_one, Value.category]) (zle rfl) rfl ?_
  intro k K T
  refine zv_aload_n K 1 dX4_digs_0 rfl rfl ?_
  refine zv_aload_n K 2 dX4_digs_1 rfl rfl ?_
  refine zm_get (v := .ref (b 9)) K 9 5 dX4_digs_2 rfl (by decide) zw_2_197 rfl ?_
  refine zv_iload_n K 6 dX4_digs_5 rfl rfl ?_
  refine zv_iald (F := τ.2 9) K 5 f 7 dX4_digs_6 rfl (zm_at (p := 5) (j := 9) rfl) hx hf (by decide) ?_
  refine zv_aload_n K 8 dX4_digs_7 rfl rfl ?_
  refine zm_get (v := .ref (b 12)) K 12 11 dX4_digs_8 rfl (by decide) zw_2_200 rfl ?_
  refine zv_iload_n K 12 dX4_digs_11 rfl rfl ?_
  refine zv_iald (F := τ.2 12) K 8 f 13 dX4_digs_12 rfl (zm_at (p := 8) (j := 12) rfl) hx hf (by decide) ?_
  refine zv_cV1 K (q0 := 0) (As := [.int (τ.2 9 f), .int (τ.2 12 f)]) (rest := []) 2 16 (kX4_ownerOf l D ty b τ n hn hc (τ.2 9 f) (τ.2 12 f)) dX4_digs_13 rfl zw_3_142 zw_3_144 zw_p2_8 zw_1_5 zw_3_145 ⟨rfl, rfl⟩ zh_yX4_ownerOf ⟨by decide, by decide⟩ (zm_at (p := 0) (j := 0) rfl) rfl rfl rfl (zle rfl) rfl ?_
  refine zv_istore_n K [some (.ref (b 0)), some (.int x), some (.int (mI (mow τ (τ.2 9 f) (τ.2 12 f) n))), none] 17 dX4_digs_16 rfl rfl (zlt rfl) ?_
  refine zv_iload_n K 18 dX4_digs_17 rfl rfl ?_
  refine zv_if_ge K 41 21 dX4_digs_18 (by decide) rfl (fun hs => ?_) (fun hs => ?_)
  · skip
    refine zv_iconst K 0 42 dX4_digs_41 rfl (by decide) ?_
    refine zv_istore_n K [some (.ref (b 0)), some (.int x), some (.int (mI (mow τ (τ.2 9 f) (τ.2 12 f) n))), some (.int 0)] 43 dX4_digs_42 rfl rfl (zlt rfl) ?_
    have hq := mI_pos (z_len hs)
    obtain ⟨q, hq⟩ : ∃ q, mow τ (τ.2 9 f) (τ.2 12 f) n = some q := ⟨_, hq⟩
    have hq9 : q < 90 := by have := mow_lt hq; omega
    refine zv_eq (lv2 := [some (.ref (b 0)), some (.int x), some (.int (nI q)), some (.int (nI 0))]) (ws2 := zm b ty (zmFa τ 29 (morN τ f q 0))) rfl (by rw [hq]; rfl) rfl (congrArg (zm b ty) (by rw [morN_0]; exact (zmFa_self τ 29).symm)) ?_
    exact kX4_digs_l l D ty b τ n x f hx hf q hq9 hq K T 0 (by decide)
  · skip
    refine zv_aload_n K 22 dX4_digs_21 rfl rfl ?_
    refine zm_get (v := .ref (b 29)) K 29 25 dX4_digs_22 rfl (by decide) zw_2_217 rfl ?_
    refine zv_bipush K 10 27 dX4_digs_25 rfl (by decide) ?_
    refine zv_dup2 K 28 dX4_digs_27 rfl rfl rfl ?_
    refine zv_iald (F := τ.2 29) K 24 10 29 dX4_digs_28 rfl (zm_at (p := 24) (j := 29) rfl) rfl (by decide) (by decide) ?_
    refine zv_bipush K 24 31 dX4_digs_29 rfl (by decide) ?_
    refine zv_aload_n K 32 dX4_digs_31 rfl rfl ?_
    refine zm_get (v := .ref (b 14)) K 14 35 dX4_digs_32 rfl (by decide) zw_2_202 rfl ?_
    refine zv_iload_n K 36 dX4_digs_35 rfl rfl ?_
    refine zv_iald (F := τ.2 14) K 10 f 37 dX4_digs_36 rfl (zm_at (p := 10) (j := 14) rfl) hx hf (by decide) ?_
    refine zv_imul K 38 dX4_digs_37 rfl ?_
    refine zv_iadd K 39 dX4_digs_38 rfl ?_
    refine zv_iast K 24 10 40 (zm b ty (zmF τ 29 10 ((τ.2 29 10) + (24 * (τ.2 14 f))))) dX4_digs_39 rfl (zm_at (p := 24) (j := 29) rfl) rfl (by decide) (by decide) (zm_F 29 10 rfl (by decide) rfl) ?_
    exact zv_vret K T dX4_digs_40 (⟨rfl, congrArg (zm b ty) (by have hq := mI_neg (z_nle hs) (fun g q => by have := mow_lt q; omega); simp only [mdig, hq])⟩)

theorem zi10' (f c : Nat) {p q : Int32} (hp : p = nI f) (hq : q = nI c) : 10 * p + q = nI (10 * f + c) := by rw [hp, hq]; exact zi10 f c
def fX4_comesTo (τ : zM) (f : Nat) (c : Nat) (d : Int32) : zM :=
  if (τ.2 5 f) = 1 then
    (zmF (zmF τ 22 c d) 26 c 0)
  else
    if (τ.2 5 f) = 2 then
      (fX4_nicked τ c (τ.2 10 f) d)
    else
      if (τ.2 5 f) = 3 then
        (zmF τ 19 c 0)
      else
        if (τ.2 5 f) = 4 then
          (zmF (zmF τ 23 c (τ.2 12 f)) 24 c (τ.2 13 f))
        else
          if (τ.2 21 (10 * c + (τ.2 10 f).toNatClampNeg)) < (τ.2 14 f) then
            τ
          else
            (zmF (zmF τ 21 (10 * c + (τ.2 10 f).toNatClampNeg) ((τ.2 21 (10 * c + (τ.2 10 f).toNatClampNeg)) - (τ.2 14 f))) 21 (10 * c + (τ.2 11 f).toNatClampNeg) (((zmF τ 21 (10 * c + (τ.2 10 f).toNatClampNeg) ((τ.2 21 (10 * c + (τ.2 10 f).toNatClampNeg)) - (τ.2 14 f))).2 21 (10 * c + (τ.2 11 f).toNatClampNeg)) + (τ.2 14 f)))
set_option maxHeartbeats 4000000 in
set_option maxRecDepth 100000 in
theorem kX4_comesTo (l : Launch) (D : va_G) (ty : zTy) (b : Nat → Nat) (τ : zM) (x : Int32) (f : Nat) (hx : x = nI f) (hf : f < 90) (y : Int32) (c : Nat) (hy : y = nI c) (hcy : c < 90) (d : Int32) (h5 : ¬ τ.2 5 f = 1 → ¬ τ.2 5 f = 2 → ¬ τ.2 5 f = 3 → ¬ τ.2 5 f = 4 → (τ.2 10 f = nI (τ.2 10 f).toNatClampNeg ∧ (τ.2 10 f).toNatClampNeg < 10) ∧ (τ.2 11 f = nI (τ.2 11 f).toNatClampNeg ∧ (τ.2 11 f).toNatClampNeg < 10)) : zv_ct l D ty yX4_comesTo cX4_comesTo 4 none (zR 2 47) [.ref (b 0), .int x, .int y, .int d] (zm b ty τ) (fun v_ w_ => v_ = none ∧ w_ = zm b ty (fX4_comesTo τ f c d)) := by
  refine zv_open (by decide) rfl rfl [some (.ref (b 0)), some (.int x), some (.int y), some (.int d)] (by simp [zv_one, Value.category]) (zle rfl) rfl ?_
  intro k K T
  refine zv_aload_n K 1 dX4_comesTo_0 rfl rfl ?_
  refine zm_get (v := .ref (b 5)) K 5 4 dX4_comesTo_1 rfl (by decide) zw_2_193 rfl ?_
  refine zv_iload_n K 5 dX4_comesTo_4 rfl rfl ?_
  refine zv_iald (F := τ.2 5) K 1 f 6 dX4_comesTo_5 rfl (zm_at (p := 1) (j := 5) rfl) hx hf (by decide) ?_
  by_cases e_1 : τ.2 5 f = 1
  · refine zv_tableIn (off := 30) K 36 dX4_comesTo_6 (by rw [e_1]; decide) (by rw [e_1]; decide) (by rw [e_1]; rfl) (by decide) ?_
    refine zv_aload_n K 37 dX4_comesTo_36 rfl rfl ?_
    refine zm_get (v := .ref (b 22)) K 22 40 dX4_comesTo_37 rfl (by decide) zw_2_210 rfl ?_
    refine zv_iload_n K 41 dX4_comesTo_40 rfl rfl ?_
    refine zv_iload_n K 42 dX4_comesTo_41 rfl rfl ?_
    refine zv_iast K 17 c 43 (zm b ty (zmF τ 22 c d)) dX4_comesTo_42 rfl (zm_at (p := 17) (j := 22) rfl) hy hcy (by decide) (zm_F 22 c rfl (by decide) rfl) ?_
    refine zv_aload_n K 44 dX4_comesTo_43 rfl rfl ?_
    refine zm_get (v := .ref (b 26)) K 26 47 dX4_comesTo_44 rfl (by decide) zw_2_214 rfl ?_
    refine zv_iload_n K 48 dX4_comesTo_47 rfl rfl ?_
    refine zv_iconst K 0 49 dX4_comesTo_48 rfl (by decide) ?_
    refine zv_iast K 21 c 50 (zm b ty (zmF (zmF τ 22 c d) 26 c 0)) dX4_comesTo_49 rfl (zm_at (p := 21) (j := 26) rfl) hy hcy (by decide) (zm_F 26 c rfl (by decide) rfl) ?_
    refine zv_goto K 180 dX4_comesTo_50 (by decide) ?_
    exact zv_vret K T dX4_comesTo_180 (⟨rfl, by simp only [fX4_comesTo, if_pos e_1]⟩)
  · skip
    by_cases e_2 : τ.2 5 f = 2
    · refine zv_tableIn (off := 47) K 53 dX4_comesTo_6 (by rw [e_2]; decide) (by rw [e_2]; decide) (by rw [e_2]; rfl) (by decide) ?_
      refine zv_aload_n K 54 dX4_comesTo_53 rfl rfl ?_
      refine zv_iload_n K 55 dX4_comesTo_54 rfl rfl ?_
      refine zv_aload_n K 56 dX4_comesTo_55 rfl rfl ?_
      refine zm_get (v := .ref (b 10)) K 10 59 dX4_comesTo_56 rfl (by decide) zw_2_198 rfl ?_
      refine zv_iload_n K 60 dX4_comesTo_59 rfl rfl ?_
      refine zv_iald (F := τ.2 10) K 6 f 61 dX4_comesTo_60 rfl (zm_at (p := 6) (j := 10) rfl) hx hf (by decide) ?_
      refine zv_iload_n K 62 dX4_comesTo_61 rfl rfl ?_
      refine zv_cV0 K (q0 := 0) (As := [.int y, .int (τ.2 10 f), .int d]) (rest := []) 3 65 (kX4_nicked l D ty b τ y c hy hcy (τ.2 10 f) d) dX4_comesTo_62 rfl zw_3_150 zw_3_152 zw_p2_10 zw_1_5 zw_3_153 ⟨rfl, rfl⟩ zh_yX4_nicked ⟨by decide, by decide⟩ (zm_at (p := 0) (j := 0) rfl) rfl rfl rfl (zle rfl) rfl ?_
      refine zv_goto K 180 dX4_comesTo_65 (by decide) ?_
      exact zv_vret K T dX4_comesTo_180 (⟨rfl, by simp only [fX4_comesTo, if_neg e_1, if_pos e_2]⟩)
    · skip
      by_cases e_3 : τ.2 5 f = 3
      · refine zv_tableIn (off := 62) K 68 dX4_comesTo_6 (by rw [e_3]; decide) (by rw [e_3]; decide) (by rw [e_3]; rfl) (by decide) ?_
        refine zv_aload_n K 69 dX4_comesTo_68 rfl rfl ?_
        refine zm_get (v := .ref (b 19)) K 19 72 dX4_comesTo_69 rfl (by decide) zw_2_207 rfl ?_
        refine zv_iload_n K 73 dX4_comesTo_72 rfl rfl ?_
        refine zv_iconst K 0 74 dX4_comesTo_73 rfl (by decide) ?_
        refine zv_zast K 14 c 75 (zm b ty (zmF τ 19 c 0)) dX4_comesTo_74 rfl (zm_at (p := 14) (j := 19) rfl) hy hcy (by decide) rfl (zm_F 19 c rfl (by decide) rfl) ?_
        refine zv_goto K 180 dX4_comesTo_75 (by decide) ?_
        exact zv_vret K T dX4_comesTo_180 (⟨rfl, by simp only [fX4_comesTo, if_neg e_1, if_neg e_2, if_pos e_3]⟩)
      · skip
        by_cases e_4 : τ.2 5 f = 4
        · refine zv_tableIn (off := 72) K 78 dX4_comesTo_6 (by rw [e_4]; decide) (by rw [e_4]; decide) (by rw [e_4]; rfl) (by decide) ?_
          refine zv_aload_n K 79 dX4_comesTo_78 rfl rfl ?_
          refine zm_get (v := .ref (b 23)) K 23 82 dX4_comesTo_79 rfl (by decide) zw_2_211 rfl ?_
          refine zv_iload_n K 83 dX4_comesTo_82 rfl rfl ?_
          refine zv_aload_n K 84 dX4_comesTo_83 rfl rfl ?_
          refine zm_get (v := .ref (b 12)) K 12 87 dX4_comesTo_84 rfl (by decide) zw_2_200 rfl ?_
          refine zv_iload_n K 88 dX4_comesTo_87 rfl rfl ?_
          refine zv_iald (F := τ.2 12) K 8 f 89 dX4_comesTo_88 rfl (zm_at (p := 8) (j := 12) rfl) hx hf (by decide) ?_
          refine zv_iast K 18 c 90 (zm b ty (zmF τ 23 c (τ.2 12 f))) dX4_comesTo_89 rfl (zm_at (p := 18) (j := 23) rfl) hy hcy (by decide) (zm_F 23 c rfl (by decide) rfl) ?_
          refine zv_aload_n K 91 dX4_comesTo_90 rfl rfl ?_
          refine zm_get (v := .ref (b 24)) K 24 94 dX4_comesTo_91 rfl (by decide) zw_2_212 rfl ?_
          refine zv_iload_n K 95 dX4_comesTo_94 rfl rfl ?_
          refine zv_aload_n K 96 dX4_comesTo_95 rfl rfl ?_
          refine zm_get (v := .ref (b 13)) K 13 99 dX4_comesTo_96 rfl (by decide) zw_2_201 rfl ?_
          refine zv_iload_n K 100 dX4_comesTo_99 rfl rfl ?_
          refine zv_iald (F := τ.2 13) K 9 f 101 dX4_comesTo_100 rfl (zm_at (p := 9) (j := 13) rfl) hx hf (by decide) ?_
          refine zv_iast K 19 c 102 (zm b ty (zmF (zmF τ 23 c (τ.2 12 f)) 24 c (τ.2 13 f))) dX4_comesTo_101 rfl (zm_at (p := 19) (j := 24) rfl) hy hcy (by decide) (zm_F 24 c rfl (by decide) rfl) ?_
          refine zv_goto K 180 dX4_comesTo_102 (by decide) ?_
          exact zv_vret K T dX4_comesTo_180 (⟨rfl, by simp only [fX4_comesTo, if_neg e_1, if_neg e_2, if_neg e_3, if_pos e_4]⟩)
        · skip
          refine zv_tableOut K 105 dX4_comesTo_6 (by have n_1 := lv_neT e_1 (a := 1) rfl; have n_2 := lv_neT e_2 (a := 2) rfl; have n_3 := lv_neT e_3 (a := 3) rfl; have n_4 := lv_neT e_4 (a := 4) rfl; omega) (by decide) ?_
          obtain ⟨⟨h51, h50⟩, ⟨h53, h52⟩⟩ := h5 e_1 e_2 e_3 e_4
          refine zv_aload_n K 106 dX4_comesTo_105 rfl rfl ?_
          refine zm_get (v := .ref (b 21)) K 21 109 dX4_comesTo_106 rfl (by decide) zw_2_209 rfl ?_
          refine zv_bipush K 10 111 dX4_comesTo_109 rfl (by decide) ?_
          refine zv_iload_n K 112 dX4_comesTo_111 rfl rfl ?_
          refine zv_imul K 113 dX4_comesTo_112 rfl ?_
          refine zv_aload_n K 114 dX4_comesTo_113 rfl rfl ?_
          refine zm_get (v := .ref (b 10)) K 10 117 dX4_comesTo_114 rfl (by decide) zw_2_198 rfl ?_
          refine zv_iload_n K 118 dX4_comesTo_117 rfl rfl ?_
          refine zv_iald (F := τ.2 10) K 6 f 119 dX4_comesTo_118 rfl (zm_at (p := 6) (j := 10) rfl) hx hf (by decide) ?_
          refine zv_iadd K 120 dX4_comesTo_119 rfl ?_
          refine zv_iald (F := τ.2 21) K 16 (10 * c + (τ.2 10 f).toNatClampNeg) 121 dX4_comesTo_120 rfl (zm_at (p := 16) (j := 21) rfl) (zi10' _ _ hy h51) (by omega) (by decide) ?_
          refine zv_aload_n K 122 dX4_comesTo_121 rfl rfl ?_
          refine zm_get (v := .ref (b 14)) K 14 125 dX4_comesTo_122 rfl (by decide) zw_2_202 rfl ?_
          refine zv_iload_n K 126 dX4_comesTo_125 rfl rfl ?_
          refine zv_iald (F := τ.2 14) K 10 f 127 dX4_comesTo_126 rfl (zm_at (p := 10) (j := 14) rfl) hx hf (by decide) ?_
          refine zv_icmp_lt K 180 130 dX4_comesTo_127 (by decide) rfl (fun h1 => ?_) (fun h1 => ?_)
          · skip
            exact zv_vret K T dX4_comesTo_180 (⟨rfl, by simp only [fX4_comesTo, if_neg e_1, if_neg e_2, if_neg e_3, if_neg e_4, if_pos h1]⟩)
          · skip
            refine zv_aload_n K 131 dX4_comesTo_130 rfl rfl ?_
            refine zm_get (v := .ref (b 21)) K 21 134 dX4_comesTo_131 rfl (by decide) zw_2_209 rfl ?_
            refine zv_bipush K 10 136 dX4_comesTo_134 rfl (by decide) ?_
            refine zv_iload_n K 137 dX4_comesTo_136 rfl rfl ?_
            refine zv_imul K 138 dX4_comesTo_137 rfl ?_
            refine zv_aload_n K 139 dX4_comesTo_138 rfl rfl ?_
            refine zm_get (v := .ref (b 10)) K 10 142 dX4_comesTo_139 rfl (by decide) zw_2_198 rfl ?_
            refine zv_iload_n K 143 dX4_comesTo_142 rfl rfl ?_
            refine zv_iald (F := τ.2 10) K 6 f 144 dX4_comesTo_143 rfl (zm_at (p := 6) (j := 10) rfl) hx hf (by decide) ?_
            refine zv_iadd K 145 dX4_comesTo_144 rfl ?_
            refine zv_dup2 K 146 dX4_comesTo_145 rfl rfl rfl ?_
            refine zv_iald (F := τ.2 21) K 16 (10 * c + (τ.2 10 f).toNatClampNeg) 147 dX4_comesTo_146 rfl (zm_at (p := 16) (j := 21) rfl) (zi10' _ _ hy h51) (by omega) (by decide) ?_
            refine zv_aload_n K 148 dX4_comesTo_147 rfl rfl ?_
            refine zm_get (v := .ref (b 14)) K 14 151 dX4_comesTo_148 rfl (by decide) zw_2_202 rfl ?_
            refine zv_iload_n K 152 dX4_comesTo_151 rfl rfl ?_
            refine zv_iald (F := τ.2 14) K 10 f 153 dX4_comesTo_152 rfl (zm_at (p := 10) (j := 14) rfl) hx hf (by decide) ?_
            refine zv_isub K 154 dX4_comesTo_153 rfl ?_
            refine zv_iast K 16 (10 * c + (τ.2 10 f).toNatClampNeg) 155 (zm b ty (zmF τ 21 (10 * c + (τ.2 10 f).toNatClampNeg) ((τ.2 21 (10 * c + (τ.2 10 f).toNatClampNeg)) - (τ.2 14 f)))) dX4_comesTo_154 rfl (zm_at (p := 16) (j := 21) rfl) (zi10' _ _ hy h51) (by omega) (by decide) (zm_F 21 (10 * c + (τ.2 10 f).toNatClampNeg) rfl (by decide) rfl) ?_
            refine zv_aload_n K 156 dX4_comesTo_155 rfl rfl ?_
            refine zm_get (v := .ref (b 21)) K 21 159 dX4_comesTo_156 rfl (by decide) zw_2_209 rfl ?_
            refine zv_bipush K 10 161 dX4_comesTo_159 rfl (by decide) ?_
            refine zv_iload_n K 162 dX4_comesTo_161 rfl rfl ?_
            refine zv_imul K 163 dX4_comesTo_162 rfl ?_
            refine zv_aload_n K 164 dX4_comesTo_163 rfl rfl ?_
            refine zm_get (v := .ref (b 11)) K 11 167 dX4_comesTo_164 rfl (by decide) zw_2_199 rfl ?_
            refine zv_iload_n K 168 dX4_comesTo_167 rfl rfl ?_
            refine zv_iald (F := τ.2 11) K 7 f 169 dX4_comesTo_168 rfl (zm_at (p := 7) (j := 11) rfl) hx hf (by decide) ?_
            refine zv_iadd K 170 dX4_comesTo_169 rfl ?_
            refine zv_dup2 K 171 dX4_comesTo_170 rfl rfl rfl ?_
            refine zv_iald (F := (zmF τ 21 (10 * c + (τ.2 10 f).toNatClampNeg) ((τ.2 21 (10 * c + (τ.2 10 f).toNatClampNeg)) - (τ.2 14 f))).2 21) K 16 (10 * c + (τ.2 11 f).toNatClampNeg) 172 dX4_comesTo_171 rfl (zm_at (p := 16) (j := 21) rfl) (zi10' _ _ hy h53) (by omega) (by decide) ?_
            refine zv_aload_n K 173 dX4_comesTo_172 rfl rfl ?_
            refine zm_get (v := .ref (b 14)) K 14 176 dX4_comesTo_173 rfl (by decide) zw_2_202 rfl ?_
            refine zv_iload_n K 177 dX4_comesTo_176 rfl rfl ?_
            refine zv_iald (F := τ.2 14) K 10 f 178 dX4_comesTo_177 rfl (zm_at (p := 10) (j := 14) rfl) hx hf (by decide) ?_
            refine zv_iadd K 179 dX4_comesTo_178 rfl ?_
            refine zv_iast K 16 (10 * c + (τ.2 11 f).toNatClampNeg) 180 (zm b ty (zmF (zmF τ 21 (10 * c + (τ.2 10 f).toNatClampNeg) ((τ.2 21 (10 * c + (τ.2 10 f).toNatClampNeg)) - (τ.2 14 f))) 21 (10 * c + (τ.2 11 f).toNatClampNeg) (((zmF τ 21 (10 * c + (τ.2 10 f).toNatClampNeg) ((τ.2 21 (10 * c + (τ.2 10 f).toNatClampNeg)) - (τ.2 14 f))).2 21 (10 * c + (τ.2 11 f).toNatClampNeg)) + (τ.2 14 f)))) dX4_comesTo_179 rfl (zm_at (p := 16) (j := 21) rfl) (zi10' _ _ hy h53) (by omega) (by decide) (zm_F 21 (10 * c + (τ.2 11 f).toNatClampNeg) rfl (by decide) rfl) ?_
            exact zv_vret K T dX4_comesTo_180 (⟨rfl, by simp only [fX4_comesTo, if_neg e_1, if_neg e_2, if_neg e_3, if_neg e_4, if_neg h1]⟩)

/-- a fact that may come: its claim and its miners are numbers -/
def mok (τ : zM) (f : Nat) : Prop := (¬ τ.2 5 f = 6 → τ.2 15 f = nI (τ.2 15 f).toNatClampNeg ∧ (τ.2 15 f).toNatClampNeg < 90) ∧ (¬ τ.2 5 f = 0 → ¬ τ.2 5 f = 6 → ¬ τ.2 5 f = 1 → ¬ τ.2 5 f = 2 → ¬ τ.2 5 f = 3 → ¬ τ.2 5 f = 4 → (τ.2 10 f = nI (τ.2 10 f).toNatClampNeg ∧ (τ.2 10 f).toNatClampNeg < 10) ∧ (τ.2 11 f = nI (τ.2 11 f).toNatClampNeg ∧ (τ.2 11 f).toNatClampNeg < 10))
def fX4_comes (τ : zM) (n : Nat) (f : Nat) : zM :=
  if (τ.2 5 f) = 0 then
    (mhold (zmF (zmF (zmF τ 19 ((τ.2 15 f).toNatClampNeg) 1) 23 ((τ.2 15 f).toNatClampNeg) (τ.2 12 f)) 24 ((τ.2 15 f).toNatClampNeg) (τ.2 13 f)) ((τ.2 15 f).toNatClampNeg) (τ.2 10 f) (τ.2 6 f))
  else
    if (τ.2 5 f) = 6 then
      (mdig τ n f)
    else
      if (τ.2 19 ((τ.2 15 f).toNatClampNeg)) = 0 then
        τ
      else
        (fX4_comesTo τ f ((τ.2 15 f).toNatClampNeg) (τ.2 6 f))
set_option maxHeartbeats 4000000 in
set_option maxRecDepth 100000 in
theorem kX4_comes (l : Launch) (D : va_G) (ty : zTy) (b : Nat → Nat) (τ : zM) (n : Nat) (hn : n ≤ 90) (hc : τ.1 3 = nI n) (x : Int32) (f : Nat) (hx : x = nI f) (hf : f < 90) (hok : mok τ f) : zv_ct l D ty yX4_comes cX4_comes 4 none (zR 3 70) [.ref (b 0), .int x] (zm b ty τ) (fun v_ w_ => v_ = none ∧ w_ = zm b ty (fX4_comes τ n f)) := by
  refine zv_open (by decide) rfl rfl [some (.ref (b 0)), some (.int x), none, none] (by simp [zv_one, Value.category]) (zle rfl) rfl ?_
  intro k K T
  refine zv_aload_n K 1 dX4_comes_0 rfl rfl ?_
  refine zm_get (v := .ref (b 15)) K 15 4 dX4_comes_1 rfl (by decide) zw_2_203 rfl ?_
  refine zv_iload_n K 5 dX4_comes_4 rfl rfl ?_
  refine zv_iald (F := τ.2 15) K 11 f 6 dX4_comes_5 rfl (zm_at (p := 11) (j := 15) rfl) hx hf (by decide) ?_
  refine zv_istore_n K [some (.ref (b 0)), some (.int x), some (.int (τ.2 15 f)), none] 7 dX4_comes_6 rfl rfl (zlt rfl) ?_
  refine zv_aload_n K 8 dX4_comes_7 rfl rfl ?_
  refine zm_get (v := .ref (b 6)) K 6 11 dX4_comes_8 rfl (by decide) zw_2_194 rfl ?_
  refine zv_iload_n K 12 dX4_comes_11 rfl rfl ?_
  refine zv_iald (F := τ.2 6) K 2 f 13 dX4_comes_12 rfl (zm_at (p := 2) (j := 6) rfl) hx hf (by decide) ?_
  refine zv_istore_n K [some (.ref (b 0)), some (.int x), some (.int (τ.2 15 f)), some (.int (τ.2 6 f))] 14 dX4_comes_13 rfl rfl (zlt rfl) ?_
  refine zv_aload_n K 15 dX4_comes_14 rfl rfl ?_
  refine zm_get (v := .ref (b 5)) K 5 18 dX4_comes_15 rfl (by decide) zw_2_193 rfl ?_
  refine zv_iload_n K 19 dX4_comes_18 rfl rfl ?_
  refine zv_iald (F := τ.2 5) K 1 f 20 dX4_comes_19 rfl (zm_at (p := 1) (j := 5) rfl) hx hf (by decide) ?_
  by_cases e_0 : τ.2 5 f = 0
  · refine zv_lookup (off := 28) K 48 dX4_comes_20 (by decide) (by rw [e_0]; decide) (by decide) ?_
    obtain ⟨hc1, hc2⟩ := hok.1 (by rw [e_0]; decide)
    refine zv_aload_n K 49 dX4_comes_48 rfl rfl ?_
    refine zm_get (v := .ref (b 19)) K 19 52 dX4_comes_49 rfl (by decide) zw_2_207 rfl ?_
    refine zv_iload_n K 53 dX4_comes_52 rfl rfl ?_
    refine zv_iconst K 1 54 dX4_comes_53 rfl (by decide) ?_
    refine zv_zast K 14 ((τ.2 15 f).toNatClampNeg) 55 (zm b ty (zmF τ 19 ((τ.2 15 f).toNatClampNeg) 1)) dX4_comes_54 rfl (zm_at (p := 14) (j := 19) rfl) hc1 hc2 (by decide) rfl (zm_F 19 ((τ.2 15 f).toNatClampNeg) rfl (by decide) rfl) ?_
    refine zv_aload_n K 56 dX4_comes_55 rfl rfl ?_
    refine zm_get (v := .ref (b 23)) K 23 59 dX4_comes_56 rfl (by decide) zw_2_211 rfl ?_
    refine zv_iload_n K 60 dX4_comes_59 rfl rfl ?_
    refine zv_aload_n K 61 dX4_comes_60 rfl rfl ?_
    refine zm_get (v := .ref (b 12)) K 12 64 dX4_comes_61 rfl (by decide) zw_2_200 rfl ?_
    refine zv_iload_n K 65 dX4_comes_64 rfl rfl ?_
    refine zv_iald (F := τ.2 12) K 8 f 66 dX4_comes_65 rfl (zm_at (p := 8) (j := 12) rfl) hx hf (by decide) ?_
    refine zv_iast K 18 ((τ.2 15 f).toNatClampNeg) 67 (zm b ty (zmF (zmF τ 19 ((τ.2 15 f).toNatClampNeg) 1) 23 ((τ.2 15 f).toNatClampNeg) (τ.2 12 f))) dX4_comes_66 rfl (zm_at (p := 18) (j := 23) rfl) hc1 hc2 (by decide) (zm_F 23 ((τ.2 15 f).toNatClampNeg) rfl (by decide) rfl) ?_
    refine zv_aload_n K 68 dX4_comes_67 rfl rfl ?_
    refine zm_get (v := .ref (b 24)) K 24 71 dX4_comes_68 rfl (by decide) zw_2_212 rfl ?_
    refine zv_iload_n K 72 dX4_comes_71 rfl rfl ?_
    refine zv_aload_n K 73 dX4_comes_72 rfl rfl ?_
    refine zm_get (v := .ref (b 13)) K 13 76 dX4_comes_73 rfl (by decide) zw_2_201 rfl ?_
    refine zv_iload_n K 77 dX4_comes_76 rfl rfl ?_
    refine zv_iald (F := τ.2 13) K 9 f 78 dX4_comes_77 rfl (zm_at (p := 9) (j := 13) rfl) hx hf (by decide) ?_
    refine zv_iast K 19 ((τ.2 15 f).toNatClampNeg) 79 (zm b ty (zmF (zmF (zmF τ 19 ((τ.2 15 f).toNatClampNeg) 1) 23 ((τ.2 15 f).toNatClampNeg) (τ.2 12 f)) 24 ((τ.2 15 f).toNatClampNeg) (τ.2 13 f))) dX4_comes_78 rfl (zm_at (p := 19) (j := 24) rfl) hc1 hc2 (by decide) (zm_F 24 ((τ.2 15 f).toNatClampNeg) rfl (by decide) rfl) ?_
    refine zv_aload_n K 80 dX4_comes_79 rfl rfl ?_
    refine zv_iload_n K 81 dX4_comes_80 rfl rfl ?_
    refine zv_aload_n K 82 dX4_comes_81 rfl rfl ?_
    refine zm_get (v := .ref (b 10)) K 10 85 dX4_comes_82 rfl (by decide) zw_2_198 rfl ?_
    refine zv_iload_n K 86 dX4_comes_85 rfl rfl ?_
    refine zv_iald (F := τ.2 10) K 6 f 87 dX4_comes_86 rfl (zm_at (p := 6) (j := 10) rfl) hx hf (by decide) ?_
    refine zv_iload_n K 88 dX4_comes_87 rfl rfl ?_
    refine zv_cV0 K (q0 := 0) (As := [.int (τ.2 15 f), .int (τ.2 10 f), .int (τ.2 6 f)]) (rest := []) 3 91 (kX4_holds l D ty b (zmF (zmF (zmF τ 19 ((τ.2 15 f).toNatClampNeg) 1) 23 ((τ.2 15 f).toNatClampNeg) (τ.2 12 f)) 24 ((τ.2 15 f).toNatClampNeg) (τ.2 13 f)) (τ.2 15 f) ((τ.2 15 f).toNatClampNeg) hc1 hc2 (τ.2 10 f) (τ.2 6 f)) dX4_comes_88 rfl zw_3_134 zw_3_136 zw_p2_6 zw_1_5 zw_3_137 ⟨rfl, rfl⟩ zh_yX4_holds ⟨by decide, by decide⟩ (zm_at (p := 0) (j := 0) rfl) rfl rfl rfl (zle rfl) rfl ?_
    refine zv_goto K 118 dX4_comes_91 (by decide) ?_
    exact zv_vret K T dX4_comes_118 (⟨rfl, by simp only [fX4_comes, if_pos e_0]⟩)
  · skip
    by_cases e_6 : τ.2 5 f = 6
    · refine zv_lookup (off := 74) K 94 dX4_comes_20 (by decide) (by rw [e_6]; decide) (by decide) ?_
      refine zv_aload_n K 95 dX4_comes_94 rfl rfl ?_
      refine zv_iload_n K 96 dX4_comes_95 rfl rfl ?_
      refine zv_cV0 K (q0 := 0) (As := [.int x]) (rest := []) 1 99 (kX4_digs l D ty b τ n hn hc x f hx hf) dX4_comes_96 rfl zw_3_138 zw_3_140 zw_p2_7 zw_1_5 zw_3_141 ⟨rfl, rfl⟩ zh_yX4_digs ⟨by decide, by decide⟩ (zm_at (p := 0) (j := 0) rfl) rfl rfl rfl (zle rfl) rfl ?_
      refine zv_goto K 118 dX4_comes_99 (by decide) ?_
      exact zv_vret K T dX4_comes_118 (⟨rfl, by simp only [fX4_comes, if_neg e_0, if_pos e_6]⟩)
    · skip
      refine zv_lookup (off := 82) K 102 dX4_comes_20 (by decide) (by show Op.lookupswitch.offset [(0, 28), (6, 74)] 82 _ = _; rw [lv_osw (a := 0) e_0 rfl]; rw [lv_osw (a := 6) e_6 rfl]; rfl) (by decide) ?_
      obtain ⟨hc1, hc2⟩ := hok.1 e_6
      have h5m := hok.2 e_0 e_6
      refine zv_aload_n K 103 dX4_comes_102 rfl rfl ?_
      refine zm_get (v := .ref (b 19)) K 19 106 dX4_comes_103 rfl (by decide) zw_2_207 rfl ?_
      refine zv_iload_n K 107 dX4_comes_106 rfl rfl ?_
      refine zv_zald (F := τ.2 19) K 14 ((τ.2 15 f).toNatClampNeg) 108 dX4_comes_107 rfl (zm_at (p := 14) (j := 19) rfl) hc1 hc2 (by decide) ?_
      refine zv_if_eq K 118 111 dX4_comes_108 (by decide) rfl (fun h1 => ?_) (fun h1 => ?_)
      · skip
        exact zv_vret K T dX4_comes_118 (⟨rfl, by simp only [fX4_comes, if_neg e_0, if_neg e_6, if_pos h1]⟩)
      · skip
        refine zv_aload_n K 112 dX4_comes_111 rfl rfl ?_
        refine zv_iload_n K 113 dX4_comes_112 rfl rfl ?_
        refine zv_iload_n K 114 dX4_comes_113 rfl rfl ?_
        refine zv_iload_n K 115 dX4_comes_114 rfl rfl ?_
        refine zv_cV0 K (q0 := 0) (As := [.int x, .int (τ.2 15 f), .int (τ.2 6 f)]) (rest := []) 3 118 (kX4_comesTo l D ty b τ x f hx hf (τ.2 15 f) ((τ.2 15 f).toNatClampNeg) hc1 hc2 (τ.2 6 f) h5m) dX4_comes_115 rfl zw_3_146 zw_3_148 zw_p2_9 zw_1_5 zw_3_149 ⟨rfl, rfl⟩ zh_yX4_comesTo ⟨by decide, by decide⟩ (zm_at (p := 0) (j := 0) rfl) rfl rfl rfl (zle rfl) rfl ?_
        exact zv_vret K T dX4_comes_118 (⟨rfl, by simp only [fX4_comes, if_neg e_0, if_neg e_6, if_neg h1]⟩)

