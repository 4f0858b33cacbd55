set_option maxHeartbeats 4000000 in
set_option maxRecDepth 100000 in
theorem kX4_owned_l (l : Launch) (D : va_G) (ty : zTy) (b : Nat → Nat) (τ : zM) (n : Nat) (hn : n ≤ 90) (hc : τ.1 3 = nI n) (x : Int32) (c : Nat) (hx : x = nI c) (hcx : c < 90) {k : zKx} (K : zv_ok k l D (zR 1 25) cX4_owned 4 yX4_owned.cls ty) (T : zv_rt k (some .int) (fun v_ w_ => v_ = some (.int (nI (zct (mownb τ n c) 60))) ∧ w_ = zm b ty τ)) : ∀ f : Nat, f ≤ 60 → zv k 4 [some (.ref (b 0)), some (.int x), some (.int (nI (zct (mownb τ n c) f))), some (.int (nI f))] [] (zm b ty τ) := by
  refine z_wf (fun f : Nat => 60 - f) ?_
  intro f ih hf
  refine zv_iload_n K 5 dX4_owned_4 rfl rfl ?_
  refine zv_bipush K 60 7 dX4_owned_5 rfl (by decide) ?_
  refine zv_icmp_ge K 39 10 dX4_owned_7 (by decide) rfl (fun hb => ?_) (fun hb => ?_)
  · skip
    have e : f = 60 := by have := z_ge (c := 60) hb (by decide) (by omega); omega
    refine zv_iload_n K 40 dX4_owned_39 rfl rfl ?_
    exact zv_iret K T dX4_owned_40 (⟨by rw [e], rfl⟩)
  · skip
    have hlt : f < 60 := z_lt (c := 60) hb (by omega)
    refine zv_iload_n K 11 dX4_owned_10 rfl rfl ?_
    refine zv_aload_n K 12 dX4_owned_11 rfl rfl ?_
    refine zv_aload_n K 13 dX4_owned_12 rfl rfl ?_
    refine zm_get (v := .ref (b 9)) K 9 16 dX4_owned_13 rfl (by decide) zw_2_197 rfl ?_
    refine zv_iload_n K 17 dX4_owned_16 rfl rfl ?_
    refine zv_iald (F := τ.2 9) K 5 c 18 dX4_owned_17 rfl (zm_at (p := 5) (j := 9) rfl) hx hcx (by decide) ?_
    refine zv_iload_n K 19 dX4_owned_18 rfl rfl ?_
    refine zv_cV1 K (q0 := 0) (As := [.int (τ.2 9 c), .int (nI f)]) (rest := [.int (nI (zct (mownb τ n c) f))]) 2 22 (kX4_ownerOf l D ty b τ n hn hc (τ.2 9 c) (nI f)) dX4_owned_19 rfl zw_3_142 zw_3_144 zw_p2_8 zw_1_5 zw_3_145 ⟨rfl, rfl⟩ zh_yX4_ownerOf ⟨by decide, by decide⟩ (zm_at (p := 0) (j := 0) rfl) rfl rfl rfl (zle rfl) rfl ?_
    refine zv_iload_n K 23 dX4_owned_22 rfl rfl ?_
    refine zv_icmp_ne K 30 26 dX4_owned_23 (by decide) rfl (fun he => ?_) (fun he => ?_)
    · skip
      refine zv_iconst K 0 31 dX4_owned_30 rfl (by decide) ?_
      refine zv_iadd K 32 dX4_owned_31 rfl ?_
      refine zv_topi (nI (zct (mownb τ n c) (f + 1))) (by rw [zct_f (decide_eq_false (fun z => he (z.trans hx.symm)))]; exact Int32.add_zero _) ?_
      refine zv_istore_n K [some (.ref (b 0)), some (.int x), some (.int (nI (zct (mownb τ n c) (f + 1)))), some (.int (nI f))] 33 dX4_owned_32 rfl rfl (zlt rfl) ?_
      refine zv_iinc K (nI (f + 1)) [some (.ref (b 0)), some (.int x), some (.int (nI (zct (mownb τ n c) (f + 1)))), some (.int (nI (f + 1)))] 36 dX4_owned_33 rfl rfl (z_inc f) rfl ?_
      refine zv_goto K 4 dX4_owned_36 (by decide) ?_
      exact ih (f + 1) (by omega) (by omega)
    · skip
      refine zv_iconst K 1 27 dX4_owned_26 rfl (by decide) ?_
      refine zv_goto K 31 dX4_owned_27 (by decide) ?_
      refine zv_iadd K 32 dX4_owned_31 rfl ?_
      refine zv_topi (nI (zct (mownb τ n c) (f + 1))) (by rw [zct_t (decide_eq_true (he.trans hx))]; exact nI_1 _) ?_
      refine zv_istore_n K [some (.ref (b 0)), some (.int x), some (.int (nI (zct (mownb τ n c) (f + 1)))), some (.int (nI f))] 33 dX4_owned_32 rfl rfl (zlt rfl) ?_
      refine zv_iinc K (nI (f + 1)) [some (.ref (b 0)), some (.int x), some (.int (nI (zct (mownb τ n c) (f + 1)))), some (.int (nI (f + 1)))] 36 dX4_owned_33 rfl rfl (z_inc f) rfl ?_
      refine zv_goto K 4 dX4_owned_36 (by decide) ?_
      exact ih (f + 1) (by omega) (by omega)

set_option maxHeartbeats 4000000 in
set_option maxRecDepth 100000 in
theorem kX4_owned (l : Launch) (D : va_G) (ty : zTy) (b : Nat → Nat) (τ : zM) (n : Nat) (hn : n ≤ 90) (hc : τ.1 3 = nI n) (x : Int32) (c : Nat) (hx : x = nI c) (hcx : c < 90) : zv_ct l D ty yX4_owned cX4_owned 4 (some .int) (zR 1 25) [.ref (b 0), .int x] (zm b ty τ) (fun v_ w_ => v_ = some (.int (nI (zct (mownb τ n c) 60))) ∧ w_ = zm b ty τ) := by
  refine zv_open (by decide) rfl rfl [some (.ref (b 0)), some (.int x), none, none] (by simp [zv_one, Value.category]) (zle rfl) rfl ?_
  intro k K T
  refine zv_iconst K 0 1 dX4_owned_0 rfl (by decide) ?_
  refine zv_istore_n K [some (.ref (b 0)), some (.int x), some (.int 0), none] 2 dX4_owned_1 rfl rfl (zlt rfl) ?_
  refine zv_iconst K 0 3 dX4_owned_2 rfl (by decide) ?_
  refine zv_istore_n K [some (.ref (b 0)), some (.int x), some (.int 0), some (.int 0)] 4 dX4_owned_3 rfl rfl (zlt rfl) ?_
  exact kX4_owned_l l D ty b τ n hn hc x c hx hcx K T 0 (by decide)

def fX4_claim (τ : zM) (n : Nat) (vn : Int32) (ft : Int32) (d : Int32) (k_ : Int32) : Int32 × zM :=
  if (0 ≤ vn ∧ vn ≤ 3) then
    if (0 ≤ ft ∧ ft ≤ 59) then
      if (0 ≤ d ∧ d ≤ 999) then
        if (0 ≤ k_ ∧ k_ ≤ 999) then
          if 0 ≤ (mI (mow (mgo τ n d k_) vn ft n)) then
            (mI (mow (mgo τ n d k_) vn ft n), (mgo τ n d k_))
          else
            ((-4), (mgo τ n d k_))
        else
          ((-1), τ)
      else
        ((-1), τ)
    else
      ((-1), τ)
  else
    ((-1), τ)
set_option maxHeartbeats 4000000 in
set_option maxRecDepth 100000 in
theorem kX4_claim (l : Launch) (D : va_G) (ty : zTy) (b : Nat → Nat) (τ : zM) (n : Nat) (hn : n ≤ 90) (hc : τ.1 3 = nI n) (hok : ∀ f, f < n → mok τ f) (vn ft d k_ : Int32) : zv_ct l D ty yX4_claim cX4_claim 6 (some .int) (zR 5 121) [.ref (b 0), .int vn, .int ft, .int d, .int k_] (zm b ty τ) (fun v_ w_ => v_ = some (.int (fX4_claim τ n vn ft d k_).1) ∧ w_ = zm b ty (fX4_claim τ n vn ft d k_).2) := by
  refine zv_open (by decide) rfl rfl [some (.ref (b 0)), some (.int vn), some (.int ft), some (.int d), some (.int k_), none] (by simp [zv_one, Value.category]) (zle rfl) rfl ?_
  intro k K T
  refine zv_iload_n K 1 dX4_claim_0 rfl rfl ?_
  refine zv_cS1 K (As := [.int vn]) (rest := []) 1 4 (kX4_isVein l D ty (zm b ty τ) vn) dX4_claim_1 rfl zw_3_58 zw_3_59 zw_1_5 zw_3_60 ⟨rfl, rfl⟩ zh_yX4_isVein ⟨by decide, by decide⟩ rfl rfl (zle rfl) rfl ?_
  refine zv_ifB_eq K 29 7 dX4_claim_4 (by decide) rfl (fun h1 => ?_) (fun h1 => ?_)
  · skip
    refine zv_iconst K (-1) 30 dX4_claim_29 rfl (by decide) ?_
    exact zv_iret K T dX4_claim_30 (⟨by simp only [fX4_claim, if_neg h1], by simp only [fX4_claim, if_neg h1]⟩)
  · skip
    refine zv_iload_n K 8 dX4_claim_7 rfl rfl ?_
    refine zv_cS1 K (As := [.int ft]) (rest := []) 1 11 (kX4_isFoot l D ty (zm b ty τ) ft) dX4_claim_8 rfl zw_3_61 zw_3_62 zw_1_5 zw_3_63 ⟨rfl, rfl⟩ zh_yX4_isFoot ⟨by decide, by decide⟩ rfl rfl (zle rfl) rfl ?_
    refine zv_ifB_eq K 29 14 dX4_claim_11 (by decide) rfl (fun h2 => ?_) (fun h2 => ?_)
    · skip
      refine zv_iconst K (-1) 30 dX4_claim_29 rfl (by decide) ?_
      exact zv_iret K T dX4_claim_30 (⟨by simp only [fX4_claim, if_pos h1, if_neg h2], by simp only [fX4_claim, if_pos h1, if_neg h2]⟩)
    · skip
      refine zv_iload_n K 15 dX4_claim_14 rfl rfl ?_
      refine zv_cS1 K (As := [.int d]) (rest := []) 1 18 (kX4_isDay l D ty (zm b ty τ) d) dX4_claim_15 rfl zw_3_119 zw_3_120 zw_1_5 zw_3_121 ⟨rfl, rfl⟩ zh_yX4_isDay ⟨by decide, by decide⟩ rfl rfl (zle rfl) rfl ?_
      refine zv_ifB_eq K 29 21 dX4_claim_18 (by decide) rfl (fun h3 => ?_) (fun h3 => ?_)
      · skip
        refine zv_iconst K (-1) 30 dX4_claim_29 rfl (by decide) ?_
        exact zv_iret K T dX4_claim_30 (⟨by simp only [fX4_claim, if_pos h1, if_pos h2, if_neg h3], by simp only [fX4_claim, if_pos h1, if_pos h2, if_neg h3]⟩)
      · skip
        refine zv_iload K 23 dX4_claim_21 rfl rfl ?_
        refine zv_cS1 K (As := [.int k_]) (rest := []) 1 26 (kX4_isDay l D ty (zm b ty τ) k_) dX4_claim_23 rfl zw_3_119 zw_3_120 zw_1_5 zw_3_121 ⟨rfl, rfl⟩ zh_yX4_isDay ⟨by decide, by decide⟩ rfl rfl (zle rfl) rfl ?_
        refine zv_ifB_ne K 31 29 dX4_claim_26 (by decide) rfl (fun h4 => ?_) (fun h4 => ?_)
        · skip
          refine zv_aload_n K 32 dX4_claim_31 rfl rfl ?_
          refine zv_iload_n K 33 dX4_claim_32 rfl rfl ?_
          refine zv_iload K 35 dX4_claim_33 rfl rfl ?_
          refine zv_cV0 K (q0 := 0) (As := [.int d, .int k_]) (rest := []) 2 38 (kX4_go l D ty b τ n hn hc hok d k_) dX4_claim_35 rfl zw_3_122 zw_3_124 zw_p2_3 zw_1_5 zw_3_125 ⟨rfl, rfl⟩ zh_yX4_go ⟨by decide, by decide⟩ (zm_at (p := 0) (j := 0) rfl) rfl rfl rfl (zle rfl) rfl ?_
          refine zv_aload_n K 39 dX4_claim_38 rfl rfl ?_
          refine zv_iload_n K 40 dX4_claim_39 rfl rfl ?_
          refine zv_iload_n K 41 dX4_claim_40 rfl rfl ?_
          refine zv_cV1 K (q0 := 0) (As := [.int vn, .int ft]) (rest := []) 2 44 (kX4_ownerOf l D ty b (mgo τ n d k_) n hn (((mgo_fr τ n d k_).1 3).trans hc) vn ft) dX4_claim_41 rfl zw_3_142 zw_3_144 zw_p2_8 zw_1_5 zw_3_145 ⟨rfl, rfl⟩ zh_yX4_ownerOf ⟨by decide, by decide⟩ (zm_at (p := 0) (j := 0) rfl) rfl rfl rfl (zle rfl) rfl ?_
          refine zv_istore K [some (.ref (b 0)), some (.int vn), some (.int ft), some (.int d), some (.int k_), some (.int (mI (mow (mgo τ n d k_) vn ft n)))] 46 dX4_claim_44 rfl rfl (zlt rfl) ?_
          refine zv_iload K 48 dX4_claim_46 rfl rfl ?_
          refine zv_if_ge K 56 51 dX4_claim_48 (by decide) rfl (fun h5 => ?_) (fun h5 => ?_)
          · skip
            refine zv_iload K 58 dX4_claim_56 rfl rfl ?_
            exact zv_iret K T dX4_claim_58 (⟨by simp only [fX4_claim, if_pos h1, if_pos h2, if_pos h3, if_pos h4, if_pos h5], by simp only [fX4_claim, if_pos h1, if_pos h2, if_pos h3, if_pos h4, if_pos h5]⟩)
          · skip
            refine zv_bipush K (-4) 53 dX4_claim_51 rfl (by decide) ?_
            refine zv_goto K 58 dX4_claim_53 (by decide) ?_
            exact zv_iret K T dX4_claim_58 (⟨by simp only [fX4_claim, if_pos h1, if_pos h2, if_pos h3, if_pos h4, if_neg h5], by simp only [fX4_claim, if_pos h1, if_pos h2, if_pos h3, if_pos h4, if_neg h5]⟩)
        · skip
          refine zv_iconst K (-1) 30 dX4_claim_29 rfl (by decide) ?_
          exact zv_iret K T dX4_claim_30 (⟨by simp only [fX4_claim, if_pos h1, if_pos h2, if_pos h3, if_neg h4], by simp only [fX4_claim, if_pos h1, if_pos h2, if_pos h3, if_neg h4]⟩)

theorem fX4_claim_ok {τ : zM} {n : Nat} (hn : n ≤ 90) {vn ft d k_ : Int32} (h : ¬ (fX4_claim τ n vn ft d k_).1 < 0) : (fX4_claim τ n vn ft d k_).1 = nI (fX4_claim τ n vn ft d k_).1.toNatClampNeg ∧ (fX4_claim τ n vn ft d k_).1.toNatClampNeg < 90 := by
  have key : ∀ r : Int32, (r = -1 ∨ r = -4 ∨ r = mI (mow (mgo τ n d k_) vn ft n)) → ¬ r < 0 → r = nI r.toNatClampNeg ∧ r.toNatClampNeg < 90 := by
    intro r hr h
    rcases hr with rfl | rfl | rfl
    · exact absurd (by decide) h
    · exact absurd (by decide) h
    · have e := mI_get h
      have := mow_lt (mI_pos h)
      rw [e, nI_clamp (by omega)]
      exact ⟨rfl, by omega⟩
  refine key _ ?_ h
  unfold fX4_claim
  repeat' (first | exact Or.inl rfl | exact Or.inr (Or.inl rfl) | exact Or.inr (Or.inr rfl) | split)
def fX4_owner (τ : zM) (n : Nat) (vn : Int32) (ft : Int32) (d : Int32) (k_ : Int32) : Int32 × zM :=
  if 0 ≤ ((fX4_claim τ n vn ft d k_).1) then
    ((fX4_claim τ n vn ft d k_).2.2 20 ((fX4_claim τ n vn ft d k_).1.toNatClampNeg), (fX4_claim τ n vn ft d k_).2)
  else
    ((fX4_claim τ n vn ft d k_).1, (fX4_claim τ n vn ft d k_).2)
set_option maxHeartbeats 4000000 in
set_option maxRecDepth 100000 in
theorem kX4_owner (l : Launch) (D : va_G) (ty : zTy) (b : Nat → Nat) (τ : zM) (n : Nat) (hn : n ≤ 90) (hc : τ.1 3 = nI n) (hok : ∀ f, f < n → mok τ f) (vn ft d k_ : Int32) : zv_ct l D ty yX4_owner cX4_owner 6 (some .int) (zR 6 146) [.ref (b 0), .int vn, .int ft, .int d, .int k_] (zm b ty τ) (fun v_ w_ => v_ = some (.int (fX4_owner τ n vn ft d k_).1) ∧ w_ = zm b ty (fX4_owner τ n vn ft d k_).2) := by
  refine zv_open (by decide) rfl rfl [some (.ref (b 0)), some (.int vn), some (.int ft), some (.int d), some (.int k_), none] (by simp [zv_one, Value.category]) (zle rfl) rfl ?_
  intro k K T
  refine zv_aload_n K 1 dX4_owner_0 rfl rfl ?_
  refine zv_iload_n K 2 dX4_owner_1 rfl rfl ?_
  refine zv_iload_n K 3 dX4_owner_2 rfl rfl ?_
  refine zv_iload_n K 4 dX4_owner_3 rfl rfl ?_
  refine zv_iload K 6 dX4_owner_4 rfl rfl ?_
  refine zv_cV1 K (q0 := 0) (As := [.int vn, .int ft, .int d, .int k_]) (rest := []) 4 9 (kX4_claim l D ty b τ n hn hc hok vn ft d k_) dX4_owner_6 rfl zw_3_115 zw_3_116 zw_3_117 zw_1_5 zw_3_118 ⟨rfl, rfl⟩ zh_yX4_claim ⟨by decide, by decide⟩ (zm_at (p := 0) (j := 0) rfl) rfl rfl rfl (zle rfl) rfl ?_
  refine zv_istore K [some (.ref (b 0)), some (.int vn), some (.int ft), some (.int d), some (.int k_), some (.int ((fX4_claim τ n vn ft d k_).1))] 11 dX4_owner_9 rfl rfl (zlt rfl) ?_
  refine zv_iload K 13 dX4_owner_11 rfl rfl ?_
  refine zv_if_ge K 21 16 dX4_owner_13 (by decide) rfl (fun hs => ?_) (fun hs => ?_)
  · skip
    refine zv_aload_n K 22 dX4_owner_21 rfl rfl ?_
    refine zm_get (v := .ref (b 20)) K 20 25 dX4_owner_22 rfl (by decide) zw_2_208 rfl ?_
    refine zv_iload K 27 dX4_owner_25 rfl rfl ?_
    refine zv_iald (F := (fX4_claim τ n vn ft d k_).2.2 20) K 15 ((fX4_claim τ n vn ft d k_).1.toNatClampNeg) 28 dX4_owner_27 rfl (zm_at (p := 15) (j := 20) rfl) ((fX4_claim_ok hn (z_len hs)).1) ((fX4_claim_ok hn (z_len hs)).2) (by decide) ?_
    exact zv_iret K T dX4_owner_28 (⟨by simp only [fX4_owner, if_pos hs], by simp only [fX4_owner, if_pos hs]⟩)
  · skip
    refine zv_iload K 18 dX4_owner_16 rfl rfl ?_
    refine zv_goto K 28 dX4_owner_18 (by decide) ?_
    exact zv_iret K T dX4_owner_28 (⟨by simp only [fX4_owner, if_neg hs], by simp only [fX4_owner, if_neg hs]⟩)

def fX4_of (τ : zM) (n : Nat) (x : Int32) (y : Int32) (d : Int32) (k_ : Int32) : Int32 × zM :=
  if (0 ≤ x ∧ x < τ.1 3) then
    if (0 ≤ d ∧ d ≤ 999) then
      if (0 ≤ k_ ∧ k_ ≤ 999) then
        if (0 ≤ y ∧ y ≤ 6) then
          if (τ.2 5 x.toNatClampNeg) = 0 then
            if ((mgo τ n d k_).2 19 x.toNatClampNeg) = 0 then
              ((-4), (mgo τ n d k_))
            else
              if y = 0 then
                ((mgo τ n d k_).2 20 x.toNatClampNeg, (mgo τ n d k_))
              else
                if y = 1 then
                  ((mgo τ n d k_).2 23 x.toNatClampNeg, (mgo τ n d k_))
                else
                  if y = 2 then
                    ((mgo τ n d k_).2 24 x.toNatClampNeg, (mgo τ n d k_))
                  else
                    if y = 3 then
                      ((mgo τ n d k_).2 22 x.toNatClampNeg, (mgo τ n d k_))
                    else
                      if y = 4 then
                        if (d - ((mgo τ n d k_).2 22 x.toNatClampNeg)) ≤ ((mgo τ n d k_).1 2) then
                          (0, (mgo τ n d k_))
                        else
                          (1, (mgo τ n d k_))
                      else
                        if y = 5 then
                          ((mgo τ n d k_).2 26 x.toNatClampNeg, (mgo τ n d k_))
                        else
                          (nI (zct (mownb (mgo τ n d k_) n x.toNatClampNeg) 60), (mgo τ n d k_))
          else
            ((-3), τ)
        else
          ((-1), τ)
      else
        ((-1), τ)
    else
      ((-1), τ)
  else
    ((-1), τ)
set_option maxHeartbeats 4000000 in
set_option maxRecDepth 100000 in
theorem kX4_of (l : Launch) (D : va_G) (ty : zTy) (b : Nat → Nat) (τ : zM) (n : Nat) (hn : n ≤ 90) (hc : τ.1 3 = nI n) (hok : ∀ f, f < n → mok τ f) (x y d k_ : Int32) : zv_ct l D ty yX4_of cX4_of 5 (some .int) (zR 5 121) [.ref (b 0), .int x, .int y, .int d, .int k_] (zm b ty τ) (fun v_ w_ => v_ = some (.int (fX4_of τ n x y d k_).1) ∧ w_ = zm b ty (fX4_of τ n x y d k_).2) := by
  refine zv_open (by decide) rfl rfl [some (.ref (b 0)), some (.int x), some (.int y), some (.int d), some (.int k_)] (by simp [zv_one, Value.category]) (zle rfl) rfl ?_
  intro k K T
  refine zv_aload_n K 1 dX4_of_0 rfl rfl ?_
  refine zv_iload_n K 2 dX4_of_1 rfl rfl ?_
  refine zv_cV1 K (q0 := 0) (As := [.int x]) (rest := []) 1 5 (kX4_isFact l D ty b τ n hn hc x) dX4_of_2 rfl zw_3_79 zw_3_81 zw_p2_2 zw_1_5 zw_3_82 ⟨rfl, rfl⟩ zh_yX4_isFact ⟨by decide, by decide⟩ (zm_at (p := 0) (j := 0) rfl) rfl rfl rfl (zle rfl) rfl ?_
  refine zv_ifB_eq K 33 8 dX4_of_5 (by decide) rfl (fun hh => ?_) (fun hh => ?_)
  · skip
    refine zv_iconst K (-1) 34 dX4_of_33 rfl (by decide) ?_
    exact zv_iret K T dX4_of_34 (⟨by simp only [fX4_of, if_neg hh], by simp only [fX4_of, if_neg hh]⟩)
  · skip
    refine zv_iload_n K 9 dX4_of_8 rfl rfl ?_
    refine zv_cS1 K (As := [.int d]) (rest := []) 1 12 (kX4_isDay l D ty (zm b ty τ) d) dX4_of_9 rfl zw_3_119 zw_3_120 zw_1_5 zw_3_121 ⟨rfl, rfl⟩ zh_yX4_isDay ⟨by decide, by decide⟩ rfl rfl (zle rfl) rfl ?_
    refine zv_ifB_eq K 33 15 dX4_of_12 (by decide) rfl (fun h2 => ?_) (fun h2 => ?_)
    · skip
      refine zv_iconst K (-1) 34 dX4_of_33 rfl (by decide) ?_
      exact zv_iret K T dX4_of_34 (⟨by simp only [fX4_of, if_pos hh, if_neg h2], by simp only [fX4_of, if_pos hh, if_neg h2]⟩)
    · skip
      refine zv_iload K 17 dX4_of_15 rfl rfl ?_
      refine zv_cS1 K (As := [.int k_]) (rest := []) 1 20 (kX4_isDay l D ty (zm b ty τ) k_) dX4_of_17 rfl zw_3_119 zw_3_120 zw_1_5 zw_3_121 ⟨rfl, rfl⟩ zh_yX4_isDay ⟨by decide, by decide⟩ rfl rfl (zle rfl) rfl ?_
      refine zv_ifB_eq K 33 23 dX4_of_20 (by decide) rfl (fun h3 => ?_) (fun h3 => ?_)
      · skip
        refine zv_iconst K (-1) 34 dX4_of_33 rfl (by decide) ?_
        exact zv_iret K T dX4_of_34 (⟨by simp only [fX4_of, if_pos hh, if_pos h2, if_neg h3], by simp only [fX4_of, if_pos hh, if_pos h2, if_neg h3]⟩)
      · skip
        refine zv_iload_n K 24 dX4_of_23 rfl rfl ?_
        refine zv_iconst K 0 25 dX4_of_24 rfl (by decide) ?_
        refine zv_bipush K 6 27 dX4_of_25 rfl (by decide) ?_
        refine zv_cS1 K (As := [.int y, .int 0, .int 6]) (rest := []) 3 30 (kX4_in l D ty (zm b ty τ) y 0 6) dX4_of_27 rfl zw_3_47 zw_3_48 zw_1_5 zw_3_49 ⟨rfl, rfl⟩ zh_yX4_in ⟨by decide, by decide⟩ rfl rfl (zle rfl) rfl ?_
        refine zv_ifB_ne K 35 33 dX4_of_30 (by decide) rfl (fun h4 => ?_) (fun h4 => ?_)
        · skip
          obtain ⟨hx, hf⟩ := zm_hs hn hc hh
          refine zv_aload_n K 36 dX4_of_35 rfl rfl ?_
          refine zm_get (v := .ref (b 5)) K 5 39 dX4_of_36 rfl (by decide) zw_2_193 rfl ?_
          refine zv_iload_n K 40 dX4_of_39 rfl rfl ?_
          refine zv_iald (F := τ.2 5) K 1 x.toNatClampNeg 41 dX4_of_40 rfl (zm_at (p := 1) (j := 5) rfl) hx hf (by decide) ?_
          refine zv_if_eq K 47 44 dX4_of_41 (by decide) rfl (fun h5 => ?_) (fun h5 => ?_)
          · skip
            refine zv_aload_n K 48 dX4_of_47 rfl rfl ?_
            refine zv_iload_n K 49 dX4_of_48 rfl rfl ?_
            refine zv_iload K 51 dX4_of_49 rfl rfl ?_
            refine zv_cV0 K (q0 := 0) (As := [.int d, .int k_]) (rest := []) 2 54 (kX4_go l D ty b τ n hn hc hok d k_) dX4_of_51 rfl zw_3_122 zw_3_124 zw_p2_3 zw_1_5 zw_3_125 ⟨rfl, rfl⟩ zh_yX4_go ⟨by decide, by decide⟩ (zm_at (p := 0) (j := 0) rfl) rfl rfl rfl (zle rfl) rfl ?_
            refine zv_aload_n K 55 dX4_of_54 rfl rfl ?_
            refine zm_get (v := .ref (b 19)) K 19 58 dX4_of_55 rfl (by decide) zw_2_207 rfl ?_
            refine zv_iload_n K 59 dX4_of_58 rfl rfl ?_
            refine zv_zald (F := (mgo τ n d k_).2 19) K 14 x.toNatClampNeg 60 dX4_of_59 rfl (zm_at (p := 14) (j := 19) rfl) hx hf (by decide) ?_
            refine zv_if_ne K 66 63 dX4_of_60 (by decide) rfl (fun h6 => ?_) (fun h6 => ?_)
            · skip
              refine zv_iload_n K 67 dX4_of_66 rfl rfl ?_
              by_cases e_0 : y = 0
              · refine zv_tableIn (off := 37) K 104 dX4_of_67 (by rw [e_0]; decide) (by rw [e_0]; decide) (by rw [e_0]; rfl) (by decide) ?_
                refine zv_aload_n K 105 dX4_of_104 rfl rfl ?_
                refine zm_get (v := .ref (b 20)) K 20 108 dX4_of_105 rfl (by decide) zw_2_208 rfl ?_
                refine zv_iload_n K 109 dX4_of_108 rfl rfl ?_
                refine zv_iald (F := (mgo τ n d k_).2 20) K 15 x.toNatClampNeg 110 dX4_of_109 rfl (zm_at (p := 15) (j := 20) rfl) hx hf (by decide) ?_
                exact zv_iret K T dX4_of_110 (⟨by simp only [fX4_of, if_pos hh, if_pos h2, if_pos h3, if_pos h4, if_pos h5, if_neg h6, if_pos e_0], by simp only [fX4_of, if_pos hh, if_pos h2, if_pos h3, if_pos h4, if_pos h5, if_neg h6, if_pos e_0]⟩)
              · skip
                by_cases e_1 : y = 1
                · refine zv_tableIn (off := 44) K 111 dX4_of_67 (by rw [e_1]; decide) (by rw [e_1]; decide) (by rw [e_1]; rfl) (by decide) ?_
                  refine zv_aload_n K 112 dX4_of_111 rfl rfl ?_
                  refine zm_get (v := .ref (b 23)) K 23 115 dX4_of_112 rfl (by decide) zw_2_211 rfl ?_
                  refine zv_iload_n K 116 dX4_of_115 rfl rfl ?_
                  refine zv_iald (F := (mgo τ n d k_).2 23) K 18 x.toNatClampNeg 117 dX4_of_116 rfl (zm_at (p := 18) (j := 23) rfl) hx hf (by decide) ?_
                  exact zv_iret K T dX4_of_117 (⟨by simp only [fX4_of, if_pos hh, if_pos h2, if_pos h3, if_pos h4, if_pos h5, if_neg h6, if_neg e_0, if_pos e_1], by simp only [fX4_of, if_pos hh, if_pos h2, if_pos h3, if_pos h4, if_pos h5, if_neg h6, if_neg e_0, if_pos e_1]⟩)
                · skip
                  by_cases e_2 : y = 2
                  · refine zv_tableIn (off := 51) K 118 dX4_of_67 (by rw [e_2]; decide) (by rw [e_2]; decide) (by rw [e_2]; rfl) (by decide) ?_
                    refine zv_aload_n K 119 dX4_of_118 rfl rfl ?_
                    refine zm_get (v := .ref (b 24)) K 24 122 dX4_of_119 rfl (by decide) zw_2_212 rfl ?_
                    refine zv_iload_n K 123 dX4_of_122 rfl rfl ?_
                    refine zv_iald (F := (mgo τ n d k_).2 24) K 19 x.toNatClampNeg 124 dX4_of_123 rfl (zm_at (p := 19) (j := 24) rfl) hx hf (by decide) ?_
                    exact zv_iret K T dX4_of_124 (⟨by simp only [fX4_of, if_pos hh, if_pos h2, if_pos h3, if_pos h4, if_pos h5, if_neg h6, if_neg e_0, if_neg e_1, if_pos e_2], by simp only [fX4_of, if_pos hh, if_pos h2, if_pos h3, if_pos h4, if_pos h5, if_neg h6, if_neg e_0, if_neg e_1, if_pos e_2]⟩)
                  · skip
                    by_cases e_3 : y = 3
                    · refine zv_tableIn (off := 58) K 125 dX4_of_67 (by rw [e_3]; decide) (by rw [e_3]; decide) (by rw [e_3]; rfl) (by decide) ?_
                      refine zv_aload_n K 126 dX4_of_125 rfl rfl ?_
                      refine zm_get (v := .ref (b 22)) K 22 129 dX4_of_126 rfl (by decide) zw_2_210 rfl ?_
                      refine zv_iload_n K 130 dX4_of_129 rfl rfl ?_
                      refine zv_iald (F := (mgo τ n d k_).2 22) K 17 x.toNatClampNeg 131 dX4_of_130 rfl (zm_at (p := 17) (j := 22) rfl) hx hf (by decide) ?_
                      exact zv_iret K T dX4_of_131 (⟨by simp only [fX4_of, if_pos hh, if_pos h2, if_pos h3, if_pos h4, if_pos h5, if_neg h6, if_neg e_0, if_neg e_1, if_neg e_2, if_pos e_3], by simp only [fX4_of, if_pos hh, if_pos h2, if_pos h3, if_pos h4, if_pos h5, if_neg h6, if_neg e_0, if_neg e_1, if_neg e_2, if_pos e_3]⟩)
                    · skip
                      by_cases e_4 : y = 4
                      · refine zv_tableIn (off := 65) K 132 dX4_of_67 (by rw [e_4]; decide) (by rw [e_4]; decide) (by rw [e_4]; rfl) (by decide) ?_
                        refine zv_iload_n K 133 dX4_of_132 rfl rfl ?_
                        refine zv_aload_n K 134 dX4_of_133 rfl rfl ?_
                        refine zm_get (v := .ref (b 22)) K 22 137 dX4_of_134 rfl (by decide) zw_2_210 rfl ?_
                        refine zv_iload_n K 138 dX4_of_137 rfl rfl ?_
                        refine zv_iald (F := (mgo τ n d k_).2 22) K 17 x.toNatClampNeg 139 dX4_of_138 rfl (zm_at (p := 17) (j := 22) rfl) hx hf (by decide) ?_
                        refine zv_isub K 140 dX4_of_139 rfl ?_
                        refine zv_aload_n K 141 dX4_of_140 rfl rfl ?_
                        refine zm_get (v := .int ((mgo τ n d k_).1 2)) K 2 144 dX4_of_141 rfl (by decide) zw_2_190 rfl ?_
                        refine zv_icmp_le K 151 147 dX4_of_144 (by decide) rfl (fun h7 => ?_) (fun h7 => ?_)
                        · skip
                          refine zv_iconst K 0 152 dX4_of_151 rfl (by decide) ?_
                          exact zv_iret K T dX4_of_152 (⟨by simp only [fX4_of, if_pos hh, if_pos h2, if_pos h3, if_pos h4, if_pos h5, if_neg h6, if_neg e_0, if_neg e_1, if_neg e_2, if_neg e_3, if_pos e_4, if_pos h7], by simp only [fX4_of, if_pos hh, if_pos h2, if_pos h3, if_pos h4, if_pos h5, if_neg h6, if_neg e_0, if_neg e_1, if_neg e_2, if_neg e_3, if_pos e_4, if_pos h7]⟩)
                        · skip
                          refine zv_iconst K 1 148 dX4_of_147 rfl (by decide) ?_
                          refine zv_goto K 152 dX4_of_148 (by decide) ?_
                          exact zv_iret K T dX4_of_152 (⟨by simp only [fX4_of, if_pos hh, if_pos h2, if_pos h3, if_pos h4, if_pos h5, if_neg h6, if_neg e_0, if_neg e_1, if_neg e_2, if_neg e_3, if_pos e_4, if_neg h7], by simp only [fX4_of, if_pos hh, if_pos h2, if_pos h3, if_pos h4, if_pos h5, if_neg h6, if_neg e_0, if_neg e_1, if_neg e_2, if_neg e_3, if_pos e_4, if_neg h7]⟩)
                      · skip
                        by_cases e_5 : y = 5
                        · refine zv_tableIn (off := 86) K 153 dX4_of_67 (by rw [e_5]; decide) (by rw [e_5]; decide) (by rw [e_5]; rfl) (by decide) ?_
                          refine zv_aload_n K 154 dX4_of_153 rfl rfl ?_
                          refine zm_get (v := .ref (b 26)) K 26 157 dX4_of_154 rfl (by decide) zw_2_214 rfl ?_
                          refine zv_iload_n K 158 dX4_of_157 rfl rfl ?_
                          refine zv_iald (F := (mgo τ n d k_).2 26) K 21 x.toNatClampNeg 159 dX4_of_158 rfl (zm_at (p := 21) (j := 26) rfl) hx hf (by decide) ?_
                          exact zv_iret K T dX4_of_159 (⟨by simp only [fX4_of, if_pos hh, if_pos h2, if_pos h3, if_pos h4, if_pos h5, if_neg h6, if_neg e_0, if_neg e_1, if_neg e_2, if_neg e_3, if_neg e_4, if_pos e_5], by simp only [fX4_of, if_pos hh, if_pos h2, if_pos h3, if_pos h4, if_pos h5, if_neg h6, if_neg e_0, if_neg e_1, if_neg e_2, if_neg e_3, if_neg e_4, if_pos e_5]⟩)
                        · skip
                          refine zv_tableOut K 160 dX4_of_67 (by have n_0 := lv_neT e_0 (a := 0) rfl; have n_1 := lv_neT e_1 (a := 1) rfl; have n_2 := lv_neT e_2 (a := 2) rfl; have n_3 := lv_neT e_3 (a := 3) rfl; have n_4 := lv_neT e_4 (a := 4) rfl; have n_5 := lv_neT e_5 (a := 5) rfl; omega) (by decide) ?_
                          refine zv_aload_n K 161 dX4_of_160 rfl rfl ?_
                          refine zv_iload_n K 162 dX4_of_161 rfl rfl ?_
                          refine zv_cV1 K (q0 := 0) (As := [.int x]) (rest := []) 1 165 (kX4_owned l D ty b (mgo τ n d k_) n hn (((mgo_fr τ n d k_).1 3).trans hc) x x.toNatClampNeg hx hf) dX4_of_162 rfl zw_3_159 zw_3_161 zw_p2_11 zw_1_5 zw_3_162 ⟨rfl, rfl⟩ zh_yX4_owned ⟨by decide, by decide⟩ (zm_at (p := 0) (j := 0) rfl) rfl rfl rfl (zle rfl) rfl ?_
                          exact zv_iret K T dX4_of_165 (⟨by simp only [fX4_of, if_pos hh, if_pos h2, if_pos h3, if_pos h4, if_pos h5, if_neg h6, if_neg e_0, if_neg e_1, if_neg e_2, if_neg e_3, if_neg e_4, if_neg e_5], by simp only [fX4_of, if_pos hh, if_pos h2, if_pos h3, if_pos h4, if_pos h5, if_neg h6, if_neg e_0, if_neg e_1, if_neg e_2, if_neg e_3, if_neg e_4, if_neg e_5]⟩)
            · skip
              refine zv_bipush K (-4) 65 dX4_of_63 rfl (by decide) ?_
              exact zv_iret K T dX4_of_65 (⟨by simp only [fX4_of, if_pos hh, if_pos h2, if_pos h3, if_pos h4, if_pos h5, if_pos h6], by simp only [fX4_of, if_pos hh, if_pos h2, if_pos h3, if_pos h4, if_pos h5, if_pos h6]⟩)
          · skip
            refine zv_bipush K (-3) 46 dX4_of_44 rfl (by decide) ?_
            exact zv_iret K T dX4_of_46 (⟨by simp only [fX4_of, if_pos hh, if_pos h2, if_pos h3, if_pos h4, if_neg h5], by simp only [fX4_of, if_pos hh, if_pos h2, if_pos h3, if_pos h4, if_neg h5]⟩)
        · skip
          refine zv_iconst K (-1) 34 dX4_of_33 rfl (by decide) ?_
          exact zv_iret K T dX4_of_34 (⟨by simp only [fX4_of, if_pos hh, if_pos h2, if_pos h3, if_neg h4], by simp only [fX4_of, if_pos hh, if_pos h2, if_pos h3, if_neg h4]⟩)

def fX4_share (τ : zM) (n : Nat) (x : Int32) (y : Int32) (d : Int32) (k_ : Int32) : Int32 × zM :=
  if (0 ≤ x ∧ x < τ.1 3) then
    if (0 ≤ y ∧ y ≤ 9) then
      if (0 ≤ d ∧ d ≤ 999) then
        if (0 ≤ k_ ∧ k_ ≤ 999) then
          if (τ.2 5 x.toNatClampNeg) = 0 then
            if ((mgo τ n d k_).2 19 x.toNatClampNeg) = 0 then
              ((-4), (mgo τ n d k_))
            else
              ((mgo τ n d k_).2 21 (10 * x.toNatClampNeg + y.toNatClampNeg), (mgo τ n d k_))
          else
            ((-3), τ)
        else
          ((-1), τ)
      else
        ((-1), τ)
    else
      ((-1), τ)
  else
    ((-1), τ)
set_option maxHeartbeats 4000000 in
set_option maxRecDepth 100000 in
theorem kX4_share (l : Launch) (D : va_G) (ty : zTy) (b : Nat → Nat) (τ : zM) (n : Nat) (hn : n ≤ 90) (hc : τ.1 3 = nI n) (hok : ∀ f, f < n → mok τ f) (x y d k_ : Int32) : zv_ct l D ty yX4_share cX4_share 5 (some .int) (zR 5 121) [.ref (b 0), .int x, .int y, .int d, .int k_] (zm b ty τ) (fun v_ w_ => v_ = some (.int (fX4_share τ n x y d k_).1) ∧ w_ = zm b ty (fX4_share τ n x y d k_).2) := by
  refine zv_open (by decide) rfl rfl [some (.ref (b 0)), some (.int x), some (.int y), some (.int d), some (.int k_)] (by simp [zv_one, Value.category]) (zle rfl) rfl ?_
  intro k K T
  refine zv_aload_n K 1 dX4_share_0 rfl rfl ?_
  refine zv_iload_n K 2 dX4_share_1 rfl rfl ?_
  refine zv_cV1 K (q0 := 0) (As := [.int x]) (rest := []) 1 5 (kX4_isFact l D ty b τ n hn hc x) dX4_share_2 rfl zw_3_79 zw_3_81 zw_p2_2 zw_1_5 zw_3_82 ⟨rfl, rfl⟩ zh_yX4_isFact ⟨by decide, by decide⟩ (zm_at (p := 0) (j := 0) rfl) rfl rfl rfl (zle rfl) rfl ?_
  refine zv_ifB_eq K 30 8 dX4_share_5 (by decide) rfl (fun hh => ?_) (fun hh => ?_)
  · skip
    refine zv_iconst K (-1) 31 dX4_share_30 rfl (by decide) ?_
    exact zv_iret K T dX4_share_31 (⟨by simp only [fX4_share, if_neg hh], by simp only [fX4_share, if_neg hh]⟩)
  · skip
    refine zv_iload_n K 9 dX4_share_8 rfl rfl ?_
    refine zv_cS1 K (As := [.int y]) (rest := []) 1 12 (kX4_isMiner l D ty (zm b ty τ) y) dX4_share_9 rfl zw_3_64 zw_3_65 zw_1_5 zw_3_66 ⟨rfl, rfl⟩ zh_yX4_isMiner ⟨by decide, by decide⟩ rfl rfl (zle rfl) rfl ?_
    refine zv_ifB_eq K 30 15 dX4_share_12 (by decide) rfl (fun hm => ?_) (fun hm => ?_)
    · skip
      refine zv_iconst K (-1) 31 dX4_share_30 rfl (by decide) ?_
      exact zv_iret K T dX4_share_31 (⟨by simp only [fX4_share, if_pos hh, if_neg hm], by simp only [fX4_share, if_pos hh, if_neg hm]⟩)
    · skip
      refine zv_iload_n K 16 dX4_share_15 rfl rfl ?_
      refine zv_cS1 K (As := [.int d]) (rest := []) 1 19 (kX4_isDay l D ty (zm b ty τ) d) dX4_share_16 rfl zw_3_119 zw_3_120 zw_1_5 zw_3_121 ⟨rfl, rfl⟩ zh_yX4_isDay ⟨by decide, by decide⟩ rfl rfl (zle rfl) rfl ?_
      refine zv_ifB_eq K 30 22 dX4_share_19 (by decide) rfl (fun h3 => ?_) (fun h3 => ?_)
      · skip
        refine zv_iconst K (-1) 31 dX4_share_30 rfl (by decide) ?_
        exact zv_iret K T dX4_share_31 (⟨by simp only [fX4_share, if_pos hh, if_pos hm, if_neg h3], by simp only [fX4_share, if_pos hh, if_pos hm, if_neg h3]⟩)
      · skip
        refine zv_iload K 24 dX4_share_22 rfl rfl ?_
        refine zv_cS1 K (As := [.int k_]) (rest := []) 1 27 (kX4_isDay l D ty (zm b ty τ) k_) dX4_share_24 rfl zw_3_119 zw_3_120 zw_1_5 zw_3_121 ⟨rfl, rfl⟩ zh_yX4_isDay ⟨by decide, by decide⟩ rfl rfl (zle rfl) rfl ?_
        refine zv_ifB_ne K 32 30 dX4_share_27 (by decide) rfl (fun h4 => ?_) (fun h4 => ?_)
        · skip
          obtain ⟨hx, hf⟩ := zm_hs hn hc hh
          obtain ⟨hy, hy9⟩ := z_upto (m := 9) hm (by decide)
          refine zv_aload_n K 33 dX4_share_32 rfl rfl ?_
          refine zm_get (v := .ref (b 5)) K 5 36 dX4_share_33 rfl (by decide) zw_2_193 rfl ?_
          refine zv_iload_n K 37 dX4_share_36 rfl rfl ?_
          refine zv_iald (F := τ.2 5) K 1 x.toNatClampNeg 38 dX4_share_37 rfl (zm_at (p := 1) (j := 5) rfl) hx hf (by decide) ?_
          refine zv_if_eq K 44 41 dX4_share_38 (by decide) rfl (fun h5 => ?_) (fun h5 => ?_)
          · skip
            refine zv_aload_n K 45 dX4_share_44 rfl rfl ?_
            refine zv_iload_n K 46 dX4_share_45 rfl rfl ?_
            refine zv_iload K 48 dX4_share_46 rfl rfl ?_
            refine zv_cV0 K (q0 := 0) (As := [.int d, .int k_]) (rest := []) 2 51 (kX4_go l D ty b τ n hn hc hok d k_) dX4_share_48 rfl zw_3_122 zw_3_124 zw_p2_3 zw_1_5 zw_3_125 ⟨rfl, rfl⟩ zh_yX4_go ⟨by decide, by decide⟩ (zm_at (p := 0) (j := 0) rfl) rfl rfl rfl (zle rfl) rfl ?_
            refine zv_aload_n K 52 dX4_share_51 rfl rfl ?_
            refine zm_get (v := .ref (b 19)) K 19 55 dX4_share_52 rfl (by decide) zw_2_207 rfl ?_
            refine zv_iload_n K 56 dX4_share_55 rfl rfl ?_
            refine zv_zald (F := (mgo τ n d k_).2 19) K 14 x.toNatClampNeg 57 dX4_share_56 rfl (zm_at (p := 14) (j := 19) rfl) hx hf (by decide) ?_
            refine zv_if_eq K 74 60 dX4_share_57 (by decide) rfl (fun h6 => ?_) (fun h6 => ?_)
            · skip
              refine zv_bipush K (-4) 76 dX4_share_74 rfl (by decide) ?_
              exact zv_iret K T dX4_share_76 (⟨by simp only [fX4_share, if_pos hh, if_pos hm, if_pos h3, if_pos h4, if_pos h5, if_pos h6], by simp only [fX4_share, if_pos hh, if_pos hm, if_pos h3, if_pos h4, if_pos h5, if_pos h6]⟩)
            · skip
              refine zv_aload_n K 61 dX4_share_60 rfl rfl ?_
              refine zm_get (v := .ref (b 21)) K 21 64 dX4_share_61 rfl (by decide) zw_2_209 rfl ?_
              refine zv_bipush K 10 66 dX4_share_64 rfl (by decide) ?_
              refine zv_iload_n K 67 dX4_share_66 rfl rfl ?_
              refine zv_imul K 68 dX4_share_67 rfl ?_
              refine zv_iload_n K 69 dX4_share_68 rfl rfl ?_
              refine zv_iadd K 70 dX4_share_69 rfl ?_
              refine zv_iald (F := (mgo τ n d k_).2 21) K 16 (10 * x.toNatClampNeg + y.toNatClampNeg) 71 dX4_share_70 rfl (zm_at (p := 16) (j := 21) rfl) (zi10' _ _ hx hy) (by omega) (by decide) ?_
              refine zv_goto K 76 dX4_share_71 (by decide) ?_
              exact zv_iret K T dX4_share_76 (⟨by simp only [fX4_share, if_pos hh, if_pos hm, if_pos h3, if_pos h4, if_pos h5, if_neg h6], by simp only [fX4_share, if_pos hh, if_pos hm, if_pos h3, if_pos h4, if_pos h5, if_neg h6]⟩)
          · skip
            refine zv_bipush K (-3) 43 dX4_share_41 rfl (by decide) ?_
            exact zv_iret K T dX4_share_43 (⟨by simp only [fX4_share, if_pos hh, if_pos hm, if_pos h3, if_pos h4, if_neg h5], by simp only [fX4_share, if_pos hh, if_pos hm, if_pos h3, if_pos h4, if_neg h5]⟩)
        · skip
          refine zv_iconst K (-1) 31 dX4_share_30 rfl (by decide) ?_
          exact zv_iret K T dX4_share_31 (⟨by simp only [fX4_share, if_pos hh, if_pos hm, if_pos h3, if_neg h4], by simp only [fX4_share, if_pos hh, if_pos hm, if_pos h3, if_neg h4]⟩)

def fX4_dug (τ : zM) (n : Nat) (x : Int32) (d : Int32) (k_ : Int32) : Int32 × zM :=
  if (0 ≤ x ∧ x ≤ 10) then
    if (0 ≤ d ∧ d ≤ 999) then
      if (0 ≤ k_ ∧ k_ ≤ 999) then
        ((mgo τ n d k_).2 29 x.toNatClampNeg, (mgo τ n d k_))
      else
        ((-1), τ)
    else
      ((-1), τ)
  else
    ((-1), τ)
set_option maxHeartbeats 4000000 in
set_option maxRecDepth 100000 in
theorem kX4_dug (l : Launch) (D : va_G) (ty : zTy) (b : Nat → Nat) (τ : zM) (n : Nat) (hn : n ≤ 90) (hc : τ.1 3 = nI n) (hok : ∀ f, f < n → mok τ f) (x d k_ : Int32) : zv_ct l D ty yX4_dug cX4_dug 4 (some .int) (zR 5 121) [.ref (b 0), .int x, .int d, .int k_] (zm b ty τ) (fun v_ w_ => v_ = some (.int (fX4_dug τ n x d k_).1) ∧ w_ = zm b ty (fX4_dug τ n x d k_).2) := by
  refine zv_open (by decide) rfl rfl [some (.ref (b 0)), some (.int x), some (.int d), some (.int k_)] (by simp [zv_one, Value.category]) (zle rfl) rfl ?_
  intro k K T
  refine zv_iload_n K 1 dX4_dug_0 rfl rfl ?_
  refine zv_iconst K 0 2 dX4_dug_1 rfl (by decide) ?_
  refine zv_bipush K 10 4 dX4_dug_2 rfl (by decide) ?_
  refine zv_cS1 K (As := [.int x, .int 0, .int 10]) (rest := []) 3 7 (kX4_in l D ty (zm b ty τ) x 0 10) dX4_dug_4 rfl zw_3_47 zw_3_48 zw_1_5 zw_3_49 ⟨rfl, rfl⟩ zh_yX4_in ⟨by decide, by decide⟩ rfl rfl (zle rfl) rfl ?_
  refine zv_ifB_eq K 24 10 dX4_dug_7 (by decide) rfl (fun hm => ?_) (fun hm => ?_)
  · skip
    refine zv_iconst K (-1) 25 dX4_dug_24 rfl (by decide) ?_
    exact zv_iret K T dX4_dug_25 (⟨by simp only [fX4_dug, if_neg hm], by simp only [fX4_dug, if_neg hm]⟩)
  · skip
    refine zv_iload_n K 11 dX4_dug_10 rfl rfl ?_
    refine zv_cS1 K (As := [.int d]) (rest := []) 1 14 (kX4_isDay l D ty (zm b ty τ) d) dX4_dug_11 rfl zw_3_119 zw_3_120 zw_1_5 zw_3_121 ⟨rfl, rfl⟩ zh_yX4_isDay ⟨by decide, by decide⟩ rfl rfl (zle rfl) rfl ?_
    refine zv_ifB_eq K 24 17 dX4_dug_14 (by decide) rfl (fun h2 => ?_) (fun h2 => ?_)
    · skip
      refine zv_iconst K (-1) 25 dX4_dug_24 rfl (by decide) ?_
      exact zv_iret K T dX4_dug_25 (⟨by simp only [fX4_dug, if_pos hm, if_neg h2], by simp only [fX4_dug, if_pos hm, if_neg h2]⟩)
    · skip
      refine zv_iload_n K 18 dX4_dug_17 rfl rfl ?_
      refine zv_cS1 K (As := [.int k_]) (rest := []) 1 21 (kX4_isDay l D ty (zm b ty τ) k_) dX4_dug_18 rfl zw_3_119 zw_3_120 zw_1_5 zw_3_121 ⟨rfl, rfl⟩ zh_yX4_isDay ⟨by decide, by decide⟩ rfl rfl (zle rfl) rfl ?_
      refine zv_ifB_ne K 26 24 dX4_dug_21 (by decide) rfl (fun h3 => ?_) (fun h3 => ?_)
      · skip
        obtain ⟨hx, hx9⟩ := z_upto (m := 10) hm (by decide)
        refine zv_aload_n K 27 dX4_dug_26 rfl rfl ?_
        refine zv_iload_n K 28 dX4_dug_27 rfl rfl ?_
        refine zv_iload_n K 29 dX4_dug_28 rfl rfl ?_
        refine zv_cV0 K (q0 := 0) (As := [.int d, .int k_]) (rest := []) 2 32 (kX4_go l D ty b τ n hn hc hok d k_) dX4_dug_29 rfl zw_3_122 zw_3_124 zw_p2_3 zw_1_5 zw_3_125 ⟨rfl, rfl⟩ zh_yX4_go ⟨by decide, by decide⟩ (zm_at (p := 0) (j := 0) rfl) rfl rfl rfl (zle rfl) rfl ?_
        refine zv_aload_n K 33 dX4_dug_32 rfl rfl ?_
        refine zm_get (v := .ref (b 29)) K 29 36 dX4_dug_33 rfl (by decide) zw_2_217 rfl ?_
        refine zv_iload_n K 37 dX4_dug_36 rfl rfl ?_
        refine zv_iald (F := (mgo τ n d k_).2 29) K 24 x.toNatClampNeg 38 dX4_dug_37 rfl (zm_at (p := 24) (j := 29) rfl) hx hx9 (by decide) ?_
        exact zv_iret K T dX4_dug_38 (⟨by simp only [fX4_dug, if_pos hm, if_pos h2, if_pos h3], by simp only [fX4_dug, if_pos hm, if_pos h2, if_pos h3]⟩)
      · skip
        refine zv_iconst K (-1) 25 dX4_dug_24 rfl (by decide) ?_
        exact zv_iret K T dX4_dug_25 (⟨by simp only [fX4_dug, if_pos hm, if_pos h2, if_neg h3], by simp only [fX4_dug, if_pos hm, if_pos h2, if_neg h3]⟩)

def fX4_due (τ : zM) (n : Nat) (x : Int32) (d : Int32) (k_ : Int32) : Int32 × zM :=
  if (0 ≤ x ∧ x ≤ 9) then
    if (0 ≤ d ∧ d ≤ 999) then
      if (0 ≤ k_ ∧ k_ ≤ 999) then
        (((mgo τ n d k_).2 29 x.toNatClampNeg) / 240, (mgo τ n d k_))
      else
        ((-1), τ)
    else
      ((-1), τ)
  else
    ((-1), τ)
set_option maxHeartbeats 4000000 in
set_option maxRecDepth 100000 in
theorem kX4_due (l : Launch) (D : va_G) (ty : zTy) (b : Nat → Nat) (τ : zM) (n : Nat) (hn : n ≤ 90) (hc : τ.1 3 = nI n) (hok : ∀ f, f < n → mok τ f) (x d k_ : Int32) : zv_ct l D ty yX4_due cX4_due 4 (some .int) (zR 5 121) [.ref (b 0), .int x, .int d, .int k_] (zm b ty τ) (fun v_ w_ => v_ = some (.int (fX4_due τ n x d k_).1) ∧ w_ = zm b ty (fX4_due τ n x d k_).2) := by
  refine zv_open (by decide) rfl rfl [some (.ref (b 0)), some (.int x), some (.int d), some (.int k_)] (by simp [zv_one, Value.category]) (zle rfl) rfl ?_
  intro k K T
  refine zv_iload_n K 1 dX4_due_0 rfl rfl ?_
  refine zv_cS1 K (As := [.int x]) (rest := []) 1 4 (kX4_isMiner l D ty (zm b ty τ) x) dX4_due_1 rfl zw_3_64 zw_3_65 zw_1_5 zw_3_66 ⟨rfl, rfl⟩ zh_yX4_isMiner ⟨by decide, by decide⟩ rfl rfl (zle rfl) rfl ?_
  refine zv_ifB_eq K 21 7 dX4_due_4 (by decide) rfl (fun hm => ?_) (fun hm => ?_)
  · skip
    refine zv_iconst K (-1) 22 dX4_due_21 rfl (by decide) ?_
    exact zv_iret K T dX4_due_22 (⟨by simp only [fX4_due, if_neg hm], by simp only [fX4_due, if_neg hm]⟩)
  · skip
    refine zv_iload_n K 8 dX4_due_7 rfl rfl ?_
    refine zv_cS1 K (As := [.int d]) (rest := []) 1 11 (kX4_isDay l D ty (zm b ty τ) d) dX4_due_8 rfl zw_3_119 zw_3_120 zw_1_5 zw_3_121 ⟨rfl, rfl⟩ zh_yX4_isDay ⟨by decide, by decide⟩ rfl rfl (zle rfl) rfl ?_
    refine zv_ifB_eq K 21 14 dX4_due_11 (by decide) rfl (fun h2 => ?_) (fun h2 => ?_)
    · skip
      refine zv_iconst K (-1) 22 dX4_due_21 rfl (by decide) ?_
      exact zv_iret K T dX4_due_22 (⟨by simp only [fX4_due, if_pos hm, if_neg h2], by simp only [fX4_due, if_pos hm, if_neg h2]⟩)
    · skip
      refine zv_iload_n K 15 dX4_due_14 rfl rfl ?_
      refine zv_cS1 K (As := [.int k_]) (rest := []) 1 18 (kX4_isDay l D ty (zm b ty τ) k_) dX4_due_15 rfl zw_3_119 zw_3_120 zw_1_5 zw_3_121 ⟨rfl, rfl⟩ zh_yX4_isDay ⟨by decide, by decide⟩ rfl rfl (zle rfl) rfl ?_
      refine zv_ifB_ne K 23 21 dX4_due_18 (by decide) rfl (fun h3 => ?_) (fun h3 => ?_)
      · skip
        obtain ⟨hx, hx9⟩ := z_upto (m := 9) hm (by decide)
        refine zv_aload_n K 24 dX4_due_23 rfl rfl ?_
        refine zv_iload_n K 25 dX4_due_24 rfl rfl ?_
        refine zv_iload_n K 26 dX4_due_25 rfl rfl ?_
        refine zv_cV0 K (q0 := 0) (As := [.int d, .int k_]) (rest := []) 2 29 (kX4_go l D ty b τ n hn hc hok d k_) dX4_due_26 rfl zw_3_122 zw_3_124 zw_p2_3 zw_1_5 zw_3_125 ⟨rfl, rfl⟩ zh_yX4_go ⟨by decide, by decide⟩ (zm_at (p := 0) (j := 0) rfl) rfl rfl rfl (zle rfl) rfl ?_
        refine zv_aload_n K 30 dX4_due_29 rfl rfl ?_
        refine zm_get (v := .ref (b 29)) K 29 33 dX4_due_30 rfl (by decide) zw_2_217 rfl ?_
        refine zv_iload_n K 34 dX4_due_33 rfl rfl ?_
        refine zv_iald (F := (mgo τ n d k_).2 29) K 24 x.toNatClampNeg 35 dX4_due_34 rfl (zm_at (p := 24) (j := 29) rfl) hx (by omega) (by decide) ?_
        refine zv_sipush K 240 38 dX4_due_35 rfl (by decide) ?_
        refine zv_idiv K 39 dX4_due_38 rfl (by decide) ?_
        exact zv_iret K T dX4_due_39 (⟨by simp only [fX4_due, if_pos hm, if_pos h2, if_pos h3], by simp only [fX4_due, if_pos hm, if_pos h2, if_pos h3]⟩)
      · skip
        refine zv_iconst K (-1) 22 dX4_due_21 rfl (by decide) ?_
        exact zv_iret K T dX4_due_22 (⟨by simp only [fX4_due, if_pos hm, if_pos h2, if_neg h3], by simp only [fX4_due, if_pos hm, if_pos h2, if_neg h3]⟩)

def mhold2 (ρ : zM) (n : Nat) (vn ft : Int32) : Int32 := match mow ρ vn ft n with
  | none => -4
  | some c => ρ.2 20 c
def mhj (ρ : zM) (n j : Nat) : Int32 := mhold2 ρ n (nI (j / 60)) (nI (j % 60))
theorem mhold2_n {ρ : zM} {n : Nat} {vn ft : Int32} (hn : n ≤ 90) (h : mI (mow ρ vn ft n) < 0) : mhold2 ρ n vn ft = -4 := by unfold mhold2; rw [mI_neg h (fun g q => by have := mow_lt q; omega)]
theorem mhold2_s {ρ : zM} {n : Nat} {vn ft : Int32} (h : ¬ mI (mow ρ vn ft n) < 0) : mhold2 ρ n vn ft = ρ.2 20 ((mow ρ vn ft n).getD 0) := by unfold mhold2; rw [mI_pos h]; rfl
def mfeet (ρ : zM) (n : Nat) (x : Int32) : Nat → Bool := fun j => decide (mhj ρ n j = x)
def movb (ρ : zM) (vn ft : Int32) : Nat → Bool := fun c => decide (¬ ρ.2 19 c = 0 ∧ ρ.2 9 c = vn ∧ ¬ ft < ρ.2 23 c ∧ ¬ ρ.2 24 c < ft)
def mcont (ρ : zM) (n : Nat) (vn : Int32) : Nat → Bool := fun f => decide (¬ nI (zct (movb ρ vn (nI f)) n) ≤ 1)
def mchg (ρ : zM) (n : Nat) : Nat → Bool := fun j => decide (¬ ρ.2 30 j = mhj ρ n j)
def mhN (ρ : zM) (n m : Nat) (g : Nat → Int32) : Nat → Int32 := fun j => if j < m then mhj ρ n j else g j
theorem mhN_0 (ρ : zM) (n : Nat) (g : Nat → Int32) : mhN ρ n 0 g = g := by funext j; simp [mhN]
theorem mhN_s (ρ : zM) (n m : Nat) (g : Nat → Int32) : upd (mhN ρ n m g) m (mhj ρ n m) = mhN ρ n (m + 1) g := by
  funext q
  unfold upd mhN
  by_cases h : q = m
  · subst h; rw [if_pos rfl, if_pos (Nat.lt_succ_self _)]
  · rw [if_neg h]
    by_cases h2 : q < m
    · simp only [if_pos h2, if_pos (show q < m + 1 by omega)]
    · simp only [if_neg h2, if_neg (show ¬ q < m + 1 by omega)]
theorem mow_30 (τ : zM) (g : Nat → Int32) (vn ft : Int32) : ∀ c, mow (zmFa τ 30 g) vn ft c = mow τ vn ft c
  | 0 => rfl
  | c + 1 => by
    unfold mow
    rw [mow_30 τ g vn ft c]
    rfl
theorem mhold2_30 (τ : zM) (g : Nat → Int32) (n : Nat) (vn ft : Int32) : mhold2 (zmFa τ 30 g) n vn ft = mhold2 τ n vn ft := by unfold mhold2; rw [mow_30]; rfl
set_option maxHeartbeats 4000000 in
set_option maxRecDepth 100000 in
theorem kX4_feet_l2 (l : Launch) (D : va_G) (ty : zTy) (b : Nat → Nat) (ρ : zM) (n : Nat) (hn : n ≤ 90) (hc : ρ.1 3 = nI n) (x d k_ : Int32) (hx0 : 0 ≤ x) (v : Nat) (hv : v < 4) {k : zKx} (K : zv_ok k l D (zR 5 121) cX4_feet 8 yX4_feet.cls ty) (T : zv_rt k (some .int) (fun v_ w_ => v_ = some (.int (nI (zct (mfeet ρ n x) 240))) ∧ w_ = zm b ty ρ)) (hout : ∀ o7 : Option Value, zv k 35 [some (.ref (b 0)), some (.int x), some (.int d), some (.int k_), some (.int (nI (zct (mfeet ρ n x) ((v + 1) * 60)))), some (.int (nI (v + 1))), some (.int (nI 60)), o7] [] (zm b ty ρ)) : ∀ f : Nat, f ≤ 60 → ∀ o7 : Option Value, zv k 44 [some (.ref (b 0)), some (.int x), some (.int d), some (.int k_), some (.int (nI (zct (mfeet ρ n x) (v * 60 + f)))), some (.int (nI v)), some (.int (nI f)), o7] [] (zm b ty ρ) := by
  refine z_wf (fun f : Nat => 60 - f) ?_
  intro f ih hf o7
  refine zv_iload K 46 dX4_feet_44 rfl rfl ?_
  refine zv_bipush K 60 48 dX4_feet_46 rfl (by decide) ?_
  refine zv_icmp_ge K 93 51 dX4_feet_48 (by decide) rfl (fun hb2 => ?_) (fun hb2 => ?_)
  · skip
    have e : f = 60 := by have := z_ge (c := 60) hb2 (by decide) (by omega); omega
    refine zv_iinc K (nI (v + 1)) [some (.ref (b 0)), some (.int x), some (.int d), some (.int k_), some (.int (nI (zct (mfeet ρ n x) (v * 60 + f)))), some (.int (nI (v + 1))), some (.int (nI f)), o7] 96 dX4_feet_93 rfl rfl (z_inc v) rfl ?_
    refine zv_goto K 35 dX4_feet_96 (by decide) ?_
    subst e
    refine zv_eq (lv2 := [some (.ref (b 0)), some (.int x), some (.int d), some (.int k_), some (.int (nI (zct (mfeet ρ n x) ((v + 1) * 60)))), some (.int (nI (v + 1))), some (.int (nI 60)), o7]) rfl (by rw [Nat.succ_mul]) rfl rfl ?_
    exact hout o7
  · skip
    have hf60 : f < 60 := z_lt (c := 60) hb2 (by omega)
    refine zv_aload_n K 52 dX4_feet_51 rfl rfl ?_
    refine zv_iload K 54 dX4_feet_52 rfl rfl ?_
    refine zv_iload K 56 dX4_feet_54 rfl rfl ?_
    refine zv_cV1 K (q0 := 0) (As := [.int (nI v), .int (nI f)]) (rest := []) 2 59 (kX4_ownerOf l D ty b ρ n hn hc (nI v) (nI f)) dX4_feet_56 rfl zw_3_142 zw_3_144 zw_p2_8 zw_1_5 zw_3_145 ⟨rfl, rfl⟩ zh_yX4_ownerOf ⟨by decide, by decide⟩ (zm_at (p := 0) (j := 0) rfl) rfl rfl rfl (zle rfl) rfl ?_
    refine zv_istore K [some (.ref (b 0)), some (.int x), some (.int d), some (.int k_), some (.int (nI (zct (mfeet ρ n x) (v * 60 + f)))), some (.int (nI v)), some (.int (nI f)), some (.int (mI (mow ρ (nI v) (nI f) n)))] 61 dX4_feet_59 rfl rfl (zlt rfl) ?_
    refine zv_iload K 63 dX4_feet_61 rfl rfl ?_
    refine zv_iload K 65 dX4_feet_63 rfl rfl ?_
    refine zv_if_lt K 83 68 dX4_feet_65 (by decide) rfl (fun h2 => ?_) (fun h2 => ?_)
    · skip
      refine zv_iconst K 0 84 dX4_feet_83 rfl (by decide) ?_
      refine zv_iadd K 85 dX4_feet_84 rfl ?_
      refine zv_topi (nI (zct (mfeet ρ n x) (v * 60 + f + 1))) (by have e1 : mhj ρ n (v * 60 + f) = mhold2 ρ n (nI v) (nI f) := (by unfold mhj; rw [(zfeet_j hf60).1, (zfeet_j hf60).2]); rw [zct_f (decide_eq_false (fun z => by rw [e1, mhold2_n hn h2] at z; rw [← z] at hx0; exact absurd hx0 (by decide)))]; exact Int32.add_zero _) ?_
      refine zv_istore K [some (.ref (b 0)), some (.int x), some (.int d), some (.int k_), some (.int (nI (zct (mfeet ρ n x) (v * 60 + f + 1)))), some (.int (nI v)), some (.int (nI f)), some (.int (mI (mow ρ (nI v) (nI f) n)))] 87 dX4_feet_85 rfl rfl (zlt rfl) ?_
      refine zv_iinc K (nI (f + 1)) [some (.ref (b 0)), some (.int x), some (.int d), some (.int k_), some (.int (nI (zct (mfeet ρ n x) (v * 60 + f + 1)))), some (.int (nI v)), some (.int (nI (f + 1))), some (.int (mI (mow ρ (nI v) (nI f) n)))] 90 dX4_feet_87 rfl rfl (z_inc f) rfl ?_
      refine zv_goto K 44 dX4_feet_90 (by decide) ?_
      exact ih (f + 1) (by omega) (by omega) _
    · skip
      refine zv_aload_n K 69 dX4_feet_68 rfl rfl ?_
      refine zm_get (v := .ref (b 20)) K 20 72 dX4_feet_69 rfl (by decide) zw_2_208 rfl ?_
      refine zv_iload K 74 dX4_feet_72 rfl rfl ?_
      refine zv_iald (F := ρ.2 20) K 15 ((mow ρ (nI v) (nI f) n).getD 0) 75 dX4_feet_74 rfl (zm_at (p := 15) (j := 20) rfl) (mI_get h2) (by have := mow_lt (mI_pos h2); omega) (by decide) ?_
      refine zv_iload_n K 76 dX4_feet_75 rfl rfl ?_
      refine zv_icmp_ne K 83 79 dX4_feet_76 (by decide) rfl (fun h3 => ?_) (fun h3 => ?_)
      · skip
        refine zv_iconst K 0 84 dX4_feet_83 rfl (by decide) ?_
        refine zv_iadd K 85 dX4_feet_84 rfl ?_
        refine zv_topi (nI (zct (mfeet ρ n x) (v * 60 + f + 1))) (by have e1 : mhj ρ n (v * 60 + f) = mhold2 ρ n (nI v) (nI f) := (by unfold mhj; rw [(zfeet_j hf60).1, (zfeet_j hf60).2]); rw [zct_f (decide_eq_false (fun z => h3 (by rw [e1, mhold2_s h2] at z; exact z)))]; exact Int32.add_zero _) ?_
        refine zv_istore K [some (.ref (b 0)), some (.int x), some (.int d), some (.int k_), some (.int (nI (zct (mfeet ρ n x) (v * 60 + f + 1)))), some (.int (nI v)), some (.int (nI f)), some (.int (mI (mow ρ (nI v) (nI f) n)))] 87 dX4_feet_85 rfl rfl (zlt rfl) ?_
        refine zv_iinc K (nI (f + 1)) [some (.ref (b 0)), some (.int x), some (.int d), some (.int k_), some (.int (nI (zct (mfeet ρ n x) (v * 60 + f + 1)))), some (.int (nI v)), some (.int (nI (f + 1))), some (.int (mI (mow ρ (nI v) (nI f) n)))] 90 dX4_feet_87 rfl rfl (z_inc f) rfl ?_
        refine zv_goto K 44 dX4_feet_90 (by decide) ?_
        exact ih (f + 1) (by omega) (by omega) _
      · skip
        refine zv_iconst K 1 80 dX4_feet_79 rfl (by decide) ?_
        refine zv_goto K 84 dX4_feet_80 (by decide) ?_
        refine zv_iadd K 85 dX4_feet_84 rfl ?_
        refine zv_topi (nI (zct (mfeet ρ n x) (v * 60 + f + 1))) (by have e1 : mhj ρ n (v * 60 + f) = mhold2 ρ n (nI v) (nI f) := (by unfold mhj; rw [(zfeet_j hf60).1, (zfeet_j hf60).2]); rw [zct_t (decide_eq_true (by rw [e1, mhold2_s h2]; exact h3))]; exact nI_1 _) ?_
        refine zv_istore K [some (.ref (b 0)), some (.int x), some (.int d), some (.int k_), some (.int (nI (zct (mfeet ρ n x) (v * 60 + f + 1)))), some (.int (nI v)), some (.int (nI f)), some (.int (mI (mow ρ (nI v) (nI f) n)))] 87 dX4_feet_85 rfl rfl (zlt rfl) ?_
        refine zv_iinc K (nI (f + 1)) [some (.ref (b 0)), some (.int x), some (.int d), some (.int k_), some (.int (nI (zct (mfeet ρ n x) (v * 60 + f + 1)))), some (.int (nI v)), some (.int (nI (f + 1))), some (.int (mI (mow ρ (nI v) (nI f) n)))] 90 dX4_feet_87 rfl rfl (z_inc f) rfl ?_
        refine zv_goto K 44 dX4_feet_90 (by decide) ?_
        exact ih (f + 1) (by omega) (by omega) _

set_option maxHeartbeats 4000000 in
set_option maxRecDepth 100000 in
theorem kX4_feet_l (l : Launch) (D : va_G) (ty : zTy) (b : Nat → Nat) (ρ : zM) (n : Nat) (hn : n ≤ 90) (hc : ρ.1 3 = nI n) (x d k_ : Int32) (hx0 : 0 ≤ x) {k : zKx} (K : zv_ok k l D (zR 5 121) cX4_feet 8 yX4_feet.cls ty) (T : zv_rt k (some .int) (fun v_ w_ => v_ = some (.int (nI (zct (mfeet ρ n x) 240))) ∧ w_ = zm b ty ρ)) : ∀ v : Nat, v ≤ 4 → ∀ o6 o7 : Option Value, zv k 35 [some (.ref (b 0)), some (.int x), some (.int d), some (.int k_), some (.int (nI (zct (mfeet ρ n x) (v * 60)))), some (.int (nI v)), o6, o7] [] (zm b ty ρ) := by
  refine z_wf (fun v : Nat => 4 - v) ?_
  intro v ih hv o6 o7
  refine zv_iload K 37 dX4_feet_35 rfl rfl ?_
  refine zv_iconst K 4 38 dX4_feet_37 rfl (by decide) ?_
  refine zv_icmp_ge K 99 41 dX4_feet_38 (by decide) rfl (fun hb => ?_) (fun hb => ?_)
  · skip
    have e : v = 4 := by have := z_ge (c := 4) hb (by decide) (by omega); omega
    refine zv_iload K 101 dX4_feet_99 rfl rfl ?_
    exact zv_iret K T dX4_feet_101 (⟨by rw [e], rfl⟩)
  · skip
    have hv4 : v < 4 := z_lt (c := 4) hb (by omega)
    refine zv_iconst K 0 42 dX4_feet_41 rfl (by decide) ?_
    refine zv_istore K [some (.ref (b 0)), some (.int x), some (.int d), some (.int k_), some (.int (nI (zct (mfeet ρ n x) (v * 60)))), some (.int (nI v)), some (.int 0), o7] 44 dX4_feet_42 rfl rfl (zlt rfl) ?_
    exact kX4_feet_l2 l D ty b ρ n hn hc x d k_ hx0 v hv4 K T (fun o7_ => ih (v + 1) (by omega) (by omega) (some (.int (nI 60))) o7_) 0 (by decide) _

def fX4_feet (τ : zM) (n : Nat) (x : Int32) (d : Int32) (k_ : Int32) : Int32 × zM :=
  if (0 ≤ x ∧ x ≤ 9) then
    if (0 ≤ d ∧ d ≤ 999) then
      if (0 ≤ k_ ∧ k_ ≤ 999) then
        (nI (zct (mfeet (mgo τ n d k_) n x) 240), (mgo τ n d k_))
      else
        ((-1), τ)
    else
      ((-1), τ)
  else
    ((-1), τ)
set_option maxHeartbeats 4000000 in
set_option maxRecDepth 100000 in
theorem kX4_feet (l : Launch) (D : va_G) (ty : zTy) (b : Nat → Nat) (τ : zM) (n : Nat) (hn : n ≤ 90) (hc : τ.1 3 = nI n) (hok : ∀ f, f < n → mok τ f) (x d k_ : Int32) : zv_ct l D ty yX4_feet cX4_feet 8 (some .int) (zR 5 121) [.ref (b 0), .int x, .int d, .int k_] (zm b ty τ) (fun v_ w_ => v_ = some (.int (fX4_feet τ n x d k_).1) ∧ w_ = zm b ty (fX4_feet τ n x d k_).2) := by
  refine zv_open (by decide) rfl rfl [some (.ref (b 0)), some (.int x), some (.int d), some (.int k_), none, none, none, none] (by simp [zv_one, Value.category]) (zle rfl) rfl ?_
  intro k K T
  refine zv_iload_n K 1 dX4_feet_0 rfl rfl ?_
  refine zv_cS1 K (As := [.int x]) (rest := []) 1 4 (kX4_isMiner l D ty (zm b ty τ) x) dX4_feet_1 rfl zw_3_64 zw_3_65 zw_1_5 zw_3_66 ⟨rfl, rfl⟩ zh_yX4_isMiner ⟨by decide, by decide⟩ rfl rfl (zle rfl) rfl ?_
  refine zv_ifB_eq K 21 7 dX4_feet_4 (by decide) rfl (fun h1 => ?_) (fun h1 => ?_)
  · skip
    refine zv_iconst K (-1) 22 dX4_feet_21 rfl (by decide) ?_
    exact zv_iret K T dX4_feet_22 (⟨by simp only [fX4_feet, if_neg h1], by simp only [fX4_feet, if_neg h1]⟩)
  · skip
    refine zv_iload_n K 8 dX4_feet_7 rfl rfl ?_
    refine zv_cS1 K (As := [.int d]) (rest := []) 1 11 (kX4_isDay l D ty (zm b ty τ) d) dX4_feet_8 rfl zw_3_119 zw_3_120 zw_1_5 zw_3_121 ⟨rfl, rfl⟩ zh_yX4_isDay ⟨by decide, by decide⟩ rfl rfl (zle rfl) rfl ?_
    refine zv_ifB_eq K 21 14 dX4_feet_11 (by decide) rfl (fun h2 => ?_) (fun h2 => ?_)
    · skip
      refine zv_iconst K (-1) 22 dX4_feet_21 rfl (by decide) ?_
      exact zv_iret K T dX4_feet_22 (⟨by simp only [fX4_feet, if_pos h1, if_neg h2], by simp only [fX4_feet, if_pos h1, if_neg h2]⟩)
    · skip
      refine zv_iload_n K 15 dX4_feet_14 rfl rfl ?_
      refine zv_cS1 K (As := [.int k_]) (rest := []) 1 18 (kX4_isDay l D ty (zm b ty τ) k_) dX4_feet_15 rfl zw_3_119 zw_3_120 zw_1_5 zw_3_121 ⟨rfl, rfl⟩ zh_yX4_isDay ⟨by decide, by decide⟩ rfl rfl (zle rfl) rfl ?_
      refine zv_ifB_ne K 23 21 dX4_feet_18 (by decide) rfl (fun h3 => ?_) (fun h3 => ?_)
      · skip
        refine zv_aload_n K 24 dX4_feet_23 rfl rfl ?_
        refine zv_iload_n K 25 dX4_feet_24 rfl rfl ?_
        refine zv_iload_n K 26 dX4_feet_25 rfl rfl ?_
        refine zv_cV0 K (q0 := 0) (As := [.int d, .int k_]) (rest := []) 2 29 (kX4_go l D ty b τ n hn hc hok d k_) dX4_feet_26 rfl zw_3_122 zw_3_124 zw_p2_3 zw_1_5 zw_3_125 ⟨rfl, rfl⟩ zh_yX4_go ⟨by decide, by decide⟩ (zm_at (p := 0) (j := 0) rfl) rfl rfl rfl (zle rfl) rfl ?_
        refine zv_iconst K 0 30 dX4_feet_29 rfl (by decide) ?_
        refine zv_istore K [some (.ref (b 0)), some (.int x), some (.int d), some (.int k_), some (.int 0), none, none, none] 32 dX4_feet_30 rfl rfl (zlt rfl) ?_
        refine zv_iconst K 0 33 dX4_feet_32 rfl (by decide) ?_
        refine zv_istore K [some (.ref (b 0)), some (.int x), some (.int d), some (.int k_), some (.int 0), some (.int 0), none, none] 35 dX4_feet_33 rfl rfl (zlt rfl) ?_
        exact kX4_feet_l l D ty b (mgo τ n d k_) n hn (((mgo_fr τ n d k_).1 3).trans hc) x d k_ h1.1 K (by simpa only [fX4_feet, if_pos h1, if_pos h2, if_pos h3] using T) 0 (by decide) none none
      · skip
        refine zv_iconst K (-1) 22 dX4_feet_21 rfl (by decide) ?_
        exact zv_iret K T dX4_feet_22 (⟨by simp only [fX4_feet, if_pos h1, if_pos h2, if_neg h3], by simp only [fX4_feet, if_pos h1, if_pos h2, if_neg h3]⟩)

set_option maxHeartbeats 4000000 in
set_option maxRecDepth 100000 in
theorem kX4_contested_l2 (l : Launch) (D : va_G) (ty : zTy) (b : Nat → Nat) (ρ : zM) (n : Nat) (hn : n ≤ 90) (hc : ρ.1 3 = nI n) (vn d k_ r_ : Int32) (f : Nat) (Fin : Int32) {k : zKx} (K : zv_ok k l D (zR 5 121) cX4_contested 8 yX4_contested.cls ty) (T : zv_rt k (some .int) (fun v_ w_ => v_ = some (.int Fin) ∧ w_ = zm b ty ρ)) (hout : zv k 118 [some (.ref (b 0)), some (.int vn), some (.int d), some (.int k_), some (.int r_), some (.int (nI f)), some (.int (nI (zct (movb ρ vn (nI f)) n))), some (.int (nI n))] [] (zm b ty ρ)) : ∀ c : Nat, c ≤ n → zv k 48 [some (.ref (b 0)), some (.int vn), some (.int d), some (.int k_), some (.int r_), some (.int (nI f)), some (.int (nI (zct (movb ρ vn (nI f)) c))), some (.int (nI c))] [] (zm b ty ρ) := by
  refine z_wf (fun c : Nat => n - c) ?_
  intro c ih hcn
  refine zv_iload K 50 dX4_contested_48 rfl rfl ?_
  refine zv_aload_n K 51 dX4_contested_50 rfl rfl ?_
  refine zm_get (v := .int (ρ.1 3)) K 3 54 dX4_contested_51 rfl (by decide) zw_2_191 rfl ?_
  refine zv_topi (nI n) hc ?_
  refine zv_icmp_ge K 118 57 dX4_contested_54 (by decide) rfl (fun hb2 => ?_) (fun hb2 => ?_)
  · skip
    have e : c = n := by have := z_ge hb2 (by omega) (by omega); omega
    subst e
    exact hout
  · skip
    have hlt : c < n := z_lt hb2 (by omega)
    refine zv_iload K 59 dX4_contested_57 rfl rfl ?_
    refine zv_aload_n K 60 dX4_contested_59 rfl rfl ?_
    refine zm_get (v := .ref (b 19)) K 19 63 dX4_contested_60 rfl (by decide) zw_2_207 rfl ?_
    refine zv_iload K 65 dX4_contested_63 rfl rfl ?_
    refine zv_zald (F := ρ.2 19) K 14 c 66 dX4_contested_65 rfl (zm_at (p := 14) (j := 19) rfl) rfl (by omega) (by decide) ?_
    refine zv_if_eq K 108 69 dX4_contested_66 (by decide) rfl (fun h2 => ?_) (fun h2 => ?_)
    · skip
      refine zv_iconst K 0 109 dX4_contested_108 rfl (by decide) ?_
      refine zv_iadd K 110 dX4_contested_109 rfl ?_
      refine zv_topi (nI (zct (movb ρ vn (nI f)) (c + 1))) (by rw [zct_f (decide_eq_false (fun q => q.1 h2))]; exact Int32.add_zero _) ?_
      refine zv_istore K [some (.ref (b 0)), some (.int vn), some (.int d), some (.int k_), some (.int r_), some (.int (nI f)), some (.int (nI (zct (movb ρ vn (nI f)) (c + 1)))), some (.int (nI c))] 112 dX4_contested_110 rfl rfl (zlt rfl) ?_
      refine zv_iinc K (nI (c + 1)) [some (.ref (b 0)), some (.int vn), some (.int d), some (.int k_), some (.int r_), some (.int (nI f)), some (.int (nI (zct (movb ρ vn (nI f)) (c + 1)))), some (.int (nI (c + 1)))] 115 dX4_contested_112 rfl rfl (z_inc c) rfl ?_
      refine zv_goto K 48 dX4_contested_115 (by decide) ?_
      exact ih (c + 1) (by omega) (by omega)
    · skip
      refine zv_aload_n K 70 dX4_contested_69 rfl rfl ?_
      refine zm_get (v := .ref (b 9)) K 9 73 dX4_contested_70 rfl (by decide) zw_2_197 rfl ?_
      refine zv_iload K 75 dX4_contested_73 rfl rfl ?_
      refine zv_iald (F := ρ.2 9) K 5 c 76 dX4_contested_75 rfl (zm_at (p := 5) (j := 9) rfl) rfl (by omega) (by decide) ?_
      refine zv_iload_n K 77 dX4_contested_76 rfl rfl ?_
      refine zv_icmp_ne K 108 80 dX4_contested_77 (by decide) rfl (fun h3 => ?_) (fun h3 => ?_)
      · skip
        refine zv_iconst K 0 109 dX4_contested_108 rfl (by decide) ?_
        refine zv_iadd K 110 dX4_contested_109 rfl ?_
        refine zv_topi (nI (zct (movb ρ vn (nI f)) (c + 1))) (by rw [zct_f (decide_eq_false (fun q => h3 q.2.1))]; exact Int32.add_zero _) ?_
        refine zv_istore K [some (.ref (b 0)), some (.int vn), some (.int d), some (.int k_), some (.int r_), some (.int (nI f)), some (.int (nI (zct (movb ρ vn (nI f)) (c + 1)))), some (.int (nI c))] 112 dX4_contested_110 rfl rfl (zlt rfl) ?_
        refine zv_iinc K (nI (c + 1)) [some (.ref (b 0)), some (.int vn), some (.int d), some (.int k_), some (.int r_), some (.int (nI f)), some (.int (nI (zct (movb ρ vn (nI f)) (c + 1)))), some (.int (nI (c + 1)))] 115 dX4_contested_112 rfl rfl (z_inc c) rfl ?_
        refine zv_goto K 48 dX4_contested_115 (by decide) ?_
        exact ih (c + 1) (by omega) (by omega)
      · skip
        refine zv_iload K 82 dX4_contested_80 rfl rfl ?_
        refine zv_aload_n K 83 dX4_contested_82 rfl rfl ?_
        refine zm_get (v := .ref (b 23)) K 23 86 dX4_contested_83 rfl (by decide) zw_2_211 rfl ?_
        refine zv_iload K 88 dX4_contested_86 rfl rfl ?_
        refine zv_iald (F := ρ.2 23) K 18 c 89 dX4_contested_88 rfl (zm_at (p := 18) (j := 23) rfl) rfl (by omega) (by decide) ?_
        refine zv_icmp_lt K 108 92 dX4_contested_89 (by decide) rfl (fun h4 => ?_) (fun h4 => ?_)
        · skip
          refine zv_iconst K 0 109 dX4_contested_108 rfl (by decide) ?_
          refine zv_iadd K 110 dX4_contested_109 rfl ?_
          refine zv_topi (nI (zct (movb ρ vn (nI f)) (c + 1))) (by rw [zct_f (decide_eq_false (fun q => q.2.2.1 h4))]; exact Int32.add_zero _) ?_
          refine zv_istore K [some (.ref (b 0)), some (.int vn), some (.int d), some (.int k_), some (.int r_), some (.int (nI f)), some (.int (nI (zct (movb ρ vn (nI f)) (c + 1)))), some (.int (nI c))] 112 dX4_contested_110 rfl rfl (zlt rfl) ?_
          refine zv_iinc K (nI (c + 1)) [some (.ref (b 0)), some (.int vn), some (.int d), some (.int k_), some (.int r_), some (.int (nI f)), some (.int (nI (zct (movb ρ vn (nI f)) (c + 1)))), some (.int (nI (c + 1)))] 115 dX4_contested_112 rfl rfl (z_inc c) rfl ?_
          refine zv_goto K 48 dX4_contested_115 (by decide) ?_
          exact ih (c + 1) (by omega) (by omega)
        · skip
          refine zv_iload K 94 dX4_contested_92 rfl rfl ?_
          refine zv_aload_n K 95 dX4_contested_94 rfl rfl ?_
          refine zm_get (v := .ref (b 24)) K 24 98 dX4_contested_95 rfl (by decide) zw_2_212 rfl ?_
          refine zv_iload K 100 dX4_contested_98 rfl rfl ?_
          refine zv_iald (F := ρ.2 24) K 19 c 101 dX4_contested_100 rfl (zm_at (p := 19) (j := 24) rfl) rfl (by omega) (by decide) ?_
          refine zv_icmp_gt K 108 104 dX4_contested_101 (by decide) rfl (fun h5 => ?_) (fun h5 => ?_)
          · skip
            refine zv_iconst K 0 109 dX4_contested_108 rfl (by decide) ?_
            refine zv_iadd K 110 dX4_contested_109 rfl ?_
            refine zv_topi (nI (zct (movb ρ vn (nI f)) (c + 1))) (by rw [zct_f (decide_eq_false (fun q => q.2.2.2 h5))]; exact Int32.add_zero _) ?_
            refine zv_istore K [some (.ref (b 0)), some (.int vn), some (.int d), some (.int k_), some (.int r_), some (.int (nI f)), some (.int (nI (zct (movb ρ vn (nI f)) (c + 1)))), some (.int (nI c))] 112 dX4_contested_110 rfl rfl (zlt rfl) ?_
            refine zv_iinc K (nI (c + 1)) [some (.ref (b 0)), some (.int vn), some (.int d), some (.int k_), some (.int r_), some (.int (nI f)), some (.int (nI (zct (movb ρ vn (nI f)) (c + 1)))), some (.int (nI (c + 1)))] 115 dX4_contested_112 rfl rfl (z_inc c) rfl ?_
            refine zv_goto K 48 dX4_contested_115 (by decide) ?_
            exact ih (c + 1) (by omega) (by omega)
          · skip
            refine zv_iconst K 1 105 dX4_contested_104 rfl (by decide) ?_
            refine zv_goto K 109 dX4_contested_105 (by decide) ?_
            refine zv_iadd K 110 dX4_contested_109 rfl ?_
            refine zv_topi (nI (zct (movb ρ vn (nI f)) (c + 1))) (by rw [zct_t (decide_eq_true ⟨h2, h3, h4, h5⟩)]; exact nI_1 _) ?_
            refine zv_istore K [some (.ref (b 0)), some (.int vn), some (.int d), some (.int k_), some (.int r_), some (.int (nI f)), some (.int (nI (zct (movb ρ vn (nI f)) (c + 1)))), some (.int (nI c))] 112 dX4_contested_110 rfl rfl (zlt rfl) ?_
            refine zv_iinc K (nI (c + 1)) [some (.ref (b 0)), some (.int vn), some (.int d), some (.int k_), some (.int r_), some (.int (nI f)), some (.int (nI (zct (movb ρ vn (nI f)) (c + 1)))), some (.int (nI (c + 1)))] 115 dX4_contested_112 rfl rfl (z_inc c) rfl ?_
            refine zv_goto K 48 dX4_contested_115 (by decide) ?_
            exact ih (c + 1) (by omega) (by omega)

set_option maxHeartbeats 4000000 in
set_option maxRecDepth 100000 in
theorem kX4_contested_l (l : Launch) (D : va_G) (ty : zTy) (b : Nat → Nat) (ρ : zM) (n : Nat) (hn : n ≤ 90) (hc : ρ.1 3 = nI n) (vn d k_ : Int32) {k : zKx} (K : zv_ok k l D (zR 5 121) cX4_contested 8 yX4_contested.cls ty) (T : zv_rt k (some .int) (fun v_ w_ => v_ = some (.int (nI (zct (mcont ρ n vn) 60))) ∧ w_ = zm b ty ρ)) : ∀ f : Nat, f ≤ 60 → ∀ o6 o7 : Option Value, zv k 35 [some (.ref (b 0)), some (.int vn), some (.int d), some (.int k_), some (.int (nI (zct (mcont ρ n vn) f))), some (.int (nI f)), o6, o7] [] (zm b ty ρ) := by
  refine z_wf (fun f : Nat => 60 - f) ?_
  intro f ih hf o6 o7
  refine zv_iload K 37 dX4_contested_35 rfl rfl ?_
  refine zv_bipush K 60 39 dX4_contested_37 rfl (by decide) ?_
  refine zv_icmp_ge K 140 42 dX4_contested_39 (by decide) rfl (fun hb => ?_) (fun hb => ?_)
  · skip
    have e : f = 60 := by have := z_ge (c := 60) hb (by decide) (by omega); omega
    refine zv_iload K 142 dX4_contested_140 rfl rfl ?_
    exact zv_iret K T dX4_contested_142 (⟨by rw [e], rfl⟩)
  · skip
    have hlt : f < 60 := z_lt (c := 60) hb (by omega)
    refine zv_iconst K 0 43 dX4_contested_42 rfl (by decide) ?_
    refine zv_istore K [some (.ref (b 0)), some (.int vn), some (.int d), some (.int k_), some (.int (nI (zct (mcont ρ n vn) f))), some (.int (nI f)), some (.int 0), o7] 45 dX4_contested_43 rfl rfl (zlt rfl) ?_
    refine zv_iconst K 0 46 dX4_contested_45 rfl (by decide) ?_
    refine zv_istore K [some (.ref (b 0)), some (.int vn), some (.int d), some (.int k_), some (.int (nI (zct (mcont ρ n vn) f))), some (.int (nI f)), some (.int 0), some (.int 0)] 48 dX4_contested_46 rfl rfl (zlt rfl) ?_
    refine kX4_contested_l2 l D ty b ρ n hn hc vn d k_ _ f _ K T ?_ 0 (Nat.zero_le _)
    refine zv_iload K 120 dX4_contested_118 rfl rfl ?_
    refine zv_iload K 122 dX4_contested_120 rfl rfl ?_
    refine zv_iconst K 1 123 dX4_contested_122 rfl (by decide) ?_
    refine zv_icmp_le K 130 126 dX4_contested_123 (by decide) rfl (fun he => ?_) (fun he => ?_)
    · skip
      refine zv_iconst K 0 131 dX4_contested_130 rfl (by decide) ?_
      refine zv_iadd K 132 dX4_contested_131 rfl ?_
      refine zv_topi (nI (zct (mcont ρ n vn) (f + 1))) (by rw [zct_f (decide_eq_false (fun z => z he))]; exact Int32.add_zero _) ?_
      refine zv_istore K [some (.ref (b 0)), some (.int vn), some (.int d), some (.int k_), some (.int (nI (zct (mcont ρ n vn) (f + 1)))), some (.int (nI f)), some (.int (nI (zct (movb ρ vn (nI f)) n))), some (.int (nI n))] 134 dX4_contested_132 rfl rfl (zlt rfl) ?_
      refine zv_iinc K (nI (f + 1)) [some (.ref (b 0)), some (.int vn), some (.int d), some (.int k_), some (.int (nI (zct (mcont ρ n vn) (f + 1)))), some (.int (nI (f + 1))), some (.int (nI (zct (movb ρ vn (nI f)) n))), some (.int (nI n))] 137 dX4_contested_134 rfl rfl (z_inc f) rfl ?_
      refine zv_goto K 35 dX4_contested_137 (by decide) ?_
      exact ih (f + 1) (by omega) (by omega) _ _
    · skip
      refine zv_iconst K 1 127 dX4_contested_126 rfl (by decide) ?_
      refine zv_goto K 131 dX4_contested_127 (by decide) ?_
      refine zv_iadd K 132 dX4_contested_131 rfl ?_
      refine zv_topi (nI (zct (mcont ρ n vn) (f + 1))) (by rw [zct_t (decide_eq_true he)]; exact nI_1 _) ?_
      refine zv_istore K [some (.ref (b 0)), some (.int vn), some (.int d), some (.int k_), some (.int (nI (zct (mcont ρ n vn) (f + 1)))), some (.int (nI f)), some (.int (nI (zct (movb ρ vn (nI f)) n))), some (.int (nI n))] 134 dX4_contested_132 rfl rfl (zlt rfl) ?_
      refine zv_iinc K (nI (f + 1)) [some (.ref (b 0)), some (.int vn), some (.int d), some (.int k_), some (.int (nI (zct (mcont ρ n vn) (f + 1)))), some (.int (nI (f + 1))), some (.int (nI (zct (movb ρ vn (nI f)) n))), some (.int (nI n))] 137 dX4_contested_134 rfl rfl (z_inc f) rfl ?_
      refine zv_goto K 35 dX4_contested_137 (by decide) ?_
      exact ih (f + 1) (by omega) (by omega) _ _

def fX4_contested (τ : zM) (n : Nat) (vn : Int32) (d : Int32) (k_ : Int32) : Int32 × zM :=
  if (0 ≤ vn ∧ vn ≤ 3) then
    if (0 ≤ d ∧ d ≤ 999) then
      if (0 ≤ k_ ∧ k_ ≤ 999) then
        (nI (zct (mcont (mgo τ n d k_) n vn) 60), (mgo τ n d k_))
      else
        ((-1), τ)
    else
      ((-1), τ)
  else
    ((-1), τ)
set_option maxHeartbeats 4000000 in
set_option maxRecDepth 100000 in
theorem kX4_contested (l : Launch) (D : va_G) (ty : zTy) (b : Nat → Nat) (τ : zM) (n : Nat) (hn : n ≤ 90) (hc : τ.1 3 = nI n) (hok : ∀ f, f < n → mok τ f) (vn d k_ : Int32) : zv_ct l D ty yX4_contested cX4_contested 8 (some .int) (zR 5 121) [.ref (b 0), .int vn, .int d, .int k_] (zm b ty τ) (fun v_ w_ => v_ = some (.int (fX4_contested τ n vn d k_).1) ∧ w_ = zm b ty (fX4_contested τ n vn d k_).2) := by
  refine zv_open (by decide) rfl rfl [some (.ref (b 0)), some (.int vn), some (.int d), some (.int k_), none, none, none, none] (by simp [zv_one, Value.category]) (zle rfl) rfl ?_
  intro k K T
  refine zv_iload_n K 1 dX4_contested_0 rfl rfl ?_
  refine zv_cS1 K (As := [.int vn]) (rest := []) 1 4 (kX4_isVein l D ty (zm b ty τ) vn) dX4_contested_1 rfl zw_3_58 zw_3_59 zw_1_5 zw_3_60 ⟨rfl, rfl⟩ zh_yX4_isVein ⟨by decide, by decide⟩ rfl rfl (zle rfl) rfl ?_
  refine zv_ifB_eq K 21 7 dX4_contested_4 (by decide) rfl (fun h1 => ?_) (fun h1 => ?_)
  · skip
    refine zv_iconst K (-1) 22 dX4_contested_21 rfl (by decide) ?_
    exact zv_iret K T dX4_contested_22 (⟨by simp only [fX4_contested, if_neg h1], by simp only [fX4_contested, if_neg h1]⟩)
  · skip
    refine zv_iload_n K 8 dX4_contested_7 rfl rfl ?_
    refine zv_cS1 K (As := [.int d]) (rest := []) 1 11 (kX4_isDay l D ty (zm b ty τ) d) dX4_contested_8 rfl zw_3_119 zw_3_120 zw_1_5 zw_3_121 ⟨rfl, rfl⟩ zh_yX4_isDay ⟨by decide, by decide⟩ rfl rfl (zle rfl) rfl ?_
    refine zv_ifB_eq K 21 14 dX4_contested_11 (by decide) rfl (fun h2 => ?_) (fun h2 => ?_)
    · skip
      refine zv_iconst K (-1) 22 dX4_contested_21 rfl (by decide) ?_
      exact zv_iret K T dX4_contested_22 (⟨by simp only [fX4_contested, if_pos h1, if_neg h2], by simp only [fX4_contested, if_pos h1, if_neg h2]⟩)
    · skip
      refine zv_iload_n K 15 dX4_contested_14 rfl rfl ?_
      refine zv_cS1 K (As := [.int k_]) (rest := []) 1 18 (kX4_isDay l D ty (zm b ty τ) k_) dX4_contested_15 rfl zw_3_119 zw_3_120 zw_1_5 zw_3_121 ⟨rfl, rfl⟩ zh_yX4_isDay ⟨by decide, by decide⟩ rfl rfl (zle rfl) rfl ?_
      refine zv_ifB_ne K 23 21 dX4_contested_18 (by decide) rfl (fun h3 => ?_) (fun h3 => ?_)
      · skip
        refine zv_aload_n K 24 dX4_contested_23 rfl rfl ?_
        refine zv_iload_n K 25 dX4_contested_24 rfl rfl ?_
        refine zv_iload_n K 26 dX4_contested_25 rfl rfl ?_
        refine zv_cV0 K (q0 := 0) (As := [.int d, .int k_]) (rest := []) 2 29 (kX4_go l D ty b τ n hn hc hok d k_) dX4_contested_26 rfl zw_3_122 zw_3_124 zw_p2_3 zw_1_5 zw_3_125 ⟨rfl, rfl⟩ zh_yX4_go ⟨by decide, by decide⟩ (zm_at (p := 0) (j := 0) rfl) rfl rfl rfl (zle rfl) rfl ?_
        refine zv_iconst K 0 30 dX4_contested_29 rfl (by decide) ?_
        refine zv_istore K [some (.ref (b 0)), some (.int vn), some (.int d), some (.int k_), some (.int 0), none, none, none] 32 dX4_contested_30 rfl rfl (zlt rfl) ?_
        refine zv_iconst K 0 33 dX4_contested_32 rfl (by decide) ?_
        refine zv_istore K [some (.ref (b 0)), some (.int vn), some (.int d), some (.int k_), some (.int 0), some (.int 0), none, none] 35 dX4_contested_33 rfl rfl (zlt rfl) ?_
        exact kX4_contested_l l D ty b (mgo τ n d k_) n hn (((mgo_fr τ n d k_).1 3).trans hc) vn d k_ K (by simpa only [fX4_contested, if_pos h1, if_pos h2, if_pos h3] using T) 0 (by decide) none none
      · skip
        refine zv_iconst K (-1) 22 dX4_contested_21 rfl (by decide) ?_
        exact zv_iret K T dX4_contested_22 (⟨by simp only [fX4_contested, if_pos h1, if_pos h2, if_neg h3], by simp only [fX4_contested, if_pos h1, if_pos h2, if_neg h3]⟩)

set_option maxHeartbeats 4000000 in
set_option maxRecDepth 100000 in
theorem kX4_changed_l2 (l : Launch) (D : va_G) (ty : zTy) (b : Nat → Nat) (ρ : zM) (n : Nat) (hn : n ≤ 90) (hc : ρ.1 3 = nI n) (x y z : Int32) {k : zKx} (K : zv_ok k l D (zR 5 121) cX4_changed 7 yX4_changed.cls ty) (T : zv_rt k (some .int) (fun v_ w_ => v_ = some (.int (nI (zct (mchg ρ n) 240))) ∧ w_ = zm b ty ρ)) : ∀ j : Nat, j ≤ 240 → ∀ o6 : Option Value, zv k 98 [some (.ref (b 0)), some (.int x), some (.int y), some (.int z), some (.int (nI (zct (mchg ρ n) j))), some (.int (nI j)), o6] [] (zm b ty ρ) := by
  refine z_wf (fun j : Nat => 240 - j) ?_
  intro j ih hj o6
  refine zv_iload K 100 dX4_changed_98 rfl rfl ?_
  refine zv_sipush K 240 103 dX4_changed_100 rfl (by decide) ?_
  refine zv_icmp_ge K 165 106 dX4_changed_103 (by decide) rfl (fun hb => ?_) (fun hb => ?_)
  · skip
    have e : j = 240 := by have := z_ge (c := 240) hb (by decide) (by omega); omega
    refine zv_iload K 167 dX4_changed_165 rfl rfl ?_
    exact zv_iret K T dX4_changed_167 (⟨by rw [e], rfl⟩)
  · skip
    have hlt : j < 240 := z_lt (c := 240) hb (by omega)
    refine zv_aload_n K 107 dX4_changed_106 rfl rfl ?_
    refine zv_iload K 109 dX4_changed_107 rfl rfl ?_
    refine zv_bipush K 60 111 dX4_changed_109 rfl (by decide) ?_
    refine zv_idiv K 112 dX4_changed_111 rfl (by decide) ?_
    refine zv_topi (nI (j / 60)) (zdiv60 hlt) ?_
    refine zv_iload K 114 dX4_changed_112 rfl rfl ?_
    refine zv_bipush K 60 116 dX4_changed_114 rfl (by decide) ?_
    refine zv_irem K 117 dX4_changed_116 rfl (by decide) ?_
    refine zv_topi (nI (j % 60)) (zrem60 hlt) ?_
    refine zv_cV1 K (q0 := 0) (As := [.int (nI (j / 60)), .int (nI (j % 60))]) (rest := []) 2 120 (kX4_ownerOf l D ty b ρ n hn hc (nI (j / 60)) (nI (j % 60))) dX4_changed_117 rfl zw_3_142 zw_3_144 zw_p2_8 zw_1_5 zw_3_145 ⟨rfl, rfl⟩ zh_yX4_ownerOf ⟨by decide, by decide⟩ (zm_at (p := 0) (j := 0) rfl) rfl rfl rfl (zle rfl) rfl ?_
    refine zv_istore K [some (.ref (b 0)), some (.int x), some (.int y), some (.int z), some (.int (nI (zct (mchg ρ n) j))), some (.int (nI j)), some (.int (mI (mow ρ (nI (j / 60)) (nI (j % 60)) n)))] 122 dX4_changed_120 rfl rfl (zlt rfl) ?_
    refine zv_iload K 124 dX4_changed_122 rfl rfl ?_
    refine zv_aload_n K 125 dX4_changed_124 rfl rfl ?_
    refine zm_get (v := .ref (b 30)) K 30 128 dX4_changed_125 rfl (by decide) zw_2_218 rfl ?_
    refine zv_iload K 130 dX4_changed_128 rfl rfl ?_
    refine zv_iald (F := ρ.2 30) K 25 j 131 dX4_changed_130 rfl (zm_at (p := 25) (j := 30) rfl) rfl hlt (by decide) ?_
    refine zv_iload K 133 dX4_changed_131 rfl rfl ?_
    refine zv_if_ge K 141 136 dX4_changed_133 (by decide) rfl (fun h2 => ?_) (fun h2 => ?_)
    · skip
      refine zv_aload_n K 142 dX4_changed_141 rfl rfl ?_
      refine zm_get (v := .ref (b 20)) K 20 145 dX4_changed_142 rfl (by decide) zw_2_208 rfl ?_
      refine zv_iload K 147 dX4_changed_145 rfl rfl ?_
      refine zv_iald (F := ρ.2 20) K 15 ((mow ρ (nI (j / 60)) (nI (j % 60)) n).getD 0) 148 dX4_changed_147 rfl (zm_at (p := 15) (j := 20) rfl) (mI_get (z_len h2)) (by have := mow_lt (mI_pos (z_len h2)); omega) (by decide) ?_
      refine zv_icmp_eq K 155 151 dX4_changed_148 (by decide) rfl (fun h3 => ?_) (fun h3 => ?_)
      · skip
        refine zv_iconst K 0 156 dX4_changed_155 rfl (by decide) ?_
        refine zv_iadd K 157 dX4_changed_156 rfl ?_
        refine zv_topi (nI (zct (mchg ρ n) (j + 1))) (by rw [zct_f (decide_eq_false (fun z => z (by unfold mhj; rw [mhold2_s (z_len h2)]; exact h3)))]; exact Int32.add_zero _) ?_
        refine zv_istore K [some (.ref (b 0)), some (.int x), some (.int y), some (.int z), some (.int (nI (zct (mchg ρ n) (j + 1)))), some (.int (nI j)), some (.int (mI (mow ρ (nI (j / 60)) (nI (j % 60)) n)))] 159 dX4_changed_157 rfl rfl (zlt rfl) ?_
        refine zv_iinc K (nI (j + 1)) [some (.ref (b 0)), some (.int x), some (.int y), some (.int z), some (.int (nI (zct (mchg ρ n) (j + 1)))), some (.int (nI (j + 1))), some (.int (mI (mow ρ (nI (j / 60)) (nI (j % 60)) n)))] 162 dX4_changed_159 rfl rfl (z_inc j) rfl ?_
        refine zv_goto K 98 dX4_changed_162 (by decide) ?_
        exact ih (j + 1) (by omega) (by omega) _
      · skip
        refine zv_iconst K 1 152 dX4_changed_151 rfl (by decide) ?_
        refine zv_goto K 156 dX4_changed_152 (by decide) ?_
        refine zv_iadd K 157 dX4_changed_156 rfl ?_
        refine zv_topi (nI (zct (mchg ρ n) (j + 1))) (by rw [zct_t (decide_eq_true (by unfold mhj; rw [mhold2_s (z_len h2)]; exact h3))]; exact nI_1 _) ?_
        refine zv_istore K [some (.ref (b 0)), some (.int x), some (.int y), some (.int z), some (.int (nI (zct (mchg ρ n) (j + 1)))), some (.int (nI j)), some (.int (mI (mow ρ (nI (j / 60)) (nI (j % 60)) n)))] 159 dX4_changed_157 rfl rfl (zlt rfl) ?_
        refine zv_iinc K (nI (j + 1)) [some (.ref (b 0)), some (.int x), some (.int y), some (.int z), some (.int (nI (zct (mchg ρ n) (j + 1)))), some (.int (nI (j + 1))), some (.int (mI (mow ρ (nI (j / 60)) (nI (j % 60)) n)))] 162 dX4_changed_159 rfl rfl (z_inc j) rfl ?_
        refine zv_goto K 98 dX4_changed_162 (by decide) ?_
        exact ih (j + 1) (by omega) (by omega) _
    · skip
      refine zv_bipush K (-4) 138 dX4_changed_136 rfl (by decide) ?_
      refine zv_goto K 148 dX4_changed_138 (by decide) ?_
      refine zv_icmp_eq K 155 151 dX4_changed_148 (by decide) rfl (fun h4 => ?_) (fun h4 => ?_)
      · skip
        refine zv_iconst K 0 156 dX4_changed_155 rfl (by decide) ?_
        refine zv_iadd K 157 dX4_changed_156 rfl ?_
        refine zv_topi (nI (zct (mchg ρ n) (j + 1))) (by rw [zct_f (decide_eq_false (fun z => z (by unfold mhj; rw [mhold2_n hn (z_nle h2)]; exact h4)))]; exact Int32.add_zero _) ?_
        refine zv_istore K [some (.ref (b 0)), some (.int x), some (.int y), some (.int z), some (.int (nI (zct (mchg ρ n) (j + 1)))), some (.int (nI j)), some (.int (mI (mow ρ (nI (j / 60)) (nI (j % 60)) n)))] 159 dX4_changed_157 rfl rfl (zlt rfl) ?_
        refine zv_iinc K (nI (j + 1)) [some (.ref (b 0)), some (.int x), some (.int y), some (.int z), some (.int (nI (zct (mchg ρ n) (j + 1)))), some (.int (nI (j + 1))), some (.int (mI (mow ρ (nI (j / 60)) (nI (j % 60)) n)))] 162 dX4_changed_159 rfl rfl (z_inc j) rfl ?_
        refine zv_goto K 98 dX4_changed_162 (by decide) ?_
        exact ih (j + 1) (by omega) (by omega) _
      · skip
        refine zv_iconst K 1 152 dX4_changed_151 rfl (by decide) ?_
        refine zv_goto K 156 dX4_changed_152 (by decide) ?_
        refine zv_iadd K 157 dX4_changed_156 rfl ?_
        refine zv_topi (nI (zct (mchg ρ n) (j + 1))) (by rw [zct_t (decide_eq_true (by unfold mhj; rw [mhold2_n hn (z_nle h2)]; exact h4))]; exact nI_1 _) ?_
        refine zv_istore K [some (.ref (b 0)), some (.int x), some (.int y), some (.int z), some (.int (nI (zct (mchg ρ n) (j + 1)))), some (.int (nI j)), some (.int (mI (mow ρ (nI (j / 60)) (nI (j % 60)) n)))] 159 dX4_changed_157 rfl rfl (zlt rfl) ?_
        refine zv_iinc K (nI (j + 1)) [some (.ref (b 0)), some (.int x), some (.int y), some (.int z), some (.int (nI (zct (mchg ρ n) (j + 1)))), some (.int (nI (j + 1))), some (.int (mI (mow ρ (nI (j / 60)) (nI (j % 60)) n)))] 162 dX4_changed_159 rfl rfl (z_inc j) rfl ?_
        refine zv_goto K 98 dX4_changed_162 (by decide) ?_
        exact ih (j + 1) (by omega) (by omega) _

def mN (ρ : zM) (n : Nat) : zM := zmFa ρ 30 (mhN ρ n 240 (ρ.2 30))
theorem mfr_N (ρ : zM) (n : Nat) : mfr ρ (mN ρ n) := mfr_Fa (by decide) _
set_option maxHeartbeats 4000000 in
set_option maxRecDepth 100000 in
theorem kX4_changed_l (l : Launch) (D : va_G) (ty : zTy) (b : Nat → Nat) (ρ : zM) (n : Nat) (hn : n ≤ 90) (hc : ρ.1 3 = nI n) (hok : ∀ f, f < n → mok ρ f) (x y z : Int32) {k : zKx} (K : zv_ok k l D (zR 5 121) cX4_changed 7 yX4_changed.cls ty) (T : zv_rt k (some .int) (fun v_ w_ => v_ = some (.int (nI (zct (mchg (mgo (mN ρ n) n x z) n) 240))) ∧ w_ = zm b ty (mgo (mN ρ n) n x z))) : ∀ j : Nat, j ≤ 240 → ∀ o5 : Option Value, zv k 32 [some (.ref (b 0)), some (.int x), some (.int y), some (.int z), some (.int (nI j)), o5, none] [] (zm b ty (zmFa ρ 30 (mhN ρ n j (ρ.2 30)))) := by
  refine z_wf (fun j : Nat => 240 - j) ?_
  intro j ih hj o5
  refine zv_iload K 34 dX4_changed_32 rfl rfl ?_
  refine zv_sipush K 240 37 dX4_changed_34 rfl (by decide) ?_
  refine zv_icmp_ge K 86 40 dX4_changed_37 (by decide) rfl (fun hb => ?_) (fun hb => ?_)
  · skip
    have e : j = 240 := by have := z_ge (c := 240) hb (by decide) (by omega); omega
    subst e
    refine zv_ws (ws2 := zm b ty (mN ρ n)) rfl ?_
    refine zv_aload_n K 87 dX4_changed_86 rfl rfl ?_
    refine zv_iload_n K 88 dX4_changed_87 rfl rfl ?_
    refine zv_iload_n K 89 dX4_changed_88 rfl rfl ?_
    refine zv_cV0 K (q0 := 0) (As := [.int x, .int z]) (rest := []) 2 92 (kX4_go l D ty b (mN ρ n) n hn (((mfr_N ρ n).1 3).trans hc) (fun f hf => (hok f hf).fr (mfr_N ρ n)) x z) dX4_changed_89 rfl zw_3_122 zw_3_124 zw_p2_3 zw_1_5 zw_3_125 ⟨rfl, rfl⟩ zh_yX4_go ⟨by decide, by decide⟩ (zm_at (p := 0) (j := 0) rfl) rfl rfl rfl (zle rfl) rfl ?_
    refine zv_iconst K 0 93 dX4_changed_92 rfl (by decide) ?_
    refine zv_istore K [some (.ref (b 0)), some (.int x), some (.int y), some (.int z), some (.int 0), o5, none] 95 dX4_changed_93 rfl rfl (zlt rfl) ?_
    refine zv_iconst K 0 96 dX4_changed_95 rfl (by decide) ?_
    refine zv_istore K [some (.ref (b 0)), some (.int x), some (.int y), some (.int z), some (.int 0), some (.int 0), none] 98 dX4_changed_96 rfl rfl (zlt rfl) ?_
    exact kX4_changed_l2 l D ty b (mgo (mN ρ n) n x z) n hn (((mgo_fr (mN ρ n) n x z).1 3).trans (((mfr_N ρ n).1 3).trans hc)) x y z K T 0 (by decide) none
  · skip
    have hlt : j < 240 := z_lt (c := 240) hb (by omega)
    refine zv_aload_n K 41 dX4_changed_40 rfl rfl ?_
    refine zv_iload K 43 dX4_changed_41 rfl rfl ?_
    refine zv_bipush K 60 45 dX4_changed_43 rfl (by decide) ?_
    refine zv_idiv K 46 dX4_changed_45 rfl (by decide) ?_
    refine zv_topi (nI (j / 60)) (zdiv60 hlt) ?_
    refine zv_iload K 48 dX4_changed_46 rfl rfl ?_
    refine zv_bipush K 60 50 dX4_changed_48 rfl (by decide) ?_
    refine zv_irem K 51 dX4_changed_50 rfl (by decide) ?_
    refine zv_topi (nI (j % 60)) (zrem60 hlt) ?_
    refine zv_cV1 K (q0 := 0) (As := [.int (nI (j / 60)), .int (nI (j % 60))]) (rest := []) 2 54 (kX4_ownerOf l D ty b (zmFa ρ 30 (mhN ρ n j (ρ.2 30))) n hn hc (nI (j / 60)) (nI (j % 60))) dX4_changed_51 rfl zw_3_142 zw_3_144 zw_p2_8 zw_1_5 zw_3_145 ⟨rfl, rfl⟩ zh_yX4_ownerOf ⟨by decide, by decide⟩ (zm_at (p := 0) (j := 0) rfl) rfl rfl rfl (zle rfl) rfl ?_
    refine zv_istore K [some (.ref (b 0)), some (.int x), some (.int y), some (.int z), some (.int (nI j)), some (.int (mI (mow (zmFa ρ 30 (mhN ρ n j (ρ.2 30))) (nI (j / 60)) (nI (j % 60)) n))), none] 56 dX4_changed_54 rfl rfl (zlt rfl) ?_
    refine zv_aload_n K 57 dX4_changed_56 rfl rfl ?_
    refine zm_get (v := .ref (b 30)) K 30 60 dX4_changed_57 rfl (by decide) zw_2_218 rfl ?_
    refine zv_iload K 62 dX4_changed_60 rfl rfl ?_
    refine zv_iload K 64 dX4_changed_62 rfl rfl ?_
    refine zv_if_ge K 72 67 dX4_changed_64 (by decide) rfl (fun h2 => ?_) (fun h2 => ?_)
    · skip
      refine zv_aload_n K 73 dX4_changed_72 rfl rfl ?_
      refine zm_get (v := .ref (b 20)) K 20 76 dX4_changed_73 rfl (by decide) zw_2_208 rfl ?_
      refine zv_iload K 78 dX4_changed_76 rfl rfl ?_
      refine zv_iald (F := ρ.2 20) K 15 ((mow (zmFa ρ 30 (mhN ρ n j (ρ.2 30))) (nI (j / 60)) (nI (j % 60)) n).getD 0) 79 dX4_changed_78 rfl (zm_at (p := 15) (j := 20) rfl) (mI_get (z_len h2)) (by have := mow_lt (mI_pos (z_len h2)); omega) (by decide) ?_
      refine zv_topi (mhj ρ n j) (by unfold mhj; rw [← mhold2_30 ρ (mhN ρ n j (ρ.2 30)), mhold2_s (z_len h2)]; try rfl) ?_
      refine zv_iast K 25 j 80 (zm b ty (zmF (zmFa ρ 30 (mhN ρ n j (ρ.2 30))) 30 j (mhj ρ n j))) dX4_changed_79 rfl (zm_at (p := 25) (j := 30) rfl) rfl hlt (by decide) (zm_F 30 j rfl (by decide) rfl) ?_
      refine zv_iinc K (nI (j + 1)) [some (.ref (b 0)), some (.int x), some (.int y), some (.int z), some (.int (nI (j + 1))), some (.int (mI (mow (zmFa ρ 30 (mhN ρ n j (ρ.2 30))) (nI (j / 60)) (nI (j % 60)) n))), none] 83 dX4_changed_80 rfl rfl (z_inc j) rfl ?_
      refine zv_goto K 32 dX4_changed_83 (by decide) ?_
      refine zv_ws (congrArg (zm b ty) ((zmF_Fa ρ 30 j _ _).trans (congrArg (zmFa ρ 30) (mhN_s ρ n j (ρ.2 30))))) ?_
      exact ih (j + 1) (by omega) (by omega) _
    · skip
      refine zv_bipush K (-4) 69 dX4_changed_67 rfl (by decide) ?_
      refine zv_goto K 79 dX4_changed_69 (by decide) ?_
      refine zv_topi (mhj ρ n j) (by unfold mhj; rw [← mhold2_30 ρ (mhN ρ n j (ρ.2 30)), mhold2_n hn (z_nle h2)]; try rfl) ?_
      refine zv_iast K 25 j 80 (zm b ty (zmF (zmFa ρ 30 (mhN ρ n j (ρ.2 30))) 30 j (mhj ρ n j))) dX4_changed_79 rfl (zm_at (p := 25) (j := 30) rfl) rfl hlt (by decide) (zm_F 30 j rfl (by decide) rfl) ?_
      refine zv_iinc K (nI (j + 1)) [some (.ref (b 0)), some (.int x), some (.int y), some (.int z), some (.int (nI (j + 1))), some (.int (mI (mow (zmFa ρ 30 (mhN ρ n j (ρ.2 30))) (nI (j / 60)) (nI (j % 60)) n))), none] 83 dX4_changed_80 rfl rfl (z_inc j) rfl ?_
      refine zv_goto K 32 dX4_changed_83 (by decide) ?_
      refine zv_ws (congrArg (zm b ty) ((zmF_Fa ρ 30 j _ _).trans (congrArg (zmFa ρ 30) (mhN_s ρ n j (ρ.2 30))))) ?_
      exact ih (j + 1) (by omega) (by omega) _

def fX4_changed (τ : zM) (n : Nat) (x : Int32) (y : Int32) (z : Int32) : Int32 × zM :=
  if (0 ≤ x ∧ x ≤ 999) then
    if (0 ≤ y ∧ y ≤ 999) then
      if (0 ≤ z ∧ z ≤ 999) then
        (nI (zct (mchg (mgo (mN (mgo τ n x y) n) n x z) n) 240), (mgo (mN (mgo τ n x y) n) n x z))
      else
        ((-1), τ)
    else
      ((-1), τ)
  else
    ((-1), τ)
set_option maxHeartbeats 4000000 in
set_option maxRecDepth 100000 in
theorem kX4_changed (l : Launch) (D : va_G) (ty : zTy) (b : Nat → Nat) (τ : zM) (n : Nat) (hn : n ≤ 90) (hc : τ.1 3 = nI n) (hok : ∀ f, f < n → mok τ f) (x y z : Int32) : zv_ct l D ty yX4_changed cX4_changed 7 (some .int) (zR 5 121) [.ref (b 0), .int x, .int y, .int z] (zm b ty τ) (fun v_ w_ => v_ = some (.int (fX4_changed τ n x y z).1) ∧ w_ = zm b ty (fX4_changed τ n x y z).2) := by
  refine zv_open (by decide) rfl rfl [some (.ref (b 0)), some (.int x), some (.int y), some (.int z), none, none, none] (by simp [zv_one, Value.category]) (zle rfl) rfl ?_
  intro k K T
  refine zv_iload_n K 1 dX4_changed_0 rfl rfl ?_
  refine zv_cS1 K (As := [.int x]) (rest := []) 1 4 (kX4_isDay l D ty (zm b ty τ) x) dX4_changed_1 rfl zw_3_119 zw_3_120 zw_1_5 zw_3_121 ⟨rfl, rfl⟩ zh_yX4_isDay ⟨by decide, by decide⟩ rfl rfl (zle rfl) rfl ?_
  refine zv_ifB_eq K 21 7 dX4_changed_4 (by decide) rfl (fun h1 => ?_) (fun h1 => ?_)
  · skip
    refine zv_iconst K (-1) 22 dX4_changed_21 rfl (by decide) ?_
    exact zv_iret K T dX4_changed_22 (⟨by simp only [fX4_changed, if_neg h1], by simp only [fX4_changed, if_neg h1]⟩)
  · skip
    refine zv_iload_n K 8 dX4_changed_7 rfl rfl ?_
    refine zv_cS1 K (As := [.int y]) (rest := []) 1 11 (kX4_isDay l D ty (zm b ty τ) y) dX4_changed_8 rfl zw_3_119 zw_3_120 zw_1_5 zw_3_121 ⟨rfl, rfl⟩ zh_yX4_isDay ⟨by decide, by decide⟩ rfl rfl (zle rfl) rfl ?_
    refine zv_ifB_eq K 21 14 dX4_changed_11 (by decide) rfl (fun h2 => ?_) (fun h2 => ?_)
    · skip
      refine zv_iconst K (-1) 22 dX4_changed_21 rfl (by decide) ?_
      exact zv_iret K T dX4_changed_22 (⟨by simp only [fX4_changed, if_pos h1, if_neg h2], by simp only [fX4_changed, if_pos h1, if_neg h2]⟩)
    · skip
      refine zv_iload_n K 15 dX4_changed_14 rfl rfl ?_
      refine zv_cS1 K (As := [.int z]) (rest := []) 1 18 (kX4_isDay l D ty (zm b ty τ) z) dX4_changed_15 rfl zw_3_119 zw_3_120 zw_1_5 zw_3_121 ⟨rfl, rfl⟩ zh_yX4_isDay ⟨by decide, by decide⟩ rfl rfl (zle rfl) rfl ?_
      refine zv_ifB_ne K 23 21 dX4_changed_18 (by decide) rfl (fun h3 => ?_) (fun h3 => ?_)
      · skip
        refine zv_aload_n K 24 dX4_changed_23 rfl rfl ?_
        refine zv_iload_n K 25 dX4_changed_24 rfl rfl ?_
        refine zv_iload_n K 26 dX4_changed_25 rfl rfl ?_
        refine zv_cV0 K (q0 := 0) (As := [.int x, .int y]) (rest := []) 2 29 (kX4_go l D ty b τ n hn hc hok x y) dX4_changed_26 rfl zw_3_122 zw_3_124 zw_p2_3 zw_1_5 zw_3_125 ⟨rfl, rfl⟩ zh_yX4_go ⟨by decide, by decide⟩ (zm_at (p := 0) (j := 0) rfl) rfl rfl rfl (zle rfl) rfl ?_
        refine zv_iconst K 0 30 dX4_changed_29 rfl (by decide) ?_
        refine zv_istore K [some (.ref (b 0)), some (.int x), some (.int y), some (.int z), some (.int 0), none, none] 32 dX4_changed_30 rfl rfl (zlt rfl) ?_
        refine zv_ws (congrArg (zm b ty) (show (mgo τ n x y) = zmFa (mgo τ n x y) 30 (mhN (mgo τ n x y) n 0 ((mgo τ n x y).2 30)) by rw [mhN_0]; exact (zmFa_self _ 30).symm)) ?_
        exact kX4_changed_l l D ty b (mgo τ n x y) n hn (((mgo_fr τ n x y).1 3).trans hc) (fun f hf => (hok f hf).fr (mgo_fr τ n x y)) x y z K (by simpa only [fX4_changed, if_pos h1, if_pos h2, if_pos h3] using T) 0 (by decide) none
      · skip
        refine zv_iconst K (-1) 22 dX4_changed_21 rfl (by decide) ?_
        exact zv_iret K T dX4_changed_22 (⟨by simp only [fX4_changed, if_pos h1, if_pos h2, if_neg h3], by simp only [fX4_changed, if_pos h1, if_pos h2, if_neg h3]⟩)

