/-- a claim's feet are feet -/
def zft (σ : zC) (q : Nat) : Prop := ∃ p l : Nat, σ.1 (q + 11) 3 = nI p ∧ σ.1 (q + 11) 4 = nI l ∧ p ≤ l ∧ l < 60
theorem zft.is {σ : zC} {q : Nat} (h : zft σ q) : σ.1 (q + 11) 3 = nI (σ.1 (q + 11) 3).toNatClampNeg ∧ σ.1 (q + 11) 4 = nI (σ.1 (q + 11) 4).toNatClampNeg ∧ (σ.1 (q + 11) 3).toNatClampNeg ≤ (σ.1 (q + 11) 4).toNatClampNeg ∧ (σ.1 (q + 11) 4).toNatClampNeg < 60 := by
  obtain ⟨p, l, h1, h2, h3, h4⟩ := h
  rw [h1, h2, nI_clamp (by omega), nI_clamp (by omega)]
  exact ⟨rfl, rfl, h3, h4⟩
def fX3_tellOf (σ : zC) (c : Nat) (q0 : Nat) (x : Int32) (d : Int32) : Int32 :=
  if x = 0 then
    (σ.1 (q0 + 11) 5)
  else
    if x = 1 then
      (σ.1 (q0 + 11) 3)
    else
      if x = 2 then
        (σ.1 (q0 + 11) 4)
      else
        if x = 3 then
          (σ.1 (q0 + 11) 6)
        else
          if x = 4 then
            if ((σ.1 0 4) < d - ((σ.1 (q0 + 11)) 6)) then
              1
            else
              0
          else
            if x = 5 then
              (σ.1 (q0 + 11) 7)
            else
              (nI (zct (zownb σ c q0 (σ.1 (q0 + 11) 3).toNatClampNeg) ((σ.1 (q0 + 11) 4).toNatClampNeg + 1)))
set_option maxHeartbeats 4000000 in
set_option maxRecDepth 100000 in
theorem kX3_tellOf (l : Launch) (D : va_G) (ty : zTy) (a : Nat → Nat) (σ : zC) (c : Nat) (hc : σ.1 3 0 = nI c) (hc20 : c ≤ 20) (q0 : Nat) (hq0 : q0 < 20) (hft : zft σ q0) (x d : Int32) : zv_ct l D ty yX3_tellOf cX3_tellOf 4 (some .int) (zR 4 91) [.ref (a 0), .ref (a (q0 + 11)), .int x, .int d] (zc a ty σ) (fun v_ w_ => v_ = some (.int (fX3_tellOf σ c q0 x d)) ∧ w_ = zc a ty σ) := by
  refine zv_open (by decide) rfl rfl [some (.ref (a 0)), some (.ref (a (q0 + 11))), some (.int x), some (.int d)] (by simp [zv_one, Value.category]) (zle rfl) rfl ?_
  intro k K T
  refine zv_iload_n K 1 dX3_tellOf_0 rfl rfl ?_
  by_cases e_0 : x = 0
  · refine zv_tableIn (off := 39) K 40 dX3_tellOf_1 (by rw [e_0]; decide) (by rw [e_0]; decide) (by rw [e_0]; rfl) (by decide) ?_
    refine zv_aload_n K 41 dX3_tellOf_40 rfl rfl ?_
    refine zv_getN (v := .int (σ.1 (q0 + 11) 5)) (C := RX1) (T := TX1) (N := 12) K (q0 + 11) 5 44 dX3_tellOf_41 rfl zy_X1 (zc_cl hq0) rfl (by decide) zn_16 rfl ?_
    exact zv_iret K T dX3_tellOf_44 (⟨by simp only [fX3_tellOf, if_pos e_0], rfl⟩)
  · skip
    by_cases e_1 : x = 1
    · refine zv_tableIn (off := 44) K 45 dX3_tellOf_1 (by rw [e_1]; decide) (by rw [e_1]; decide) (by rw [e_1]; rfl) (by decide) ?_
      refine zv_aload_n K 46 dX3_tellOf_45 rfl rfl ?_
      refine zv_getN (v := .int (σ.1 (q0 + 11) 3)) (C := RX1) (T := TX1) (N := 12) K (q0 + 11) 3 49 dX3_tellOf_46 rfl zy_X1 (zc_cl hq0) rfl (by decide) zn_12 rfl ?_
      exact zv_iret K T dX3_tellOf_49 (⟨by simp only [fX3_tellOf, if_neg e_0, if_pos e_1], rfl⟩)
    · skip
      by_cases e_2 : x = 2
      · refine zv_tableIn (off := 49) K 50 dX3_tellOf_1 (by rw [e_2]; decide) (by rw [e_2]; decide) (by rw [e_2]; rfl) (by decide) ?_
        refine zv_aload_n K 51 dX3_tellOf_50 rfl rfl ?_
        refine zv_getN (v := .int (σ.1 (q0 + 11) 4)) (C := RX1) (T := TX1) (N := 12) K (q0 + 11) 4 54 dX3_tellOf_51 rfl zy_X1 (zc_cl hq0) rfl (by decide) zn_14 rfl ?_
        exact zv_iret K T dX3_tellOf_54 (⟨by simp only [fX3_tellOf, if_neg e_0, if_neg e_1, if_pos e_2], rfl⟩)
      · skip
        by_cases e_3 : x = 3
        · refine zv_tableIn (off := 54) K 55 dX3_tellOf_1 (by rw [e_3]; decide) (by rw [e_3]; decide) (by rw [e_3]; rfl) (by decide) ?_
          refine zv_aload_n K 56 dX3_tellOf_55 rfl rfl ?_
          refine zv_getN (v := .int (σ.1 (q0 + 11) 6)) (C := RX1) (T := TX1) (N := 12) K (q0 + 11) 6 59 dX3_tellOf_56 rfl zy_X1 (zc_cl hq0) rfl (by decide) zn_17 rfl ?_
          exact zv_iret K T dX3_tellOf_59 (⟨by simp only [fX3_tellOf, if_neg e_0, if_neg e_1, if_neg e_2, if_pos e_3], rfl⟩)
        · skip
          by_cases e_4 : x = 4
          · refine zv_tableIn (off := 59) K 60 dX3_tellOf_1 (by rw [e_4]; decide) (by rw [e_4]; decide) (by rw [e_4]; rfl) (by decide) ?_
            refine zv_aload_n K 61 dX3_tellOf_60 rfl rfl ?_
            refine zv_iload_n K 62 dX3_tellOf_61 rfl rfl ?_
            refine zv_aload_n K 63 dX3_tellOf_62 rfl rfl ?_
            refine zv_get (v := .int (σ.1 0 4)) (C := RX3) (T := TX3) (N := 7) K 0 4 66 dX3_tellOf_63 rfl zy_X3 (zc_at (j := 0) (by decide)) rfl (by decide) zw_1_123 rfl ?_
            refine zv_ws (congrArg (zc a ty) (zCl_self σ q0).symm) ?_
            refine zv_cV1 K (q0 := (q0 + 11)) (As := [.int d, .int (σ.1 0 4)]) (rest := []) 2 69 (kX1_isIdle l D ty a σ q0 hq0 (σ.1 (q0 + 11)) (σ.2 (q0 + 31)) d (σ.1 0 4)) dX3_tellOf_66 rfl zw_2_122 zw_2_93 zw_2_94 zw_1_4 zw_2_95 ⟨rfl, rfl⟩ zh_yX1_isIdle ⟨by decide, by decide⟩ (zk_at hq0) rfl rfl rfl (zle rfl) rfl ?_
            refine zv_ws (congrArg (zc a ty) (zCl_self σ q0)) ?_
            refine zv_ifB_eq K 76 72 dX3_tellOf_69 (by decide) rfl (fun h1 => ?_) (fun h1 => ?_)
            · skip
              refine zv_iconst K 0 77 dX3_tellOf_76 rfl (by decide) ?_
              exact zv_iret K T dX3_tellOf_77 (⟨by simp only [fX3_tellOf, if_neg e_0, if_neg e_1, if_neg e_2, if_neg e_3, if_pos e_4, if_neg h1], rfl⟩)
            · skip
              refine zv_iconst K 1 73 dX3_tellOf_72 rfl (by decide) ?_
              refine zv_goto K 77 dX3_tellOf_73 (by decide) ?_
              exact zv_iret K T dX3_tellOf_77 (⟨by simp only [fX3_tellOf, if_neg e_0, if_neg e_1, if_neg e_2, if_neg e_3, if_pos e_4, if_pos h1], rfl⟩)
          · skip
            by_cases e_5 : x = 5
            · refine zv_tableIn (off := 77) K 78 dX3_tellOf_1 (by rw [e_5]; decide) (by rw [e_5]; decide) (by rw [e_5]; rfl) (by decide) ?_
              refine zv_aload_n K 79 dX3_tellOf_78 rfl rfl ?_
              refine zv_getN (v := .int (σ.1 (q0 + 11) 7)) (C := RX1) (T := TX1) (N := 12) K (q0 + 11) 7 82 dX3_tellOf_79 rfl zy_X1 (zc_cl hq0) rfl (by decide) zn_18 rfl ?_
              exact zv_iret K T dX3_tellOf_82 (⟨by simp only [fX3_tellOf, if_neg e_0, if_neg e_1, if_neg e_2, if_neg e_3, if_neg e_4, if_pos e_5], rfl⟩)
            · skip
              refine zv_tableOut K 83 dX3_tellOf_1 (by have n_0 := lv_neT e_0 (a := 0) rfl; have n_1 := lv_neT e_1 (a := 1) rfl; have n_2 := lv_neT e_2 (a := 2) rfl; have n_3 := lv_neT e_3 (a := 3) rfl; have n_4 := lv_neT e_4 (a := 4) rfl; have n_5 := lv_neT e_5 (a := 5) rfl; omega) (by decide) ?_
              refine zv_aload_n K 84 dX3_tellOf_83 rfl rfl ?_
              refine zv_get (v := .ref (a 3)) (C := RX3) (T := TX3) (N := 7) K 0 5 87 dX3_tellOf_84 rfl zy_X3 (zc_at (j := 0) (by decide)) rfl (by decide) zw_1_124 rfl ?_
              refine zv_aload_n K 88 dX3_tellOf_87 rfl rfl ?_
              refine zv_cV1 K (q0 := 3) (As := [.ref (a (q0 + 11))]) (rest := []) 1 91 (kX2_countOwned l D ty a σ c hc hc20 q0 (σ.1 (q0 + 11) 3).toNatClampNeg (σ.1 (q0 + 11) 4).toNatClampNeg hq0 hft.is.1 hft.is.2.1 hft.is.2.2.1 hft.is.2.2.2) dX3_tellOf_88 rfl zw_2_123 zw_2_124 zw_2_125 zw_1_3 zw_2_126 ⟨rfl, rfl⟩ zh_yX2_countOwned ⟨by decide, by decide⟩ (zc_at (j := 3) (by decide)) rfl rfl rfl (zle rfl) rfl ?_
              exact zv_iret K T dX3_tellOf_91 (⟨by simp only [fX3_tellOf, if_neg e_0, if_neg e_1, if_neg e_2, if_neg e_3, if_neg e_4, if_neg e_5], rfl⟩)

def fX3_owner (σ : zC) (O : Nat → Nat) (n : Nat) (vn : Int32) (ft : Int32) (d : Int32) (k_ : Int32) : Int32 × zC :=
  if (0 ≤ vn ∧ vn ≤ 3) then
    if (0 ≤ ft ∧ ft ≤ 59) then
      if ((0 ≤ d ∧ d ≤ 999) ∧ (0 ≤ k_ ∧ k_ ≤ 999)) then
        (zhold (zQ σ O n d k_) (zcn (zQ σ O n d k_)) vn ft, (zQ σ O n d k_))
      else
        ((-1), σ)
    else
      ((-1), σ)
  else
    ((-1), σ)
set_option maxHeartbeats 4000000 in
set_option maxRecDepth 100000 in
theorem kX3_owner (l : Launch) (D : va_G) (ty : zTy) (a : Nat → Nat) (σ : zC) (O : Nat → Nat) (n : Nat) (hI : zI σ O n) (vn ft d k_ : Int32) : zv_ct l D ty yX3_owner cX3_owner 5 (some .int) (zR 7 165) [.ref (a 0), .int vn, .int ft, .int d, .int k_] (zc a ty σ) (fun v_ w_ => v_ = some (.int (fX3_owner σ O n vn ft d k_).1) ∧ w_ = zc a ty (fX3_owner σ O n vn ft d k_).2) := by
  refine zv_open (by decide) rfl rfl [some (.ref (a 0)), some (.int vn), some (.int ft), some (.int d), some (.int k_)] (by simp [zv_one, Value.category]) (zle rfl) rfl ?_
  intro k K T
  refine zv_iload_n K 1 dX3_owner_0 rfl rfl ?_
  refine zv_cS1 K (As := [.int vn]) (rest := []) 1 4 (kX3_isVein l D ty (zc a ty σ) vn) dX3_owner_1 rfl zw_1_160 zw_1_161 zw_1_1 zw_1_162 ⟨rfl, rfl⟩ zh_yX3_isVein ⟨by decide, by decide⟩ rfl rfl (zle rfl) rfl ?_
  refine zv_ifB_eq K 23 7 dX3_owner_4 (by decide) rfl (fun h1 => ?_) (fun h1 => ?_)
  · skip
    refine zv_iconst K (-1) 24 dX3_owner_23 rfl (by decide) ?_
    exact zv_iret K T dX3_owner_24 (⟨by simp only [fX3_owner, if_neg h1], by simp only [fX3_owner, if_neg h1]⟩)
  · skip
    refine zv_iload_n K 8 dX3_owner_7 rfl rfl ?_
    refine zv_cS1 K (As := [.int ft]) (rest := []) 1 11 (kX3_isFoot l D ty (zc a ty σ) ft) dX3_owner_8 rfl zw_1_163 zw_1_164 zw_1_1 zw_1_165 ⟨rfl, rfl⟩ zh_yX3_isFoot ⟨by decide, by decide⟩ rfl rfl (zle rfl) rfl ?_
    refine zv_ifB_eq K 23 14 dX3_owner_11 (by decide) rfl (fun h2 => ?_) (fun h2 => ?_)
    · skip
      refine zv_iconst K (-1) 24 dX3_owner_23 rfl (by decide) ?_
      exact zv_iret K T dX3_owner_24 (⟨by simp only [fX3_owner, if_pos h1, if_neg h2], by simp only [fX3_owner, if_pos h1, if_neg h2]⟩)
    · skip
      refine zv_iload_n K 15 dX3_owner_14 rfl rfl ?_
      refine zv_iload K 17 dX3_owner_15 rfl rfl ?_
      refine zv_cS1 K (As := [.int d, .int k_]) (rest := []) 2 20 (kX3_areDays l D ty (zc a ty σ) d k_) dX3_owner_17 rfl zw_2_18 zw_2_19 zw_1_1 zw_2_20 ⟨rfl, rfl⟩ zh_yX3_areDays ⟨by decide, by decide⟩ rfl rfl (zle rfl) rfl ?_
      refine zv_ifB_ne K 25 23 dX3_owner_20 (by decide) rfl (fun h3 => ?_) (fun h3 => ?_)
      · skip
        refine zv_aload_n K 26 dX3_owner_25 rfl rfl ?_
        refine zv_iload_n K 27 dX3_owner_26 rfl rfl ?_
        refine zv_iload K 29 dX3_owner_27 rfl rfl ?_
        refine zv_cV0 K (q0 := 0) (As := [.int d, .int k_]) (rest := []) 2 32 (kX3_goThrough l D ty a σ O n hI d k_) dX3_owner_29 rfl zw_2_24 zw_2_26 zw_p1_3 zw_1_1 zw_2_27 ⟨rfl, rfl⟩ zh_yX3_goThrough ⟨by decide, by decide⟩ (zc_at (j := 0) (by decide)) rfl rfl rfl (zle rfl) rfl ?_
        refine zv_aload_n K 33 dX3_owner_32 rfl rfl ?_
        refine zv_get (v := .ref (a 3)) (C := RX3) (T := TX3) (N := 7) K 0 5 36 dX3_owner_33 rfl zy_X3 (zc_at (j := 0) (by decide)) rfl (by decide) zw_1_124 rfl ?_
        refine zv_iload_n K 37 dX3_owner_36 rfl rfl ?_
        refine zv_iload_n K 38 dX3_owner_37 rfl rfl ?_
        refine zv_cV1 K (q0 := 3) (As := [.int vn, .int ft]) (rest := []) 2 41 (kX2_holderOver l D ty a (zQ σ O n d k_) (zcn (zQ σ O n d k_)) (zQ_c σ O n d k_).1 (zQ_c σ O n d k_).2 vn ft) dX3_owner_38 rfl zw_2_104 zw_2_105 zw_2_106 zw_1_3 zw_2_107 ⟨rfl, rfl⟩ zh_yX2_holderOver ⟨by decide, by decide⟩ (zc_at (j := 3) (by decide)) rfl rfl rfl (zle rfl) rfl ?_
        exact zv_iret K T dX3_owner_41 (⟨by simp only [fX3_owner, if_pos h1, if_pos h2, if_pos h3], by simp only [fX3_owner, if_pos h1, if_pos h2, if_pos h3]⟩)
      · skip
        refine zv_iconst K (-1) 24 dX3_owner_23 rfl (by decide) ?_
        exact zv_iret K T dX3_owner_24 (⟨by simp only [fX3_owner, if_pos h1, if_pos h2, if_neg h3], by simp only [fX3_owner, if_pos h1, if_pos h2, if_neg h3]⟩)

def fX3_claim (σ : zC) (O : Nat → Nat) (n : Nat) (vn : Int32) (ft : Int32) (d : Int32) (k_ : Int32) : Int32 × zC :=
  if (0 ≤ vn ∧ vn ≤ 3) then
    if (0 ≤ ft ∧ ft ≤ 59) then
      if ((0 ≤ d ∧ d ≤ 999) ∧ (0 ≤ k_ ∧ k_ ≤ 999)) then
        (match zfst (zov (zQ σ O n d k_) vn ft) (zcn (zQ σ O n d k_)) with
        | none =>
          ((-4), (zQ σ O n d k_))
        | some q =>
          ((zQ σ O n d k_).1 (q + 11) 1, (zQ σ O n d k_)))
      else
        ((-1), σ)
    else
      ((-1), σ)
  else
    ((-1), σ)
set_option maxHeartbeats 4000000 in
set_option maxRecDepth 100000 in
theorem kX3_claim (l : Launch) (D : va_G) (ty : zTy) (a : Nat → Nat) (σ : zC) (O : Nat → Nat) (n : Nat) (hI : zI σ O n) (vn ft d k_ : Int32) : zv_ct l D ty yX3_claim cX3_claim 6 (some .int) (zR 7 165) [.ref (a 0), .int vn, .int ft, .int d, .int k_] (zc a ty σ) (fun v_ w_ => v_ = some (.int (fX3_claim σ O n vn ft d k_).1) ∧ w_ = zc a ty (fX3_claim σ O n vn ft d k_).2) := by
  refine zv_open (by decide) rfl rfl [some (.ref (a 0)), some (.int vn), some (.int ft), some (.int d), some (.int k_), none] (by simp [zv_one, Value.category]) (zle rfl) rfl ?_
  intro k K T
  refine zv_iload_n K 1 dX3_claim_0 rfl rfl ?_
  refine zv_cS1 K (As := [.int vn]) (rest := []) 1 4 (kX3_isVein l D ty (zc a ty σ) vn) dX3_claim_1 rfl zw_1_160 zw_1_161 zw_1_1 zw_1_162 ⟨rfl, rfl⟩ zh_yX3_isVein ⟨by decide, by decide⟩ rfl rfl (zle rfl) rfl ?_
  refine zv_ifB_eq K 23 7 dX3_claim_4 (by decide) rfl (fun h1 => ?_) (fun h1 => ?_)
  · skip
    refine zv_iconst K (-1) 24 dX3_claim_23 rfl (by decide) ?_
    exact zv_iret K T dX3_claim_24 (⟨by simp only [fX3_claim, if_neg h1], by simp only [fX3_claim, if_neg h1]⟩)
  · skip
    refine zv_iload_n K 8 dX3_claim_7 rfl rfl ?_
    refine zv_cS1 K (As := [.int ft]) (rest := []) 1 11 (kX3_isFoot l D ty (zc a ty σ) ft) dX3_claim_8 rfl zw_1_163 zw_1_164 zw_1_1 zw_1_165 ⟨rfl, rfl⟩ zh_yX3_isFoot ⟨by decide, by decide⟩ rfl rfl (zle rfl) rfl ?_
    refine zv_ifB_eq K 23 14 dX3_claim_11 (by decide) rfl (fun h2 => ?_) (fun h2 => ?_)
    · skip
      refine zv_iconst K (-1) 24 dX3_claim_23 rfl (by decide) ?_
      exact zv_iret K T dX3_claim_24 (⟨by simp only [fX3_claim, if_pos h1, if_neg h2], by simp only [fX3_claim, if_pos h1, if_neg h2]⟩)
    · skip
      refine zv_iload_n K 15 dX3_claim_14 rfl rfl ?_
      refine zv_iload K 17 dX3_claim_15 rfl rfl ?_
      refine zv_cS1 K (As := [.int d, .int k_]) (rest := []) 2 20 (kX3_areDays l D ty (zc a ty σ) d k_) dX3_claim_17 rfl zw_2_18 zw_2_19 zw_1_1 zw_2_20 ⟨rfl, rfl⟩ zh_yX3_areDays ⟨by decide, by decide⟩ rfl rfl (zle rfl) rfl ?_
      refine zv_ifB_ne K 25 23 dX3_claim_20 (by decide) rfl (fun h3 => ?_) (fun h3 => ?_)
      · skip
        refine zv_aload_n K 26 dX3_claim_25 rfl rfl ?_
        refine zv_iload_n K 27 dX3_claim_26 rfl rfl ?_
        refine zv_iload K 29 dX3_claim_27 rfl rfl ?_
        refine zv_cV0 K (q0 := 0) (As := [.int d, .int k_]) (rest := []) 2 32 (kX3_goThrough l D ty a σ O n hI d k_) dX3_claim_29 rfl zw_2_24 zw_2_26 zw_p1_3 zw_1_1 zw_2_27 ⟨rfl, rfl⟩ zh_yX3_goThrough ⟨by decide, by decide⟩ (zc_at (j := 0) (by decide)) rfl rfl rfl (zle rfl) rfl ?_
        refine zv_aload_n K 33 dX3_claim_32 rfl rfl ?_
        refine zv_get (v := .ref (a 3)) (C := RX3) (T := TX3) (N := 7) K 0 5 36 dX3_claim_33 rfl zy_X3 (zc_at (j := 0) (by decide)) rfl (by decide) zw_1_124 rfl ?_
        refine zv_iload_n K 37 dX3_claim_36 rfl rfl ?_
        refine zv_iload_n K 38 dX3_claim_37 rfl rfl ?_
        refine zv_cV K (q0 := 3) (As := [.int vn, .int ft]) (rest := []) 2 41 (kX2_eldestOver l D ty a (zQ σ O n d k_) (zcn (zQ σ O n d k_)) (zQ_c σ O n d k_).1 (zQ_c σ O n d k_).2 vn ft) dX3_claim_38 rfl zw_2_112 zw_2_72 zw_2_73 zw_1_3 zw_2_74 ⟨rfl, rfl⟩ zh_yX2_eldestOver ⟨by decide, by decide⟩ (zc_at (j := 3) (by decide)) rfl rfl rfl (zle rfl) rfl ?_
        intro v_ w_ hv_
        obtain ⟨rfl, hv_⟩ := hv_
        rcases hv_ with ⟨hz, rfl⟩ | ⟨q, hz, rfl⟩
        · show zv k 41 [some (.ref (a 0)), some (.int vn), some (.int ft), some (.int d), some (.int k_), none] (.null :: []) (zc a ty (zQ σ O n d k_))
          refine zv_astoreN K [some (.ref (a 0)), some (.int vn), some (.int ft), some (.int d), some (.int k_), some (.null)] 43 dX3_claim_41 rfl rfl (zlt rfl) ?_
          refine zv_aloadN K 45 dX3_claim_43 rfl rfl ?_
          refine zv_ifnonnullN K 48 dX3_claim_45 rfl ?_
          refine zv_bipush K (-4) 50 dX3_claim_48 rfl (by decide) ?_
          refine zv_goto K 58 dX3_claim_50 (by decide) ?_
          exact zv_iret K T dX3_claim_58 (⟨by simp only [fX3_claim, if_pos h1, if_pos h2, if_pos h3, hz], by simp only [fX3_claim, if_pos h1, if_pos h2, if_pos h3, hz]⟩)
        · have hq20 : q < 20 := by have := zfst_lt hz; have := (zQ_c σ O n d k_).2; omega
          show zv k 41 [some (.ref (a 0)), some (.int vn), some (.int ft), some (.int d), some (.int k_), none] (.ref (a (q + 11)) :: []) (zc a ty (zQ σ O n d k_))
          refine zv_astore K [some (.ref (a 0)), some (.int vn), some (.int ft), some (.int d), some (.int k_), some (.ref (a (q + 11)))] 43 dX3_claim_41 rfl rfl (zlt rfl) ?_
          refine zv_aload K 45 dX3_claim_43 rfl rfl ?_
          refine zv_ifnonnull K 53 dX3_claim_45 (by decide) ?_
          refine zv_aload K 55 dX3_claim_53 rfl rfl ?_
          refine zv_getN (v := .int ((zQ σ O n d k_).1 (q + 11) 1)) (C := RX1) (T := TX1) (N := 12) K (q + 11) 1 58 dX3_claim_55 rfl zy_X1 (zc_cl hq20) rfl (by decide) zn_9 rfl ?_
          exact zv_iret K T dX3_claim_58 (⟨by simp only [fX3_claim, if_pos h1, if_pos h2, if_pos h3, hz], by simp only [fX3_claim, if_pos h1, if_pos h2, if_pos h3, hz]⟩)
      · skip
        refine zv_iconst K (-1) 24 dX3_claim_23 rfl (by decide) ?_
        exact zv_iret K T dX3_claim_24 (⟨by simp only [fX3_claim, if_pos h1, if_pos h2, if_neg h3], by simp only [fX3_claim, if_pos h1, if_pos h2, if_neg h3]⟩)

def fX3_of (σ : zC) (O : Nat → Nat) (n : Nat) (x : Int32) (y : Int32) (d : Int32) (k_ : Int32) : Int32 × zC :=
  if (0 ≤ x ∧ x < σ.1 1 1) then
    if ((0 ≤ d ∧ d ≤ 999) ∧ (0 ≤ k_ ∧ k_ ≤ 999)) then
      if (0 ≤ y ∧ y ≤ 6) then
        if (zg σ x.toNatClampNeg 0 = 0) then
          (match zfst (zfd (zQ σ O n d k_) x) (zcn (zQ σ O n d k_)) with
          | none =>
            ((-4), (zQ σ O n d k_))
          | some q =>
            (fX3_tellOf (zQ σ O n d k_) (zcn (zQ σ O n d k_)) q y d, (zQ σ O n d k_)))
        else
          ((-3), σ)
      else
        ((-1), σ)
    else
      ((-1), σ)
  else
    ((-1), σ)
set_option maxHeartbeats 4000000 in
set_option maxRecDepth 100000 in
theorem kX3_of (l : Launch) (D : va_G) (ty : zTy) (a : Nat → Nat) (σ : zC) (O : Nat → Nat) (n : Nat) (hI : zI σ O n) (x y d k_ : Int32) (hF : ∀ q, q < zcn (zQ σ O n d k_) → zft (zQ σ O n d k_) q) : zv_ct l D ty yX3_of cX3_of 6 (some .int) (zR 7 165) [.ref (a 0), .int x, .int y, .int d, .int k_] (zc a ty σ) (fun v_ w_ => v_ = some (.int (fX3_of σ O n x y d k_).1) ∧ w_ = zc a ty (fX3_of σ O n x y d k_).2) := by
  refine zv_open (by decide) rfl rfl [some (.ref (a 0)), some (.int x), some (.int y), some (.int d), some (.int k_), none] (by simp [zv_one, Value.category]) (zle rfl) rfl ?_
  intro k K T
  refine zv_aload_n K 1 dX3_of_0 rfl rfl ?_
  refine zv_get (v := .ref (a 1)) (C := RX3) (T := TX3) (N := 7) K 0 0 4 dX3_of_1 rfl zy_X3 (zc_at (j := 0) (by decide)) rfl (by decide) zw_1_119 rfl ?_
  refine zv_iload_n K 5 dX3_of_4 rfl rfl ?_
  refine zv_cV1 K (q0 := 1) (As := [.int x]) (rest := []) 1 8 (kX0_has l D ty a σ x) dX3_of_5 rfl zw_1_208 zw_1_209 zw_1_210 zw_1_2 zw_1_211 ⟨rfl, rfl⟩ zh_yX0_has ⟨by decide, by decide⟩ (zc_at (j := 1) (by decide)) rfl rfl rfl (zle rfl) rfl ?_
  refine zv_ifB_eq K 30 11 dX3_of_8 (by decide) rfl (fun hh => ?_) (fun hh => ?_)
  · skip
    refine zv_iconst K (-1) 31 dX3_of_30 rfl (by decide) ?_
    exact zv_iret K T dX3_of_31 (⟨by simp only [fX3_of, if_neg hh], by simp only [fX3_of, if_neg hh]⟩)
  · skip
    refine zv_iload_n K 12 dX3_of_11 rfl rfl ?_
    refine zv_iload K 14 dX3_of_12 rfl rfl ?_
    refine zv_cS1 K (As := [.int d, .int k_]) (rest := []) 2 17 (kX3_areDays l D ty (zc a ty σ) d k_) dX3_of_14 rfl zw_2_18 zw_2_19 zw_1_1 zw_2_20 ⟨rfl, rfl⟩ zh_yX3_areDays ⟨by decide, by decide⟩ rfl rfl (zle rfl) rfl ?_
    refine zv_ifB_eq K 30 20 dX3_of_17 (by decide) rfl (fun h2 => ?_) (fun h2 => ?_)
    · skip
      refine zv_iconst K (-1) 31 dX3_of_30 rfl (by decide) ?_
      exact zv_iret K T dX3_of_31 (⟨by simp only [fX3_of, if_pos hh, if_neg h2], by simp only [fX3_of, if_pos hh, if_neg h2]⟩)
    · skip
      refine zv_iload_n K 21 dX3_of_20 rfl rfl ?_
      refine zv_iconst K 0 22 dX3_of_21 rfl (by decide) ?_
      refine zv_bipush K 6 24 dX3_of_22 rfl (by decide) ?_
      refine zv_cS1 K (As := [.int y, .int 0, .int 6]) (rest := []) 3 27 (kX3_isWithin l D ty (zc a ty σ) y 0 6) dX3_of_24 rfl zw_1_145 zw_1_146 zw_1_1 zw_1_147 ⟨rfl, rfl⟩ zh_yX3_isWithin ⟨by decide, by decide⟩ rfl rfl (zle rfl) rfl ?_
      refine zv_ifB_ne K 32 30 dX3_of_27 (by decide) rfl (fun h3 => ?_) (fun h3 => ?_)
      · skip
        obtain ⟨hx, hf⟩ := z_has hI hh
        refine zv_aload_n K 33 dX3_of_32 rfl rfl ?_
        refine zv_get (v := .ref (a 1)) (C := RX3) (T := TX3) (N := 7) K 0 0 36 dX3_of_33 rfl zy_X3 (zc_at (j := 0) (by decide)) rfl (by decide) zw_1_119 rfl ?_
        refine zv_iload_n K 37 dX3_of_36 rfl rfl ?_
        refine zv_cV1 K (q0 := 1) (As := [.int x]) (rest := []) 1 40 (kX0_isStake l D ty a σ x x.toNatClampNeg hx hf) dX3_of_37 rfl zw_1_212 zw_1_213 zw_1_214 zw_1_2 zw_1_215 ⟨rfl, rfl⟩ zh_yX0_isStake ⟨by decide, by decide⟩ (zc_at (j := 1) (by decide)) rfl rfl rfl (zle rfl) rfl ?_
        refine zv_ifB_ne K 46 43 dX3_of_40 (by decide) rfl (fun h4 => ?_) (fun h4 => ?_)
        · skip
          refine zv_aload_n K 47 dX3_of_46 rfl rfl ?_
          refine zv_iload_n K 48 dX3_of_47 rfl rfl ?_
          refine zv_iload K 50 dX3_of_48 rfl rfl ?_
          refine zv_cV0 K (q0 := 0) (As := [.int d, .int k_]) (rest := []) 2 53 (kX3_goThrough l D ty a σ O n hI d k_) dX3_of_50 rfl zw_2_24 zw_2_26 zw_p1_3 zw_1_1 zw_2_27 ⟨rfl, rfl⟩ zh_yX3_goThrough ⟨by decide, by decide⟩ (zc_at (j := 0) (by decide)) rfl rfl rfl (zle rfl) rfl ?_
          refine zv_aload_n K 54 dX3_of_53 rfl rfl ?_
          refine zv_get (v := .ref (a 3)) (C := RX3) (T := TX3) (N := 7) K 0 5 57 dX3_of_54 rfl zy_X3 (zc_at (j := 0) (by decide)) rfl (by decide) zw_1_124 rfl ?_
          refine zv_iload_n K 58 dX3_of_57 rfl rfl ?_
          refine zv_cV K (q0 := 3) (As := [.int x]) (rest := []) 1 61 (kX2_find l D ty a (zQ σ O n d k_) (zcn (zQ σ O n d k_)) (zQ_c σ O n d k_).1 (zQ_c σ O n d k_).2 x) dX3_of_58 rfl zw_2_117 zw_2_81 zw_2_82 zw_1_3 zw_2_83 ⟨rfl, rfl⟩ zh_yX2_find ⟨by decide, by decide⟩ (zc_at (j := 3) (by decide)) rfl rfl rfl (zle rfl) rfl ?_
          intro v_ w_ hv_
          obtain ⟨rfl, hv_⟩ := hv_
          rcases hv_ with ⟨hz, rfl⟩ | ⟨q, hz, rfl⟩
          · show zv k 61 [some (.ref (a 0)), some (.int x), some (.int y), some (.int d), some (.int k_), none] (.null :: []) (zc a ty (zQ σ O n d k_))
            refine zv_astoreN K [some (.ref (a 0)), some (.int x), some (.int y), some (.int d), some (.int k_), some (.null)] 63 dX3_of_61 rfl rfl (zlt rfl) ?_
            refine zv_aloadN K 65 dX3_of_63 rfl rfl ?_
            refine zv_ifnonnullN K 68 dX3_of_65 rfl ?_
            refine zv_bipush K (-4) 70 dX3_of_68 rfl (by decide) ?_
            refine zv_goto K 81 dX3_of_70 (by decide) ?_
            exact zv_iret K T dX3_of_81 (⟨by simp only [fX3_of, if_pos hh, if_pos h2, if_pos h3, if_pos h4, hz], by simp only [fX3_of, if_pos hh, if_pos h2, if_pos h3, if_pos h4, hz]⟩)
          · have hq20 : q < 20 := by have := zfst_lt hz; have := (zQ_c σ O n d k_).2; omega
            show zv k 61 [some (.ref (a 0)), some (.int x), some (.int y), some (.int d), some (.int k_), none] (.ref (a (q + 11)) :: []) (zc a ty (zQ σ O n d k_))
            refine zv_astore K [some (.ref (a 0)), some (.int x), some (.int y), some (.int d), some (.int k_), some (.ref (a (q + 11)))] 63 dX3_of_61 rfl rfl (zlt rfl) ?_
            refine zv_aload K 65 dX3_of_63 rfl rfl ?_
            refine zv_ifnonnull K 73 dX3_of_65 (by decide) ?_
            refine zv_aload_n K 74 dX3_of_73 rfl rfl ?_
            refine zv_aload K 76 dX3_of_74 rfl rfl ?_
            refine zv_iload_n K 77 dX3_of_76 rfl rfl ?_
            refine zv_iload_n K 78 dX3_of_77 rfl rfl ?_
            refine zv_cV1 K (q0 := 0) (As := [.ref (a (q + 11)), .int y, .int d]) (rest := []) 3 81 (kX3_tellOf l D ty a (zQ σ O n d k_) (zcn (zQ σ O n d k_)) (zQ_c σ O n d k_).1 (zQ_c σ O n d k_).2 q hq20 (hF q (zfst_lt hz)) y d) dX3_of_78 rfl zw_2_118 zw_2_120 zw_p1_14 zw_1_1 zw_2_121 ⟨rfl, rfl⟩ zh_yX3_tellOf ⟨by decide, by decide⟩ (zc_at (j := 0) (by decide)) rfl rfl rfl (zle rfl) rfl ?_
            exact zv_iret K T dX3_of_81 (⟨by simp only [fX3_of, if_pos hh, if_pos h2, if_pos h3, if_pos h4, hz], by simp only [fX3_of, if_pos hh, if_pos h2, if_pos h3, if_pos h4, hz]⟩)
        · skip
          refine zv_bipush K (-3) 45 dX3_of_43 rfl (by decide) ?_
          exact zv_iret K T dX3_of_45 (⟨by simp only [fX3_of, if_pos hh, if_pos h2, if_pos h3, if_neg h4], by simp only [fX3_of, if_pos hh, if_pos h2, if_pos h3, if_neg h4]⟩)
      · skip
        refine zv_iconst K (-1) 31 dX3_of_30 rfl (by decide) ?_
        exact zv_iret K T dX3_of_31 (⟨by simp only [fX3_of, if_pos hh, if_pos h2, if_neg h3], by simp only [fX3_of, if_pos hh, if_pos h2, if_neg h3]⟩)

def fX3_share (σ : zC) (O : Nat → Nat) (n : Nat) (x : Int32) (y : Int32) (d : Int32) (k_ : Int32) : Int32 × zC :=
  if (0 ≤ x ∧ x < σ.1 1 1) then
    if (0 ≤ y ∧ y ≤ 9) then
      if ((0 ≤ d ∧ d ≤ 999) ∧ (0 ≤ k_ ∧ k_ ≤ 999)) then
        if (zg σ x.toNatClampNeg 0 = 0) then
          (match zfst (zfd (zQ σ O n d k_) x) (zcn (zQ σ O n d k_)) with
          | none =>
            ((-4), (zQ σ O n d k_))
          | some q =>
            ((zQ σ O n d k_).2 (q + 31) y.toNatClampNeg, (zQ σ O n d k_)))
        else
          ((-3), σ)
      else
        ((-1), σ)
    else
      ((-1), σ)
  else
    ((-1), σ)
set_option maxHeartbeats 4000000 in
set_option maxRecDepth 100000 in
theorem kX3_share (l : Launch) (D : va_G) (ty : zTy) (a : Nat → Nat) (σ : zC) (O : Nat → Nat) (n : Nat) (hI : zI σ O n) (x y d k_ : Int32) : zv_ct l D ty yX3_share cX3_share 6 (some .int) (zR 7 165) [.ref (a 0), .int x, .int y, .int d, .int k_] (zc a ty σ) (fun v_ w_ => v_ = some (.int (fX3_share σ O n x y d k_).1) ∧ w_ = zc a ty (fX3_share σ O n x y d k_).2) := by
  refine zv_open (by decide) rfl rfl [some (.ref (a 0)), some (.int x), some (.int y), some (.int d), some (.int k_), none] (by simp [zv_one, Value.category]) (zle rfl) rfl ?_
  intro k K T
  refine zv_aload_n K 1 dX3_share_0 rfl rfl ?_
  refine zv_get (v := .ref (a 1)) (C := RX3) (T := TX3) (N := 7) K 0 0 4 dX3_share_1 rfl zy_X3 (zc_at (j := 0) (by decide)) rfl (by decide) zw_1_119 rfl ?_
  refine zv_iload_n K 5 dX3_share_4 rfl rfl ?_
  refine zv_cV1 K (q0 := 1) (As := [.int x]) (rest := []) 1 8 (kX0_has l D ty a σ x) dX3_share_5 rfl zw_1_208 zw_1_209 zw_1_210 zw_1_2 zw_1_211 ⟨rfl, rfl⟩ zh_yX0_has ⟨by decide, by decide⟩ (zc_at (j := 1) (by decide)) rfl rfl rfl (zle rfl) rfl ?_
  refine zv_ifB_eq K 27 11 dX3_share_8 (by decide) rfl (fun hh => ?_) (fun hh => ?_)
  · skip
    refine zv_iconst K (-1) 28 dX3_share_27 rfl (by decide) ?_
    exact zv_iret K T dX3_share_28 (⟨by simp only [fX3_share, if_neg hh], by simp only [fX3_share, if_neg hh]⟩)
  · skip
    refine zv_iload_n K 12 dX3_share_11 rfl rfl ?_
    refine zv_cS1 K (As := [.int y]) (rest := []) 1 15 (kX3_isMiner l D ty (zc a ty σ) y) dX3_share_12 rfl zw_1_166 zw_1_167 zw_1_1 zw_1_168 ⟨rfl, rfl⟩ zh_yX3_isMiner ⟨by decide, by decide⟩ rfl rfl (zle rfl) rfl ?_
    refine zv_ifB_eq K 27 18 dX3_share_15 (by decide) rfl (fun hm => ?_) (fun hm => ?_)
    · skip
      refine zv_iconst K (-1) 28 dX3_share_27 rfl (by decide) ?_
      exact zv_iret K T dX3_share_28 (⟨by simp only [fX3_share, if_pos hh, if_neg hm], by simp only [fX3_share, if_pos hh, if_neg hm]⟩)
    · skip
      refine zv_iload_n K 19 dX3_share_18 rfl rfl ?_
      refine zv_iload K 21 dX3_share_19 rfl rfl ?_
      refine zv_cS1 K (As := [.int d, .int k_]) (rest := []) 2 24 (kX3_areDays l D ty (zc a ty σ) d k_) dX3_share_21 rfl zw_2_18 zw_2_19 zw_1_1 zw_2_20 ⟨rfl, rfl⟩ zh_yX3_areDays ⟨by decide, by decide⟩ rfl rfl (zle rfl) rfl ?_
      refine zv_ifB_ne K 29 27 dX3_share_24 (by decide) rfl (fun h3 => ?_) (fun h3 => ?_)
      · skip
        obtain ⟨hx, hf⟩ := z_has hI hh
        refine zv_aload_n K 30 dX3_share_29 rfl rfl ?_
        refine zv_get (v := .ref (a 1)) (C := RX3) (T := TX3) (N := 7) K 0 0 33 dX3_share_30 rfl zy_X3 (zc_at (j := 0) (by decide)) rfl (by decide) zw_1_119 rfl ?_
        refine zv_iload_n K 34 dX3_share_33 rfl rfl ?_
        refine zv_cV1 K (q0 := 1) (As := [.int x]) (rest := []) 1 37 (kX0_isStake l D ty a σ x x.toNatClampNeg hx hf) dX3_share_34 rfl zw_1_212 zw_1_213 zw_1_214 zw_1_2 zw_1_215 ⟨rfl, rfl⟩ zh_yX0_isStake ⟨by decide, by decide⟩ (zc_at (j := 1) (by decide)) rfl rfl rfl (zle rfl) rfl ?_
        refine zv_ifB_ne K 43 40 dX3_share_37 (by decide) rfl (fun h4 => ?_) (fun h4 => ?_)
        · skip
          refine zv_aload_n K 44 dX3_share_43 rfl rfl ?_
          refine zv_iload_n K 45 dX3_share_44 rfl rfl ?_
          refine zv_iload K 47 dX3_share_45 rfl rfl ?_
          refine zv_cV0 K (q0 := 0) (As := [.int d, .int k_]) (rest := []) 2 50 (kX3_goThrough l D ty a σ O n hI d k_) dX3_share_47 rfl zw_2_24 zw_2_26 zw_p1_3 zw_1_1 zw_2_27 ⟨rfl, rfl⟩ zh_yX3_goThrough ⟨by decide, by decide⟩ (zc_at (j := 0) (by decide)) rfl rfl rfl (zle rfl) rfl ?_
          refine zv_aload_n K 51 dX3_share_50 rfl rfl ?_
          refine zv_get (v := .ref (a 3)) (C := RX3) (T := TX3) (N := 7) K 0 5 54 dX3_share_51 rfl zy_X3 (zc_at (j := 0) (by decide)) rfl (by decide) zw_1_124 rfl ?_
          refine zv_iload_n K 55 dX3_share_54 rfl rfl ?_
          refine zv_cV K (q0 := 3) (As := [.int x]) (rest := []) 1 58 (kX2_find l D ty a (zQ σ O n d k_) (zcn (zQ σ O n d k_)) (zQ_c σ O n d k_).1 (zQ_c σ O n d k_).2 x) dX3_share_55 rfl zw_2_117 zw_2_81 zw_2_82 zw_1_3 zw_2_83 ⟨rfl, rfl⟩ zh_yX2_find ⟨by decide, by decide⟩ (zc_at (j := 3) (by decide)) rfl rfl rfl (zle rfl) rfl ?_
          intro v_ w_ hv_
          obtain ⟨rfl, hv_⟩ := hv_
          rcases hv_ with ⟨hz, rfl⟩ | ⟨q, hz, rfl⟩
          · show zv k 58 [some (.ref (a 0)), some (.int x), some (.int y), some (.int d), some (.int k_), none] (.null :: []) (zc a ty (zQ σ O n d k_))
            refine zv_astoreN K [some (.ref (a 0)), some (.int x), some (.int y), some (.int d), some (.int k_), some (.null)] 60 dX3_share_58 rfl rfl (zlt rfl) ?_
            refine zv_aloadN K 62 dX3_share_60 rfl rfl ?_
            refine zv_ifnonnullN K 65 dX3_share_62 rfl ?_
            refine zv_bipush K (-4) 67 dX3_share_65 rfl (by decide) ?_
            refine zv_goto K 77 dX3_share_67 (by decide) ?_
            exact zv_iret K T dX3_share_77 (⟨by simp only [fX3_share, if_pos hh, if_pos hm, if_pos h3, if_pos h4, hz], by simp only [fX3_share, if_pos hh, if_pos hm, if_pos h3, if_pos h4, hz]⟩)
          · have hq20 : q < 20 := by have := zfst_lt hz; have := (zQ_c σ O n d k_).2; omega
            show zv k 58 [some (.ref (a 0)), some (.int x), some (.int y), some (.int d), some (.int k_), none] (.ref (a (q + 11)) :: []) (zc a ty (zQ σ O n d k_))
            refine zv_astore K [some (.ref (a 0)), some (.int x), some (.int y), some (.int d), some (.int k_), some (.ref (a (q + 11)))] 60 dX3_share_58 rfl rfl (zlt rfl) ?_
            refine zv_aload K 62 dX3_share_60 rfl rfl ?_
            refine zv_ifnonnull K 70 dX3_share_62 (by decide) ?_
            obtain ⟨hy, hy9⟩ := z_upto (m := 9) hm (by decide)
            refine zv_aload K 72 dX3_share_70 rfl rfl ?_
            refine zv_getN (v := .ref (a (q + 31))) (C := RX1) (T := TX1) (N := 12) K (q + 11) 11 75 dX3_share_72 rfl zy_X1 (zc_cl hq20) rfl (by decide) zn_20 rfl ?_
            refine zv_iload_n K 76 dX3_share_75 rfl rfl ?_
            refine zv_iald (F := (zQ σ O n d k_).2 (q + 31)) K (q + 31) y.toNatClampNeg 77 dX3_share_76 rfl (zc_sh hq20) hy hy9 (by decide) ?_
            exact zv_iret K T dX3_share_77 (⟨by simp only [fX3_share, if_pos hh, if_pos hm, if_pos h3, if_pos h4, hz], by simp only [fX3_share, if_pos hh, if_pos hm, if_pos h3, if_pos h4, hz]⟩)
        · skip
          refine zv_bipush K (-3) 42 dX3_share_40 rfl (by decide) ?_
          exact zv_iret K T dX3_share_42 (⟨by simp only [fX3_share, if_pos hh, if_pos hm, if_pos h3, if_neg h4], by simp only [fX3_share, if_pos hh, if_pos hm, if_pos h3, if_neg h4]⟩)
      · skip
        refine zv_iconst K (-1) 28 dX3_share_27 rfl (by decide) ?_
        exact zv_iret K T dX3_share_28 (⟨by simp only [fX3_share, if_pos hh, if_pos hm, if_neg h3], by simp only [fX3_share, if_pos hh, if_pos hm, if_neg h3]⟩)

def fX3_dug (σ : zC) (O : Nat → Nat) (n : Nat) (x : Int32) (d : Int32) (k_ : Int32) : Int32 × zC :=
  if (0 ≤ x ∧ x ≤ 10) then
    if ((0 ≤ d ∧ d ≤ 999) ∧ (0 ≤ k_ ∧ k_ ≤ 999)) then
      ((zQ σ O n d k_).2 9 x.toNatClampNeg, (zQ σ O n d k_))
    else
      ((-1), σ)
  else
    ((-1), σ)
set_option maxHeartbeats 4000000 in
set_option maxRecDepth 100000 in
theorem kX3_dug (l : Launch) (D : va_G) (ty : zTy) (a : Nat → Nat) (σ : zC) (O : Nat → Nat) (n : Nat) (hI : zI σ O n) (x d k_ : Int32) : zv_ct l D ty yX3_dug cX3_dug 4 (some .int) (zR 7 165) [.ref (a 0), .int x, .int d, .int k_] (zc a ty σ) (fun v_ w_ => v_ = some (.int (fX3_dug σ O n x d k_).1) ∧ w_ = zc a ty (fX3_dug σ O n x d k_).2) := by
  refine zv_open (by decide) rfl rfl [some (.ref (a 0)), some (.int x), some (.int d), some (.int k_)] (by simp [zv_one, Value.category]) (zle rfl) rfl ?_
  intro k K T
  refine zv_iload_n K 1 dX3_dug_0 rfl rfl ?_
  refine zv_iconst K 0 2 dX3_dug_1 rfl (by decide) ?_
  refine zv_bipush K 10 4 dX3_dug_2 rfl (by decide) ?_
  refine zv_cS1 K (As := [.int x, .int 0, .int 10]) (rest := []) 3 7 (kX3_isWithin l D ty (zc a ty σ) x 0 10) dX3_dug_4 rfl zw_1_145 zw_1_146 zw_1_1 zw_1_147 ⟨rfl, rfl⟩ zh_yX3_isWithin ⟨by decide, by decide⟩ rfl rfl (zle rfl) rfl ?_
  refine zv_ifB_eq K 18 10 dX3_dug_7 (by decide) rfl (fun hm => ?_) (fun hm => ?_)
  · skip
    refine zv_iconst K (-1) 19 dX3_dug_18 rfl (by decide) ?_
    exact zv_iret K T dX3_dug_19 (⟨by simp only [fX3_dug, if_neg hm], by simp only [fX3_dug, if_neg hm]⟩)
  · skip
    refine zv_iload_n K 11 dX3_dug_10 rfl rfl ?_
    refine zv_iload_n K 12 dX3_dug_11 rfl rfl ?_
    refine zv_cS1 K (As := [.int d, .int k_]) (rest := []) 2 15 (kX3_areDays l D ty (zc a ty σ) d k_) dX3_dug_12 rfl zw_2_18 zw_2_19 zw_1_1 zw_2_20 ⟨rfl, rfl⟩ zh_yX3_areDays ⟨by decide, by decide⟩ rfl rfl (zle rfl) rfl ?_
    refine zv_ifB_ne K 20 18 dX3_dug_15 (by decide) rfl (fun h2 => ?_) (fun h2 => ?_)
    · skip
      obtain ⟨hx, hx9⟩ := z_upto (m := 10) hm (by decide)
      refine zv_aload_n K 21 dX3_dug_20 rfl rfl ?_
      refine zv_iload_n K 22 dX3_dug_21 rfl rfl ?_
      refine zv_iload_n K 23 dX3_dug_22 rfl rfl ?_
      refine zv_cV0 K (q0 := 0) (As := [.int d, .int k_]) (rest := []) 2 26 (kX3_goThrough l D ty a σ O n hI d k_) dX3_dug_23 rfl zw_2_24 zw_2_26 zw_p1_3 zw_1_1 zw_2_27 ⟨rfl, rfl⟩ zh_yX3_goThrough ⟨by decide, by decide⟩ (zc_at (j := 0) (by decide)) rfl rfl rfl (zle rfl) rfl ?_
      refine zv_aload_n K 27 dX3_dug_26 rfl rfl ?_
      refine zv_get (v := .ref (a 3)) (C := RX3) (T := TX3) (N := 7) K 0 5 30 dX3_dug_27 rfl zy_X3 (zc_at (j := 0) (by decide)) rfl (by decide) zw_1_124 rfl ?_
      refine zv_getN (v := .ref (a 9)) (C := RX2) (T := TX2) (N := 3) K 3 2 33 dX3_dug_30 rfl zy_X2 (zc_at (j := 3) (by decide)) rfl (by decide) zn_21 rfl ?_
      refine zv_iload_n K 34 dX3_dug_33 rfl rfl ?_
      refine zv_iald (F := (zQ σ O n d k_).2 9) K 9 x.toNatClampNeg 35 dX3_dug_34 rfl (zc_at (j := 9) (by decide)) hx hx9 (by decide) ?_
      exact zv_iret K T dX3_dug_35 (⟨by simp only [fX3_dug, if_pos hm, if_pos h2], by simp only [fX3_dug, if_pos hm, if_pos h2]⟩)
    · skip
      refine zv_iconst K (-1) 19 dX3_dug_18 rfl (by decide) ?_
      exact zv_iret K T dX3_dug_19 (⟨by simp only [fX3_dug, if_pos hm, if_neg h2], by simp only [fX3_dug, if_pos hm, if_neg h2]⟩)

def fX3_due (σ : zC) (O : Nat → Nat) (n : Nat) (x : Int32) (d : Int32) (k_ : Int32) : Int32 × zC :=
  if (0 ≤ x ∧ x ≤ 9) then
    if ((0 ≤ d ∧ d ≤ 999) ∧ (0 ≤ k_ ∧ k_ ≤ 999)) then
      (((zQ σ O n d k_).2 9 x.toNatClampNeg) / 240, (zQ σ O n d k_))
    else
      ((-1), σ)
  else
    ((-1), σ)
set_option maxHeartbeats 4000000 in
set_option maxRecDepth 100000 in
theorem kX3_due (l : Launch) (D : va_G) (ty : zTy) (a : Nat → Nat) (σ : zC) (O : Nat → Nat) (n : Nat) (hI : zI σ O n) (x d k_ : Int32) : zv_ct l D ty yX3_due cX3_due 4 (some .int) (zR 7 165) [.ref (a 0), .int x, .int d, .int k_] (zc a ty σ) (fun v_ w_ => v_ = some (.int (fX3_due σ O n x d k_).1) ∧ w_ = zc a ty (fX3_due σ O n x d k_).2) := by
  refine zv_open (by decide) rfl rfl [some (.ref (a 0)), some (.int x), some (.int d), some (.int k_)] (by simp [zv_one, Value.category]) (zle rfl) rfl ?_
  intro k K T
  refine zv_iload_n K 1 dX3_due_0 rfl rfl ?_
  refine zv_cS1 K (As := [.int x]) (rest := []) 1 4 (kX3_isMiner l D ty (zc a ty σ) x) dX3_due_1 rfl zw_1_166 zw_1_167 zw_1_1 zw_1_168 ⟨rfl, rfl⟩ zh_yX3_isMiner ⟨by decide, by decide⟩ rfl rfl (zle rfl) rfl ?_
  refine zv_ifB_eq K 15 7 dX3_due_4 (by decide) rfl (fun hm => ?_) (fun hm => ?_)
  · skip
    refine zv_iconst K (-1) 16 dX3_due_15 rfl (by decide) ?_
    exact zv_iret K T dX3_due_16 (⟨by simp only [fX3_due, if_neg hm], by simp only [fX3_due, if_neg hm]⟩)
  · skip
    refine zv_iload_n K 8 dX3_due_7 rfl rfl ?_
    refine zv_iload_n K 9 dX3_due_8 rfl rfl ?_
    refine zv_cS1 K (As := [.int d, .int k_]) (rest := []) 2 12 (kX3_areDays l D ty (zc a ty σ) d k_) dX3_due_9 rfl zw_2_18 zw_2_19 zw_1_1 zw_2_20 ⟨rfl, rfl⟩ zh_yX3_areDays ⟨by decide, by decide⟩ rfl rfl (zle rfl) rfl ?_
    refine zv_ifB_ne K 17 15 dX3_due_12 (by decide) rfl (fun h2 => ?_) (fun h2 => ?_)
    · skip
      obtain ⟨hx, hx9⟩ := z_upto (m := 9) hm (by decide)
      refine zv_aload_n K 18 dX3_due_17 rfl rfl ?_
      refine zv_iload_n K 19 dX3_due_18 rfl rfl ?_
      refine zv_iload_n K 20 dX3_due_19 rfl rfl ?_
      refine zv_cV0 K (q0 := 0) (As := [.int d, .int k_]) (rest := []) 2 23 (kX3_goThrough l D ty a σ O n hI d k_) dX3_due_20 rfl zw_2_24 zw_2_26 zw_p1_3 zw_1_1 zw_2_27 ⟨rfl, rfl⟩ zh_yX3_goThrough ⟨by decide, by decide⟩ (zc_at (j := 0) (by decide)) rfl rfl rfl (zle rfl) rfl ?_
      refine zv_aload_n K 24 dX3_due_23 rfl rfl ?_
      refine zv_get (v := .ref (a 3)) (C := RX3) (T := TX3) (N := 7) K 0 5 27 dX3_due_24 rfl zy_X3 (zc_at (j := 0) (by decide)) rfl (by decide) zw_1_124 rfl ?_
      refine zv_getN (v := .ref (a 9)) (C := RX2) (T := TX2) (N := 3) K 3 2 30 dX3_due_27 rfl zy_X2 (zc_at (j := 3) (by decide)) rfl (by decide) zn_21 rfl ?_
      refine zv_iload_n K 31 dX3_due_30 rfl rfl ?_
      refine zv_iald (F := (zQ σ O n d k_).2 9) K 9 x.toNatClampNeg 32 dX3_due_31 rfl (zc_at (j := 9) (by decide)) hx (by omega) (by decide) ?_
      refine zv_sipush K 240 35 dX3_due_32 rfl (by decide) ?_
      refine zv_idiv K 36 dX3_due_35 rfl (by decide) ?_
      exact zv_iret K T dX3_due_36 (⟨by simp only [fX3_due, if_pos hm, if_pos h2], by simp only [fX3_due, if_pos hm, if_pos h2]⟩)
    · skip
      refine zv_iconst K (-1) 16 dX3_due_15 rfl (by decide) ?_
      exact zv_iret K T dX3_due_16 (⟨by simp only [fX3_due, if_pos hm, if_neg h2], by simp only [fX3_due, if_pos hm, if_neg h2]⟩)

def zfeet (ρ : zC) (c : Nat) (x : Int32) : Nat → Bool := fun j => decide (zhj ρ c j = x)
def zcont (ρ : zC) (c : Nat) (vn : Int32) : Nat → Bool := fun f => decide (¬ nI (zct (zov ρ vn (nI f)) c) < 2)
def zchg (ρ : zC) (c : Nat) : Nat → Bool := fun j => decide (¬ ρ.2 10 j = zhj ρ c j)
set_option maxHeartbeats 4000000 in
set_option maxRecDepth 100000 in
theorem kX3_feet_l2 (l : Launch) (D : va_G) (ty : zTy) (a : Nat → Nat) (ρ : zC) (c : Nat) (hc : ρ.1 3 0 = nI c) (hc20 : c ≤ 20) (x d k_ : Int32) (v : Nat) (hv : v < 4) {k : zKx} (K : zv_ok k l D (zR 7 165) cX3_feet 7 yX3_feet.cls ty) (T : zv_rt k (some .int) (fun v_ w_ => v_ = some (.int (nI (zct (zfeet ρ c x) 240))) ∧ w_ = zc a ty ρ)) (hout : zv k 29 [some (.ref (a 0)), some (.int x), some (.int d), some (.int k_), some (.int (nI (zct (zfeet ρ c x) ((v + 1) * 60)))), some (.int (nI (v + 1))), some (.int (nI 60))] [] (zc a ty ρ)) : ∀ f : Nat, f ≤ 60 → zv k 38 [some (.ref (a 0)), some (.int x), some (.int d), some (.int k_), some (.int (nI (zct (zfeet ρ c x) (v * 60 + f)))), some (.int (nI v)), some (.int (nI f))] [] (zc a ty ρ) := by
  refine z_wf (fun f : Nat => 60 - f) ?_
  intro f ih hf
  refine zv_iload K 40 dX3_feet_38 rfl rfl ?_
  refine zv_bipush K 60 42 dX3_feet_40 rfl (by decide) ?_
  refine zv_icmp_ge K 69 45 dX3_feet_42 (by decide) rfl (fun hb2 => ?_) (fun hb2 => ?_)
  · skip
    have e : f = 60 := by have := z_ge (c := 60) hb2 (by decide) (by omega); omega
    refine zv_iinc K (nI (v + 1)) [some (.ref (a 0)), some (.int x), some (.int d), some (.int k_), some (.int (nI (zct (zfeet ρ c x) (v * 60 + f)))), some (.int (nI (v + 1))), some (.int (nI f))] 72 dX3_feet_69 rfl rfl (z_inc v) rfl ?_
    refine zv_goto K 29 dX3_feet_72 (by decide) ?_
    subst e
    refine zv_eq (lv2 := [some (.ref (a 0)), some (.int x), some (.int d), some (.int k_), some (.int (nI (zct (zfeet ρ c x) ((v + 1) * 60)))), some (.int (nI (v + 1))), some (.int (nI 60))]) rfl (by rw [Nat.succ_mul]) rfl rfl ?_
    exact hout
  · skip
    have hf60 : f < 60 := z_lt (c := 60) hb2 (by omega)
    refine zv_aload_n K 46 dX3_feet_45 rfl rfl ?_
    refine zv_get (v := .ref (a 3)) (C := RX3) (T := TX3) (N := 7) K 0 5 49 dX3_feet_46 rfl zy_X3 (zc_at (j := 0) (by decide)) rfl (by decide) zw_1_124 rfl ?_
    refine zv_iload K 51 dX3_feet_49 rfl rfl ?_
    refine zv_iload K 53 dX3_feet_51 rfl rfl ?_
    refine zv_cV1 K (q0 := 3) (As := [.int (nI v), .int (nI f)]) (rest := []) 2 56 (kX2_holderOver l D ty a ρ c hc hc20 (nI v) (nI f)) dX3_feet_53 rfl zw_2_104 zw_2_105 zw_2_106 zw_1_3 zw_2_107 ⟨rfl, rfl⟩ zh_yX2_holderOver ⟨by decide, by decide⟩ (zc_at (j := 3) (by decide)) rfl rfl rfl (zle rfl) rfl ?_
    refine zv_topi (zhj ρ c (v * 60 + f)) (by unfold zhj; rw [(zfeet_j hf60).1, (zfeet_j hf60).2]) ?_
    refine zv_iload_n K 57 dX3_feet_56 rfl rfl ?_
    refine zv_icmp_ne K 63 60 dX3_feet_57 (by decide) rfl (fun he => ?_) (fun he => ?_)
    · skip
      refine zv_iinc K (nI (f + 1)) [some (.ref (a 0)), some (.int x), some (.int d), some (.int k_), some (.int (nI (zct (zfeet ρ c x) (v * 60 + f)))), some (.int (nI v)), some (.int (nI (f + 1)))] 66 dX3_feet_63 rfl rfl (z_inc f) rfl ?_
      refine zv_goto K 38 dX3_feet_66 (by decide) ?_
      refine zv_eq (lv2 := [some (.ref (a 0)), some (.int x), some (.int d), some (.int k_), some (.int (nI (zct (zfeet ρ c x) (v * 60 + (f + 1))))), some (.int (nI v)), some (.int (nI (f + 1)))]) rfl (by rw [← Nat.add_assoc]; rw [zct_f (decide_eq_false he)]) rfl rfl ?_
      exact ih (f + 1) (by omega) (by omega)
    · skip
      refine zv_iinc K (nI (zct (zfeet ρ c x) (v * 60 + f) + 1)) [some (.ref (a 0)), some (.int x), some (.int d), some (.int k_), some (.int (nI (zct (zfeet ρ c x) (v * 60 + f) + 1))), some (.int (nI v)), some (.int (nI f))] 63 dX3_feet_60 rfl rfl (nI_1 _) rfl ?_
      refine zv_iinc K (nI (f + 1)) [some (.ref (a 0)), some (.int x), some (.int d), some (.int k_), some (.int (nI (zct (zfeet ρ c x) (v * 60 + f) + 1))), some (.int (nI v)), some (.int (nI (f + 1)))] 66 dX3_feet_63 rfl rfl (z_inc f) rfl ?_
      refine zv_goto K 38 dX3_feet_66 (by decide) ?_
      refine zv_eq (lv2 := [some (.ref (a 0)), some (.int x), some (.int d), some (.int k_), some (.int (nI (zct (zfeet ρ c x) (v * 60 + (f + 1))))), some (.int (nI v)), some (.int (nI (f + 1)))]) rfl (by rw [← Nat.add_assoc]; rw [zct_t (decide_eq_true he)]) rfl rfl ?_
      exact ih (f + 1) (by omega) (by omega)

set_option maxHeartbeats 4000000 in
set_option maxRecDepth 100000 in
theorem kX3_feet_l (l : Launch) (D : va_G) (ty : zTy) (a : Nat → Nat) (ρ : zC) (c : Nat) (hc : ρ.1 3 0 = nI c) (hc20 : c ≤ 20) (x d k_ : Int32) {k : zKx} (K : zv_ok k l D (zR 7 165) cX3_feet 7 yX3_feet.cls ty) (T : zv_rt k (some .int) (fun v_ w_ => v_ = some (.int (nI (zct (zfeet ρ c x) 240))) ∧ w_ = zc a ty ρ)) : ∀ v : Nat, v ≤ 4 → ∀ o6 : Option Value, zv k 29 [some (.ref (a 0)), some (.int x), some (.int d), some (.int k_), some (.int (nI (zct (zfeet ρ c x) (v * 60)))), some (.int (nI v)), o6] [] (zc a ty ρ) := by
  refine z_wf (fun v : Nat => 4 - v) ?_
  intro v ih hv o6
  refine zv_iload K 31 dX3_feet_29 rfl rfl ?_
  refine zv_iconst K 4 32 dX3_feet_31 rfl (by decide) ?_
  refine zv_icmp_ge K 75 35 dX3_feet_32 (by decide) rfl (fun hb => ?_) (fun hb => ?_)
  · skip
    have e : v = 4 := by have := z_ge (c := 4) hb (by decide) (by omega); omega
    refine zv_iload K 77 dX3_feet_75 rfl rfl ?_
    exact zv_iret K T dX3_feet_77 (⟨by rw [e], rfl⟩)
  · skip
    have hv4 : v < 4 := z_lt (c := 4) hb (by omega)
    refine zv_iconst K 0 36 dX3_feet_35 rfl (by decide) ?_
    refine zv_istore K [some (.ref (a 0)), some (.int x), some (.int d), some (.int k_), some (.int (nI (zct (zfeet ρ c x) (v * 60)))), some (.int (nI v)), some (.int 0)] 38 dX3_feet_36 rfl rfl (zlt rfl) ?_
    exact kX3_feet_l2 l D ty a ρ c hc hc20 x d k_ v hv4 K T (ih (v + 1) (by omega) (by omega) (some (.int (nI 60)))) 0 (by decide)

def fX3_feet (σ : zC) (O : Nat → Nat) (n : Nat) (x : Int32) (d : Int32) (k_ : Int32) : Int32 × zC :=
  if (0 ≤ x ∧ x ≤ 9) then
    if ((0 ≤ d ∧ d ≤ 999) ∧ (0 ≤ k_ ∧ k_ ≤ 999)) then
      (nI (zct (zfeet (zQ σ O n d k_) (zcn (zQ σ O n d k_)) x) 240), (zQ σ O n d k_))
    else
      ((-1), σ)
  else
    ((-1), σ)
set_option maxHeartbeats 4000000 in
set_option maxRecDepth 100000 in
theorem kX3_feet (l : Launch) (D : va_G) (ty : zTy) (a : Nat → Nat) (σ : zC) (O : Nat → Nat) (n : Nat) (hI : zI σ O n) (x d k_ : Int32) : zv_ct l D ty yX3_feet cX3_feet 7 (some .int) (zR 7 165) [.ref (a 0), .int x, .int d, .int k_] (zc a ty σ) (fun v_ w_ => v_ = some (.int (fX3_feet σ O n x d k_).1) ∧ w_ = zc a ty (fX3_feet σ O n x d k_).2) := by
  refine zv_open (by decide) rfl rfl [some (.ref (a 0)), some (.int x), some (.int d), some (.int k_), none, none, none] (by simp [zv_one, Value.category]) (zle rfl) rfl ?_
  intro k K T
  refine zv_iload_n K 1 dX3_feet_0 rfl rfl ?_
  refine zv_cS1 K (As := [.int x]) (rest := []) 1 4 (kX3_isMiner l D ty (zc a ty σ) x) dX3_feet_1 rfl zw_1_166 zw_1_167 zw_1_1 zw_1_168 ⟨rfl, rfl⟩ zh_yX3_isMiner ⟨by decide, by decide⟩ rfl rfl (zle rfl) rfl ?_
  refine zv_ifB_eq K 15 7 dX3_feet_4 (by decide) rfl (fun h1 => ?_) (fun h1 => ?_)
  · skip
    refine zv_iconst K (-1) 16 dX3_feet_15 rfl (by decide) ?_
    exact zv_iret K T dX3_feet_16 (⟨by simp only [fX3_feet, if_neg h1], by simp only [fX3_feet, if_neg h1]⟩)
  · skip
    refine zv_iload_n K 8 dX3_feet_7 rfl rfl ?_
    refine zv_iload_n K 9 dX3_feet_8 rfl rfl ?_
    refine zv_cS1 K (As := [.int d, .int k_]) (rest := []) 2 12 (kX3_areDays l D ty (zc a ty σ) d k_) dX3_feet_9 rfl zw_2_18 zw_2_19 zw_1_1 zw_2_20 ⟨rfl, rfl⟩ zh_yX3_areDays ⟨by decide, by decide⟩ rfl rfl (zle rfl) rfl ?_
    refine zv_ifB_ne K 17 15 dX3_feet_12 (by decide) rfl (fun h2 => ?_) (fun h2 => ?_)
    · skip
      refine zv_aload_n K 18 dX3_feet_17 rfl rfl ?_
      refine zv_iload_n K 19 dX3_feet_18 rfl rfl ?_
      refine zv_iload_n K 20 dX3_feet_19 rfl rfl ?_
      refine zv_cV0 K (q0 := 0) (As := [.int d, .int k_]) (rest := []) 2 23 (kX3_goThrough l D ty a σ O n hI d k_) dX3_feet_20 rfl zw_2_24 zw_2_26 zw_p1_3 zw_1_1 zw_2_27 ⟨rfl, rfl⟩ zh_yX3_goThrough ⟨by decide, by decide⟩ (zc_at (j := 0) (by decide)) rfl rfl rfl (zle rfl) rfl ?_
      refine zv_iconst K 0 24 dX3_feet_23 rfl (by decide) ?_
      refine zv_istore K [some (.ref (a 0)), some (.int x), some (.int d), some (.int k_), some (.int 0), none, none] 26 dX3_feet_24 rfl rfl (zlt rfl) ?_
      refine zv_iconst K 0 27 dX3_feet_26 rfl (by decide) ?_
      refine zv_istore K [some (.ref (a 0)), some (.int x), some (.int d), some (.int k_), some (.int 0), some (.int 0), none] 29 dX3_feet_27 rfl rfl (zlt rfl) ?_
      exact kX3_feet_l l D ty a (zQ σ O n d k_) _ (zQ_c σ O n d k_).1 (zQ_c σ O n d k_).2 x d k_ K (by simpa only [fX3_feet, if_pos h1, if_pos h2] using T) 0 (by decide) none
    · skip
      refine zv_iconst K (-1) 16 dX3_feet_15 rfl (by decide) ?_
      exact zv_iret K T dX3_feet_16 (⟨by simp only [fX3_feet, if_pos h1, if_neg h2], by simp only [fX3_feet, if_pos h1, if_neg h2]⟩)

set_option maxHeartbeats 4000000 in
set_option maxRecDepth 100000 in
theorem kX3_contested_l (l : Launch) (D : va_G) (ty : zTy) (a : Nat → Nat) (ρ : zC) (c : Nat) (hc : ρ.1 3 0 = nI c) (hc20 : c ≤ 20) (vn d k_ : Int32) {k : zKx} (K : zv_ok k l D (zR 7 165) cX3_contested 6 yX3_contested.cls ty) (T : zv_rt k (some .int) (fun v_ w_ => v_ = some (.int (nI (zct (zcont ρ c vn) 60))) ∧ w_ = zc a ty ρ)) : ∀ f : Nat, f ≤ 60 → zv k 29 [some (.ref (a 0)), some (.int vn), some (.int d), some (.int k_), some (.int (nI (zct (zcont ρ c vn) f))), some (.int (nI f))] [] (zc a ty ρ) := by
  refine z_wf (fun f : Nat => 60 - f) ?_
  intro f ih hf
  refine zv_iload K 31 dX3_contested_29 rfl rfl ?_
  refine zv_bipush K 60 33 dX3_contested_31 rfl (by decide) ?_
  refine zv_icmp_ge K 59 36 dX3_contested_33 (by decide) rfl (fun hb => ?_) (fun hb => ?_)
  · skip
    have e : f = 60 := by have := z_ge (c := 60) hb (by decide) (by omega); omega
    refine zv_iload K 61 dX3_contested_59 rfl rfl ?_
    exact zv_iret K T dX3_contested_61 (⟨by rw [e], rfl⟩)
  · skip
    have hf60 : f < 60 := z_lt (c := 60) hb (by omega)
    refine zv_aload_n K 37 dX3_contested_36 rfl rfl ?_
    refine zv_get (v := .ref (a 3)) (C := RX3) (T := TX3) (N := 7) K 0 5 40 dX3_contested_37 rfl zy_X3 (zc_at (j := 0) (by decide)) rfl (by decide) zw_1_124 rfl ?_
    refine zv_iload_n K 41 dX3_contested_40 rfl rfl ?_
    refine zv_iload K 43 dX3_contested_41 rfl rfl ?_
    refine zv_cV1 K (q0 := 3) (As := [.int vn, .int (nI f)]) (rest := []) 2 46 (kX2_countOver l D ty a ρ c hc hc20 vn (nI f)) dX3_contested_43 rfl zw_2_139 zw_2_140 zw_2_141 zw_1_3 zw_2_142 ⟨rfl, rfl⟩ zh_yX2_countOver ⟨by decide, by decide⟩ (zc_at (j := 3) (by decide)) rfl rfl rfl (zle rfl) rfl ?_
    refine zv_iconst K 2 47 dX3_contested_46 rfl (by decide) ?_
    refine zv_icmp_lt K 53 50 dX3_contested_47 (by decide) rfl (fun he => ?_) (fun he => ?_)
    · skip
      refine zv_iinc K (nI (f + 1)) [some (.ref (a 0)), some (.int vn), some (.int d), some (.int k_), some (.int (nI (zct (zcont ρ c vn) f))), some (.int (nI (f + 1)))] 56 dX3_contested_53 rfl rfl (z_inc f) rfl ?_
      refine zv_goto K 29 dX3_contested_56 (by decide) ?_
      refine zv_eq (lv2 := [some (.ref (a 0)), some (.int vn), some (.int d), some (.int k_), some (.int (nI (zct (zcont ρ c vn) (f + 1)))), some (.int (nI (f + 1)))]) rfl (by rw [zct_f (decide_eq_false (fun z => z he))]) rfl rfl ?_
      exact ih (f + 1) (by omega) (by omega)
    · skip
      refine zv_iinc K (nI (zct (zcont ρ c vn) f + 1)) [some (.ref (a 0)), some (.int vn), some (.int d), some (.int k_), some (.int (nI (zct (zcont ρ c vn) f + 1))), some (.int (nI f))] 53 dX3_contested_50 rfl rfl (nI_1 _) rfl ?_
      refine zv_iinc K (nI (f + 1)) [some (.ref (a 0)), some (.int vn), some (.int d), some (.int k_), some (.int (nI (zct (zcont ρ c vn) f + 1))), some (.int (nI (f + 1)))] 56 dX3_contested_53 rfl rfl (z_inc f) rfl ?_
      refine zv_goto K 29 dX3_contested_56 (by decide) ?_
      refine zv_eq (lv2 := [some (.ref (a 0)), some (.int vn), some (.int d), some (.int k_), some (.int (nI (zct (zcont ρ c vn) (f + 1)))), some (.int (nI (f + 1)))]) rfl (by rw [zct_t (decide_eq_true he)]) rfl rfl ?_
      exact ih (f + 1) (by omega) (by omega)

def fX3_contested (σ : zC) (O : Nat → Nat) (n : Nat) (vn : Int32) (d : Int32) (k_ : Int32) : Int32 × zC :=
  if (0 ≤ vn ∧ vn ≤ 3) then
    if ((0 ≤ d ∧ d ≤ 999) ∧ (0 ≤ k_ ∧ k_ ≤ 999)) then
      (nI (zct (zcont (zQ σ O n d k_) (zcn (zQ σ O n d k_)) vn) 60), (zQ σ O n d k_))
    else
      ((-1), σ)
  else
    ((-1), σ)
set_option maxHeartbeats 4000000 in
set_option maxRecDepth 100000 in
theorem kX3_contested (l : Launch) (D : va_G) (ty : zTy) (a : Nat → Nat) (σ : zC) (O : Nat → Nat) (n : Nat) (hI : zI σ O n) (vn d k_ : Int32) : zv_ct l D ty yX3_contested cX3_contested 6 (some .int) (zR 7 165) [.ref (a 0), .int vn, .int d, .int k_] (zc a ty σ) (fun v_ w_ => v_ = some (.int (fX3_contested σ O n vn d k_).1) ∧ w_ = zc a ty (fX3_contested σ O n vn d k_).2) := by
  refine zv_open (by decide) rfl rfl [some (.ref (a 0)), some (.int vn), some (.int d), some (.int k_), none, none] (by simp [zv_one, Value.category]) (zle rfl) rfl ?_
  intro k K T
  refine zv_iload_n K 1 dX3_contested_0 rfl rfl ?_
  refine zv_cS1 K (As := [.int vn]) (rest := []) 1 4 (kX3_isVein l D ty (zc a ty σ) vn) dX3_contested_1 rfl zw_1_160 zw_1_161 zw_1_1 zw_1_162 ⟨rfl, rfl⟩ zh_yX3_isVein ⟨by decide, by decide⟩ rfl rfl (zle rfl) rfl ?_
  refine zv_ifB_eq K 15 7 dX3_contested_4 (by decide) rfl (fun h1 => ?_) (fun h1 => ?_)
  · skip
    refine zv_iconst K (-1) 16 dX3_contested_15 rfl (by decide) ?_
    exact zv_iret K T dX3_contested_16 (⟨by simp only [fX3_contested, if_neg h1], by simp only [fX3_contested, if_neg h1]⟩)
  · skip
    refine zv_iload_n K 8 dX3_contested_7 rfl rfl ?_
    refine zv_iload_n K 9 dX3_contested_8 rfl rfl ?_
    refine zv_cS1 K (As := [.int d, .int k_]) (rest := []) 2 12 (kX3_areDays l D ty (zc a ty σ) d k_) dX3_contested_9 rfl zw_2_18 zw_2_19 zw_1_1 zw_2_20 ⟨rfl, rfl⟩ zh_yX3_areDays ⟨by decide, by decide⟩ rfl rfl (zle rfl) rfl ?_
    refine zv_ifB_ne K 17 15 dX3_contested_12 (by decide) rfl (fun h2 => ?_) (fun h2 => ?_)
    · skip
      refine zv_aload_n K 18 dX3_contested_17 rfl rfl ?_
      refine zv_iload_n K 19 dX3_contested_18 rfl rfl ?_
      refine zv_iload_n K 20 dX3_contested_19 rfl rfl ?_
      refine zv_cV0 K (q0 := 0) (As := [.int d, .int k_]) (rest := []) 2 23 (kX3_goThrough l D ty a σ O n hI d k_) dX3_contested_20 rfl zw_2_24 zw_2_26 zw_p1_3 zw_1_1 zw_2_27 ⟨rfl, rfl⟩ zh_yX3_goThrough ⟨by decide, by decide⟩ (zc_at (j := 0) (by decide)) rfl rfl rfl (zle rfl) rfl ?_
      refine zv_iconst K 0 24 dX3_contested_23 rfl (by decide) ?_
      refine zv_istore K [some (.ref (a 0)), some (.int vn), some (.int d), some (.int k_), some (.int 0), none] 26 dX3_contested_24 rfl rfl (zlt rfl) ?_
      refine zv_iconst K 0 27 dX3_contested_26 rfl (by decide) ?_
      refine zv_istore K [some (.ref (a 0)), some (.int vn), some (.int d), some (.int k_), some (.int 0), some (.int 0)] 29 dX3_contested_27 rfl rfl (zlt rfl) ?_
      exact kX3_contested_l l D ty a (zQ σ O n d k_) _ (zQ_c σ O n d k_).1 (zQ_c σ O n d k_).2 vn d k_ K (by simpa only [fX3_contested, if_pos h1, if_pos h2] using T) 0 (by decide)
    · skip
      refine zv_iconst K (-1) 16 dX3_contested_15 rfl (by decide) ?_
      exact zv_iret K T dX3_contested_16 (⟨by simp only [fX3_contested, if_pos h1, if_neg h2], by simp only [fX3_contested, if_pos h1, if_neg h2]⟩)

set_option maxHeartbeats 4000000 in
set_option maxRecDepth 100000 in
theorem kX3_changed_l (l : Launch) (D : va_G) (ty : zTy) (a : Nat → Nat) (ρ : zC) (c : Nat) (hc : ρ.1 3 0 = nI c) (hc20 : c ≤ 20) (x y z : Int32) {k : zKx} (K : zv_ok k l D (zR 7 165) cX3_changed 6 yX3_changed.cls ty) (T : zv_rt k (some .int) (fun v_ w_ => v_ = some (.int (nI (zct (zchg ρ c) 240))) ∧ w_ = zc a ty ρ)) : ∀ j : Nat, j ≤ 240 → zv k 39 [some (.ref (a 0)), some (.int x), some (.int y), some (.int z), some (.int (nI (zct (zchg ρ c) j))), some (.int (nI j))] [] (zc a ty ρ) := by
  refine z_wf (fun j : Nat => 240 - j) ?_
  intro j ih hj
  refine zv_iload K 41 dX3_changed_39 rfl rfl ?_
  refine zv_aload_n K 42 dX3_changed_41 rfl rfl ?_
  refine zv_get (v := .ref (a 10)) (C := RX3) (T := TX3) (N := 7) K 0 6 45 dX3_changed_42 rfl zy_X3 (zc_at (j := 0) (by decide)) rfl (by decide) zw_1_125 rfl ?_
  refine zv_alen K 10 46 240 dX3_changed_45 rfl (zc_at (j := 10) (by decide)) rfl ?_
  refine zv_icmp_ge K 85 49 dX3_changed_46 (by decide) rfl (fun hb => ?_) (fun hb => ?_)
  · skip
    have e : j = 240 := by have := z_ge (c := 240) hb (by decide) (by omega); omega
    refine zv_iload K 87 dX3_changed_85 rfl rfl ?_
    exact zv_iret K T dX3_changed_87 (⟨by rw [e], rfl⟩)
  · skip
    have hlt : j < 240 := z_lt (c := 240) hb (by omega)
    refine zv_aload_n K 50 dX3_changed_49 rfl rfl ?_
    refine zv_get (v := .ref (a 10)) (C := RX3) (T := TX3) (N := 7) K 0 6 53 dX3_changed_50 rfl zy_X3 (zc_at (j := 0) (by decide)) rfl (by decide) zw_1_125 rfl ?_
    refine zv_iload K 55 dX3_changed_53 rfl rfl ?_
    refine zv_iald (F := ρ.2 10) K 10 j 56 dX3_changed_55 rfl (zc_at (j := 10) (by decide)) rfl hlt (by decide) ?_
    refine zv_aload_n K 57 dX3_changed_56 rfl rfl ?_
    refine zv_get (v := .ref (a 3)) (C := RX3) (T := TX3) (N := 7) K 0 5 60 dX3_changed_57 rfl zy_X3 (zc_at (j := 0) (by decide)) rfl (by decide) zw_1_124 rfl ?_
    refine zv_iload K 62 dX3_changed_60 rfl rfl ?_
    refine zv_bipush K 60 64 dX3_changed_62 rfl (by decide) ?_
    refine zv_idiv K 65 dX3_changed_64 rfl (by decide) ?_
    refine zv_topi (nI (j / 60)) (zdiv60 hlt) ?_
    refine zv_iload K 67 dX3_changed_65 rfl rfl ?_
    refine zv_bipush K 60 69 dX3_changed_67 rfl (by decide) ?_
    refine zv_irem K 70 dX3_changed_69 rfl (by decide) ?_
    refine zv_topi (nI (j % 60)) (zrem60 hlt) ?_
    refine zv_cV1 K (q0 := 3) (As := [.int (nI (j / 60)), .int (nI (j % 60))]) (rest := [.int (ρ.2 10 j)]) 2 73 (kX2_holderOver l D ty a ρ c hc hc20 (nI (j / 60)) (nI (j % 60))) dX3_changed_70 rfl zw_2_104 zw_2_105 zw_2_106 zw_1_3 zw_2_107 ⟨rfl, rfl⟩ zh_yX2_holderOver ⟨by decide, by decide⟩ (zc_at (j := 3) (by decide)) rfl rfl rfl (zle rfl) rfl ?_
    refine zv_icmp_eq K 79 76 dX3_changed_73 (by decide) rfl (fun he => ?_) (fun he => ?_)
    · skip
      refine zv_iinc K (nI (j + 1)) [some (.ref (a 0)), some (.int x), some (.int y), some (.int z), some (.int (nI (zct (zchg ρ c) j))), some (.int (nI (j + 1)))] 82 dX3_changed_79 rfl rfl (z_inc j) rfl ?_
      refine zv_goto K 39 dX3_changed_82 (by decide) ?_
      refine zv_eq (lv2 := [some (.ref (a 0)), some (.int x), some (.int y), some (.int z), some (.int (nI (zct (zchg ρ c) (j + 1)))), some (.int (nI (j + 1)))]) rfl (by rw [zct_f (decide_eq_false (fun z => z he))]) rfl rfl ?_
      exact ih (j + 1) (by omega) (by omega)
    · skip
      refine zv_iinc K (nI (zct (zchg ρ c) j + 1)) [some (.ref (a 0)), some (.int x), some (.int y), some (.int z), some (.int (nI (zct (zchg ρ c) j + 1))), some (.int (nI j))] 79 dX3_changed_76 rfl rfl (nI_1 _) rfl ?_
      refine zv_iinc K (nI (j + 1)) [some (.ref (a 0)), some (.int x), some (.int y), some (.int z), some (.int (nI (zct (zchg ρ c) j + 1))), some (.int (nI (j + 1)))] 82 dX3_changed_79 rfl rfl (z_inc j) rfl ?_
      refine zv_goto K 39 dX3_changed_82 (by decide) ?_
      refine zv_eq (lv2 := [some (.ref (a 0)), some (.int x), some (.int y), some (.int z), some (.int (nI (zct (zchg ρ c) (j + 1)))), some (.int (nI (j + 1)))]) rfl (by rw [zct_t (decide_eq_true he)]) rfl rfl ?_
      exact ih (j + 1) (by omega) (by omega)

def zN (σ : zC) : zC := zFa σ 10 (zhN σ (zcn σ) 240 (σ.2 10))
theorem zfr_N (σ : zC) : zfr σ (zN σ) := zfr_Fa (by decide) _
def fX3_changed (σ : zC) (O : Nat → Nat) (n : Nat) (x : Int32) (y : Int32) (z : Int32) : Int32 × zC :=
  if ((0 ≤ x ∧ x ≤ 999) ∧ (0 ≤ y ∧ y ≤ 999)) then
    if (0 ≤ z ∧ z ≤ 999) then
      (nI (zct (zchg (zQ (zN (zQ σ O n x y)) O n x z) (zcn (zQ (zN (zQ σ O n x y)) O n x z))) 240), (zQ (zN (zQ σ O n x y)) O n x z))
    else
      ((-1), σ)
  else
    ((-1), σ)
set_option maxHeartbeats 4000000 in
set_option maxRecDepth 100000 in
theorem kX3_changed (l : Launch) (D : va_G) (ty : zTy) (a : Nat → Nat) (σ : zC) (O : Nat → Nat) (n : Nat) (hI : zI σ O n) (x y z : Int32) : zv_ct l D ty yX3_changed cX3_changed 6 (some .int) (zR 7 165) [.ref (a 0), .int x, .int y, .int z] (zc a ty σ) (fun v_ w_ => v_ = some (.int (fX3_changed σ O n x y z).1) ∧ w_ = zc a ty (fX3_changed σ O n x y z).2) := by
  refine zv_open (by decide) rfl rfl [some (.ref (a 0)), some (.int x), some (.int y), some (.int z), none, none] (by simp [zv_one, Value.category]) (zle rfl) rfl ?_
  intro k K T
  refine zv_iload_n K 1 dX3_changed_0 rfl rfl ?_
  refine zv_iload_n K 2 dX3_changed_1 rfl rfl ?_
  refine zv_cS1 K (As := [.int x, .int y]) (rest := []) 2 5 (kX3_areDays l D ty (zc a ty σ) x y) dX3_changed_2 rfl zw_2_18 zw_2_19 zw_1_1 zw_2_20 ⟨rfl, rfl⟩ zh_yX3_areDays ⟨by decide, by decide⟩ rfl rfl (zle rfl) rfl ?_
  refine zv_ifB_eq K 15 8 dX3_changed_5 (by decide) rfl (fun h1 => ?_) (fun h1 => ?_)
  · skip
    refine zv_iconst K (-1) 16 dX3_changed_15 rfl (by decide) ?_
    exact zv_iret K T dX3_changed_16 (⟨by simp only [fX3_changed, if_neg h1], by simp only [fX3_changed, if_neg h1]⟩)
  · skip
    refine zv_iload_n K 9 dX3_changed_8 rfl rfl ?_
    refine zv_cS1 K (As := [.int z]) (rest := []) 1 12 (kX3_isDay l D ty (zc a ty σ) z) dX3_changed_9 rfl zw_2_21 zw_2_22 zw_1_1 zw_2_23 ⟨rfl, rfl⟩ zh_yX3_isDay ⟨by decide, by decide⟩ rfl rfl (zle rfl) rfl ?_
    refine zv_ifB_ne K 17 15 dX3_changed_12 (by decide) rfl (fun h2 => ?_) (fun h2 => ?_)
    · skip
      refine zv_aload_n K 18 dX3_changed_17 rfl rfl ?_
      refine zv_iload_n K 19 dX3_changed_18 rfl rfl ?_
      refine zv_iload_n K 20 dX3_changed_19 rfl rfl ?_
      refine zv_cV0 K (q0 := 0) (As := [.int x, .int y]) (rest := []) 2 23 (kX3_goThrough l D ty a σ O n hI x y) dX3_changed_20 rfl zw_2_24 zw_2_26 zw_p1_3 zw_1_1 zw_2_27 ⟨rfl, rfl⟩ zh_yX3_goThrough ⟨by decide, by decide⟩ (zc_at (j := 0) (by decide)) rfl rfl rfl (zle rfl) rfl ?_
      refine zv_aload_n K 24 dX3_changed_23 rfl rfl ?_
      refine zv_cV0 K (q0 := 0) (As := []) (rest := []) 0 27 (kX3_noteHolders l D ty a (zQ σ O n x y) (zcn (zQ σ O n x y)) (zQ_c σ O n x y).1 (zQ_c σ O n x y).2) dX3_changed_24 rfl zw_2_155 zw_2_157 zw_p1_15 zw_1_1 zw_2_158 ⟨rfl, rfl⟩ zh_yX3_noteHolders ⟨by decide, by decide⟩ (zc_at (j := 0) (by decide)) rfl rfl rfl (zle rfl) rfl ?_
      refine zv_aload_n K 28 dX3_changed_27 rfl rfl ?_
      refine zv_iload_n K 29 dX3_changed_28 rfl rfl ?_
      refine zv_iload_n K 30 dX3_changed_29 rfl rfl ?_
      refine zv_cV0 K (q0 := 0) (As := [.int x, .int z]) (rest := []) 2 33 (kX3_goThrough l D ty a (zN (zQ σ O n x y)) O n (hI.fr ((zQ_fr σ O n x y).tr (zfr_N _))) x z) dX3_changed_30 rfl zw_2_24 zw_2_26 zw_p1_3 zw_1_1 zw_2_27 ⟨rfl, rfl⟩ zh_yX3_goThrough ⟨by decide, by decide⟩ (zc_at (j := 0) (by decide)) rfl rfl rfl (zle rfl) rfl ?_
      refine zv_iconst K 0 34 dX3_changed_33 rfl (by decide) ?_
      refine zv_istore K [some (.ref (a 0)), some (.int x), some (.int y), some (.int z), some (.int 0), none] 36 dX3_changed_34 rfl rfl (zlt rfl) ?_
      refine zv_iconst K 0 37 dX3_changed_36 rfl (by decide) ?_
      refine zv_istore K [some (.ref (a 0)), some (.int x), some (.int y), some (.int z), some (.int 0), some (.int 0)] 39 dX3_changed_37 rfl rfl (zlt rfl) ?_
      exact kX3_changed_l l D ty a (zQ (zN (zQ σ O n x y)) O n x z) _ (zQ_c (zN (zQ σ O n x y)) O n x z).1 (zQ_c (zN (zQ σ O n x y)) O n x z).2 x y z K (by simpa only [fX3_changed, if_pos h1, if_pos h2] using T) 0 (by decide)
    · skip
      refine zv_iconst K (-1) 16 dX3_changed_15 rfl (by decide) ?_
      exact zv_iret K T dX3_changed_16 (⟨by simp only [fX3_changed, if_pos h1, if_neg h2], by simp only [fX3_changed, if_pos h1, if_neg h2]⟩)

