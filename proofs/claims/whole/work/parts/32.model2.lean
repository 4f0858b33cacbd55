def fX4_nick (τ : zM) (n : Nat) (ab : Int32) (x : Int32) (m : Int32) : Int32 × zM :=
  if 0 ≤ (fX4_wrong τ ab x (zB (0 ≤ m ∧ m ≤ 9))) then
    (nI n, (fX4_tell τ n 2 ab x m).2)
  else
    (fX4_wrong τ ab x (zB (0 ≤ m ∧ m ≤ 9)), τ)
set_option maxHeartbeats 4000000 in
set_option maxRecDepth 100000 in
theorem kX4_nick (l : Launch) (D : va_G) (ty : zTy) (b : Nat → Nat) (τ : zM) (n : Nat) (hn : n ≤ 90) (hc : τ.1 3 = nI n) (ab x m : Int32) : zv_ct l D ty yX4_nick cX4_nick 5 (some .int) (zR 3 66) [.ref (b 0), .int ab, .int x, .int m] (zm b ty τ) (fun v_ w_ => v_ = some (.int (fX4_nick τ n ab x m).1) ∧ w_ = zm b ty (fX4_nick τ n ab x m).2) := by
  refine zv_open (by decide) rfl rfl [some (.ref (b 0)), some (.int ab), some (.int x), some (.int m), none] (by simp [zv_one, Value.category]) (zle rfl) rfl ?_
  intro k K T
  refine zv_aload_n K 1 dX4_nick_0 rfl rfl ?_
  refine zv_iload_n K 2 dX4_nick_1 rfl rfl ?_
  refine zv_iload_n K 3 dX4_nick_2 rfl rfl ?_
  refine zv_iload_n K 4 dX4_nick_3 rfl rfl ?_
  refine zv_cS1 K (As := [.int m]) (rest := [.int x, .int ab, .ref (b 0)]) 1 7 (kX4_isMiner l D ty (zm b ty τ) m) dX4_nick_4 rfl zw_3_64 zw_3_65 zw_1_5 zw_3_66 ⟨rfl, rfl⟩ zh_yX4_isMiner ⟨by decide, by decide⟩ rfl rfl (zle rfl) rfl ?_
  refine zv_cV1 K (q0 := 0) (As := [.int ab, .int x, .int (zB (0 ≤ m ∧ m ≤ 9))]) (rest := []) 3 10 (kX4_wrong l D ty b τ n hn hc ab x (zB (0 ≤ m ∧ m ≤ 9))) dX4_nick_7 rfl zw_3_75 zw_3_77 zw_p2_1 zw_1_5 zw_3_78 ⟨rfl, rfl⟩ zh_yX4_wrong ⟨by decide, by decide⟩ (zm_at (p := 0) (j := 0) rfl) rfl rfl rfl (zle rfl) rfl ?_
  refine zv_istore K [some (.ref (b 0)), some (.int ab), some (.int x), some (.int m), some (.int (fX4_wrong τ ab x (zB (0 ≤ m ∧ m ≤ 9))))] 12 dX4_nick_10 rfl rfl (zlt rfl) ?_
  refine zv_iload K 14 dX4_nick_12 rfl rfl ?_
  refine zv_if_ge K 22 17 dX4_nick_14 (by decide) rfl (fun hr => ?_) (fun hr => ?_)
  · skip
    obtain ⟨hab_, hx_, hg_, hk_, hf_⟩ := zm_wr (z_len hr)
    obtain ⟨hx, hf⟩ := zm_hs hn hc hx_
    have hn9 := zm_n9 hn hc hf_
    refine zv_aload_n K 23 dX4_nick_22 rfl rfl ?_
    refine zv_iconst K 2 24 dX4_nick_23 rfl (by decide) ?_
    refine zv_iload_n K 25 dX4_nick_24 rfl rfl ?_
    refine zv_iload_n K 26 dX4_nick_25 rfl rfl ?_
    refine zv_iload_n K 27 dX4_nick_26 rfl rfl ?_
    refine zv_cV1 K (q0 := 0) (As := [.int 2, .int ab, .int x, .int m]) (rest := []) 4 30 (kX4_tell l D ty b τ n hn9 hc 2 ab x m (fun _ => ⟨hx, hf⟩)) dX4_nick_27 rfl zw_3_67 zw_3_69 zw_p2_0 zw_1_5 zw_3_70 ⟨rfl, rfl⟩ zh_yX4_tell ⟨by decide, by decide⟩ (zm_at (p := 0) (j := 0) rfl) rfl rfl rfl (zle rfl) rfl ?_
    refine zv_topi (nI n) (fX4_tell_1 _ _ _ _ _ _) ?_
    exact zv_iret K T dX4_nick_30 (⟨by simp only [fX4_nick, if_pos hr], by simp only [fX4_nick, if_pos hr]⟩)
  · skip
    refine zv_iload K 19 dX4_nick_17 rfl rfl ?_
    refine zv_goto K 30 dX4_nick_19 (by decide) ?_
    exact zv_iret K T dX4_nick_30 (⟨by simp only [fX4_nick, if_neg hr], by simp only [fX4_nick, if_neg hr]⟩)

def fX4_view (τ : zM) (n : Nat) (ab : Int32) (x : Int32) (p : Int32) (q : Int32) : Int32 × zM :=
  if (0 ≤ p ∧ p ≤ 59) then
    if (0 ≤ q ∧ q ≤ 59) then
      if q < p then
        if 0 ≤ (fX4_wrong τ ab x 0) then
          (nI n, (zmF (zmF (fX4_tell τ n 4 ab x (-4)).2 12 n p) 13 n q))
        else
          (fX4_wrong τ ab x 0, τ)
      else
        if 0 ≤ (fX4_wrong τ ab x 1) then
          (nI n, (zmF (zmF (fX4_tell τ n 4 ab x (-4)).2 12 n p) 13 n q))
        else
          (fX4_wrong τ ab x 1, τ)
    else
      if 0 ≤ (fX4_wrong τ ab x 0) then
        (nI n, (zmF (zmF (fX4_tell τ n 4 ab x (-4)).2 12 n p) 13 n q))
      else
        (fX4_wrong τ ab x 0, τ)
  else
    if 0 ≤ (fX4_wrong τ ab x 0) then
      (nI n, (zmF (zmF (fX4_tell τ n 4 ab x (-4)).2 12 n p) 13 n q))
    else
      (fX4_wrong τ ab x 0, τ)
set_option maxHeartbeats 4000000 in
set_option maxRecDepth 100000 in
theorem kX4_view (l : Launch) (D : va_G) (ty : zTy) (b : Nat → Nat) (τ : zM) (n : Nat) (hn : n ≤ 90) (hc : τ.1 3 = nI n) (ab x p q : Int32) : zv_ct l D ty yX4_view cX4_view 7 (some .int) (zR 3 66) [.ref (b 0), .int ab, .int x, .int p, .int q] (zm b ty τ) (fun v_ w_ => v_ = some (.int (fX4_view τ n ab x p q).1) ∧ w_ = zm b ty (fX4_view τ n ab x p q).2) := by
  refine zv_open (by decide) rfl rfl [some (.ref (b 0)), some (.int ab), some (.int x), some (.int p), some (.int q), none, none] (by simp [zv_one, Value.category]) (zle rfl) rfl ?_
  intro k K T
  refine zv_aload_n K 1 dX4_view_0 rfl rfl ?_
  refine zv_iload_n K 2 dX4_view_1 rfl rfl ?_
  refine zv_iload_n K 3 dX4_view_2 rfl rfl ?_
  refine zv_iload_n K 4 dX4_view_3 rfl rfl ?_
  refine zv_cS1 K (As := [.int p]) (rest := [.int x, .int ab, .ref (b 0)]) 1 7 (kX4_isFoot l D ty (zm b ty τ) p) dX4_view_4 rfl zw_3_61 zw_3_62 zw_1_5 zw_3_63 ⟨rfl, rfl⟩ zh_yX4_isFoot ⟨by decide, by decide⟩ rfl rfl (zle rfl) rfl ?_
  refine zv_ifB_eq K 28 10 dX4_view_7 (by decide) rfl (fun h1 => ?_) (fun h1 => ?_)
  · skip
    refine zv_iconst K 0 29 dX4_view_28 rfl (by decide) ?_
    refine zv_cV1 K (q0 := 0) (As := [.int ab, .int x, .int 0]) (rest := []) 3 32 (kX4_wrong l D ty b τ n hn hc ab x 0) dX4_view_29 rfl zw_3_75 zw_3_77 zw_p2_1 zw_1_5 zw_3_78 ⟨rfl, rfl⟩ zh_yX4_wrong ⟨by decide, by decide⟩ (zm_at (p := 0) (j := 0) rfl) rfl rfl rfl (zle rfl) rfl ?_
    refine zv_istore K [some (.ref (b 0)), some (.int ab), some (.int x), some (.int p), some (.int q), some (.int (fX4_wrong τ ab x 0)), none] 34 dX4_view_32 rfl rfl (zlt rfl) ?_
    refine zv_iload K 36 dX4_view_34 rfl rfl ?_
    refine zv_if_ge K 42 39 dX4_view_36 (by decide) rfl (fun hr => ?_) (fun hr => ?_)
    · skip
      obtain ⟨hab_, hx_, hg_, hk_, hf_⟩ := zm_wr (z_len hr)
      obtain ⟨hx, hf⟩ := zm_hs hn hc hx_
      have hn9 := zm_n9 hn hc hf_
      refine zv_aload_n K 43 dX4_view_42 rfl rfl ?_
      refine zv_iconst K 4 44 dX4_view_43 rfl (by decide) ?_
      refine zv_iload_n K 45 dX4_view_44 rfl rfl ?_
      refine zv_iload_n K 46 dX4_view_45 rfl rfl ?_
      refine zv_bipush K (-4) 48 dX4_view_46 rfl (by decide) ?_
      refine zv_cV1 K (q0 := 0) (As := [.int 4, .int ab, .int x, .int (-4)]) (rest := []) 4 51 (kX4_tell l D ty b τ n hn9 hc 4 ab x (-4) (fun _ => ⟨hx, hf⟩)) dX4_view_48 rfl zw_3_67 zw_3_69 zw_p2_0 zw_1_5 zw_3_70 ⟨rfl, rfl⟩ zh_yX4_tell ⟨by decide, by decide⟩ (zm_at (p := 0) (j := 0) rfl) rfl rfl rfl (zle rfl) rfl ?_
      refine zv_topi (nI n) (fX4_tell_1 _ _ _ _ _ _) ?_
      refine zv_istore K [some (.ref (b 0)), some (.int ab), some (.int x), some (.int p), some (.int q), some (.int (fX4_wrong τ ab x 0)), some (.int (nI n))] 53 dX4_view_51 rfl rfl (zlt rfl) ?_
      refine zv_aload_n K 54 dX4_view_53 rfl rfl ?_
      refine zm_get (v := .ref (b 12)) K 12 57 dX4_view_54 rfl (by decide) zw_2_200 rfl ?_
      refine zv_iload K 59 dX4_view_57 rfl rfl ?_
      refine zv_iload_n K 60 dX4_view_59 rfl rfl ?_
      refine zv_iast K 8 n 61 (zm b ty (zmF (fX4_tell τ n 4 ab x (-4)).2 12 n p)) dX4_view_60 rfl (zm_at (p := 8) (j := 12) rfl) rfl hn9 (by decide) (zm_F 12 n rfl (by decide) rfl) ?_
      refine zv_aload_n K 62 dX4_view_61 rfl rfl ?_
      refine zm_get (v := .ref (b 13)) K 13 65 dX4_view_62 rfl (by decide) zw_2_201 rfl ?_
      refine zv_iload K 67 dX4_view_65 rfl rfl ?_
      refine zv_iload K 69 dX4_view_67 rfl rfl ?_
      refine zv_iast K 9 n 70 (zm b ty (zmF (zmF (fX4_tell τ n 4 ab x (-4)).2 12 n p) 13 n q)) dX4_view_69 rfl (zm_at (p := 9) (j := 13) rfl) rfl hn9 (by decide) (zm_F 13 n rfl (by decide) rfl) ?_
      refine zv_iload K 72 dX4_view_70 rfl rfl ?_
      exact zv_iret K T dX4_view_72 (⟨by simp only [fX4_view, if_neg h1, if_pos hr], by simp only [fX4_view, if_neg h1, if_pos hr]⟩)
    · skip
      refine zv_iload K 41 dX4_view_39 rfl rfl ?_
      exact zv_iret K T dX4_view_41 (⟨by simp only [fX4_view, if_neg h1, if_neg hr], by simp only [fX4_view, if_neg h1, if_neg hr]⟩)
  · skip
    refine zv_iload K 12 dX4_view_10 rfl rfl ?_
    refine zv_cS1 K (As := [.int q]) (rest := [.int x, .int ab, .ref (b 0)]) 1 15 (kX4_isFoot l D ty (zm b ty τ) q) dX4_view_12 rfl zw_3_61 zw_3_62 zw_1_5 zw_3_63 ⟨rfl, rfl⟩ zh_yX4_isFoot ⟨by decide, by decide⟩ rfl rfl (zle rfl) rfl ?_
    refine zv_ifB_eq K 28 18 dX4_view_15 (by decide) rfl (fun h3 => ?_) (fun h3 => ?_)
    · skip
      refine zv_iconst K 0 29 dX4_view_28 rfl (by decide) ?_
      refine zv_cV1 K (q0 := 0) (As := [.int ab, .int x, .int 0]) (rest := []) 3 32 (kX4_wrong l D ty b τ n hn hc ab x 0) dX4_view_29 rfl zw_3_75 zw_3_77 zw_p2_1 zw_1_5 zw_3_78 ⟨rfl, rfl⟩ zh_yX4_wrong ⟨by decide, by decide⟩ (zm_at (p := 0) (j := 0) rfl) rfl rfl rfl (zle rfl) rfl ?_
      refine zv_istore K [some (.ref (b 0)), some (.int ab), some (.int x), some (.int p), some (.int q), some (.int (fX4_wrong τ ab x 0)), none] 34 dX4_view_32 rfl rfl (zlt rfl) ?_
      refine zv_iload K 36 dX4_view_34 rfl rfl ?_
      refine zv_if_ge K 42 39 dX4_view_36 (by decide) rfl (fun hr => ?_) (fun hr => ?_)
      · skip
        obtain ⟨hab_, hx_, hg_, hk_, hf_⟩ := zm_wr (z_len hr)
        obtain ⟨hx, hf⟩ := zm_hs hn hc hx_
        have hn9 := zm_n9 hn hc hf_
        refine zv_aload_n K 43 dX4_view_42 rfl rfl ?_
        refine zv_iconst K 4 44 dX4_view_43 rfl (by decide) ?_
        refine zv_iload_n K 45 dX4_view_44 rfl rfl ?_
        refine zv_iload_n K 46 dX4_view_45 rfl rfl ?_
        refine zv_bipush K (-4) 48 dX4_view_46 rfl (by decide) ?_
        refine zv_cV1 K (q0 := 0) (As := [.int 4, .int ab, .int x, .int (-4)]) (rest := []) 4 51 (kX4_tell l D ty b τ n hn9 hc 4 ab x (-4) (fun _ => ⟨hx, hf⟩)) dX4_view_48 rfl zw_3_67 zw_3_69 zw_p2_0 zw_1_5 zw_3_70 ⟨rfl, rfl⟩ zh_yX4_tell ⟨by decide, by decide⟩ (zm_at (p := 0) (j := 0) rfl) rfl rfl rfl (zle rfl) rfl ?_
        refine zv_topi (nI n) (fX4_tell_1 _ _ _ _ _ _) ?_
        refine zv_istore K [some (.ref (b 0)), some (.int ab), some (.int x), some (.int p), some (.int q), some (.int (fX4_wrong τ ab x 0)), some (.int (nI n))] 53 dX4_view_51 rfl rfl (zlt rfl) ?_
        refine zv_aload_n K 54 dX4_view_53 rfl rfl ?_
        refine zm_get (v := .ref (b 12)) K 12 57 dX4_view_54 rfl (by decide) zw_2_200 rfl ?_
        refine zv_iload K 59 dX4_view_57 rfl rfl ?_
        refine zv_iload_n K 60 dX4_view_59 rfl rfl ?_
        refine zv_iast K 8 n 61 (zm b ty (zmF (fX4_tell τ n 4 ab x (-4)).2 12 n p)) dX4_view_60 rfl (zm_at (p := 8) (j := 12) rfl) rfl hn9 (by decide) (zm_F 12 n rfl (by decide) rfl) ?_
        refine zv_aload_n K 62 dX4_view_61 rfl rfl ?_
        refine zm_get (v := .ref (b 13)) K 13 65 dX4_view_62 rfl (by decide) zw_2_201 rfl ?_
        refine zv_iload K 67 dX4_view_65 rfl rfl ?_
        refine zv_iload K 69 dX4_view_67 rfl rfl ?_
        refine zv_iast K 9 n 70 (zm b ty (zmF (zmF (fX4_tell τ n 4 ab x (-4)).2 12 n p) 13 n q)) dX4_view_69 rfl (zm_at (p := 9) (j := 13) rfl) rfl hn9 (by decide) (zm_F 13 n rfl (by decide) rfl) ?_
        refine zv_iload K 72 dX4_view_70 rfl rfl ?_
        exact zv_iret K T dX4_view_72 (⟨by simp only [fX4_view, if_pos h1, if_neg h3, if_pos hr], by simp only [fX4_view, if_pos h1, if_neg h3, if_pos hr]⟩)
      · skip
        refine zv_iload K 41 dX4_view_39 rfl rfl ?_
        exact zv_iret K T dX4_view_41 (⟨by simp only [fX4_view, if_pos h1, if_neg h3, if_neg hr], by simp only [fX4_view, if_pos h1, if_neg h3, if_neg hr]⟩)
    · skip
      refine zv_iload_n K 19 dX4_view_18 rfl rfl ?_
      refine zv_iload K 21 dX4_view_19 rfl rfl ?_
      refine zv_icmp_gt K 28 24 dX4_view_21 (by decide) rfl (fun h5 => ?_) (fun h5 => ?_)
      · skip
        refine zv_iconst K 0 29 dX4_view_28 rfl (by decide) ?_
        refine zv_cV1 K (q0 := 0) (As := [.int ab, .int x, .int 0]) (rest := []) 3 32 (kX4_wrong l D ty b τ n hn hc ab x 0) dX4_view_29 rfl zw_3_75 zw_3_77 zw_p2_1 zw_1_5 zw_3_78 ⟨rfl, rfl⟩ zh_yX4_wrong ⟨by decide, by decide⟩ (zm_at (p := 0) (j := 0) rfl) rfl rfl rfl (zle rfl) rfl ?_
        refine zv_istore K [some (.ref (b 0)), some (.int ab), some (.int x), some (.int p), some (.int q), some (.int (fX4_wrong τ ab x 0)), none] 34 dX4_view_32 rfl rfl (zlt rfl) ?_
        refine zv_iload K 36 dX4_view_34 rfl rfl ?_
        refine zv_if_ge K 42 39 dX4_view_36 (by decide) rfl (fun hr => ?_) (fun hr => ?_)
        · skip
          obtain ⟨hab_, hx_, hg_, hk_, hf_⟩ := zm_wr (z_len hr)
          obtain ⟨hx, hf⟩ := zm_hs hn hc hx_
          have hn9 := zm_n9 hn hc hf_
          refine zv_aload_n K 43 dX4_view_42 rfl rfl ?_
          refine zv_iconst K 4 44 dX4_view_43 rfl (by decide) ?_
          refine zv_iload_n K 45 dX4_view_44 rfl rfl ?_
          refine zv_iload_n K 46 dX4_view_45 rfl rfl ?_
          refine zv_bipush K (-4) 48 dX4_view_46 rfl (by decide) ?_
          refine zv_cV1 K (q0 := 0) (As := [.int 4, .int ab, .int x, .int (-4)]) (rest := []) 4 51 (kX4_tell l D ty b τ n hn9 hc 4 ab x (-4) (fun _ => ⟨hx, hf⟩)) dX4_view_48 rfl zw_3_67 zw_3_69 zw_p2_0 zw_1_5 zw_3_70 ⟨rfl, rfl⟩ zh_yX4_tell ⟨by decide, by decide⟩ (zm_at (p := 0) (j := 0) rfl) rfl rfl rfl (zle rfl) rfl ?_
          refine zv_topi (nI n) (fX4_tell_1 _ _ _ _ _ _) ?_
          refine zv_istore K [some (.ref (b 0)), some (.int ab), some (.int x), some (.int p), some (.int q), some (.int (fX4_wrong τ ab x 0)), some (.int (nI n))] 53 dX4_view_51 rfl rfl (zlt rfl) ?_
          refine zv_aload_n K 54 dX4_view_53 rfl rfl ?_
          refine zm_get (v := .ref (b 12)) K 12 57 dX4_view_54 rfl (by decide) zw_2_200 rfl ?_
          refine zv_iload K 59 dX4_view_57 rfl rfl ?_
          refine zv_iload_n K 60 dX4_view_59 rfl rfl ?_
          refine zv_iast K 8 n 61 (zm b ty (zmF (fX4_tell τ n 4 ab x (-4)).2 12 n p)) dX4_view_60 rfl (zm_at (p := 8) (j := 12) rfl) rfl hn9 (by decide) (zm_F 12 n rfl (by decide) rfl) ?_
          refine zv_aload_n K 62 dX4_view_61 rfl rfl ?_
          refine zm_get (v := .ref (b 13)) K 13 65 dX4_view_62 rfl (by decide) zw_2_201 rfl ?_
          refine zv_iload K 67 dX4_view_65 rfl rfl ?_
          refine zv_iload K 69 dX4_view_67 rfl rfl ?_
          refine zv_iast K 9 n 70 (zm b ty (zmF (zmF (fX4_tell τ n 4 ab x (-4)).2 12 n p) 13 n q)) dX4_view_69 rfl (zm_at (p := 9) (j := 13) rfl) rfl hn9 (by decide) (zm_F 13 n rfl (by decide) rfl) ?_
          refine zv_iload K 72 dX4_view_70 rfl rfl ?_
          exact zv_iret K T dX4_view_72 (⟨by simp only [fX4_view, if_pos h1, if_pos h3, if_pos h5, if_pos hr], by simp only [fX4_view, if_pos h1, if_pos h3, if_pos h5, if_pos hr]⟩)
        · skip
          refine zv_iload K 41 dX4_view_39 rfl rfl ?_
          exact zv_iret K T dX4_view_41 (⟨by simp only [fX4_view, if_pos h1, if_pos h3, if_pos h5, if_neg hr], by simp only [fX4_view, if_pos h1, if_pos h3, if_pos h5, if_neg hr]⟩)
      · skip
        refine zv_iconst K 1 25 dX4_view_24 rfl (by decide) ?_
        refine zv_goto K 29 dX4_view_25 (by decide) ?_
        refine zv_cV1 K (q0 := 0) (As := [.int ab, .int x, .int 1]) (rest := []) 3 32 (kX4_wrong l D ty b τ n hn hc ab x 1) dX4_view_29 rfl zw_3_75 zw_3_77 zw_p2_1 zw_1_5 zw_3_78 ⟨rfl, rfl⟩ zh_yX4_wrong ⟨by decide, by decide⟩ (zm_at (p := 0) (j := 0) rfl) rfl rfl rfl (zle rfl) rfl ?_
        refine zv_istore K [some (.ref (b 0)), some (.int ab), some (.int x), some (.int p), some (.int q), some (.int (fX4_wrong τ ab x 1)), none] 34 dX4_view_32 rfl rfl (zlt rfl) ?_
        refine zv_iload K 36 dX4_view_34 rfl rfl ?_
        refine zv_if_ge K 42 39 dX4_view_36 (by decide) rfl (fun hr => ?_) (fun hr => ?_)
        · skip
          obtain ⟨hab_, hx_, hg_, hk_, hf_⟩ := zm_wr (z_len hr)
          obtain ⟨hx, hf⟩ := zm_hs hn hc hx_
          have hn9 := zm_n9 hn hc hf_
          refine zv_aload_n K 43 dX4_view_42 rfl rfl ?_
          refine zv_iconst K 4 44 dX4_view_43 rfl (by decide) ?_
          refine zv_iload_n K 45 dX4_view_44 rfl rfl ?_
          refine zv_iload_n K 46 dX4_view_45 rfl rfl ?_
          refine zv_bipush K (-4) 48 dX4_view_46 rfl (by decide) ?_
          refine zv_cV1 K (q0 := 0) (As := [.int 4, .int ab, .int x, .int (-4)]) (rest := []) 4 51 (kX4_tell l D ty b τ n hn9 hc 4 ab x (-4) (fun _ => ⟨hx, hf⟩)) dX4_view_48 rfl zw_3_67 zw_3_69 zw_p2_0 zw_1_5 zw_3_70 ⟨rfl, rfl⟩ zh_yX4_tell ⟨by decide, by decide⟩ (zm_at (p := 0) (j := 0) rfl) rfl rfl rfl (zle rfl) rfl ?_
          refine zv_topi (nI n) (fX4_tell_1 _ _ _ _ _ _) ?_
          refine zv_istore K [some (.ref (b 0)), some (.int ab), some (.int x), some (.int p), some (.int q), some (.int (fX4_wrong τ ab x 1)), some (.int (nI n))] 53 dX4_view_51 rfl rfl (zlt rfl) ?_
          refine zv_aload_n K 54 dX4_view_53 rfl rfl ?_
          refine zm_get (v := .ref (b 12)) K 12 57 dX4_view_54 rfl (by decide) zw_2_200 rfl ?_
          refine zv_iload K 59 dX4_view_57 rfl rfl ?_
          refine zv_iload_n K 60 dX4_view_59 rfl rfl ?_
          refine zv_iast K 8 n 61 (zm b ty (zmF (fX4_tell τ n 4 ab x (-4)).2 12 n p)) dX4_view_60 rfl (zm_at (p := 8) (j := 12) rfl) rfl hn9 (by decide) (zm_F 12 n rfl (by decide) rfl) ?_
          refine zv_aload_n K 62 dX4_view_61 rfl rfl ?_
          refine zm_get (v := .ref (b 13)) K 13 65 dX4_view_62 rfl (by decide) zw_2_201 rfl ?_
          refine zv_iload K 67 dX4_view_65 rfl rfl ?_
          refine zv_iload K 69 dX4_view_67 rfl rfl ?_
          refine zv_iast K 9 n 70 (zm b ty (zmF (zmF (fX4_tell τ n 4 ab x (-4)).2 12 n p) 13 n q)) dX4_view_69 rfl (zm_at (p := 9) (j := 13) rfl) rfl hn9 (by decide) (zm_F 13 n rfl (by decide) rfl) ?_
          refine zv_iload K 72 dX4_view_70 rfl rfl ?_
          exact zv_iret K T dX4_view_72 (⟨by simp only [fX4_view, if_pos h1, if_pos h3, if_neg h5, if_pos hr], by simp only [fX4_view, if_pos h1, if_pos h3, if_neg h5, if_pos hr]⟩)
        · skip
          refine zv_iload K 41 dX4_view_39 rfl rfl ?_
          exact zv_iret K T dX4_view_41 (⟨by simp only [fX4_view, if_pos h1, if_pos h3, if_neg h5, if_neg hr], by simp only [fX4_view, if_pos h1, if_pos h3, if_neg h5, if_neg hr]⟩)

def fX4_sell (τ : zM) (n : Nat) (ab : Int32) (x : Int32) (m : Int32) (q : Int32) (v : Int32) : Int32 × zM :=
  if (0 ≤ m ∧ m ≤ 9) then
    if (0 ≤ q ∧ q ≤ 9) then
      if m = q then
        if 0 ≤ (fX4_wrong τ ab x 0) then
          (nI n, (zmF (zmF (fX4_tell τ n 5 ab x m).2 11 n q) 14 n v))
        else
          (fX4_wrong τ ab x 0, τ)
      else
        if (1 ≤ v ∧ v ≤ 24) then
          if 0 ≤ (fX4_wrong τ ab x 1) then
            (nI n, (zmF (zmF (fX4_tell τ n 5 ab x m).2 11 n q) 14 n v))
          else
            (fX4_wrong τ ab x 1, τ)
        else
          if 0 ≤ (fX4_wrong τ ab x 0) then
            (nI n, (zmF (zmF (fX4_tell τ n 5 ab x m).2 11 n q) 14 n v))
          else
            (fX4_wrong τ ab x 0, τ)
    else
      if 0 ≤ (fX4_wrong τ ab x 0) then
        (nI n, (zmF (zmF (fX4_tell τ n 5 ab x m).2 11 n q) 14 n v))
      else
        (fX4_wrong τ ab x 0, τ)
  else
    if 0 ≤ (fX4_wrong τ ab x 0) then
      (nI n, (zmF (zmF (fX4_tell τ n 5 ab x m).2 11 n q) 14 n v))
    else
      (fX4_wrong τ ab x 0, τ)
set_option maxHeartbeats 4000000 in
set_option maxRecDepth 100000 in
theorem kX4_sell (l : Launch) (D : va_G) (ty : zTy) (b : Nat → Nat) (τ : zM) (n : Nat) (hn : n ≤ 90) (hc : τ.1 3 = nI n) (ab x m q v : Int32) : zv_ct l D ty yX4_sell cX4_sell 8 (some .int) (zR 3 66) [.ref (b 0), .int ab, .int x, .int m, .int q, .int v] (zm b ty τ) (fun v_ w_ => v_ = some (.int (fX4_sell τ n ab x m q v).1) ∧ w_ = zm b ty (fX4_sell τ n ab x m q v).2) := by
  refine zv_open (by decide) rfl rfl [some (.ref (b 0)), some (.int ab), some (.int x), some (.int m), some (.int q), some (.int v), none, none] (by simp [zv_one, Value.category]) (zle rfl) rfl ?_
  intro k K T
  refine zv_aload_n K 1 dX4_sell_0 rfl rfl ?_
  refine zv_iload_n K 2 dX4_sell_1 rfl rfl ?_
  refine zv_iload_n K 3 dX4_sell_2 rfl rfl ?_
  refine zv_iload_n K 4 dX4_sell_3 rfl rfl ?_
  refine zv_cS1 K (As := [.int m]) (rest := [.int x, .int ab, .ref (b 0)]) 1 7 (kX4_isMiner l D ty (zm b ty τ) m) dX4_sell_4 rfl zw_3_64 zw_3_65 zw_1_5 zw_3_66 ⟨rfl, rfl⟩ zh_yX4_isMiner ⟨by decide, by decide⟩ rfl rfl (zle rfl) rfl ?_
  refine zv_ifB_eq K 39 10 dX4_sell_7 (by decide) rfl (fun h1 => ?_) (fun h1 => ?_)
  · skip
    refine zv_iconst K 0 40 dX4_sell_39 rfl (by decide) ?_
    refine zv_cV1 K (q0 := 0) (As := [.int ab, .int x, .int 0]) (rest := []) 3 43 (kX4_wrong l D ty b τ n hn hc ab x 0) dX4_sell_40 rfl zw_3_75 zw_3_77 zw_p2_1 zw_1_5 zw_3_78 ⟨rfl, rfl⟩ zh_yX4_wrong ⟨by decide, by decide⟩ (zm_at (p := 0) (j := 0) rfl) rfl rfl rfl (zle rfl) rfl ?_
    refine zv_istore K [some (.ref (b 0)), some (.int ab), some (.int x), some (.int m), some (.int q), some (.int v), some (.int (fX4_wrong τ ab x 0)), none] 45 dX4_sell_43 rfl rfl (zlt rfl) ?_
    refine zv_iload K 47 dX4_sell_45 rfl rfl ?_
    refine zv_if_ge K 53 50 dX4_sell_47 (by decide) rfl (fun hr => ?_) (fun hr => ?_)
    · skip
      obtain ⟨hab_, hx_, hg_, hk_, hf_⟩ := zm_wr (z_len hr)
      obtain ⟨hx, hf⟩ := zm_hs hn hc hx_
      have hn9 := zm_n9 hn hc hf_
      refine zv_aload_n K 54 dX4_sell_53 rfl rfl ?_
      refine zv_iconst K 5 55 dX4_sell_54 rfl (by decide) ?_
      refine zv_iload_n K 56 dX4_sell_55 rfl rfl ?_
      refine zv_iload_n K 57 dX4_sell_56 rfl rfl ?_
      refine zv_iload_n K 58 dX4_sell_57 rfl rfl ?_
      refine zv_cV1 K (q0 := 0) (As := [.int 5, .int ab, .int x, .int m]) (rest := []) 4 61 (kX4_tell l D ty b τ n hn9 hc 5 ab x m (fun _ => ⟨hx, hf⟩)) dX4_sell_58 rfl zw_3_67 zw_3_69 zw_p2_0 zw_1_5 zw_3_70 ⟨rfl, rfl⟩ zh_yX4_tell ⟨by decide, by decide⟩ (zm_at (p := 0) (j := 0) rfl) rfl rfl rfl (zle rfl) rfl ?_
      refine zv_topi (nI n) (fX4_tell_1 _ _ _ _ _ _) ?_
      refine zv_istore K [some (.ref (b 0)), some (.int ab), some (.int x), some (.int m), some (.int q), some (.int v), some (.int (fX4_wrong τ ab x 0)), some (.int (nI n))] 63 dX4_sell_61 rfl rfl (zlt rfl) ?_
      refine zv_aload_n K 64 dX4_sell_63 rfl rfl ?_
      refine zm_get (v := .ref (b 11)) K 11 67 dX4_sell_64 rfl (by decide) zw_2_199 rfl ?_
      refine zv_iload K 69 dX4_sell_67 rfl rfl ?_
      refine zv_iload K 71 dX4_sell_69 rfl rfl ?_
      refine zv_iast K 7 n 72 (zm b ty (zmF (fX4_tell τ n 5 ab x m).2 11 n q)) dX4_sell_71 rfl (zm_at (p := 7) (j := 11) rfl) rfl hn9 (by decide) (zm_F 11 n rfl (by decide) rfl) ?_
      refine zv_aload_n K 73 dX4_sell_72 rfl rfl ?_
      refine zm_get (v := .ref (b 14)) K 14 76 dX4_sell_73 rfl (by decide) zw_2_202 rfl ?_
      refine zv_iload K 78 dX4_sell_76 rfl rfl ?_
      refine zv_iload K 80 dX4_sell_78 rfl rfl ?_
      refine zv_iast K 10 n 81 (zm b ty (zmF (zmF (fX4_tell τ n 5 ab x m).2 11 n q) 14 n v)) dX4_sell_80 rfl (zm_at (p := 10) (j := 14) rfl) rfl hn9 (by decide) (zm_F 14 n rfl (by decide) rfl) ?_
      refine zv_iload K 83 dX4_sell_81 rfl rfl ?_
      exact zv_iret K T dX4_sell_83 (⟨by simp only [fX4_sell, if_neg h1, if_pos hr], by simp only [fX4_sell, if_neg h1, if_pos hr]⟩)
    · skip
      refine zv_iload K 52 dX4_sell_50 rfl rfl ?_
      exact zv_iret K T dX4_sell_52 (⟨by simp only [fX4_sell, if_neg h1, if_neg hr], by simp only [fX4_sell, if_neg h1, if_neg hr]⟩)
  · skip
    refine zv_iload K 12 dX4_sell_10 rfl rfl ?_
    refine zv_cS1 K (As := [.int q]) (rest := [.int x, .int ab, .ref (b 0)]) 1 15 (kX4_isMiner l D ty (zm b ty τ) q) dX4_sell_12 rfl zw_3_64 zw_3_65 zw_1_5 zw_3_66 ⟨rfl, rfl⟩ zh_yX4_isMiner ⟨by decide, by decide⟩ rfl rfl (zle rfl) rfl ?_
    refine zv_ifB_eq K 39 18 dX4_sell_15 (by decide) rfl (fun h3 => ?_) (fun h3 => ?_)
    · skip
      refine zv_iconst K 0 40 dX4_sell_39 rfl (by decide) ?_
      refine zv_cV1 K (q0 := 0) (As := [.int ab, .int x, .int 0]) (rest := []) 3 43 (kX4_wrong l D ty b τ n hn hc ab x 0) dX4_sell_40 rfl zw_3_75 zw_3_77 zw_p2_1 zw_1_5 zw_3_78 ⟨rfl, rfl⟩ zh_yX4_wrong ⟨by decide, by decide⟩ (zm_at (p := 0) (j := 0) rfl) rfl rfl rfl (zle rfl) rfl ?_
      refine zv_istore K [some (.ref (b 0)), some (.int ab), some (.int x), some (.int m), some (.int q), some (.int v), some (.int (fX4_wrong τ ab x 0)), none] 45 dX4_sell_43 rfl rfl (zlt rfl) ?_
      refine zv_iload K 47 dX4_sell_45 rfl rfl ?_
      refine zv_if_ge K 53 50 dX4_sell_47 (by decide) rfl (fun hr => ?_) (fun hr => ?_)
      · skip
        obtain ⟨hab_, hx_, hg_, hk_, hf_⟩ := zm_wr (z_len hr)
        obtain ⟨hx, hf⟩ := zm_hs hn hc hx_
        have hn9 := zm_n9 hn hc hf_
        refine zv_aload_n K 54 dX4_sell_53 rfl rfl ?_
        refine zv_iconst K 5 55 dX4_sell_54 rfl (by decide) ?_
        refine zv_iload_n K 56 dX4_sell_55 rfl rfl ?_
        refine zv_iload_n K 57 dX4_sell_56 rfl rfl ?_
        refine zv_iload_n K 58 dX4_sell_57 rfl rfl ?_
        refine zv_cV1 K (q0 := 0) (As := [.int 5, .int ab, .int x, .int m]) (rest := []) 4 61 (kX4_tell l D ty b τ n hn9 hc 5 ab x m (fun _ => ⟨hx, hf⟩)) dX4_sell_58 rfl zw_3_67 zw_3_69 zw_p2_0 zw_1_5 zw_3_70 ⟨rfl, rfl⟩ zh_yX4_tell ⟨by decide, by decide⟩ (zm_at (p := 0) (j := 0) rfl) rfl rfl rfl (zle rfl) rfl ?_
        refine zv_topi (nI n) (fX4_tell_1 _ _ _ _ _ _) ?_
        refine zv_istore K [some (.ref (b 0)), some (.int ab), some (.int x), some (.int m), some (.int q), some (.int v), some (.int (fX4_wrong τ ab x 0)), some (.int (nI n))] 63 dX4_sell_61 rfl rfl (zlt rfl) ?_
        refine zv_aload_n K 64 dX4_sell_63 rfl rfl ?_
        refine zm_get (v := .ref (b 11)) K 11 67 dX4_sell_64 rfl (by decide) zw_2_199 rfl ?_
        refine zv_iload K 69 dX4_sell_67 rfl rfl ?_
        refine zv_iload K 71 dX4_sell_69 rfl rfl ?_
        refine zv_iast K 7 n 72 (zm b ty (zmF (fX4_tell τ n 5 ab x m).2 11 n q)) dX4_sell_71 rfl (zm_at (p := 7) (j := 11) rfl) rfl hn9 (by decide) (zm_F 11 n rfl (by decide) rfl) ?_
        refine zv_aload_n K 73 dX4_sell_72 rfl rfl ?_
        refine zm_get (v := .ref (b 14)) K 14 76 dX4_sell_73 rfl (by decide) zw_2_202 rfl ?_
        refine zv_iload K 78 dX4_sell_76 rfl rfl ?_
        refine zv_iload K 80 dX4_sell_78 rfl rfl ?_
        refine zv_iast K 10 n 81 (zm b ty (zmF (zmF (fX4_tell τ n 5 ab x m).2 11 n q) 14 n v)) dX4_sell_80 rfl (zm_at (p := 10) (j := 14) rfl) rfl hn9 (by decide) (zm_F 14 n rfl (by decide) rfl) ?_
        refine zv_iload K 83 dX4_sell_81 rfl rfl ?_
        exact zv_iret K T dX4_sell_83 (⟨by simp only [fX4_sell, if_pos h1, if_neg h3, if_pos hr], by simp only [fX4_sell, if_pos h1, if_neg h3, if_pos hr]⟩)
      · skip
        refine zv_iload K 52 dX4_sell_50 rfl rfl ?_
        exact zv_iret K T dX4_sell_52 (⟨by simp only [fX4_sell, if_pos h1, if_neg h3, if_neg hr], by simp only [fX4_sell, if_pos h1, if_neg h3, if_neg hr]⟩)
    · skip
      refine zv_iload_n K 19 dX4_sell_18 rfl rfl ?_
      refine zv_iload K 21 dX4_sell_19 rfl rfl ?_
      refine zv_icmp_eq K 39 24 dX4_sell_21 (by decide) rfl (fun h5 => ?_) (fun h5 => ?_)
      · skip
        refine zv_iconst K 0 40 dX4_sell_39 rfl (by decide) ?_
        refine zv_cV1 K (q0 := 0) (As := [.int ab, .int x, .int 0]) (rest := []) 3 43 (kX4_wrong l D ty b τ n hn hc ab x 0) dX4_sell_40 rfl zw_3_75 zw_3_77 zw_p2_1 zw_1_5 zw_3_78 ⟨rfl, rfl⟩ zh_yX4_wrong ⟨by decide, by decide⟩ (zm_at (p := 0) (j := 0) rfl) rfl rfl rfl (zle rfl) rfl ?_
        refine zv_istore K [some (.ref (b 0)), some (.int ab), some (.int x), some (.int m), some (.int q), some (.int v), some (.int (fX4_wrong τ ab x 0)), none] 45 dX4_sell_43 rfl rfl (zlt rfl) ?_
        refine zv_iload K 47 dX4_sell_45 rfl rfl ?_
        refine zv_if_ge K 53 50 dX4_sell_47 (by decide) rfl (fun hr => ?_) (fun hr => ?_)
        · skip
          obtain ⟨hab_, hx_, hg_, hk_, hf_⟩ := zm_wr (z_len hr)
          obtain ⟨hx, hf⟩ := zm_hs hn hc hx_
          have hn9 := zm_n9 hn hc hf_
          refine zv_aload_n K 54 dX4_sell_53 rfl rfl ?_
          refine zv_iconst K 5 55 dX4_sell_54 rfl (by decide) ?_
          refine zv_iload_n K 56 dX4_sell_55 rfl rfl ?_
          refine zv_iload_n K 57 dX4_sell_56 rfl rfl ?_
          refine zv_iload_n K 58 dX4_sell_57 rfl rfl ?_
          refine zv_cV1 K (q0 := 0) (As := [.int 5, .int ab, .int x, .int m]) (rest := []) 4 61 (kX4_tell l D ty b τ n hn9 hc 5 ab x m (fun _ => ⟨hx, hf⟩)) dX4_sell_58 rfl zw_3_67 zw_3_69 zw_p2_0 zw_1_5 zw_3_70 ⟨rfl, rfl⟩ zh_yX4_tell ⟨by decide, by decide⟩ (zm_at (p := 0) (j := 0) rfl) rfl rfl rfl (zle rfl) rfl ?_
          refine zv_topi (nI n) (fX4_tell_1 _ _ _ _ _ _) ?_
          refine zv_istore K [some (.ref (b 0)), some (.int ab), some (.int x), some (.int m), some (.int q), some (.int v), some (.int (fX4_wrong τ ab x 0)), some (.int (nI n))] 63 dX4_sell_61 rfl rfl (zlt rfl) ?_
          refine zv_aload_n K 64 dX4_sell_63 rfl rfl ?_
          refine zm_get (v := .ref (b 11)) K 11 67 dX4_sell_64 rfl (by decide) zw_2_199 rfl ?_
          refine zv_iload K 69 dX4_sell_67 rfl rfl ?_
          refine zv_iload K 71 dX4_sell_69 rfl rfl ?_
          refine zv_iast K 7 n 72 (zm b ty (zmF (fX4_tell τ n 5 ab x m).2 11 n q)) dX4_sell_71 rfl (zm_at (p := 7) (j := 11) rfl) rfl hn9 (by decide) (zm_F 11 n rfl (by decide) rfl) ?_
          refine zv_aload_n K 73 dX4_sell_72 rfl rfl ?_
          refine zm_get (v := .ref (b 14)) K 14 76 dX4_sell_73 rfl (by decide) zw_2_202 rfl ?_
          refine zv_iload K 78 dX4_sell_76 rfl rfl ?_
          refine zv_iload K 80 dX4_sell_78 rfl rfl ?_
          refine zv_iast K 10 n 81 (zm b ty (zmF (zmF (fX4_tell τ n 5 ab x m).2 11 n q) 14 n v)) dX4_sell_80 rfl (zm_at (p := 10) (j := 14) rfl) rfl hn9 (by decide) (zm_F 14 n rfl (by decide) rfl) ?_
          refine zv_iload K 83 dX4_sell_81 rfl rfl ?_
          exact zv_iret K T dX4_sell_83 (⟨by simp only [fX4_sell, if_pos h1, if_pos h3, if_pos h5, if_pos hr], by simp only [fX4_sell, if_pos h1, if_pos h3, if_pos h5, if_pos hr]⟩)
        · skip
          refine zv_iload K 52 dX4_sell_50 rfl rfl ?_
          exact zv_iret K T dX4_sell_52 (⟨by simp only [fX4_sell, if_pos h1, if_pos h3, if_pos h5, if_neg hr], by simp only [fX4_sell, if_pos h1, if_pos h3, if_pos h5, if_neg hr]⟩)
      · skip
        refine zv_iload K 26 dX4_sell_24 rfl rfl ?_
        refine zv_iconst K 1 27 dX4_sell_26 rfl (by decide) ?_
        refine zv_bipush K 24 29 dX4_sell_27 rfl (by decide) ?_
        refine zv_cS1 K (As := [.int v, .int 1, .int 24]) (rest := [.int x, .int ab, .ref (b 0)]) 3 32 (kX4_in l D ty (zm b ty τ) v 1 24) dX4_sell_29 rfl zw_3_47 zw_3_48 zw_1_5 zw_3_49 ⟨rfl, rfl⟩ zh_yX4_in ⟨by decide, by decide⟩ rfl rfl (zle rfl) rfl ?_
        refine zv_ifB_eq K 39 35 dX4_sell_32 (by decide) rfl (fun h7 => ?_) (fun h7 => ?_)
        · skip
          refine zv_iconst K 0 40 dX4_sell_39 rfl (by decide) ?_
          refine zv_cV1 K (q0 := 0) (As := [.int ab, .int x, .int 0]) (rest := []) 3 43 (kX4_wrong l D ty b τ n hn hc ab x 0) dX4_sell_40 rfl zw_3_75 zw_3_77 zw_p2_1 zw_1_5 zw_3_78 ⟨rfl, rfl⟩ zh_yX4_wrong ⟨by decide, by decide⟩ (zm_at (p := 0) (j := 0) rfl) rfl rfl rfl (zle rfl) rfl ?_
          refine zv_istore K [some (.ref (b 0)), some (.int ab), some (.int x), some (.int m), some (.int q), some (.int v), some (.int (fX4_wrong τ ab x 0)), none] 45 dX4_sell_43 rfl rfl (zlt rfl) ?_
          refine zv_iload K 47 dX4_sell_45 rfl rfl ?_
          refine zv_if_ge K 53 50 dX4_sell_47 (by decide) rfl (fun hr => ?_) (fun hr => ?_)
          · skip
            obtain ⟨hab_, hx_, hg_, hk_, hf_⟩ := zm_wr (z_len hr)
            obtain ⟨hx, hf⟩ := zm_hs hn hc hx_
            have hn9 := zm_n9 hn hc hf_
            refine zv_aload_n K 54 dX4_sell_53 rfl rfl ?_
            refine zv_iconst K 5 55 dX4_sell_54 rfl (by decide) ?_
            refine zv_iload_n K 56 dX4_sell_55 rfl rfl ?_
            refine zv_iload_n K 57 dX4_sell_56 rfl rfl ?_
            refine zv_iload_n K 58 dX4_sell_57 rfl rfl ?_
            refine zv_cV1 K (q0 := 0) (As := [.int 5, .int ab, .int x, .int m]) (rest := []) 4 61 (kX4_tell l D ty b τ n hn9 hc 5 ab x m (fun _ => ⟨hx, hf⟩)) dX4_sell_58 rfl zw_3_67 zw_3_69 zw_p2_0 zw_1_5 zw_3_70 ⟨rfl, rfl⟩ zh_yX4_tell ⟨by decide, by decide⟩ (zm_at (p := 0) (j := 0) rfl) rfl rfl rfl (zle rfl) rfl ?_
            refine zv_topi (nI n) (fX4_tell_1 _ _ _ _ _ _) ?_
            refine zv_istore K [some (.ref (b 0)), some (.int ab), some (.int x), some (.int m), some (.int q), some (.int v), some (.int (fX4_wrong τ ab x 0)), some (.int (nI n))] 63 dX4_sell_61 rfl rfl (zlt rfl) ?_
            refine zv_aload_n K 64 dX4_sell_63 rfl rfl ?_
            refine zm_get (v := .ref (b 11)) K 11 67 dX4_sell_64 rfl (by decide) zw_2_199 rfl ?_
            refine zv_iload K 69 dX4_sell_67 rfl rfl ?_
            refine zv_iload K 71 dX4_sell_69 rfl rfl ?_
            refine zv_iast K 7 n 72 (zm b ty (zmF (fX4_tell τ n 5 ab x m).2 11 n q)) dX4_sell_71 rfl (zm_at (p := 7) (j := 11) rfl) rfl hn9 (by decide) (zm_F 11 n rfl (by decide) rfl) ?_
            refine zv_aload_n K 73 dX4_sell_72 rfl rfl ?_
            refine zm_get (v := .ref (b 14)) K 14 76 dX4_sell_73 rfl (by decide) zw_2_202 rfl ?_
            refine zv_iload K 78 dX4_sell_76 rfl rfl ?_
            refine zv_iload K 80 dX4_sell_78 rfl rfl ?_
            refine zv_iast K 10 n 81 (zm b ty (zmF (zmF (fX4_tell τ n 5 ab x m).2 11 n q) 14 n v)) dX4_sell_80 rfl (zm_at (p := 10) (j := 14) rfl) rfl hn9 (by decide) (zm_F 14 n rfl (by decide) rfl) ?_
            refine zv_iload K 83 dX4_sell_81 rfl rfl ?_
            exact zv_iret K T dX4_sell_83 (⟨by simp only [fX4_sell, if_pos h1, if_pos h3, if_neg h5, if_neg h7, if_pos hr], by simp only [fX4_sell, if_pos h1, if_pos h3, if_neg h5, if_neg h7, if_pos hr]⟩)
          · skip
            refine zv_iload K 52 dX4_sell_50 rfl rfl ?_
            exact zv_iret K T dX4_sell_52 (⟨by simp only [fX4_sell, if_pos h1, if_pos h3, if_neg h5, if_neg h7, if_neg hr], by simp only [fX4_sell, if_pos h1, if_pos h3, if_neg h5, if_neg h7, if_neg hr]⟩)
        · skip
          refine zv_iconst K 1 36 dX4_sell_35 rfl (by decide) ?_
          refine zv_goto K 40 dX4_sell_36 (by decide) ?_
          refine zv_cV1 K (q0 := 0) (As := [.int ab, .int x, .int 1]) (rest := []) 3 43 (kX4_wrong l D ty b τ n hn hc ab x 1) dX4_sell_40 rfl zw_3_75 zw_3_77 zw_p2_1 zw_1_5 zw_3_78 ⟨rfl, rfl⟩ zh_yX4_wrong ⟨by decide, by decide⟩ (zm_at (p := 0) (j := 0) rfl) rfl rfl rfl (zle rfl) rfl ?_
          refine zv_istore K [some (.ref (b 0)), some (.int ab), some (.int x), some (.int m), some (.int q), some (.int v), some (.int (fX4_wrong τ ab x 1)), none] 45 dX4_sell_43 rfl rfl (zlt rfl) ?_
          refine zv_iload K 47 dX4_sell_45 rfl rfl ?_
          refine zv_if_ge K 53 50 dX4_sell_47 (by decide) rfl (fun hr => ?_) (fun hr => ?_)
          · skip
            obtain ⟨hab_, hx_, hg_, hk_, hf_⟩ := zm_wr (z_len hr)
            obtain ⟨hx, hf⟩ := zm_hs hn hc hx_
            have hn9 := zm_n9 hn hc hf_
            refine zv_aload_n K 54 dX4_sell_53 rfl rfl ?_
            refine zv_iconst K 5 55 dX4_sell_54 rfl (by decide) ?_
            refine zv_iload_n K 56 dX4_sell_55 rfl rfl ?_
            refine zv_iload_n K 57 dX4_sell_56 rfl rfl ?_
            refine zv_iload_n K 58 dX4_sell_57 rfl rfl ?_
            refine zv_cV1 K (q0 := 0) (As := [.int 5, .int ab, .int x, .int m]) (rest := []) 4 61 (kX4_tell l D ty b τ n hn9 hc 5 ab x m (fun _ => ⟨hx, hf⟩)) dX4_sell_58 rfl zw_3_67 zw_3_69 zw_p2_0 zw_1_5 zw_3_70 ⟨rfl, rfl⟩ zh_yX4_tell ⟨by decide, by decide⟩ (zm_at (p := 0) (j := 0) rfl) rfl rfl rfl (zle rfl) rfl ?_
            refine zv_topi (nI n) (fX4_tell_1 _ _ _ _ _ _) ?_
            refine zv_istore K [some (.ref (b 0)), some (.int ab), some (.int x), some (.int m), some (.int q), some (.int v), some (.int (fX4_wrong τ ab x 1)), some (.int (nI n))] 63 dX4_sell_61 rfl rfl (zlt rfl) ?_
            refine zv_aload_n K 64 dX4_sell_63 rfl rfl ?_
            refine zm_get (v := .ref (b 11)) K 11 67 dX4_sell_64 rfl (by decide) zw_2_199 rfl ?_
            refine zv_iload K 69 dX4_sell_67 rfl rfl ?_
            refine zv_iload K 71 dX4_sell_69 rfl rfl ?_
            refine zv_iast K 7 n 72 (zm b ty (zmF (fX4_tell τ n 5 ab x m).2 11 n q)) dX4_sell_71 rfl (zm_at (p := 7) (j := 11) rfl) rfl hn9 (by decide) (zm_F 11 n rfl (by decide) rfl) ?_
            refine zv_aload_n K 73 dX4_sell_72 rfl rfl ?_
            refine zm_get (v := .ref (b 14)) K 14 76 dX4_sell_73 rfl (by decide) zw_2_202 rfl ?_
            refine zv_iload K 78 dX4_sell_76 rfl rfl ?_
            refine zv_iload K 80 dX4_sell_78 rfl rfl ?_
            refine zv_iast K 10 n 81 (zm b ty (zmF (zmF (fX4_tell τ n 5 ab x m).2 11 n q) 14 n v)) dX4_sell_80 rfl (zm_at (p := 10) (j := 14) rfl) rfl hn9 (by decide) (zm_F 14 n rfl (by decide) rfl) ?_
            refine zv_iload K 83 dX4_sell_81 rfl rfl ?_
            exact zv_iret K T dX4_sell_83 (⟨by simp only [fX4_sell, if_pos h1, if_pos h3, if_neg h5, if_pos h7, if_pos hr], by simp only [fX4_sell, if_pos h1, if_pos h3, if_neg h5, if_pos h7, if_pos hr]⟩)
          · skip
            refine zv_iload K 52 dX4_sell_50 rfl rfl ?_
            exact zv_iret K T dX4_sell_52 (⟨by simp only [fX4_sell, if_pos h1, if_pos h3, if_neg h5, if_pos h7, if_neg hr], by simp only [fX4_sell, if_pos h1, if_pos h3, if_neg h5, if_pos h7, if_neg hr]⟩)

def fX4_stake (τ : zM) (n : Nat) (ab : Int32) (vn : Int32) (ft : Int32) (m : Int32) : Int32 × zM :=
  if (0 ≤ ab ∧ ab ≤ (τ.1 0)) then
    if (0 ≤ vn ∧ vn ≤ 3) then
      if (0 ≤ ft ∧ ft ≤ 59) then
        if (0 ≤ m ∧ m ≤ 9) then
          if (τ.1 3) = 90 then
            ((-2), τ)
          else
            if (τ.1 4) = 20 then
              ((-2), τ)
            else
              if 0 ≤ (ft - ((fX4_tell τ n 0 ab (-4) m).2.1 1)) then
                if (ft + ((fX4_tell τ n 0 ab (-4) m).2.1 1)) ≤ 59 then
                  (nI n, (zmO (zmF (zmF (zmF (zmF (fX4_tell τ n 0 ab (-4) m).2 15 n (nI n)) 9 n vn) 12 n (ft - ((fX4_tell τ n 0 ab (-4) m).2.1 1))) 13 n (ft + ((fX4_tell τ n 0 ab (-4) m).2.1 1))) 4 (((fX4_tell τ n 0 ab (-4) m).2.1 4) + 1)))
                else
                  (nI n, (zmO (zmF (zmF (zmF (zmF (fX4_tell τ n 0 ab (-4) m).2 15 n (nI n)) 9 n vn) 12 n (ft - ((fX4_tell τ n 0 ab (-4) m).2.1 1))) 13 n 59) 4 (((fX4_tell τ n 0 ab (-4) m).2.1 4) + 1)))
              else
                if (ft + ((fX4_tell τ n 0 ab (-4) m).2.1 1)) ≤ 59 then
                  (nI n, (zmO (zmF (zmF (zmF (zmF (fX4_tell τ n 0 ab (-4) m).2 15 n (nI n)) 9 n vn) 12 n 0) 13 n (ft + ((fX4_tell τ n 0 ab (-4) m).2.1 1))) 4 (((fX4_tell τ n 0 ab (-4) m).2.1 4) + 1)))
                else
                  (nI n, (zmO (zmF (zmF (zmF (zmF (fX4_tell τ n 0 ab (-4) m).2 15 n (nI n)) 9 n vn) 12 n 0) 13 n 59) 4 (((fX4_tell τ n 0 ab (-4) m).2.1 4) + 1)))
        else
          ((-1), τ)
      else
        ((-1), τ)
    else
      ((-1), τ)
  else
    ((-1), τ)
set_option maxHeartbeats 4000000 in
set_option maxRecDepth 100000 in
theorem kX4_stake (l : Launch) (D : va_G) (ty : zTy) (b : Nat → Nat) (τ : zM) (n : Nat) (hn : n ≤ 90) (hc : τ.1 3 = nI n) (ab vn ft m : Int32) : zv_ct l D ty yX4_stake cX4_stake 6 (some .int) (zR 2 42) [.ref (b 0), .int ab, .int vn, .int ft, .int m] (zm b ty τ) (fun v_ w_ => v_ = some (.int (fX4_stake τ n ab vn ft m).1) ∧ w_ = zm b ty (fX4_stake τ n ab vn ft m).2) := by
  refine zv_open (by decide) rfl rfl [some (.ref (b 0)), some (.int ab), some (.int vn), some (.int ft), some (.int m), none] (by simp [zv_one, Value.category]) (zle rfl) rfl ?_
  intro k K T
  refine zv_iload_n K 1 dX4_stake_0 rfl rfl ?_
  refine zv_iconst K 0 2 dX4_stake_1 rfl (by decide) ?_
  refine zv_aload_n K 3 dX4_stake_2 rfl rfl ?_
  refine zm_get (v := .int (τ.1 0)) K 0 6 dX4_stake_3 rfl (by decide) zw_2_188 rfl ?_
  refine zv_cS1 K (As := [.int ab, .int 0, .int (τ.1 0)]) (rest := []) 3 9 (kX4_in l D ty (zm b ty τ) ab 0 (τ.1 0)) dX4_stake_6 rfl zw_3_47 zw_3_48 zw_1_5 zw_3_49 ⟨rfl, rfl⟩ zh_yX4_in ⟨by decide, by decide⟩ rfl rfl (zle rfl) rfl ?_
  refine zv_ifB_eq K 34 12 dX4_stake_9 (by decide) rfl (fun h1 => ?_) (fun h1 => ?_)
  · skip
    refine zv_iconst K (-1) 35 dX4_stake_34 rfl (by decide) ?_
    exact zv_iret K T dX4_stake_35 (⟨by simp only [fX4_stake, if_neg h1], by simp only [fX4_stake, if_neg h1]⟩)
  · skip
    refine zv_iload_n K 13 dX4_stake_12 rfl rfl ?_
    refine zv_cS1 K (As := [.int vn]) (rest := []) 1 16 (kX4_isVein l D ty (zm b ty τ) vn) dX4_stake_13 rfl zw_3_58 zw_3_59 zw_1_5 zw_3_60 ⟨rfl, rfl⟩ zh_yX4_isVein ⟨by decide, by decide⟩ rfl rfl (zle rfl) rfl ?_
    refine zv_ifB_eq K 34 19 dX4_stake_16 (by decide) rfl (fun h2 => ?_) (fun h2 => ?_)
    · skip
      refine zv_iconst K (-1) 35 dX4_stake_34 rfl (by decide) ?_
      exact zv_iret K T dX4_stake_35 (⟨by simp only [fX4_stake, if_pos h1, if_neg h2], by simp only [fX4_stake, if_pos h1, if_neg h2]⟩)
    · skip
      refine zv_iload_n K 20 dX4_stake_19 rfl rfl ?_
      refine zv_cS1 K (As := [.int ft]) (rest := []) 1 23 (kX4_isFoot l D ty (zm b ty τ) ft) dX4_stake_20 rfl zw_3_61 zw_3_62 zw_1_5 zw_3_63 ⟨rfl, rfl⟩ zh_yX4_isFoot ⟨by decide, by decide⟩ rfl rfl (zle rfl) rfl ?_
      refine zv_ifB_eq K 34 26 dX4_stake_23 (by decide) rfl (fun h3 => ?_) (fun h3 => ?_)
      · skip
        refine zv_iconst K (-1) 35 dX4_stake_34 rfl (by decide) ?_
        exact zv_iret K T dX4_stake_35 (⟨by simp only [fX4_stake, if_pos h1, if_pos h2, if_neg h3], by simp only [fX4_stake, if_pos h1, if_pos h2, if_neg h3]⟩)
      · skip
        refine zv_iload K 28 dX4_stake_26 rfl rfl ?_
        refine zv_cS1 K (As := [.int m]) (rest := []) 1 31 (kX4_isMiner l D ty (zm b ty τ) m) dX4_stake_28 rfl zw_3_64 zw_3_65 zw_1_5 zw_3_66 ⟨rfl, rfl⟩ zh_yX4_isMiner ⟨by decide, by decide⟩ rfl rfl (zle rfl) rfl ?_
        refine zv_ifB_ne K 36 34 dX4_stake_31 (by decide) rfl (fun h4 => ?_) (fun h4 => ?_)
        · skip
          refine zv_aload_n K 37 dX4_stake_36 rfl rfl ?_
          refine zm_get (v := .int (τ.1 3)) K 3 40 dX4_stake_37 rfl (by decide) zw_2_191 rfl ?_
          refine zv_bipush K 90 42 dX4_stake_40 rfl (by decide) ?_
          refine zv_icmp_eq K 54 45 dX4_stake_42 (by decide) rfl (fun hfu => ?_) (fun hfu => ?_)
          · skip
            refine zv_bipush K (-2) 56 dX4_stake_54 rfl (by decide) ?_
            exact zv_iret K T dX4_stake_56 (⟨by simp only [fX4_stake, if_pos h1, if_pos h2, if_pos h3, if_pos h4, if_pos hfu], by simp only [fX4_stake, if_pos h1, if_pos h2, if_pos h3, if_pos h4, if_pos hfu]⟩)
          · skip
            refine zv_aload_n K 46 dX4_stake_45 rfl rfl ?_
            refine zm_get (v := .int (τ.1 4)) K 4 49 dX4_stake_46 rfl (by decide) zw_2_192 rfl ?_
            refine zv_bipush K 20 51 dX4_stake_49 rfl (by decide) ?_
            refine zv_icmp_ne K 57 54 dX4_stake_51 (by decide) rfl (fun h6 => ?_) (fun h6 => ?_)
            · skip
              have hn9 := zm_n9 hn hc hfu
              refine zv_aload_n K 58 dX4_stake_57 rfl rfl ?_
              refine zv_iconst K 0 59 dX4_stake_58 rfl (by decide) ?_
              refine zv_iload_n K 60 dX4_stake_59 rfl rfl ?_
              refine zv_bipush K (-4) 62 dX4_stake_60 rfl (by decide) ?_
              refine zv_iload K 64 dX4_stake_62 rfl rfl ?_
              refine zv_cV1 K (q0 := 0) (As := [.int 0, .int ab, .int (-4), .int m]) (rest := []) 4 67 (kX4_tell l D ty b τ n hn9 hc 0 ab (-4) m (fun q => absurd (show (-4 : Int32) < 0 by decide) q)) dX4_stake_64 rfl zw_3_67 zw_3_69 zw_p2_0 zw_1_5 zw_3_70 ⟨rfl, rfl⟩ zh_yX4_tell ⟨by decide, by decide⟩ (zm_at (p := 0) (j := 0) rfl) rfl rfl rfl (zle rfl) rfl ?_
              refine zv_topi (nI n) (fX4_tell_1 _ _ _ _ _ _) ?_
              refine zv_istore K [some (.ref (b 0)), some (.int ab), some (.int vn), some (.int ft), some (.int m), some (.int (nI n))] 69 dX4_stake_67 rfl rfl (zlt rfl) ?_
              refine zv_aload_n K 70 dX4_stake_69 rfl rfl ?_
              refine zm_get (v := .ref (b 15)) K 15 73 dX4_stake_70 rfl (by decide) zw_2_203 rfl ?_
              refine zv_iload K 75 dX4_stake_73 rfl rfl ?_
              refine zv_iload K 77 dX4_stake_75 rfl rfl ?_
              refine zv_iast K 11 n 78 (zm b ty (zmF (fX4_tell τ n 0 ab (-4) m).2 15 n (nI n))) dX4_stake_77 rfl (zm_at (p := 11) (j := 15) rfl) rfl hn9 (by decide) (zm_F 15 n rfl (by decide) rfl) ?_
              refine zv_aload_n K 79 dX4_stake_78 rfl rfl ?_
              refine zm_get (v := .ref (b 9)) K 9 82 dX4_stake_79 rfl (by decide) zw_2_197 rfl ?_
              refine zv_iload K 84 dX4_stake_82 rfl rfl ?_
              refine zv_iload_n K 85 dX4_stake_84 rfl rfl ?_
              refine zv_iast K 5 n 86 (zm b ty (zmF (zmF (fX4_tell τ n 0 ab (-4) m).2 15 n (nI n)) 9 n vn)) dX4_stake_85 rfl (zm_at (p := 5) (j := 9) rfl) rfl hn9 (by decide) (zm_F 9 n rfl (by decide) rfl) ?_
              refine zv_aload_n K 87 dX4_stake_86 rfl rfl ?_
              refine zm_get (v := .ref (b 12)) K 12 90 dX4_stake_87 rfl (by decide) zw_2_200 rfl ?_
              refine zv_iload K 92 dX4_stake_90 rfl rfl ?_
              refine zv_iload_n K 93 dX4_stake_92 rfl rfl ?_
              refine zv_aload_n K 94 dX4_stake_93 rfl rfl ?_
              refine zm_get (v := .int ((fX4_tell τ n 0 ab (-4) m).2.1 1)) K 1 97 dX4_stake_94 rfl (by decide) zw_2_189 rfl ?_
              refine zv_isub K 98 dX4_stake_97 rfl ?_
              refine zv_if_ge K 105 101 dX4_stake_98 (by decide) rfl (fun h7 => ?_) (fun h7 => ?_)
              · skip
                refine zv_iload_n K 106 dX4_stake_105 rfl rfl ?_
                refine zv_aload_n K 107 dX4_stake_106 rfl rfl ?_
                refine zm_get (v := .int ((fX4_tell τ n 0 ab (-4) m).2.1 1)) K 1 110 dX4_stake_107 rfl (by decide) zw_2_189 rfl ?_
                refine zv_isub K 111 dX4_stake_110 rfl ?_
                refine zv_iast K 8 n 112 (zm b ty (zmF (zmF (zmF (fX4_tell τ n 0 ab (-4) m).2 15 n (nI n)) 9 n vn) 12 n (ft - ((fX4_tell τ n 0 ab (-4) m).2.1 1)))) dX4_stake_111 rfl (zm_at (p := 8) (j := 12) rfl) rfl hn9 (by decide) (zm_F 12 n rfl (by decide) rfl) ?_
                refine zv_aload_n K 113 dX4_stake_112 rfl rfl ?_
                refine zm_get (v := .ref (b 13)) K 13 116 dX4_stake_113 rfl (by decide) zw_2_201 rfl ?_
                refine zv_iload K 118 dX4_stake_116 rfl rfl ?_
                refine zv_iload_n K 119 dX4_stake_118 rfl rfl ?_
                refine zv_aload_n K 120 dX4_stake_119 rfl rfl ?_
                refine zm_get (v := .int ((fX4_tell τ n 0 ab (-4) m).2.1 1)) K 1 123 dX4_stake_120 rfl (by decide) zw_2_189 rfl ?_
                refine zv_iadd K 124 dX4_stake_123 rfl ?_
                refine zv_bipush K 59 126 dX4_stake_124 rfl (by decide) ?_
                refine zv_icmp_le K 134 129 dX4_stake_126 (by decide) rfl (fun h8 => ?_) (fun h8 => ?_)
                · skip
                  refine zv_iload_n K 135 dX4_stake_134 rfl rfl ?_
                  refine zv_aload_n K 136 dX4_stake_135 rfl rfl ?_
                  refine zm_get (v := .int ((fX4_tell τ n 0 ab (-4) m).2.1 1)) K 1 139 dX4_stake_136 rfl (by decide) zw_2_189 rfl ?_
                  refine zv_iadd K 140 dX4_stake_139 rfl ?_
                  refine zv_iast K 9 n 141 (zm b ty (zmF (zmF (zmF (zmF (fX4_tell τ n 0 ab (-4) m).2 15 n (nI n)) 9 n vn) 12 n (ft - ((fX4_tell τ n 0 ab (-4) m).2.1 1))) 13 n (ft + ((fX4_tell τ n 0 ab (-4) m).2.1 1)))) dX4_stake_140 rfl (zm_at (p := 9) (j := 13) rfl) rfl hn9 (by decide) (zm_F 13 n rfl (by decide) rfl) ?_
                  refine zv_aload_n K 142 dX4_stake_141 rfl rfl ?_
                  refine zv_dup K 143 dX4_stake_142 rfl rfl ?_
                  refine zm_get (v := .int ((fX4_tell τ n 0 ab (-4) m).2.1 4)) K 4 146 dX4_stake_143 rfl (by decide) zw_2_192 rfl ?_
                  refine zv_iconst K 1 147 dX4_stake_146 rfl (by decide) ?_
                  refine zv_iadd K 148 dX4_stake_147 rfl ?_
                  refine zm_put K 4 151 (zmO (zmF (zmF (zmF (zmF (fX4_tell τ n 0 ab (-4) m).2 15 n (nI n)) 9 n vn) 12 n (ft - ((fX4_tell τ n 0 ab (-4) m).2.1 1))) 13 n (ft + ((fX4_tell τ n 0 ab (-4) m).2.1 1))) 4 (((fX4_tell τ n 0 ab (-4) m).2.1 4) + 1)) dX4_stake_148 rfl (by decide) zw_2_192 rfl rfl rfl rfl zm_O4 ?_
                  refine zv_iload K 153 dX4_stake_151 rfl rfl ?_
                  exact zv_iret K T dX4_stake_153 (⟨by simp only [fX4_stake, if_pos h1, if_pos h2, if_pos h3, if_pos h4, if_neg hfu, if_neg h6, if_pos h7, if_pos h8], by simp only [fX4_stake, if_pos h1, if_pos h2, if_pos h3, if_pos h4, if_neg hfu, if_neg h6, if_pos h7, if_pos h8]⟩)
                · skip
                  refine zv_bipush K 59 131 dX4_stake_129 rfl (by decide) ?_
                  refine zv_goto K 140 dX4_stake_131 (by decide) ?_
                  refine zv_iast K 9 n 141 (zm b ty (zmF (zmF (zmF (zmF (fX4_tell τ n 0 ab (-4) m).2 15 n (nI n)) 9 n vn) 12 n (ft - ((fX4_tell τ n 0 ab (-4) m).2.1 1))) 13 n 59)) dX4_stake_140 rfl (zm_at (p := 9) (j := 13) rfl) rfl hn9 (by decide) (zm_F 13 n rfl (by decide) rfl) ?_
                  refine zv_aload_n K 142 dX4_stake_141 rfl rfl ?_
                  refine zv_dup K 143 dX4_stake_142 rfl rfl ?_
                  refine zm_get (v := .int ((fX4_tell τ n 0 ab (-4) m).2.1 4)) K 4 146 dX4_stake_143 rfl (by decide) zw_2_192 rfl ?_
                  refine zv_iconst K 1 147 dX4_stake_146 rfl (by decide) ?_
                  refine zv_iadd K 148 dX4_stake_147 rfl ?_
                  refine zm_put K 4 151 (zmO (zmF (zmF (zmF (zmF (fX4_tell τ n 0 ab (-4) m).2 15 n (nI n)) 9 n vn) 12 n (ft - ((fX4_tell τ n 0 ab (-4) m).2.1 1))) 13 n 59) 4 (((fX4_tell τ n 0 ab (-4) m).2.1 4) + 1)) dX4_stake_148 rfl (by decide) zw_2_192 rfl rfl rfl rfl zm_O4 ?_
                  refine zv_iload K 153 dX4_stake_151 rfl rfl ?_
                  exact zv_iret K T dX4_stake_153 (⟨by simp only [fX4_stake, if_pos h1, if_pos h2, if_pos h3, if_pos h4, if_neg hfu, if_neg h6, if_pos h7, if_neg h8], by simp only [fX4_stake, if_pos h1, if_pos h2, if_pos h3, if_pos h4, if_neg hfu, if_neg h6, if_pos h7, if_neg h8]⟩)
              · skip
                refine zv_iconst K 0 102 dX4_stake_101 rfl (by decide) ?_
                refine zv_goto K 111 dX4_stake_102 (by decide) ?_
                refine zv_iast K 8 n 112 (zm b ty (zmF (zmF (zmF (fX4_tell τ n 0 ab (-4) m).2 15 n (nI n)) 9 n vn) 12 n 0)) dX4_stake_111 rfl (zm_at (p := 8) (j := 12) rfl) rfl hn9 (by decide) (zm_F 12 n rfl (by decide) rfl) ?_
                refine zv_aload_n K 113 dX4_stake_112 rfl rfl ?_
                refine zm_get (v := .ref (b 13)) K 13 116 dX4_stake_113 rfl (by decide) zw_2_201 rfl ?_
                refine zv_iload K 118 dX4_stake_116 rfl rfl ?_
                refine zv_iload_n K 119 dX4_stake_118 rfl rfl ?_
                refine zv_aload_n K 120 dX4_stake_119 rfl rfl ?_
                refine zm_get (v := .int ((fX4_tell τ n 0 ab (-4) m).2.1 1)) K 1 123 dX4_stake_120 rfl (by decide) zw_2_189 rfl ?_
                refine zv_iadd K 124 dX4_stake_123 rfl ?_
                refine zv_bipush K 59 126 dX4_stake_124 rfl (by decide) ?_
                refine zv_icmp_le K 134 129 dX4_stake_126 (by decide) rfl (fun h9 => ?_) (fun h9 => ?_)
                · skip
                  refine zv_iload_n K 135 dX4_stake_134 rfl rfl ?_
                  refine zv_aload_n K 136 dX4_stake_135 rfl rfl ?_
                  refine zm_get (v := .int ((fX4_tell τ n 0 ab (-4) m).2.1 1)) K 1 139 dX4_stake_136 rfl (by decide) zw_2_189 rfl ?_
                  refine zv_iadd K 140 dX4_stake_139 rfl ?_
                  refine zv_iast K 9 n 141 (zm b ty (zmF (zmF (zmF (zmF (fX4_tell τ n 0 ab (-4) m).2 15 n (nI n)) 9 n vn) 12 n 0) 13 n (ft + ((fX4_tell τ n 0 ab (-4) m).2.1 1)))) dX4_stake_140 rfl (zm_at (p := 9) (j := 13) rfl) rfl hn9 (by decide) (zm_F 13 n rfl (by decide) rfl) ?_
                  refine zv_aload_n K 142 dX4_stake_141 rfl rfl ?_
                  refine zv_dup K 143 dX4_stake_142 rfl rfl ?_
                  refine zm_get (v := .int ((fX4_tell τ n 0 ab (-4) m).2.1 4)) K 4 146 dX4_stake_143 rfl (by decide) zw_2_192 rfl ?_
                  refine zv_iconst K 1 147 dX4_stake_146 rfl (by decide) ?_
                  refine zv_iadd K 148 dX4_stake_147 rfl ?_
                  refine zm_put K 4 151 (zmO (zmF (zmF (zmF (zmF (fX4_tell τ n 0 ab (-4) m).2 15 n (nI n)) 9 n vn) 12 n 0) 13 n (ft + ((fX4_tell τ n 0 ab (-4) m).2.1 1))) 4 (((fX4_tell τ n 0 ab (-4) m).2.1 4) + 1)) dX4_stake_148 rfl (by decide) zw_2_192 rfl rfl rfl rfl zm_O4 ?_
                  refine zv_iload K 153 dX4_stake_151 rfl rfl ?_
                  exact zv_iret K T dX4_stake_153 (⟨by simp only [fX4_stake, if_pos h1, if_pos h2, if_pos h3, if_pos h4, if_neg hfu, if_neg h6, if_neg h7, if_pos h9], by simp only [fX4_stake, if_pos h1, if_pos h2, if_pos h3, if_pos h4, if_neg hfu, if_neg h6, if_neg h7, if_pos h9]⟩)
                · skip
                  refine zv_bipush K 59 131 dX4_stake_129 rfl (by decide) ?_
                  refine zv_goto K 140 dX4_stake_131 (by decide) ?_
                  refine zv_iast K 9 n 141 (zm b ty (zmF (zmF (zmF (zmF (fX4_tell τ n 0 ab (-4) m).2 15 n (nI n)) 9 n vn) 12 n 0) 13 n 59)) dX4_stake_140 rfl (zm_at (p := 9) (j := 13) rfl) rfl hn9 (by decide) (zm_F 13 n rfl (by decide) rfl) ?_
                  refine zv_aload_n K 142 dX4_stake_141 rfl rfl ?_
                  refine zv_dup K 143 dX4_stake_142 rfl rfl ?_
                  refine zm_get (v := .int ((fX4_tell τ n 0 ab (-4) m).2.1 4)) K 4 146 dX4_stake_143 rfl (by decide) zw_2_192 rfl ?_
                  refine zv_iconst K 1 147 dX4_stake_146 rfl (by decide) ?_
                  refine zv_iadd K 148 dX4_stake_147 rfl ?_
                  refine zm_put K 4 151 (zmO (zmF (zmF (zmF (zmF (fX4_tell τ n 0 ab (-4) m).2 15 n (nI n)) 9 n vn) 12 n 0) 13 n 59) 4 (((fX4_tell τ n 0 ab (-4) m).2.1 4) + 1)) dX4_stake_148 rfl (by decide) zw_2_192 rfl rfl rfl rfl zm_O4 ?_
                  refine zv_iload K 153 dX4_stake_151 rfl rfl ?_
                  exact zv_iret K T dX4_stake_153 (⟨by simp only [fX4_stake, if_pos h1, if_pos h2, if_pos h3, if_pos h4, if_neg hfu, if_neg h6, if_neg h7, if_neg h9], by simp only [fX4_stake, if_pos h1, if_pos h2, if_pos h3, if_pos h4, if_neg hfu, if_neg h6, if_neg h7, if_neg h9]⟩)
            · skip
              refine zv_bipush K (-2) 56 dX4_stake_54 rfl (by decide) ?_
              exact zv_iret K T dX4_stake_56 (⟨by simp only [fX4_stake, if_pos h1, if_pos h2, if_pos h3, if_pos h4, if_neg hfu, if_pos h6], by simp only [fX4_stake, if_pos h1, if_pos h2, if_pos h3, if_pos h4, if_neg hfu, if_pos h6]⟩)
        · skip
          refine zv_iconst K (-1) 35 dX4_stake_34 rfl (by decide) ?_
          exact zv_iret K T dX4_stake_35 (⟨by simp only [fX4_stake, if_pos h1, if_pos h2, if_pos h3, if_neg h4], by simp only [fX4_stake, if_pos h1, if_pos h2, if_pos h3, if_neg h4]⟩)

def fX4_dig (τ : zM) (n : Nat) (ab : Int32) (vn : Int32) (ft : Int32) (v : Int32) : Int32 × zM :=
  if (0 ≤ ab ∧ ab ≤ (τ.1 0)) then
    if (0 ≤ vn ∧ vn ≤ 3) then
      if (0 ≤ ft ∧ ft ≤ 59) then
        if (1 ≤ v ∧ v ≤ 1000) then
          if (τ.1 3) = 90 then
            ((-2), τ)
          else
            (nI n, (zmF (zmF (zmF (zmF (fX4_tell τ n 6 ab (-4) (-4)).2 9 n vn) 12 n ft) 13 n ft) 14 n v))
        else
          ((-1), τ)
      else
        ((-1), τ)
    else
      ((-1), τ)
  else
    ((-1), τ)
set_option maxHeartbeats 4000000 in
set_option maxRecDepth 100000 in
theorem kX4_dig (l : Launch) (D : va_G) (ty : zTy) (b : Nat → Nat) (τ : zM) (n : Nat) (hn : n ≤ 90) (hc : τ.1 3 = nI n) (ab vn ft v : Int32) : zv_ct l D ty yX4_dig cX4_dig 6 (some .int) (zR 2 42) [.ref (b 0), .int ab, .int vn, .int ft, .int v] (zm b ty τ) (fun v_ w_ => v_ = some (.int (fX4_dig τ n ab vn ft v).1) ∧ w_ = zm b ty (fX4_dig τ n ab vn ft v).2) := by
  refine zv_open (by decide) rfl rfl [some (.ref (b 0)), some (.int ab), some (.int vn), some (.int ft), some (.int v), none] (by simp [zv_one, Value.category]) (zle rfl) rfl ?_
  intro k K T
  refine zv_iload_n K 1 dX4_dig_0 rfl rfl ?_
  refine zv_iconst K 0 2 dX4_dig_1 rfl (by decide) ?_
  refine zv_aload_n K 3 dX4_dig_2 rfl rfl ?_
  refine zm_get (v := .int (τ.1 0)) K 0 6 dX4_dig_3 rfl (by decide) zw_2_188 rfl ?_
  refine zv_cS1 K (As := [.int ab, .int 0, .int (τ.1 0)]) (rest := []) 3 9 (kX4_in l D ty (zm b ty τ) ab 0 (τ.1 0)) dX4_dig_6 rfl zw_3_47 zw_3_48 zw_1_5 zw_3_49 ⟨rfl, rfl⟩ zh_yX4_in ⟨by decide, by decide⟩ rfl rfl (zle rfl) rfl ?_
  refine zv_ifB_eq K 38 12 dX4_dig_9 (by decide) rfl (fun h1 => ?_) (fun h1 => ?_)
  · skip
    refine zv_iconst K (-1) 39 dX4_dig_38 rfl (by decide) ?_
    exact zv_iret K T dX4_dig_39 (⟨by simp only [fX4_dig, if_neg h1], by simp only [fX4_dig, if_neg h1]⟩)
  · skip
    refine zv_iload_n K 13 dX4_dig_12 rfl rfl ?_
    refine zv_cS1 K (As := [.int vn]) (rest := []) 1 16 (kX4_isVein l D ty (zm b ty τ) vn) dX4_dig_13 rfl zw_3_58 zw_3_59 zw_1_5 zw_3_60 ⟨rfl, rfl⟩ zh_yX4_isVein ⟨by decide, by decide⟩ rfl rfl (zle rfl) rfl ?_
    refine zv_ifB_eq K 38 19 dX4_dig_16 (by decide) rfl (fun h2 => ?_) (fun h2 => ?_)
    · skip
      refine zv_iconst K (-1) 39 dX4_dig_38 rfl (by decide) ?_
      exact zv_iret K T dX4_dig_39 (⟨by simp only [fX4_dig, if_pos h1, if_neg h2], by simp only [fX4_dig, if_pos h1, if_neg h2]⟩)
    · skip
      refine zv_iload_n K 20 dX4_dig_19 rfl rfl ?_
      refine zv_cS1 K (As := [.int ft]) (rest := []) 1 23 (kX4_isFoot l D ty (zm b ty τ) ft) dX4_dig_20 rfl zw_3_61 zw_3_62 zw_1_5 zw_3_63 ⟨rfl, rfl⟩ zh_yX4_isFoot ⟨by decide, by decide⟩ rfl rfl (zle rfl) rfl ?_
      refine zv_ifB_eq K 38 26 dX4_dig_23 (by decide) rfl (fun h3 => ?_) (fun h3 => ?_)
      · skip
        refine zv_iconst K (-1) 39 dX4_dig_38 rfl (by decide) ?_
        exact zv_iret K T dX4_dig_39 (⟨by simp only [fX4_dig, if_pos h1, if_pos h2, if_neg h3], by simp only [fX4_dig, if_pos h1, if_pos h2, if_neg h3]⟩)
      · skip
        refine zv_iload K 28 dX4_dig_26 rfl rfl ?_
        refine zv_iconst K 1 29 dX4_dig_28 rfl (by decide) ?_
        refine zv_sipush K 1000 32 dX4_dig_29 rfl (by decide) ?_
        refine zv_cS1 K (As := [.int v, .int 1, .int 1000]) (rest := []) 3 35 (kX4_in l D ty (zm b ty τ) v 1 1000) dX4_dig_32 rfl zw_3_47 zw_3_48 zw_1_5 zw_3_49 ⟨rfl, rfl⟩ zh_yX4_in ⟨by decide, by decide⟩ rfl rfl (zle rfl) rfl ?_
        refine zv_ifB_ne K 40 38 dX4_dig_35 (by decide) rfl (fun h4 => ?_) (fun h4 => ?_)
        · skip
          refine zv_aload_n K 41 dX4_dig_40 rfl rfl ?_
          refine zm_get (v := .int (τ.1 3)) K 3 44 dX4_dig_41 rfl (by decide) zw_2_191 rfl ?_
          refine zv_bipush K 90 46 dX4_dig_44 rfl (by decide) ?_
          refine zv_icmp_ne K 52 49 dX4_dig_46 (by decide) rfl (fun hfu => ?_) (fun hfu => ?_)
          · skip
            have hn9 := zm_n9 hn hc hfu
            refine zv_aload_n K 53 dX4_dig_52 rfl rfl ?_
            refine zv_bipush K 6 55 dX4_dig_53 rfl (by decide) ?_
            refine zv_iload_n K 56 dX4_dig_55 rfl rfl ?_
            refine zv_bipush K (-4) 58 dX4_dig_56 rfl (by decide) ?_
            refine zv_bipush K (-4) 60 dX4_dig_58 rfl (by decide) ?_
            refine zv_cV1 K (q0 := 0) (As := [.int 6, .int ab, .int (-4), .int (-4)]) (rest := []) 4 63 (kX4_tell l D ty b τ n hn9 hc 6 ab (-4) (-4) (fun q => absurd (show (-4 : Int32) < 0 by decide) q)) dX4_dig_60 rfl zw_3_67 zw_3_69 zw_p2_0 zw_1_5 zw_3_70 ⟨rfl, rfl⟩ zh_yX4_tell ⟨by decide, by decide⟩ (zm_at (p := 0) (j := 0) rfl) rfl rfl rfl (zle rfl) rfl ?_
            refine zv_topi (nI n) (fX4_tell_1 _ _ _ _ _ _) ?_
            refine zv_istore K [some (.ref (b 0)), some (.int ab), some (.int vn), some (.int ft), some (.int v), some (.int (nI n))] 65 dX4_dig_63 rfl rfl (zlt rfl) ?_
            refine zv_aload_n K 66 dX4_dig_65 rfl rfl ?_
            refine zm_get (v := .ref (b 9)) K 9 69 dX4_dig_66 rfl (by decide) zw_2_197 rfl ?_
            refine zv_iload K 71 dX4_dig_69 rfl rfl ?_
            refine zv_iload_n K 72 dX4_dig_71 rfl rfl ?_
            refine zv_iast K 5 n 73 (zm b ty (zmF (fX4_tell τ n 6 ab (-4) (-4)).2 9 n vn)) dX4_dig_72 rfl (zm_at (p := 5) (j := 9) rfl) rfl hn9 (by decide) (zm_F 9 n rfl (by decide) rfl) ?_
            refine zv_aload_n K 74 dX4_dig_73 rfl rfl ?_
            refine zm_get (v := .ref (b 12)) K 12 77 dX4_dig_74 rfl (by decide) zw_2_200 rfl ?_
            refine zv_iload K 79 dX4_dig_77 rfl rfl ?_
            refine zv_iload_n K 80 dX4_dig_79 rfl rfl ?_
            refine zv_iast K 8 n 81 (zm b ty (zmF (zmF (fX4_tell τ n 6 ab (-4) (-4)).2 9 n vn) 12 n ft)) dX4_dig_80 rfl (zm_at (p := 8) (j := 12) rfl) rfl hn9 (by decide) (zm_F 12 n rfl (by decide) rfl) ?_
            refine zv_aload_n K 82 dX4_dig_81 rfl rfl ?_
            refine zm_get (v := .ref (b 13)) K 13 85 dX4_dig_82 rfl (by decide) zw_2_201 rfl ?_
            refine zv_iload K 87 dX4_dig_85 rfl rfl ?_
            refine zv_iload_n K 88 dX4_dig_87 rfl rfl ?_
            refine zv_iast K 9 n 89 (zm b ty (zmF (zmF (zmF (fX4_tell τ n 6 ab (-4) (-4)).2 9 n vn) 12 n ft) 13 n ft)) dX4_dig_88 rfl (zm_at (p := 9) (j := 13) rfl) rfl hn9 (by decide) (zm_F 13 n rfl (by decide) rfl) ?_
            refine zv_aload_n K 90 dX4_dig_89 rfl rfl ?_
            refine zm_get (v := .ref (b 14)) K 14 93 dX4_dig_90 rfl (by decide) zw_2_202 rfl ?_
            refine zv_iload K 95 dX4_dig_93 rfl rfl ?_
            refine zv_iload K 97 dX4_dig_95 rfl rfl ?_
            refine zv_iast K 10 n 98 (zm b ty (zmF (zmF (zmF (zmF (fX4_tell τ n 6 ab (-4) (-4)).2 9 n vn) 12 n ft) 13 n ft) 14 n v)) dX4_dig_97 rfl (zm_at (p := 10) (j := 14) rfl) rfl hn9 (by decide) (zm_F 14 n rfl (by decide) rfl) ?_
            refine zv_iload K 100 dX4_dig_98 rfl rfl ?_
            exact zv_iret K T dX4_dig_100 (⟨by simp only [fX4_dig, if_pos h1, if_pos h2, if_pos h3, if_pos h4, if_neg hfu], by simp only [fX4_dig, if_pos h1, if_pos h2, if_pos h3, if_pos h4, if_neg hfu]⟩)
          · skip
            refine zv_bipush K (-2) 51 dX4_dig_49 rfl (by decide) ?_
            exact zv_iret K T dX4_dig_51 (⟨by simp only [fX4_dig, if_pos h1, if_pos h2, if_pos h3, if_pos h4, if_pos hfu], by simp only [fX4_dig, if_pos h1, if_pos h2, if_pos h3, if_pos h4, if_pos hfu]⟩)
        · skip
          refine zv_iconst K (-1) 39 dX4_dig_38 rfl (by decide) ?_
          exact zv_iret K T dX4_dig_39 (⟨by simp only [fX4_dig, if_pos h1, if_pos h2, if_pos h3, if_neg h4], by simp only [fX4_dig, if_pos h1, if_pos h2, if_pos h3, if_neg h4]⟩)

def fX4_withdraw (τ : zM) (x : Int32) : Int32 × zM :=
  if (0 ≤ x ∧ x < τ.1 3) then
    if (τ.2 8 x.toNatClampNeg) = (-4) then
      (1, (zmF τ 8 x.toNatClampNeg (τ.1 0)))
    else
      ((-5), τ)
  else
    ((-1), τ)
set_option maxHeartbeats 4000000 in
set_option maxRecDepth 100000 in
theorem kX4_withdraw (l : Launch) (D : va_G) (ty : zTy) (b : Nat → Nat) (τ : zM) (n : Nat) (hn : n ≤ 90) (hc : τ.1 3 = nI n) (x : Int32) : zv_ct l D ty yX4_withdraw cX4_withdraw 2 (some .int) (zR 2 43) [.ref (b 0), .int x] (zm b ty τ) (fun v_ w_ => v_ = some (.int (fX4_withdraw τ x).1) ∧ w_ = zm b ty (fX4_withdraw τ x).2) := by
  refine zv_open (by decide) rfl rfl [some (.ref (b 0)), some (.int x)] (by simp [zv_one, Value.category]) (zle rfl) rfl ?_
  intro k K T
  refine zv_aload_n K 1 dX4_withdraw_0 rfl rfl ?_
  refine zv_iload_n K 2 dX4_withdraw_1 rfl rfl ?_
  refine zv_cV1 K (q0 := 0) (As := [.int x]) (rest := []) 1 5 (kX4_isFact l D ty b τ n hn hc x) dX4_withdraw_2 rfl zw_3_79 zw_3_81 zw_p2_2 zw_1_5 zw_3_82 ⟨rfl, rfl⟩ zh_yX4_isFact ⟨by decide, by decide⟩ (zm_at (p := 0) (j := 0) rfl) rfl rfl rfl (zle rfl) rfl ?_
  refine zv_ifB_ne K 10 8 dX4_withdraw_5 (by decide) rfl (fun hh => ?_) (fun hh => ?_)
  · skip
    obtain ⟨hx, hf⟩ := zm_hs hn hc hh
    refine zv_aload_n K 11 dX4_withdraw_10 rfl rfl ?_
    refine zm_get (v := .ref (b 8)) K 8 14 dX4_withdraw_11 rfl (by decide) zw_2_196 rfl ?_
    refine zv_iload_n K 15 dX4_withdraw_14 rfl rfl ?_
    refine zv_iald (F := τ.2 8) K 4 x.toNatClampNeg 16 dX4_withdraw_15 rfl (zm_at (p := 4) (j := 8) rfl) hx hf (by decide) ?_
    refine zv_bipush K (-4) 18 dX4_withdraw_16 rfl (by decide) ?_
    refine zv_icmp_eq K 24 21 dX4_withdraw_18 (by decide) rfl (fun h2 => ?_) (fun h2 => ?_)
    · skip
      refine zv_aload_n K 25 dX4_withdraw_24 rfl rfl ?_
      refine zm_get (v := .ref (b 8)) K 8 28 dX4_withdraw_25 rfl (by decide) zw_2_196 rfl ?_
      refine zv_iload_n K 29 dX4_withdraw_28 rfl rfl ?_
      refine zv_aload_n K 30 dX4_withdraw_29 rfl rfl ?_
      refine zm_get (v := .int (τ.1 0)) K 0 33 dX4_withdraw_30 rfl (by decide) zw_2_188 rfl ?_
      refine zv_iast K 4 x.toNatClampNeg 34 (zm b ty (zmF τ 8 x.toNatClampNeg (τ.1 0))) dX4_withdraw_33 rfl (zm_at (p := 4) (j := 8) rfl) hx hf (by decide) (zm_F 8 x.toNatClampNeg rfl (by decide) rfl) ?_
      refine zv_iconst K 1 35 dX4_withdraw_34 rfl (by decide) ?_
      exact zv_iret K T dX4_withdraw_35 (⟨by simp only [fX4_withdraw, if_pos hh, if_pos h2], by simp only [fX4_withdraw, if_pos hh, if_pos h2]⟩)
    · skip
      refine zv_bipush K (-5) 23 dX4_withdraw_21 rfl (by decide) ?_
      exact zv_iret K T dX4_withdraw_23 (⟨by simp only [fX4_withdraw, if_pos hh, if_neg h2], by simp only [fX4_withdraw, if_pos hh, if_neg h2]⟩)
  · skip
    refine zv_iconst K (-1) 9 dX4_withdraw_8 rfl (by decide) ?_
    exact zv_iret K T dX4_withdraw_9 (⟨by simp only [fX4_withdraw, if_neg hh], by simp only [fX4_withdraw, if_neg hh]⟩)

def fX4_fact (τ : zM) (x : Int32) (y : Int32) : Int32 :=
  if (0 ≤ x ∧ x < τ.1 3) then
    if (0 ≤ y ∧ y ≤ 9) then
      if y = 0 then
        (τ.2 5 x.toNatClampNeg)
      else
        if y = 1 then
          (τ.2 6 x.toNatClampNeg)
        else
          if y = 2 then
            (τ.2 7 x.toNatClampNeg)
          else
            if y = 3 then
              (τ.2 8 x.toNatClampNeg)
            else
              if y = 4 then
                (τ.2 9 x.toNatClampNeg)
              else
                if y = 5 then
                  (τ.2 10 x.toNatClampNeg)
                else
                  if y = 6 then
                    (τ.2 12 x.toNatClampNeg)
                  else
                    if y = 7 then
                      (τ.2 13 x.toNatClampNeg)
                    else
                      if y = 8 then
                        (τ.2 14 x.toNatClampNeg)
                      else
                        (τ.2 15 x.toNatClampNeg)
    else
      (-1)
  else
    (-1)
set_option maxHeartbeats 4000000 in
set_option maxRecDepth 100000 in
theorem kX4_fact (l : Launch) (D : va_G) (ty : zTy) (b : Nat → Nat) (τ : zM) (n : Nat) (hn : n ≤ 90) (hc : τ.1 3 = nI n) (x y : Int32) : zv_ct l D ty yX4_fact cX4_fact 3 (some .int) (zR 2 43) [.ref (b 0), .int x, .int y] (zm b ty τ) (fun v_ w_ => v_ = some (.int (fX4_fact τ x y)) ∧ w_ = zm b ty τ) := by
  refine zv_open (by decide) rfl rfl [some (.ref (b 0)), some (.int x), some (.int y)] (by simp [zv_one, Value.category]) (zle rfl) rfl ?_
  intro k K T
  refine zv_aload_n K 1 dX4_fact_0 rfl rfl ?_
  refine zv_iload_n K 2 dX4_fact_1 rfl rfl ?_
  refine zv_cV1 K (q0 := 0) (As := [.int x]) (rest := []) 1 5 (kX4_isFact l D ty b τ n hn hc x) dX4_fact_2 rfl zw_3_79 zw_3_81 zw_p2_2 zw_1_5 zw_3_82 ⟨rfl, rfl⟩ zh_yX4_isFact ⟨by decide, by decide⟩ (zm_at (p := 0) (j := 0) rfl) rfl rfl rfl (zle rfl) rfl ?_
  refine zv_ifB_eq K 18 8 dX4_fact_5 (by decide) rfl (fun hh => ?_) (fun hh => ?_)
  · skip
    refine zv_iconst K (-1) 19 dX4_fact_18 rfl (by decide) ?_
    exact zv_iret K T dX4_fact_19 (⟨by simp only [fX4_fact, if_neg hh], rfl⟩)
  · skip
    refine zv_iload_n K 9 dX4_fact_8 rfl rfl ?_
    refine zv_iconst K 0 10 dX4_fact_9 rfl (by decide) ?_
    refine zv_bipush K 9 12 dX4_fact_10 rfl (by decide) ?_
    refine zv_cS1 K (As := [.int y, .int 0, .int 9]) (rest := []) 3 15 (kX4_in l D ty (zm b ty τ) y 0 9) dX4_fact_12 rfl zw_3_47 zw_3_48 zw_1_5 zw_3_49 ⟨rfl, rfl⟩ zh_yX4_in ⟨by decide, by decide⟩ rfl rfl (zle rfl) rfl ?_
    refine zv_ifB_ne K 20 18 dX4_fact_15 (by decide) rfl (fun h2 => ?_) (fun h2 => ?_)
    · skip
      obtain ⟨hx, hf⟩ := zm_hs hn hc hh
      refine zv_iload_n K 21 dX4_fact_20 rfl rfl ?_
      by_cases e_0 : y = 0
      · refine zv_tableIn (off := 51) K 72 dX4_fact_21 (by rw [e_0]; decide) (by rw [e_0]; decide) (by rw [e_0]; rfl) (by decide) ?_
        refine zv_aload_n K 73 dX4_fact_72 rfl rfl ?_
        refine zm_get (v := .ref (b 5)) K 5 76 dX4_fact_73 rfl (by decide) zw_2_193 rfl ?_
        refine zv_iload_n K 77 dX4_fact_76 rfl rfl ?_
        refine zv_iald (F := τ.2 5) K 1 x.toNatClampNeg 78 dX4_fact_77 rfl (zm_at (p := 1) (j := 5) rfl) hx hf (by decide) ?_
        exact zv_iret K T dX4_fact_78 (⟨by simp only [fX4_fact, if_pos hh, if_pos h2, if_pos e_0], rfl⟩)
      · skip
        by_cases e_1 : y = 1
        · refine zv_tableIn (off := 58) K 79 dX4_fact_21 (by rw [e_1]; decide) (by rw [e_1]; decide) (by rw [e_1]; rfl) (by decide) ?_
          refine zv_aload_n K 80 dX4_fact_79 rfl rfl ?_
          refine zm_get (v := .ref (b 6)) K 6 83 dX4_fact_80 rfl (by decide) zw_2_194 rfl ?_
          refine zv_iload_n K 84 dX4_fact_83 rfl rfl ?_
          refine zv_iald (F := τ.2 6) K 2 x.toNatClampNeg 85 dX4_fact_84 rfl (zm_at (p := 2) (j := 6) rfl) hx hf (by decide) ?_
          exact zv_iret K T dX4_fact_85 (⟨by simp only [fX4_fact, if_pos hh, if_pos h2, if_neg e_0, if_pos e_1], rfl⟩)
        · skip
          by_cases e_2 : y = 2
          · refine zv_tableIn (off := 65) K 86 dX4_fact_21 (by rw [e_2]; decide) (by rw [e_2]; decide) (by rw [e_2]; rfl) (by decide) ?_
            refine zv_aload_n K 87 dX4_fact_86 rfl rfl ?_
            refine zm_get (v := .ref (b 7)) K 7 90 dX4_fact_87 rfl (by decide) zw_2_195 rfl ?_
            refine zv_iload_n K 91 dX4_fact_90 rfl rfl ?_
            refine zv_iald (F := τ.2 7) K 3 x.toNatClampNeg 92 dX4_fact_91 rfl (zm_at (p := 3) (j := 7) rfl) hx hf (by decide) ?_
            exact zv_iret K T dX4_fact_92 (⟨by simp only [fX4_fact, if_pos hh, if_pos h2, if_neg e_0, if_neg e_1, if_pos e_2], rfl⟩)
          · skip
            by_cases e_3 : y = 3
            · refine zv_tableIn (off := 72) K 93 dX4_fact_21 (by rw [e_3]; decide) (by rw [e_3]; decide) (by rw [e_3]; rfl) (by decide) ?_
              refine zv_aload_n K 94 dX4_fact_93 rfl rfl ?_
              refine zm_get (v := .ref (b 8)) K 8 97 dX4_fact_94 rfl (by decide) zw_2_196 rfl ?_
              refine zv_iload_n K 98 dX4_fact_97 rfl rfl ?_
              refine zv_iald (F := τ.2 8) K 4 x.toNatClampNeg 99 dX4_fact_98 rfl (zm_at (p := 4) (j := 8) rfl) hx hf (by decide) ?_
              exact zv_iret K T dX4_fact_99 (⟨by simp only [fX4_fact, if_pos hh, if_pos h2, if_neg e_0, if_neg e_1, if_neg e_2, if_pos e_3], rfl⟩)
            · skip
              by_cases e_4 : y = 4
              · refine zv_tableIn (off := 79) K 100 dX4_fact_21 (by rw [e_4]; decide) (by rw [e_4]; decide) (by rw [e_4]; rfl) (by decide) ?_
                refine zv_aload_n K 101 dX4_fact_100 rfl rfl ?_
                refine zm_get (v := .ref (b 9)) K 9 104 dX4_fact_101 rfl (by decide) zw_2_197 rfl ?_
                refine zv_iload_n K 105 dX4_fact_104 rfl rfl ?_
                refine zv_iald (F := τ.2 9) K 5 x.toNatClampNeg 106 dX4_fact_105 rfl (zm_at (p := 5) (j := 9) rfl) hx hf (by decide) ?_
                exact zv_iret K T dX4_fact_106 (⟨by simp only [fX4_fact, if_pos hh, if_pos h2, if_neg e_0, if_neg e_1, if_neg e_2, if_neg e_3, if_pos e_4], rfl⟩)
              · skip
                by_cases e_5 : y = 5
                · refine zv_tableIn (off := 86) K 107 dX4_fact_21 (by rw [e_5]; decide) (by rw [e_5]; decide) (by rw [e_5]; rfl) (by decide) ?_
                  refine zv_aload_n K 108 dX4_fact_107 rfl rfl ?_
                  refine zm_get (v := .ref (b 10)) K 10 111 dX4_fact_108 rfl (by decide) zw_2_198 rfl ?_
                  refine zv_iload_n K 112 dX4_fact_111 rfl rfl ?_
                  refine zv_iald (F := τ.2 10) K 6 x.toNatClampNeg 113 dX4_fact_112 rfl (zm_at (p := 6) (j := 10) rfl) hx hf (by decide) ?_
                  exact zv_iret K T dX4_fact_113 (⟨by simp only [fX4_fact, if_pos hh, if_pos h2, if_neg e_0, if_neg e_1, if_neg e_2, if_neg e_3, if_neg e_4, if_pos e_5], rfl⟩)
                · skip
                  by_cases e_6 : y = 6
                  · refine zv_tableIn (off := 93) K 114 dX4_fact_21 (by rw [e_6]; decide) (by rw [e_6]; decide) (by rw [e_6]; rfl) (by decide) ?_
                    refine zv_aload_n K 115 dX4_fact_114 rfl rfl ?_
                    refine zm_get (v := .ref (b 12)) K 12 118 dX4_fact_115 rfl (by decide) zw_2_200 rfl ?_
                    refine zv_iload_n K 119 dX4_fact_118 rfl rfl ?_
                    refine zv_iald (F := τ.2 12) K 8 x.toNatClampNeg 120 dX4_fact_119 rfl (zm_at (p := 8) (j := 12) rfl) hx hf (by decide) ?_
                    exact zv_iret K T dX4_fact_120 (⟨by simp only [fX4_fact, if_pos hh, if_pos h2, if_neg e_0, if_neg e_1, if_neg e_2, if_neg e_3, if_neg e_4, if_neg e_5, if_pos e_6], rfl⟩)
                  · skip
                    by_cases e_7 : y = 7
                    · refine zv_tableIn (off := 100) K 121 dX4_fact_21 (by rw [e_7]; decide) (by rw [e_7]; decide) (by rw [e_7]; rfl) (by decide) ?_
                      refine zv_aload_n K 122 dX4_fact_121 rfl rfl ?_
                      refine zm_get (v := .ref (b 13)) K 13 125 dX4_fact_122 rfl (by decide) zw_2_201 rfl ?_
                      refine zv_iload_n K 126 dX4_fact_125 rfl rfl ?_
                      refine zv_iald (F := τ.2 13) K 9 x.toNatClampNeg 127 dX4_fact_126 rfl (zm_at (p := 9) (j := 13) rfl) hx hf (by decide) ?_
                      exact zv_iret K T dX4_fact_127 (⟨by simp only [fX4_fact, if_pos hh, if_pos h2, if_neg e_0, if_neg e_1, if_neg e_2, if_neg e_3, if_neg e_4, if_neg e_5, if_neg e_6, if_pos e_7], rfl⟩)
                    · skip
                      by_cases e_8 : y = 8
                      · refine zv_tableIn (off := 107) K 128 dX4_fact_21 (by rw [e_8]; decide) (by rw [e_8]; decide) (by rw [e_8]; rfl) (by decide) ?_
                        refine zv_aload_n K 129 dX4_fact_128 rfl rfl ?_
                        refine zm_get (v := .ref (b 14)) K 14 132 dX4_fact_129 rfl (by decide) zw_2_202 rfl ?_
                        refine zv_iload_n K 133 dX4_fact_132 rfl rfl ?_
                        refine zv_iald (F := τ.2 14) K 10 x.toNatClampNeg 134 dX4_fact_133 rfl (zm_at (p := 10) (j := 14) rfl) hx hf (by decide) ?_
                        exact zv_iret K T dX4_fact_134 (⟨by simp only [fX4_fact, if_pos hh, if_pos h2, if_neg e_0, if_neg e_1, if_neg e_2, if_neg e_3, if_neg e_4, if_neg e_5, if_neg e_6, if_neg e_7, if_pos e_8], rfl⟩)
                      · skip
                        refine zv_tableOut K 135 dX4_fact_21 (by have n_0 := lv_neT e_0 (a := 0) rfl; have n_1 := lv_neT e_1 (a := 1) rfl; have n_2 := lv_neT e_2 (a := 2) rfl; have n_3 := lv_neT e_3 (a := 3) rfl; have n_4 := lv_neT e_4 (a := 4) rfl; have n_5 := lv_neT e_5 (a := 5) rfl; have n_6 := lv_neT e_6 (a := 6) rfl; have n_7 := lv_neT e_7 (a := 7) rfl; have n_8 := lv_neT e_8 (a := 8) rfl; omega) (by decide) ?_
                        refine zv_aload_n K 136 dX4_fact_135 rfl rfl ?_
                        refine zm_get (v := .ref (b 15)) K 15 139 dX4_fact_136 rfl (by decide) zw_2_203 rfl ?_
                        refine zv_iload_n K 140 dX4_fact_139 rfl rfl ?_
                        refine zv_iald (F := τ.2 15) K 11 x.toNatClampNeg 141 dX4_fact_140 rfl (zm_at (p := 11) (j := 15) rfl) hx hf (by decide) ?_
                        exact zv_iret K T dX4_fact_141 (⟨by simp only [fX4_fact, if_pos hh, if_pos h2, if_neg e_0, if_neg e_1, if_neg e_2, if_neg e_3, if_neg e_4, if_neg e_5, if_neg e_6, if_neg e_7, if_neg e_8], rfl⟩)
    · skip
      refine zv_iconst K (-1) 19 dX4_fact_18 rfl (by decide) ?_
      exact zv_iret K T dX4_fact_19 (⟨by simp only [fX4_fact, if_pos hh, if_neg h2], rfl⟩)

set_option maxHeartbeats 4000000 in
set_option maxRecDepth 100000 in
theorem kX4_withdrawn_l (l : Launch) (D : va_G) (ty : zTy) (b : Nat → Nat) (τ : zM) (n : Nat) (hn : n ≤ 90) (hc : τ.1 3 = nI n) {k : zKx} (K : zv_ok k l D (zR 0 0) cX4_withdrawn 3 yX4_withdrawn.cls ty) (T : zv_rt k (some .int) (fun v_ w_ => v_ = some (.int (nI (zct (fun f => decide (¬ τ.2 8 f = -4)) n))) ∧ w_ = zm b ty τ)) : ∀ m : Nat, m ≤ n → zv k 4 [some (.ref (b 0)), some (.int (nI (zct (fun f => decide (¬ τ.2 8 f = -4)) m))), some (.int (nI m))] [] (zm b ty τ) := by
  refine z_wf (fun m : Nat => n - m) ?_
  intro m ih hm
  refine zv_iload_n K 5 dX4_withdrawn_4 rfl rfl ?_
  refine zv_aload_n K 6 dX4_withdrawn_5 rfl rfl ?_
  refine zm_get (v := .int (τ.1 3)) K 3 9 dX4_withdrawn_6 rfl (by decide) zw_2_191 rfl ?_
  refine zv_topi (nI n) hc ?_
  refine zv_icmp_ge K 37 12 dX4_withdrawn_9 (by decide) rfl (fun hb => ?_) (fun hb => ?_)
  · skip
    have e : m = n := by have := z_ge hb (by omega) (by omega); omega
    refine zv_iload_n K 38 dX4_withdrawn_37 rfl rfl ?_
    exact zv_iret K T dX4_withdrawn_38 (⟨by rw [e], rfl⟩)
  · skip
    have hlt : m < n := z_lt hb (by omega)
    refine zv_iload_n K 13 dX4_withdrawn_12 rfl rfl ?_
    refine zv_aload_n K 14 dX4_withdrawn_13 rfl rfl ?_
    refine zm_get (v := .ref (b 8)) K 8 17 dX4_withdrawn_14 rfl (by decide) zw_2_196 rfl ?_
    refine zv_iload_n K 18 dX4_withdrawn_17 rfl rfl ?_
    refine zv_iald (F := τ.2 8) K 4 m 19 dX4_withdrawn_18 rfl (zm_at (p := 4) (j := 8) rfl) rfl (by omega) (by decide) ?_
    refine zv_bipush K (-4) 21 dX4_withdrawn_19 rfl (by decide) ?_
    refine zv_icmp_ne K 28 24 dX4_withdrawn_21 (by decide) rfl (fun hw => ?_) (fun hw => ?_)
    · skip
      refine zv_iconst K 1 29 dX4_withdrawn_28 rfl (by decide) ?_
      refine zv_iadd K 30 dX4_withdrawn_29 rfl ?_
      refine zv_topi (nI (zct (fun f => decide (¬ τ.2 8 f = -4)) (m + 1))) (by rw [zct_t (decide_eq_true hw)]; exact nI_1 _) ?_
      refine zv_istore_n K [some (.ref (b 0)), some (.int (nI (zct (fun f => decide (¬ τ.2 8 f = -4)) (m + 1)))), some (.int (nI m))] 31 dX4_withdrawn_30 rfl rfl (zlt rfl) ?_
      refine zv_iinc K (nI (m + 1)) [some (.ref (b 0)), some (.int (nI (zct (fun f => decide (¬ τ.2 8 f = -4)) (m + 1)))), some (.int (nI (m + 1)))] 34 dX4_withdrawn_31 rfl rfl (z_inc m) rfl ?_
      refine zv_goto K 4 dX4_withdrawn_34 (by decide) ?_
      exact ih (m + 1) (by omega) (by omega)
    · skip
      refine zv_iconst K 0 25 dX4_withdrawn_24 rfl (by decide) ?_
      refine zv_goto K 29 dX4_withdrawn_25 (by decide) ?_
      refine zv_iadd K 30 dX4_withdrawn_29 rfl ?_
      refine zv_topi (nI (zct (fun f => decide (¬ τ.2 8 f = -4)) (m + 1))) (by rw [zct_f (decide_eq_false (fun z => z hw))]; exact Int32.add_zero _) ?_
      refine zv_istore_n K [some (.ref (b 0)), some (.int (nI (zct (fun f => decide (¬ τ.2 8 f = -4)) (m + 1)))), some (.int (nI m))] 31 dX4_withdrawn_30 rfl rfl (zlt rfl) ?_
      refine zv_iinc K (nI (m + 1)) [some (.ref (b 0)), some (.int (nI (zct (fun f => decide (¬ τ.2 8 f = -4)) (m + 1)))), some (.int (nI (m + 1)))] 34 dX4_withdrawn_31 rfl rfl (z_inc m) rfl ?_
      refine zv_goto K 4 dX4_withdrawn_34 (by decide) ?_
      exact ih (m + 1) (by omega) (by omega)

set_option maxHeartbeats 4000000 in
set_option maxRecDepth 100000 in
theorem kX4_withdrawn (l : Launch) (D : va_G) (ty : zTy) (b : Nat → Nat) (τ : zM) (n : Nat) (hn : n ≤ 90) (hc : τ.1 3 = nI n) : zv_ct l D ty yX4_withdrawn cX4_withdrawn 3 (some .int) (zR 0 0) [.ref (b 0)] (zm b ty τ) (fun v_ w_ => v_ = some (.int (nI (zct (fun f => decide (¬ τ.2 8 f = -4)) n))) ∧ w_ = zm b ty τ) := by
  refine zv_open (by decide) rfl rfl [some (.ref (b 0)), none, none] (by simp [zv_one, Value.category]) (zle rfl) rfl ?_
  intro k K T
  refine zv_iconst K 0 1 dX4_withdrawn_0 rfl (by decide) ?_
  refine zv_istore_n K [some (.ref (b 0)), some (.int 0), none] 2 dX4_withdrawn_1 rfl rfl (zlt rfl) ?_
  refine zv_iconst K 0 3 dX4_withdrawn_2 rfl (by decide) ?_
  refine zv_istore_n K [some (.ref (b 0)), some (.int 0), some (.int 0)] 4 dX4_withdrawn_3 rfl rfl (zlt rfl) ?_
  exact kX4_withdrawn_l l D ty b τ n hn hc K T 0 (Nat.zero_le _)

def fX4_many (τ : zM) (n : Nat) (x : Int32) : Int32 :=
  if x = 0 then
    (τ.1 3)
  else
    if x = 1 then
      (τ.1 4)
    else
      if x = 2 then
        (nI (zct (fun f => decide (¬ τ.2 8 f = -4)) n))
      else
        if x = 3 then
          (τ.1 0)
        else
          if x = 4 then
            (τ.1 1)
          else
            if x = 5 then
              (τ.1 2)
            else
              (-1)
set_option maxHeartbeats 4000000 in
set_option maxRecDepth 100000 in
theorem kX4_many (l : Launch) (D : va_G) (ty : zTy) (b : Nat → Nat) (τ : zM) (n : Nat) (hn : n ≤ 90) (hc : τ.1 3 = nI n) (x : Int32) : zv_ct l D ty yX4_many cX4_many 2 (some .int) (zR 1 22) [.ref (b 0), .int x] (zm b ty τ) (fun v_ w_ => v_ = some (.int (fX4_many τ n x)) ∧ w_ = zm b ty τ) := by
  refine zv_open (by decide) rfl rfl [some (.ref (b 0)), some (.int x)] (by simp [zv_one, Value.category]) (zle rfl) rfl ?_
  intro k K T
  refine zv_iload_n K 1 dX4_many_0 rfl rfl ?_
  by_cases e_0 : x = 0
  · refine zv_tableIn (off := 39) K 40 dX4_many_1 (by rw [e_0]; decide) (by rw [e_0]; decide) (by rw [e_0]; rfl) (by decide) ?_
    refine zv_aload_n K 41 dX4_many_40 rfl rfl ?_
    refine zm_get (v := .int (τ.1 3)) K 3 44 dX4_many_41 rfl (by decide) zw_2_191 rfl ?_
    exact zv_iret K T dX4_many_44 (⟨by simp only [fX4_many, if_pos e_0], rfl⟩)
  · skip
    by_cases e_1 : x = 1
    · refine zv_tableIn (off := 44) K 45 dX4_many_1 (by rw [e_1]; decide) (by rw [e_1]; decide) (by rw [e_1]; rfl) (by decide) ?_
      refine zv_aload_n K 46 dX4_many_45 rfl rfl ?_
      refine zm_get (v := .int (τ.1 4)) K 4 49 dX4_many_46 rfl (by decide) zw_2_192 rfl ?_
      exact zv_iret K T dX4_many_49 (⟨by simp only [fX4_many, if_neg e_0, if_pos e_1], rfl⟩)
    · skip
      by_cases e_2 : x = 2
      · refine zv_tableIn (off := 49) K 50 dX4_many_1 (by rw [e_2]; decide) (by rw [e_2]; decide) (by rw [e_2]; rfl) (by decide) ?_
        refine zv_aload_n K 51 dX4_many_50 rfl rfl ?_
        refine zv_cV1 K (q0 := 0) (As := []) (rest := []) 0 54 (kX4_withdrawn l D ty b τ n hn hc) dX4_many_51 rfl zw_3_191 zw_3_193 zw_p2_12 zw_1_5 zw_3_194 ⟨rfl, rfl⟩ zh_yX4_withdrawn ⟨by decide, by decide⟩ (zm_at (p := 0) (j := 0) rfl) rfl rfl rfl (zle rfl) rfl ?_
        exact zv_iret K T dX4_many_54 (⟨by simp only [fX4_many, if_neg e_0, if_neg e_1, if_pos e_2], rfl⟩)
      · skip
        by_cases e_3 : x = 3
        · refine zv_tableIn (off := 54) K 55 dX4_many_1 (by rw [e_3]; decide) (by rw [e_3]; decide) (by rw [e_3]; rfl) (by decide) ?_
          refine zv_aload_n K 56 dX4_many_55 rfl rfl ?_
          refine zm_get (v := .int (τ.1 0)) K 0 59 dX4_many_56 rfl (by decide) zw_2_188 rfl ?_
          exact zv_iret K T dX4_many_59 (⟨by simp only [fX4_many, if_neg e_0, if_neg e_1, if_neg e_2, if_pos e_3], rfl⟩)
        · skip
          by_cases e_4 : x = 4
          · refine zv_tableIn (off := 59) K 60 dX4_many_1 (by rw [e_4]; decide) (by rw [e_4]; decide) (by rw [e_4]; rfl) (by decide) ?_
            refine zv_aload_n K 61 dX4_many_60 rfl rfl ?_
            refine zm_get (v := .int (τ.1 1)) K 1 64 dX4_many_61 rfl (by decide) zw_2_189 rfl ?_
            exact zv_iret K T dX4_many_64 (⟨by simp only [fX4_many, if_neg e_0, if_neg e_1, if_neg e_2, if_neg e_3, if_pos e_4], rfl⟩)
          · skip
            by_cases e_5 : x = 5
            · refine zv_tableIn (off := 64) K 65 dX4_many_1 (by rw [e_5]; decide) (by rw [e_5]; decide) (by rw [e_5]; rfl) (by decide) ?_
              refine zv_aload_n K 66 dX4_many_65 rfl rfl ?_
              refine zm_get (v := .int (τ.1 2)) K 2 69 dX4_many_66 rfl (by decide) zw_2_190 rfl ?_
              exact zv_iret K T dX4_many_69 (⟨by simp only [fX4_many, if_neg e_0, if_neg e_1, if_neg e_2, if_neg e_3, if_neg e_4, if_pos e_5], rfl⟩)
            · skip
              refine zv_tableOut K 70 dX4_many_1 (by have n_0 := lv_neT e_0 (a := 0) rfl; have n_1 := lv_neT e_1 (a := 1) rfl; have n_2 := lv_neT e_2 (a := 2) rfl; have n_3 := lv_neT e_3 (a := 3) rfl; have n_4 := lv_neT e_4 (a := 4) rfl; have n_5 := lv_neT e_5 (a := 5) rfl; omega) (by decide) ?_
              refine zv_iconst K (-1) 71 dX4_many_70 rfl (by decide) ?_
              exact zv_iret K T dX4_many_71 (⟨by simp only [fX4_many, if_neg e_0, if_neg e_1, if_neg e_2, if_neg e_3, if_neg e_4, if_neg e_5], rfl⟩)

def mkc (τ : zM) (i q : Nat) : zM := zmFa τ 18 (va_cpy (τ.2 i) (τ.2 18) 0 q 90)
def mbc (τ : zM) (i q : Nat) : zM := zmFa τ i (va_cpy (τ.2 18) (τ.2 i) q 0 90)
set_option maxHeartbeats 4000000 in
set_option maxRecDepth 100000 in
theorem kX4_copy_k5_l (l : Launch) (D : va_G) (ty : zTy) (b : Nat → Nat) (τ : zM) {k : zKx} (K : zv_ok k l D (zR 0 0) cX4_copy 6 yX4_copy.cls ty) (T : zv_rt k none (fun v_ w_ => v_ = none ∧ w_ = zm b ty (mkc τ 5 0))) : ∀ m : Nat, m ≤ 90 → zv k 3 [some (.ref (b 5)), some (.int 0), some (.ref (b 18)), some (.int 0), some (.int 90), some (.int (nI m))] [] (zm b ty (zmFa τ 18 (va_cpy (τ.2 5) (τ.2 18) 0 0 m))) := by
  refine z_wf (fun m : Nat => 90 - m) ?_
  intro m ih hm
  refine zv_iload K 5 dX4_copy_3 rfl rfl ?_
  refine zv_iload K 7 dX4_copy_5 rfl rfl ?_
  refine zv_icmp_ge K 28 10 dX4_copy_7 (by decide) rfl (fun hb => ?_) (fun hb => ?_)
  · skip
    have e : m = 90 := by have := z_ge (c := 90) hb (by decide) (by omega); omega
    exact zv_vret K T dX4_copy_28 (⟨rfl, by rw [e]; rfl⟩)
  · skip
    have hlt : m < 90 := z_lt (c := 90) hb (by omega)
    refine zv_aload_n K 11 dX4_copy_10 rfl rfl ?_
    refine zv_iload_n K 12 dX4_copy_11 rfl rfl ?_
    refine zv_iload K 14 dX4_copy_12 rfl rfl ?_
    refine zv_iadd K 15 dX4_copy_14 rfl ?_
    refine zv_aload_n K 16 dX4_copy_15 rfl rfl ?_
    refine zv_iload_n K 17 dX4_copy_16 rfl rfl ?_
    refine zv_iload K 19 dX4_copy_17 rfl rfl ?_
    refine zv_iadd K 20 dX4_copy_19 rfl ?_
    refine zv_iald (F := τ.2 5) K 1 (0 + m) 21 dX4_copy_20 rfl (zm_at (p := 1) (j := 5) rfl) (nI_add 0 m) (by omega) (by decide) ?_
    refine zv_iast K 13 (0 + m) 22 (zm b ty (zmF (zmFa τ 18 (va_cpy (τ.2 5) (τ.2 18) 0 0 m)) 18 (0 + m) (τ.2 5 (0 + m)))) dX4_copy_21 rfl (zm_at (p := 13) (j := 18) rfl) (nI_add 0 m) (by omega) (by decide) (zm_F 18 (0 + m) rfl (by decide) rfl) ?_
    refine zv_iinc K (nI (m + 1)) [some (.ref (b 5)), some (.int 0), some (.ref (b 18)), some (.int 0), some (.int 90), some (.int (nI (m + 1)))] 25 dX4_copy_22 rfl rfl (z_inc m) rfl ?_
    refine zv_goto K 3 dX4_copy_25 (by decide) ?_
    refine zv_ws (congrArg (zm b ty) ((zmF_Fa τ 18 (0 + m) _ _).trans (congrArg (zmFa τ 18) (zcpy_s (τ.2 5) (τ.2 18) 0 0 m)))) ?_
    exact ih (m + 1) (by omega) (by omega)

set_option maxHeartbeats 4000000 in
set_option maxRecDepth 100000 in
theorem kX4_copy_k5 (l : Launch) (D : va_G) (ty : zTy) (b : Nat → Nat) (τ : zM) : zv_ct l D ty yX4_copy cX4_copy 6 none (zR 0 0) [.ref (b 5), .int 0, .ref (b 18), .int 0, .int 90] (zm b ty τ) (fun v_ w_ => v_ = none ∧ w_ = zm b ty (mkc τ 5 0)) := by
  refine zv_open (by decide) rfl rfl [some (.ref (b 5)), some (.int 0), some (.ref (b 18)), some (.int 0), some (.int 90), none] (by simp [zv_one, Value.category]) (zle rfl) rfl ?_
  intro k K T
  refine zv_iconst K 0 1 dX4_copy_0 rfl (by decide) ?_
  refine zv_istore K [some (.ref (b 5)), some (.int 0), some (.ref (b 18)), some (.int 0), some (.int 90), some (.int 0)] 3 dX4_copy_1 rfl rfl (zlt rfl) ?_
  refine zv_ws (congrArg (zm b ty) (show τ = zmFa τ 18 (va_cpy (τ.2 5) (τ.2 18) 0 0 0) by rw [zcpy_0]; exact (zmFa_self τ 18).symm)) ?_
  exact kX4_copy_k5_l l D ty b τ K T 0 (by decide)

set_option maxHeartbeats 4000000 in
set_option maxRecDepth 100000 in
theorem kX4_copy_b5_l (l : Launch) (D : va_G) (ty : zTy) (b : Nat → Nat) (τ : zM) {k : zKx} (K : zv_ok k l D (zR 0 0) cX4_copy 6 yX4_copy.cls ty) (T : zv_rt k none (fun v_ w_ => v_ = none ∧ w_ = zm b ty (mbc τ 5 0))) : ∀ m : Nat, m ≤ 90 → zv k 3 [some (.ref (b 18)), some (.int 0), some (.ref (b 5)), some (.int 0), some (.int 90), some (.int (nI m))] [] (zm b ty (zmFa τ 5 (va_cpy (τ.2 18) (τ.2 5) 0 0 m))) := by
  refine z_wf (fun m : Nat => 90 - m) ?_
  intro m ih hm
  refine zv_iload K 5 dX4_copy_3 rfl rfl ?_
  refine zv_iload K 7 dX4_copy_5 rfl rfl ?_
  refine zv_icmp_ge K 28 10 dX4_copy_7 (by decide) rfl (fun hb => ?_) (fun hb => ?_)
  · skip
    have e : m = 90 := by have := z_ge (c := 90) hb (by decide) (by omega); omega
    exact zv_vret K T dX4_copy_28 (⟨rfl, by rw [e]; rfl⟩)
  · skip
    have hlt : m < 90 := z_lt (c := 90) hb (by omega)
    refine zv_aload_n K 11 dX4_copy_10 rfl rfl ?_
    refine zv_iload_n K 12 dX4_copy_11 rfl rfl ?_
    refine zv_iload K 14 dX4_copy_12 rfl rfl ?_
    refine zv_iadd K 15 dX4_copy_14 rfl ?_
    refine zv_aload_n K 16 dX4_copy_15 rfl rfl ?_
    refine zv_iload_n K 17 dX4_copy_16 rfl rfl ?_
    refine zv_iload K 19 dX4_copy_17 rfl rfl ?_
    refine zv_iadd K 20 dX4_copy_19 rfl ?_
    refine zv_iald (F := τ.2 18) K 13 (0 + m) 21 dX4_copy_20 rfl (zm_at (p := 13) (j := 18) rfl) (nI_add 0 m) (by omega) (by decide) ?_
    refine zv_iast K 1 (0 + m) 22 (zm b ty (zmF (zmFa τ 5 (va_cpy (τ.2 18) (τ.2 5) 0 0 m)) 5 (0 + m) (τ.2 18 (0 + m)))) dX4_copy_21 rfl (zm_at (p := 1) (j := 5) rfl) (nI_add 0 m) (by omega) (by decide) (zm_F 5 (0 + m) rfl (by decide) rfl) ?_
    refine zv_iinc K (nI (m + 1)) [some (.ref (b 18)), some (.int 0), some (.ref (b 5)), some (.int 0), some (.int 90), some (.int (nI (m + 1)))] 25 dX4_copy_22 rfl rfl (z_inc m) rfl ?_
    refine zv_goto K 3 dX4_copy_25 (by decide) ?_
    refine zv_ws (congrArg (zm b ty) ((zmF_Fa τ 5 (0 + m) _ _).trans (congrArg (zmFa τ 5) (zcpy_s (τ.2 18) (τ.2 5) 0 0 m)))) ?_
    exact ih (m + 1) (by omega) (by omega)

set_option maxHeartbeats 4000000 in
set_option maxRecDepth 100000 in
theorem kX4_copy_b5 (l : Launch) (D : va_G) (ty : zTy) (b : Nat → Nat) (τ : zM) : zv_ct l D ty yX4_copy cX4_copy 6 none (zR 0 0) [.ref (b 18), .int 0, .ref (b 5), .int 0, .int 90] (zm b ty τ) (fun v_ w_ => v_ = none ∧ w_ = zm b ty (mbc τ 5 0)) := by
  refine zv_open (by decide) rfl rfl [some (.ref (b 18)), some (.int 0), some (.ref (b 5)), some (.int 0), some (.int 90), none] (by simp [zv_one, Value.category]) (zle rfl) rfl ?_
  intro k K T
  refine zv_iconst K 0 1 dX4_copy_0 rfl (by decide) ?_
  refine zv_istore K [some (.ref (b 18)), some (.int 0), some (.ref (b 5)), some (.int 0), some (.int 90), some (.int 0)] 3 dX4_copy_1 rfl rfl (zlt rfl) ?_
  refine zv_ws (congrArg (zm b ty) (show τ = zmFa τ 5 (va_cpy (τ.2 18) (τ.2 5) 0 0 0) by rw [zcpy_0]; exact (zmFa_self τ 5).symm)) ?_
  exact kX4_copy_b5_l l D ty b τ K T 0 (by decide)

set_option maxHeartbeats 4000000 in
set_option maxRecDepth 100000 in
theorem kX4_copy_k6_l (l : Launch) (D : va_G) (ty : zTy) (b : Nat → Nat) (τ : zM) {k : zKx} (K : zv_ok k l D (zR 0 0) cX4_copy 6 yX4_copy.cls ty) (T : zv_rt k none (fun v_ w_ => v_ = none ∧ w_ = zm b ty (mkc τ 6 90))) : ∀ m : Nat, m ≤ 90 → zv k 3 [some (.ref (b 6)), some (.int 0), some (.ref (b 18)), some (.int 90), some (.int 90), some (.int (nI m))] [] (zm b ty (zmFa τ 18 (va_cpy (τ.2 6) (τ.2 18) 0 90 m))) := by
  refine z_wf (fun m : Nat => 90 - m) ?_
  intro m ih hm
  refine zv_iload K 5 dX4_copy_3 rfl rfl ?_
  refine zv_iload K 7 dX4_copy_5 rfl rfl ?_
  refine zv_icmp_ge K 28 10 dX4_copy_7 (by decide) rfl (fun hb => ?_) (fun hb => ?_)
  · skip
    have e : m = 90 := by have := z_ge (c := 90) hb (by decide) (by omega); omega
    exact zv_vret K T dX4_copy_28 (⟨rfl, by rw [e]; rfl⟩)
  · skip
    have hlt : m < 90 := z_lt (c := 90) hb (by omega)
    refine zv_aload_n K 11 dX4_copy_10 rfl rfl ?_
    refine zv_iload_n K 12 dX4_copy_11 rfl rfl ?_
    refine zv_iload K 14 dX4_copy_12 rfl rfl ?_
    refine zv_iadd K 15 dX4_copy_14 rfl ?_
    refine zv_aload_n K 16 dX4_copy_15 rfl rfl ?_
    refine zv_iload_n K 17 dX4_copy_16 rfl rfl ?_
    refine zv_iload K 19 dX4_copy_17 rfl rfl ?_
    refine zv_iadd K 20 dX4_copy_19 rfl ?_
    refine zv_iald (F := τ.2 6) K 2 (0 + m) 21 dX4_copy_20 rfl (zm_at (p := 2) (j := 6) rfl) (nI_add 0 m) (by omega) (by decide) ?_
    refine zv_iast K 13 (90 + m) 22 (zm b ty (zmF (zmFa τ 18 (va_cpy (τ.2 6) (τ.2 18) 0 90 m)) 18 (90 + m) (τ.2 6 (0 + m)))) dX4_copy_21 rfl (zm_at (p := 13) (j := 18) rfl) (nI_add 90 m) (by omega) (by decide) (zm_F 18 (90 + m) rfl (by decide) rfl) ?_
    refine zv_iinc K (nI (m + 1)) [some (.ref (b 6)), some (.int 0), some (.ref (b 18)), some (.int 90), some (.int 90), some (.int (nI (m + 1)))] 25 dX4_copy_22 rfl rfl (z_inc m) rfl ?_
    refine zv_goto K 3 dX4_copy_25 (by decide) ?_
    refine zv_ws (congrArg (zm b ty) ((zmF_Fa τ 18 (90 + m) _ _).trans (congrArg (zmFa τ 18) (zcpy_s (τ.2 6) (τ.2 18) 0 90 m)))) ?_
    exact ih (m + 1) (by omega) (by omega)

set_option maxHeartbeats 4000000 in
set_option maxRecDepth 100000 in
theorem kX4_copy_k6 (l : Launch) (D : va_G) (ty : zTy) (b : Nat → Nat) (τ : zM) : zv_ct l D ty yX4_copy cX4_copy 6 none (zR 0 0) [.ref (b 6), .int 0, .ref (b 18), .int 90, .int 90] (zm b ty τ) (fun v_ w_ => v_ = none ∧ w_ = zm b ty (mkc τ 6 90)) := by
  refine zv_open (by decide) rfl rfl [some (.ref (b 6)), some (.int 0), some (.ref (b 18)), some (.int 90), some (.int 90), none] (by simp [zv_one, Value.category]) (zle rfl) rfl ?_
  intro k K T
  refine zv_iconst K 0 1 dX4_copy_0 rfl (by decide) ?_
  refine zv_istore K [some (.ref (b 6)), some (.int 0), some (.ref (b 18)), some (.int 90), some (.int 90), some (.int 0)] 3 dX4_copy_1 rfl rfl (zlt rfl) ?_
  refine zv_ws (congrArg (zm b ty) (show τ = zmFa τ 18 (va_cpy (τ.2 6) (τ.2 18) 0 90 0) by rw [zcpy_0]; exact (zmFa_self τ 18).symm)) ?_
  exact kX4_copy_k6_l l D ty b τ K T 0 (by decide)

set_option maxHeartbeats 4000000 in
set_option maxRecDepth 100000 in
theorem kX4_copy_b6_l (l : Launch) (D : va_G) (ty : zTy) (b : Nat → Nat) (τ : zM) {k : zKx} (K : zv_ok k l D (zR 0 0) cX4_copy 6 yX4_copy.cls ty) (T : zv_rt k none (fun v_ w_ => v_ = none ∧ w_ = zm b ty (mbc τ 6 90))) : ∀ m : Nat, m ≤ 90 → zv k 3 [some (.ref (b 18)), some (.int 90), some (.ref (b 6)), some (.int 0), some (.int 90), some (.int (nI m))] [] (zm b ty (zmFa τ 6 (va_cpy (τ.2 18) (τ.2 6) 90 0 m))) := by
  refine z_wf (fun m : Nat => 90 - m) ?_
  intro m ih hm
  refine zv_iload K 5 dX4_copy_3 rfl rfl ?_
  refine zv_iload K 7 dX4_copy_5 rfl rfl ?_
  refine zv_icmp_ge K 28 10 dX4_copy_7 (by decide) rfl (fun hb => ?_) (fun hb => ?_)
  · skip
    have e : m = 90 := by have := z_ge (c := 90) hb (by decide) (by omega); omega
    exact zv_vret K T dX4_copy_28 (⟨rfl, by rw [e]; rfl⟩)
  · skip
    have hlt : m < 90 := z_lt (c := 90) hb (by omega)
    refine zv_aload_n K 11 dX4_copy_10 rfl rfl ?_
    refine zv_iload_n K 12 dX4_copy_11 rfl rfl ?_
    refine zv_iload K 14 dX4_copy_12 rfl rfl ?_
    refine zv_iadd K 15 dX4_copy_14 rfl ?_
    refine zv_aload_n K 16 dX4_copy_15 rfl rfl ?_
    refine zv_iload_n K 17 dX4_copy_16 rfl rfl ?_
    refine zv_iload K 19 dX4_copy_17 rfl rfl ?_
    refine zv_iadd K 20 dX4_copy_19 rfl ?_
    refine zv_iald (F := τ.2 18) K 13 (90 + m) 21 dX4_copy_20 rfl (zm_at (p := 13) (j := 18) rfl) (nI_add 90 m) (by omega) (by decide) ?_
    refine zv_iast K 2 (0 + m) 22 (zm b ty (zmF (zmFa τ 6 (va_cpy (τ.2 18) (τ.2 6) 90 0 m)) 6 (0 + m) (τ.2 18 (90 + m)))) dX4_copy_21 rfl (zm_at (p := 2) (j := 6) rfl) (nI_add 0 m) (by omega) (by decide) (zm_F 6 (0 + m) rfl (by decide) rfl) ?_
    refine zv_iinc K (nI (m + 1)) [some (.ref (b 18)), some (.int 90), some (.ref (b 6)), some (.int 0), some (.int 90), some (.int (nI (m + 1)))] 25 dX4_copy_22 rfl rfl (z_inc m) rfl ?_
    refine zv_goto K 3 dX4_copy_25 (by decide) ?_
    refine zv_ws (congrArg (zm b ty) ((zmF_Fa τ 6 (0 + m) _ _).trans (congrArg (zmFa τ 6) (zcpy_s (τ.2 18) (τ.2 6) 90 0 m)))) ?_
    exact ih (m + 1) (by omega) (by omega)

set_option maxHeartbeats 4000000 in
set_option maxRecDepth 100000 in
theorem kX4_copy_b6 (l : Launch) (D : va_G) (ty : zTy) (b : Nat → Nat) (τ : zM) : zv_ct l D ty yX4_copy cX4_copy 6 none (zR 0 0) [.ref (b 18), .int 90, .ref (b 6), .int 0, .int 90] (zm b ty τ) (fun v_ w_ => v_ = none ∧ w_ = zm b ty (mbc τ 6 90)) := by
  refine zv_open (by decide) rfl rfl [some (.ref (b 18)), some (.int 90), some (.ref (b 6)), some (.int 0), some (.int 90), none] (by simp [zv_one, Value.category]) (zle rfl) rfl ?_
  intro k K T
  refine zv_iconst K 0 1 dX4_copy_0 rfl (by decide) ?_
  refine zv_istore K [some (.ref (b 18)), some (.int 90), some (.ref (b 6)), some (.int 0), some (.int 90), some (.int 0)] 3 dX4_copy_1 rfl rfl (zlt rfl) ?_
  refine zv_ws (congrArg (zm b ty) (show τ = zmFa τ 6 (va_cpy (τ.2 18) (τ.2 6) 90 0 0) by rw [zcpy_0]; exact (zmFa_self τ 6).symm)) ?_
  exact kX4_copy_b6_l l D ty b τ K T 0 (by decide)

set_option maxHeartbeats 4000000 in
set_option maxRecDepth 100000 in
theorem kX4_copy_k7_l (l : Launch) (D : va_G) (ty : zTy) (b : Nat → Nat) (τ : zM) {k : zKx} (K : zv_ok k l D (zR 0 0) cX4_copy 6 yX4_copy.cls ty) (T : zv_rt k none (fun v_ w_ => v_ = none ∧ w_ = zm b ty (mkc τ 7 180))) : ∀ m : Nat, m ≤ 90 → zv k 3 [some (.ref (b 7)), some (.int 0), some (.ref (b 18)), some (.int 180), some (.int 90), some (.int (nI m))] [] (zm b ty (zmFa τ 18 (va_cpy (τ.2 7) (τ.2 18) 0 180 m))) := by
  refine z_wf (fun m : Nat => 90 - m) ?_
  intro m ih hm
  refine zv_iload K 5 dX4_copy_3 rfl rfl ?_
  refine zv_iload K 7 dX4_copy_5 rfl rfl ?_
  refine zv_icmp_ge K 28 10 dX4_copy_7 (by decide) rfl (fun hb => ?_) (fun hb => ?_)
  · skip
    have e : m = 90 := by have := z_ge (c := 90) hb (by decide) (by omega); omega
    exact zv_vret K T dX4_copy_28 (⟨rfl, by rw [e]; rfl⟩)
  · skip
    have hlt : m < 90 := z_lt (c := 90) hb (by omega)
    refine zv_aload_n K 11 dX4_copy_10 rfl rfl ?_
    refine zv_iload_n K 12 dX4_copy_11 rfl rfl ?_
    refine zv_iload K 14 dX4_copy_12 rfl rfl ?_
    refine zv_iadd K 15 dX4_copy_14 rfl ?_
    refine zv_aload_n K 16 dX4_copy_15 rfl rfl ?_
    refine zv_iload_n K 17 dX4_copy_16 rfl rfl ?_
    refine zv_iload K 19 dX4_copy_17 rfl rfl ?_
    refine zv_iadd K 20 dX4_copy_19 rfl ?_
    refine zv_iald (F := τ.2 7) K 3 (0 + m) 21 dX4_copy_20 rfl (zm_at (p := 3) (j := 7) rfl) (nI_add 0 m) (by omega) (by decide) ?_
    refine zv_iast K 13 (180 + m) 22 (zm b ty (zmF (zmFa τ 18 (va_cpy (τ.2 7) (τ.2 18) 0 180 m)) 18 (180 + m) (τ.2 7 (0 + m)))) dX4_copy_21 rfl (zm_at (p := 13) (j := 18) rfl) (nI_add 180 m) (by omega) (by decide) (zm_F 18 (180 + m) rfl (by decide) rfl) ?_
    refine zv_iinc K (nI (m + 1)) [some (.ref (b 7)), some (.int 0), some (.ref (b 18)), some (.int 180), some (.int 90), some (.int (nI (m + 1)))] 25 dX4_copy_22 rfl rfl (z_inc m) rfl ?_
    refine zv_goto K 3 dX4_copy_25 (by decide) ?_
    refine zv_ws (congrArg (zm b ty) ((zmF_Fa τ 18 (180 + m) _ _).trans (congrArg (zmFa τ 18) (zcpy_s (τ.2 7) (τ.2 18) 0 180 m)))) ?_
    exact ih (m + 1) (by omega) (by omega)

set_option maxHeartbeats 4000000 in
set_option maxRecDepth 100000 in
theorem kX4_copy_k7 (l : Launch) (D : va_G) (ty : zTy) (b : Nat → Nat) (τ : zM) : zv_ct l D ty yX4_copy cX4_copy 6 none (zR 0 0) [.ref (b 7), .int 0, .ref (b 18), .int 180, .int 90] (zm b ty τ) (fun v_ w_ => v_ = none ∧ w_ = zm b ty (mkc τ 7 180)) := by
  refine zv_open (by decide) rfl rfl [some (.ref (b 7)), some (.int 0), some (.ref (b 18)), some (.int 180), some (.int 90), none] (by simp [zv_one, Value.category]) (zle rfl) rfl ?_
  intro k K T
  refine zv_iconst K 0 1 dX4_copy_0 rfl (by decide) ?_
  refine zv_istore K [some (.ref (b 7)), some (.int 0), some (.ref (b 18)), some (.int 180), some (.int 90), some (.int 0)] 3 dX4_copy_1 rfl rfl (zlt rfl) ?_
  refine zv_ws (congrArg (zm b ty) (show τ = zmFa τ 18 (va_cpy (τ.2 7) (τ.2 18) 0 180 0) by rw [zcpy_0]; exact (zmFa_self τ 18).symm)) ?_
  exact kX4_copy_k7_l l D ty b τ K T 0 (by decide)

set_option maxHeartbeats 4000000 in
set_option maxRecDepth 100000 in
theorem kX4_copy_b7_l (l : Launch) (D : va_G) (ty : zTy) (b : Nat → Nat) (τ : zM) {k : zKx} (K : zv_ok k l D (zR 0 0) cX4_copy 6 yX4_copy.cls ty) (T : zv_rt k none (fun v_ w_ => v_ = none ∧ w_ = zm b ty (mbc τ 7 180))) : ∀ m : Nat, m ≤ 90 → zv k 3 [some (.ref (b 18)), some (.int 180), some (.ref (b 7)), some (.int 0), some (.int 90), some (.int (nI m))] [] (zm b ty (zmFa τ 7 (va_cpy (τ.2 18) (τ.2 7) 180 0 m))) := by
  refine z_wf (fun m : Nat => 90 - m) ?_
  intro m ih hm
  refine zv_iload K 5 dX4_copy_3 rfl rfl ?_
  refine zv_iload K 7 dX4_copy_5 rfl rfl ?_
  refine zv_icmp_ge K 28 10 dX4_copy_7 (by decide) rfl (fun hb => ?_) (fun hb => ?_)
  · skip
    have e : m = 90 := by have := z_ge (c := 90) hb (by decide) (by omega); omega
    exact zv_vret K T dX4_copy_28 (⟨rfl, by rw [e]; rfl⟩)
  · skip
    have hlt : m < 90 := z_lt (c := 90) hb (by omega)
    refine zv_aload_n K 11 dX4_copy_10 rfl rfl ?_
    refine zv_iload_n K 12 dX4_copy_11 rfl rfl ?_
    refine zv_iload K 14 dX4_copy_12 rfl rfl ?_
    refine zv_iadd K 15 dX4_copy_14 rfl ?_
    refine zv_aload_n K 16 dX4_copy_15 rfl rfl ?_
    refine zv_iload_n K 17 dX4_copy_16 rfl rfl ?_
    refine zv_iload K 19 dX4_copy_17 rfl rfl ?_
    refine zv_iadd K 20 dX4_copy_19 rfl ?_
    refine zv_iald (F := τ.2 18) K 13 (180 + m) 21 dX4_copy_20 rfl (zm_at (p := 13) (j := 18) rfl) (nI_add 180 m) (by omega) (by decide) ?_
    refine zv_iast K 3 (0 + m) 22 (zm b ty (zmF (zmFa τ 7 (va_cpy (τ.2 18) (τ.2 7) 180 0 m)) 7 (0 + m) (τ.2 18 (180 + m)))) dX4_copy_21 rfl (zm_at (p := 3) (j := 7) rfl) (nI_add 0 m) (by omega) (by decide) (zm_F 7 (0 + m) rfl (by decide) rfl) ?_
    refine zv_iinc K (nI (m + 1)) [some (.ref (b 18)), some (.int 180), some (.ref (b 7)), some (.int 0), some (.int 90), some (.int (nI (m + 1)))] 25 dX4_copy_22 rfl rfl (z_inc m) rfl ?_
    refine zv_goto K 3 dX4_copy_25 (by decide) ?_
    refine zv_ws (congrArg (zm b ty) ((zmF_Fa τ 7 (0 + m) _ _).trans (congrArg (zmFa τ 7) (zcpy_s (τ.2 18) (τ.2 7) 180 0 m)))) ?_
    exact ih (m + 1) (by omega) (by omega)

set_option maxHeartbeats 4000000 in
set_option maxRecDepth 100000 in
theorem kX4_copy_b7 (l : Launch) (D : va_G) (ty : zTy) (b : Nat → Nat) (τ : zM) : zv_ct l D ty yX4_copy cX4_copy 6 none (zR 0 0) [.ref (b 18), .int 180, .ref (b 7), .int 0, .int 90] (zm b ty τ) (fun v_ w_ => v_ = none ∧ w_ = zm b ty (mbc τ 7 180)) := by
  refine zv_open (by decide) rfl rfl [some (.ref (b 18)), some (.int 180), some (.ref (b 7)), some (.int 0), some (.int 90), none] (by simp [zv_one, Value.category]) (zle rfl) rfl ?_
  intro k K T
  refine zv_iconst K 0 1 dX4_copy_0 rfl (by decide) ?_
  refine zv_istore K [some (.ref (b 18)), some (.int 180), some (.ref (b 7)), some (.int 0), some (.int 90), some (.int 0)] 3 dX4_copy_1 rfl rfl (zlt rfl) ?_
  refine zv_ws (congrArg (zm b ty) (show τ = zmFa τ 7 (va_cpy (τ.2 18) (τ.2 7) 180 0 0) by rw [zcpy_0]; exact (zmFa_self τ 7).symm)) ?_
  exact kX4_copy_b7_l l D ty b τ K T 0 (by decide)

set_option maxHeartbeats 4000000 in
set_option maxRecDepth 100000 in
theorem kX4_copy_k8_l (l : Launch) (D : va_G) (ty : zTy) (b : Nat → Nat) (τ : zM) {k : zKx} (K : zv_ok k l D (zR 0 0) cX4_copy 6 yX4_copy.cls ty) (T : zv_rt k none (fun v_ w_ => v_ = none ∧ w_ = zm b ty (mkc τ 8 270))) : ∀ m : Nat, m ≤ 90 → zv k 3 [some (.ref (b 8)), some (.int 0), some (.ref (b 18)), some (.int 270), some (.int 90), some (.int (nI m))] [] (zm b ty (zmFa τ 18 (va_cpy (τ.2 8) (τ.2 18) 0 270 m))) := by
  refine z_wf (fun m : Nat => 90 - m) ?_
  intro m ih hm
  refine zv_iload K 5 dX4_copy_3 rfl rfl ?_
  refine zv_iload K 7 dX4_copy_5 rfl rfl ?_
  refine zv_icmp_ge K 28 10 dX4_copy_7 (by decide) rfl (fun hb => ?_) (fun hb => ?_)
  · skip
    have e : m = 90 := by have := z_ge (c := 90) hb (by decide) (by omega); omega
    exact zv_vret K T dX4_copy_28 (⟨rfl, by rw [e]; rfl⟩)
  · skip
    have hlt : m < 90 := z_lt (c := 90) hb (by omega)
    refine zv_aload_n K 11 dX4_copy_10 rfl rfl ?_
    refine zv_iload_n K 12 dX4_copy_11 rfl rfl ?_
    refine zv_iload K 14 dX4_copy_12 rfl rfl ?_
    refine zv_iadd K 15 dX4_copy_14 rfl ?_
    refine zv_aload_n K 16 dX4_copy_15 rfl rfl ?_
    refine zv_iload_n K 17 dX4_copy_16 rfl rfl ?_
    refine zv_iload K 19 dX4_copy_17 rfl rfl ?_
    refine zv_iadd K 20 dX4_copy_19 rfl ?_
    refine zv_iald (F := τ.2 8) K 4 (0 + m) 21 dX4_copy_20 rfl (zm_at (p := 4) (j := 8) rfl) (nI_add 0 m) (by omega) (by decide) ?_
    refine zv_iast K 13 (270 + m) 22 (zm b ty (zmF (zmFa τ 18 (va_cpy (τ.2 8) (τ.2 18) 0 270 m)) 18 (270 + m) (τ.2 8 (0 + m)))) dX4_copy_21 rfl (zm_at (p := 13) (j := 18) rfl) (nI_add 270 m) (by omega) (by decide) (zm_F 18 (270 + m) rfl (by decide) rfl) ?_
    refine zv_iinc K (nI (m + 1)) [some (.ref (b 8)), some (.int 0), some (.ref (b 18)), some (.int 270), some (.int 90), some (.int (nI (m + 1)))] 25 dX4_copy_22 rfl rfl (z_inc m) rfl ?_
    refine zv_goto K 3 dX4_copy_25 (by decide) ?_
    refine zv_ws (congrArg (zm b ty) ((zmF_Fa τ 18 (270 + m) _ _).trans (congrArg (zmFa τ 18) (zcpy_s (τ.2 8) (τ.2 18) 0 270 m)))) ?_
    exact ih (m + 1) (by omega) (by omega)

set_option maxHeartbeats 4000000 in
set_option maxRecDepth 100000 in
theorem kX4_copy_k8 (l : Launch) (D : va_G) (ty : zTy) (b : Nat → Nat) (τ : zM) : zv_ct l D ty yX4_copy cX4_copy 6 none (zR 0 0) [.ref (b 8), .int 0, .ref (b 18), .int 270, .int 90] (zm b ty τ) (fun v_ w_ => v_ = none ∧ w_ = zm b ty (mkc τ 8 270)) := by
  refine zv_open (by decide) rfl rfl [some (.ref (b 8)), some (.int 0), some (.ref (b 18)), some (.int 270), some (.int 90), none] (by simp [zv_one, Value.category]) (zle rfl) rfl ?_
  intro k K T
  refine zv_iconst K 0 1 dX4_copy_0 rfl (by decide) ?_
  refine zv_istore K [some (.ref (b 8)), some (.int 0), some (.ref (b 18)), some (.int 270), some (.int 90), some (.int 0)] 3 dX4_copy_1 rfl rfl (zlt rfl) ?_
  refine zv_ws (congrArg (zm b ty) (show τ = zmFa τ 18 (va_cpy (τ.2 8) (τ.2 18) 0 270 0) by rw [zcpy_0]; exact (zmFa_self τ 18).symm)) ?_
  exact kX4_copy_k8_l l D ty b τ K T 0 (by decide)

set_option maxHeartbeats 4000000 in
set_option maxRecDepth 100000 in
theorem kX4_copy_b8_l (l : Launch) (D : va_G) (ty : zTy) (b : Nat → Nat) (τ : zM) {k : zKx} (K : zv_ok k l D (zR 0 0) cX4_copy 6 yX4_copy.cls ty) (T : zv_rt k none (fun v_ w_ => v_ = none ∧ w_ = zm b ty (mbc τ 8 270))) : ∀ m : Nat, m ≤ 90 → zv k 3 [some (.ref (b 18)), some (.int 270), some (.ref (b 8)), some (.int 0), some (.int 90), some (.int (nI m))] [] (zm b ty (zmFa τ 8 (va_cpy (τ.2 18) (τ.2 8) 270 0 m))) := by
  refine z_wf (fun m : Nat => 90 - m) ?_
  intro m ih hm
  refine zv_iload K 5 dX4_copy_3 rfl rfl ?_
  refine zv_iload K 7 dX4_copy_5 rfl rfl ?_
  refine zv_icmp_ge K 28 10 dX4_copy_7 (by decide) rfl (fun hb => ?_) (fun hb => ?_)
  · skip
    have e : m = 90 := by have := z_ge (c := 90) hb (by decide) (by omega); omega
    exact zv_vret K T dX4_copy_28 (⟨rfl, by rw [e]; rfl⟩)
  · skip
    have hlt : m < 90 := z_lt (c := 90) hb (by omega)
    refine zv_aload_n K 11 dX4_copy_10 rfl rfl ?_
    refine zv_iload_n K 12 dX4_copy_11 rfl rfl ?_
    refine zv_iload K 14 dX4_copy_12 rfl rfl ?_
    refine zv_iadd K 15 dX4_copy_14 rfl ?_
    refine zv_aload_n K 16 dX4_copy_15 rfl rfl ?_
    refine zv_iload_n K 17 dX4_copy_16 rfl rfl ?_
    refine zv_iload K 19 dX4_copy_17 rfl rfl ?_
    refine zv_iadd K 20 dX4_copy_19 rfl ?_
    refine zv_iald (F := τ.2 18) K 13 (270 + m) 21 dX4_copy_20 rfl (zm_at (p := 13) (j := 18) rfl) (nI_add 270 m) (by omega) (by decide) ?_
    refine zv_iast K 4 (0 + m) 22 (zm b ty (zmF (zmFa τ 8 (va_cpy (τ.2 18) (τ.2 8) 270 0 m)) 8 (0 + m) (τ.2 18 (270 + m)))) dX4_copy_21 rfl (zm_at (p := 4) (j := 8) rfl) (nI_add 0 m) (by omega) (by decide) (zm_F 8 (0 + m) rfl (by decide) rfl) ?_
    refine zv_iinc K (nI (m + 1)) [some (.ref (b 18)), some (.int 270), some (.ref (b 8)), some (.int 0), some (.int 90), some (.int (nI (m + 1)))] 25 dX4_copy_22 rfl rfl (z_inc m) rfl ?_
    refine zv_goto K 3 dX4_copy_25 (by decide) ?_
    refine zv_ws (congrArg (zm b ty) ((zmF_Fa τ 8 (0 + m) _ _).trans (congrArg (zmFa τ 8) (zcpy_s (τ.2 18) (τ.2 8) 270 0 m)))) ?_
    exact ih (m + 1) (by omega) (by omega)

set_option maxHeartbeats 4000000 in
set_option maxRecDepth 100000 in
theorem kX4_copy_b8 (l : Launch) (D : va_G) (ty : zTy) (b : Nat → Nat) (τ : zM) : zv_ct l D ty yX4_copy cX4_copy 6 none (zR 0 0) [.ref (b 18), .int 270, .ref (b 8), .int 0, .int 90] (zm b ty τ) (fun v_ w_ => v_ = none ∧ w_ = zm b ty (mbc τ 8 270)) := by
  refine zv_open (by decide) rfl rfl [some (.ref (b 18)), some (.int 270), some (.ref (b 8)), some (.int 0), some (.int 90), none] (by simp [zv_one, Value.category]) (zle rfl) rfl ?_
  intro k K T
  refine zv_iconst K 0 1 dX4_copy_0 rfl (by decide) ?_
  refine zv_istore K [some (.ref (b 18)), some (.int 270), some (.ref (b 8)), some (.int 0), some (.int 90), some (.int 0)] 3 dX4_copy_1 rfl rfl (zlt rfl) ?_
  refine zv_ws (congrArg (zm b ty) (show τ = zmFa τ 8 (va_cpy (τ.2 18) (τ.2 8) 270 0 0) by rw [zcpy_0]; exact (zmFa_self τ 8).symm)) ?_
  exact kX4_copy_b8_l l D ty b τ K T 0 (by decide)

set_option maxHeartbeats 4000000 in
set_option maxRecDepth 100000 in
theorem kX4_copy_k9_l (l : Launch) (D : va_G) (ty : zTy) (b : Nat → Nat) (τ : zM) {k : zKx} (K : zv_ok k l D (zR 0 0) cX4_copy 6 yX4_copy.cls ty) (T : zv_rt k none (fun v_ w_ => v_ = none ∧ w_ = zm b ty (mkc τ 9 360))) : ∀ m : Nat, m ≤ 90 → zv k 3 [some (.ref (b 9)), some (.int 0), some (.ref (b 18)), some (.int 360), some (.int 90), some (.int (nI m))] [] (zm b ty (zmFa τ 18 (va_cpy (τ.2 9) (τ.2 18) 0 360 m))) := by
  refine z_wf (fun m : Nat => 90 - m) ?_
  intro m ih hm
  refine zv_iload K 5 dX4_copy_3 rfl rfl ?_
  refine zv_iload K 7 dX4_copy_5 rfl rfl ?_
  refine zv_icmp_ge K 28 10 dX4_copy_7 (by decide) rfl (fun hb => ?_) (fun hb => ?_)
  · skip
    have e : m = 90 := by have := z_ge (c := 90) hb (by decide) (by omega); omega
    exact zv_vret K T dX4_copy_28 (⟨rfl, by rw [e]; rfl⟩)
  · skip
    have hlt : m < 90 := z_lt (c := 90) hb (by omega)
    refine zv_aload_n K 11 dX4_copy_10 rfl rfl ?_
    refine zv_iload_n K 12 dX4_copy_11 rfl rfl ?_
    refine zv_iload K 14 dX4_copy_12 rfl rfl ?_
    refine zv_iadd K 15 dX4_copy_14 rfl ?_
    refine zv_aload_n K 16 dX4_copy_15 rfl rfl ?_
    refine zv_iload_n K 17 dX4_copy_16 rfl rfl ?_
    refine zv_iload K 19 dX4_copy_17 rfl rfl ?_
    refine zv_iadd K 20 dX4_copy_19 rfl ?_
    refine zv_iald (F := τ.2 9) K 5 (0 + m) 21 dX4_copy_20 rfl (zm_at (p := 5) (j := 9) rfl) (nI_add 0 m) (by omega) (by decide) ?_
    refine zv_iast K 13 (360 + m) 22 (zm b ty (zmF (zmFa τ 18 (va_cpy (τ.2 9) (τ.2 18) 0 360 m)) 18 (360 + m) (τ.2 9 (0 + m)))) dX4_copy_21 rfl (zm_at (p := 13) (j := 18) rfl) (nI_add 360 m) (by omega) (by decide) (zm_F 18 (360 + m) rfl (by decide) rfl) ?_
    refine zv_iinc K (nI (m + 1)) [some (.ref (b 9)), some (.int 0), some (.ref (b 18)), some (.int 360), some (.int 90), some (.int (nI (m + 1)))] 25 dX4_copy_22 rfl rfl (z_inc m) rfl ?_
    refine zv_goto K 3 dX4_copy_25 (by decide) ?_
    refine zv_ws (congrArg (zm b ty) ((zmF_Fa τ 18 (360 + m) _ _).trans (congrArg (zmFa τ 18) (zcpy_s (τ.2 9) (τ.2 18) 0 360 m)))) ?_
    exact ih (m + 1) (by omega) (by omega)

set_option maxHeartbeats 4000000 in
set_option maxRecDepth 100000 in
theorem kX4_copy_k9 (l : Launch) (D : va_G) (ty : zTy) (b : Nat → Nat) (τ : zM) : zv_ct l D ty yX4_copy cX4_copy 6 none (zR 0 0) [.ref (b 9), .int 0, .ref (b 18), .int 360, .int 90] (zm b ty τ) (fun v_ w_ => v_ = none ∧ w_ = zm b ty (mkc τ 9 360)) := by
  refine zv_open (by decide) rfl rfl [some (.ref (b 9)), some (.int 0), some (.ref (b 18)), some (.int 360), some (.int 90), none] (by simp [zv_one, Value.category]) (zle rfl) rfl ?_
  intro k K T
  refine zv_iconst K 0 1 dX4_copy_0 rfl (by decide) ?_
  refine zv_istore K [some (.ref (b 9)), some (.int 0), some (.ref (b 18)), some (.int 360), some (.int 90), some (.int 0)] 3 dX4_copy_1 rfl rfl (zlt rfl) ?_
  refine zv_ws (congrArg (zm b ty) (show τ = zmFa τ 18 (va_cpy (τ.2 9) (τ.2 18) 0 360 0) by rw [zcpy_0]; exact (zmFa_self τ 18).symm)) ?_
  exact kX4_copy_k9_l l D ty b τ K T 0 (by decide)

set_option maxHeartbeats 4000000 in
set_option maxRecDepth 100000 in
theorem kX4_copy_b9_l (l : Launch) (D : va_G) (ty : zTy) (b : Nat → Nat) (τ : zM) {k : zKx} (K : zv_ok k l D (zR 0 0) cX4_copy 6 yX4_copy.cls ty) (T : zv_rt k none (fun v_ w_ => v_ = none ∧ w_ = zm b ty (mbc τ 9 360))) : ∀ m : Nat, m ≤ 90 → zv k 3 [some (.ref (b 18)), some (.int 360), some (.ref (b 9)), some (.int 0), some (.int 90), some (.int (nI m))] [] (zm b ty (zmFa τ 9 (va_cpy (τ.2 18) (τ.2 9) 360 0 m))) := by
  refine z_wf (fun m : Nat => 90 - m) ?_
  intro m ih hm
  refine zv_iload K 5 dX4_copy_3 rfl rfl ?_
  refine zv_iload K 7 dX4_copy_5 rfl rfl ?_
  refine zv_icmp_ge K 28 10 dX4_copy_7 (by decide) rfl (fun hb => ?_) (fun hb => ?_)
  · skip
    have e : m = 90 := by have := z_ge (c := 90) hb (by decide) (by omega); omega
    exact zv_vret K T dX4_copy_28 (⟨rfl, by rw [e]; rfl⟩)
  · skip
    have hlt : m < 90 := z_lt (c := 90) hb (by omega)
    refine zv_aload_n K 11 dX4_copy_10 rfl rfl ?_
    refine zv_iload_n K 12 dX4_copy_11 rfl rfl ?_
    refine zv_iload K 14 dX4_copy_12 rfl rfl ?_
    refine zv_iadd K 15 dX4_copy_14 rfl ?_
    refine zv_aload_n K 16 dX4_copy_15 rfl rfl ?_
    refine zv_iload_n K 17 dX4_copy_16 rfl rfl ?_
    refine zv_iload K 19 dX4_copy_17 rfl rfl ?_
    refine zv_iadd K 20 dX4_copy_19 rfl ?_
    refine zv_iald (F := τ.2 18) K 13 (360 + m) 21 dX4_copy_20 rfl (zm_at (p := 13) (j := 18) rfl) (nI_add 360 m) (by omega) (by decide) ?_
    refine zv_iast K 5 (0 + m) 22 (zm b ty (zmF (zmFa τ 9 (va_cpy (τ.2 18) (τ.2 9) 360 0 m)) 9 (0 + m) (τ.2 18 (360 + m)))) dX4_copy_21 rfl (zm_at (p := 5) (j := 9) rfl) (nI_add 0 m) (by omega) (by decide) (zm_F 9 (0 + m) rfl (by decide) rfl) ?_
    refine zv_iinc K (nI (m + 1)) [some (.ref (b 18)), some (.int 360), some (.ref (b 9)), some (.int 0), some (.int 90), some (.int (nI (m + 1)))] 25 dX4_copy_22 rfl rfl (z_inc m) rfl ?_
    refine zv_goto K 3 dX4_copy_25 (by decide) ?_
    refine zv_ws (congrArg (zm b ty) ((zmF_Fa τ 9 (0 + m) _ _).trans (congrArg (zmFa τ 9) (zcpy_s (τ.2 18) (τ.2 9) 360 0 m)))) ?_
    exact ih (m + 1) (by omega) (by omega)

set_option maxHeartbeats 4000000 in
set_option maxRecDepth 100000 in
theorem kX4_copy_b9 (l : Launch) (D : va_G) (ty : zTy) (b : Nat → Nat) (τ : zM) : zv_ct l D ty yX4_copy cX4_copy 6 none (zR 0 0) [.ref (b 18), .int 360, .ref (b 9), .int 0, .int 90] (zm b ty τ) (fun v_ w_ => v_ = none ∧ w_ = zm b ty (mbc τ 9 360)) := by
  refine zv_open (by decide) rfl rfl [some (.ref (b 18)), some (.int 360), some (.ref (b 9)), some (.int 0), some (.int 90), none] (by simp [zv_one, Value.category]) (zle rfl) rfl ?_
  intro k K T
  refine zv_iconst K 0 1 dX4_copy_0 rfl (by decide) ?_
  refine zv_istore K [some (.ref (b 18)), some (.int 360), some (.ref (b 9)), some (.int 0), some (.int 90), some (.int 0)] 3 dX4_copy_1 rfl rfl (zlt rfl) ?_
  refine zv_ws (congrArg (zm b ty) (show τ = zmFa τ 9 (va_cpy (τ.2 18) (τ.2 9) 360 0 0) by rw [zcpy_0]; exact (zmFa_self τ 9).symm)) ?_
  exact kX4_copy_b9_l l D ty b τ K T 0 (by decide)

set_option maxHeartbeats 4000000 in
set_option maxRecDepth 100000 in
theorem kX4_copy_k10_l (l : Launch) (D : va_G) (ty : zTy) (b : Nat → Nat) (τ : zM) {k : zKx} (K : zv_ok k l D (zR 0 0) cX4_copy 6 yX4_copy.cls ty) (T : zv_rt k none (fun v_ w_ => v_ = none ∧ w_ = zm b ty (mkc τ 10 450))) : ∀ m : Nat, m ≤ 90 → zv k 3 [some (.ref (b 10)), some (.int 0), some (.ref (b 18)), some (.int 450), some (.int 90), some (.int (nI m))] [] (zm b ty (zmFa τ 18 (va_cpy (τ.2 10) (τ.2 18) 0 450 m))) := by
  refine z_wf (fun m : Nat => 90 - m) ?_
  intro m ih hm
  refine zv_iload K 5 dX4_copy_3 rfl rfl ?_
  refine zv_iload K 7 dX4_copy_5 rfl rfl ?_
  refine zv_icmp_ge K 28 10 dX4_copy_7 (by decide) rfl (fun hb => ?_) (fun hb => ?_)
  · skip
    have e : m = 90 := by have := z_ge (c := 90) hb (by decide) (by omega); omega
    exact zv_vret K T dX4_copy_28 (⟨rfl, by rw [e]; rfl⟩)
  · skip
    have hlt : m < 90 := z_lt (c := 90) hb (by omega)
    refine zv_aload_n K 11 dX4_copy_10 rfl rfl ?_
    refine zv_iload_n K 12 dX4_copy_11 rfl rfl ?_
    refine zv_iload K 14 dX4_copy_12 rfl rfl ?_
    refine zv_iadd K 15 dX4_copy_14 rfl ?_
    refine zv_aload_n K 16 dX4_copy_15 rfl rfl ?_
    refine zv_iload_n K 17 dX4_copy_16 rfl rfl ?_
    refine zv_iload K 19 dX4_copy_17 rfl rfl ?_
    refine zv_iadd K 20 dX4_copy_19 rfl ?_
    refine zv_iald (F := τ.2 10) K 6 (0 + m) 21 dX4_copy_20 rfl (zm_at (p := 6) (j := 10) rfl) (nI_add 0 m) (by omega) (by decide) ?_
    refine zv_iast K 13 (450 + m) 22 (zm b ty (zmF (zmFa τ 18 (va_cpy (τ.2 10) (τ.2 18) 0 450 m)) 18 (450 + m) (τ.2 10 (0 + m)))) dX4_copy_21 rfl (zm_at (p := 13) (j := 18) rfl) (nI_add 450 m) (by omega) (by decide) (zm_F 18 (450 + m) rfl (by decide) rfl) ?_
    refine zv_iinc K (nI (m + 1)) [some (.ref (b 10)), some (.int 0), some (.ref (b 18)), some (.int 450), some (.int 90), some (.int (nI (m + 1)))] 25 dX4_copy_22 rfl rfl (z_inc m) rfl ?_
    refine zv_goto K 3 dX4_copy_25 (by decide) ?_
    refine zv_ws (congrArg (zm b ty) ((zmF_Fa τ 18 (450 + m) _ _).trans (congrArg (zmFa τ 18) (zcpy_s (τ.2 10) (τ.2 18) 0 450 m)))) ?_
    exact ih (m + 1) (by omega) (by omega)

set_option maxHeartbeats 4000000 in
set_option maxRecDepth 100000 in
theorem kX4_copy_k10 (l : Launch) (D : va_G) (ty : zTy) (b : Nat → Nat) (τ : zM) : zv_ct l D ty yX4_copy cX4_copy 6 none (zR 0 0) [.ref (b 10), .int 0, .ref (b 18), .int 450, .int 90] (zm b ty τ) (fun v_ w_ => v_ = none ∧ w_ = zm b ty (mkc τ 10 450)) := by
  refine zv_open (by decide) rfl rfl [some (.ref (b 10)), some (.int 0), some (.ref (b 18)), some (.int 450), some (.int 90), none] (by simp [zv_one, Value.category]) (zle rfl) rfl ?_
  intro k K T
  refine zv_iconst K 0 1 dX4_copy_0 rfl (by decide) ?_
  refine zv_istore K [some (.ref (b 10)), some (.int 0), some (.ref (b 18)), some (.int 450), some (.int 90), some (.int 0)] 3 dX4_copy_1 rfl rfl (zlt rfl) ?_
  refine zv_ws (congrArg (zm b ty) (show τ = zmFa τ 18 (va_cpy (τ.2 10) (τ.2 18) 0 450 0) by rw [zcpy_0]; exact (zmFa_self τ 18).symm)) ?_
  exact kX4_copy_k10_l l D ty b τ K T 0 (by decide)

set_option maxHeartbeats 4000000 in
set_option maxRecDepth 100000 in
theorem kX4_copy_b10_l (l : Launch) (D : va_G) (ty : zTy) (b : Nat → Nat) (τ : zM) {k : zKx} (K : zv_ok k l D (zR 0 0) cX4_copy 6 yX4_copy.cls ty) (T : zv_rt k none (fun v_ w_ => v_ = none ∧ w_ = zm b ty (mbc τ 10 450))) : ∀ m : Nat, m ≤ 90 → zv k 3 [some (.ref (b 18)), some (.int 450), some (.ref (b 10)), some (.int 0), some (.int 90), some (.int (nI m))] [] (zm b ty (zmFa τ 10 (va_cpy (τ.2 18) (τ.2 10) 450 0 m))) := by
  refine z_wf (fun m : Nat => 90 - m) ?_
  intro m ih hm
  refine zv_iload K 5 dX4_copy_3 rfl rfl ?_
  refine zv_iload K 7 dX4_copy_5 rfl rfl ?_
  refine zv_icmp_ge K 28 10 dX4_copy_7 (by decide) rfl (fun hb => ?_) (fun hb => ?_)
  · skip
    have e : m = 90 := by have := z_ge (c := 90) hb (by decide) (by omega); omega
    exact zv_vret K T dX4_copy_28 (⟨rfl, by rw [e]; rfl⟩)
  · skip
    have hlt : m < 90 := z_lt (c := 90) hb (by omega)
    refine zv_aload_n K 11 dX4_copy_10 rfl rfl ?_
    refine zv_iload_n K 12 dX4_copy_11 rfl rfl ?_
    refine zv_iload K 14 dX4_copy_12 rfl rfl ?_
    refine zv_iadd K 15 dX4_copy_14 rfl ?_
    refine zv_aload_n K 16 dX4_copy_15 rfl rfl ?_
    refine zv_iload_n K 17 dX4_copy_16 rfl rfl ?_
    refine zv_iload K 19 dX4_copy_17 rfl rfl ?_
    refine zv_iadd K 20 dX4_copy_19 rfl ?_
    refine zv_iald (F := τ.2 18) K 13 (450 + m) 21 dX4_copy_20 rfl (zm_at (p := 13) (j := 18) rfl) (nI_add 450 m) (by omega) (by decide) ?_
    refine zv_iast K 6 (0 + m) 22 (zm b ty (zmF (zmFa τ 10 (va_cpy (τ.2 18) (τ.2 10) 450 0 m)) 10 (0 + m) (τ.2 18 (450 + m)))) dX4_copy_21 rfl (zm_at (p := 6) (j := 10) rfl) (nI_add 0 m) (by omega) (by decide) (zm_F 10 (0 + m) rfl (by decide) rfl) ?_
    refine zv_iinc K (nI (m + 1)) [some (.ref (b 18)), some (.int 450), some (.ref (b 10)), some (.int 0), some (.int 90), some (.int (nI (m + 1)))] 25 dX4_copy_22 rfl rfl (z_inc m) rfl ?_
    refine zv_goto K 3 dX4_copy_25 (by decide) ?_
    refine zv_ws (congrArg (zm b ty) ((zmF_Fa τ 10 (0 + m) _ _).trans (congrArg (zmFa τ 10) (zcpy_s (τ.2 18) (τ.2 10) 450 0 m)))) ?_
    exact ih (m + 1) (by omega) (by omega)

set_option maxHeartbeats 4000000 in
set_option maxRecDepth 100000 in
theorem kX4_copy_b10 (l : Launch) (D : va_G) (ty : zTy) (b : Nat → Nat) (τ : zM) : zv_ct l D ty yX4_copy cX4_copy 6 none (zR 0 0) [.ref (b 18), .int 450, .ref (b 10), .int 0, .int 90] (zm b ty τ) (fun v_ w_ => v_ = none ∧ w_ = zm b ty (mbc τ 10 450)) := by
  refine zv_open (by decide) rfl rfl [some (.ref (b 18)), some (.int 450), some (.ref (b 10)), some (.int 0), some (.int 90), none] (by simp [zv_one, Value.category]) (zle rfl) rfl ?_
  intro k K T
  refine zv_iconst K 0 1 dX4_copy_0 rfl (by decide) ?_
  refine zv_istore K [some (.ref (b 18)), some (.int 450), some (.ref (b 10)), some (.int 0), some (.int 90), some (.int 0)] 3 dX4_copy_1 rfl rfl (zlt rfl) ?_
  refine zv_ws (congrArg (zm b ty) (show τ = zmFa τ 10 (va_cpy (τ.2 18) (τ.2 10) 450 0 0) by rw [zcpy_0]; exact (zmFa_self τ 10).symm)) ?_
  exact kX4_copy_b10_l l D ty b τ K T 0 (by decide)

set_option maxHeartbeats 4000000 in
set_option maxRecDepth 100000 in
theorem kX4_copy_k11_l (l : Launch) (D : va_G) (ty : zTy) (b : Nat → Nat) (τ : zM) {k : zKx} (K : zv_ok k l D (zR 0 0) cX4_copy 6 yX4_copy.cls ty) (T : zv_rt k none (fun v_ w_ => v_ = none ∧ w_ = zm b ty (mkc τ 11 540))) : ∀ m : Nat, m ≤ 90 → zv k 3 [some (.ref (b 11)), some (.int 0), some (.ref (b 18)), some (.int 540), some (.int 90), some (.int (nI m))] [] (zm b ty (zmFa τ 18 (va_cpy (τ.2 11) (τ.2 18) 0 540 m))) := by
  refine z_wf (fun m : Nat => 90 - m) ?_
  intro m ih hm
  refine zv_iload K 5 dX4_copy_3 rfl rfl ?_
  refine zv_iload K 7 dX4_copy_5 rfl rfl ?_
  refine zv_icmp_ge K 28 10 dX4_copy_7 (by decide) rfl (fun hb => ?_) (fun hb => ?_)
  · skip
    have e : m = 90 := by have := z_ge (c := 90) hb (by decide) (by omega); omega
    exact zv_vret K T dX4_copy_28 (⟨rfl, by rw [e]; rfl⟩)
  · skip
    have hlt : m < 90 := z_lt (c := 90) hb (by omega)
    refine zv_aload_n K 11 dX4_copy_10 rfl rfl ?_
    refine zv_iload_n K 12 dX4_copy_11 rfl rfl ?_
    refine zv_iload K 14 dX4_copy_12 rfl rfl ?_
    refine zv_iadd K 15 dX4_copy_14 rfl ?_
    refine zv_aload_n K 16 dX4_copy_15 rfl rfl ?_
    refine zv_iload_n K 17 dX4_copy_16 rfl rfl ?_
    refine zv_iload K 19 dX4_copy_17 rfl rfl ?_
    refine zv_iadd K 20 dX4_copy_19 rfl ?_
    refine zv_iald (F := τ.2 11) K 7 (0 + m) 21 dX4_copy_20 rfl (zm_at (p := 7) (j := 11) rfl) (nI_add 0 m) (by omega) (by decide) ?_
    refine zv_iast K 13 (540 + m) 22 (zm b ty (zmF (zmFa τ 18 (va_cpy (τ.2 11) (τ.2 18) 0 540 m)) 18 (540 + m) (τ.2 11 (0 + m)))) dX4_copy_21 rfl (zm_at (p := 13) (j := 18) rfl) (nI_add 540 m) (by omega) (by decide) (zm_F 18 (540 + m) rfl (by decide) rfl) ?_
    refine zv_iinc K (nI (m + 1)) [some (.ref (b 11)), some (.int 0), some (.ref (b 18)), some (.int 540), some (.int 90), some (.int (nI (m + 1)))] 25 dX4_copy_22 rfl rfl (z_inc m) rfl ?_
    refine zv_goto K 3 dX4_copy_25 (by decide) ?_
    refine zv_ws (congrArg (zm b ty) ((zmF_Fa τ 18 (540 + m) _ _).trans (congrArg (zmFa τ 18) (zcpy_s (τ.2 11) (τ.2 18) 0 540 m)))) ?_
    exact ih (m + 1) (by omega) (by omega)

set_option maxHeartbeats 4000000 in
set_option maxRecDepth 100000 in
theorem kX4_copy_k11 (l : Launch) (D : va_G) (ty : zTy) (b : Nat → Nat) (τ : zM) : zv_ct l D ty yX4_copy cX4_copy 6 none (zR 0 0) [.ref (b 11), .int 0, .ref (b 18), .int 540, .int 90] (zm b ty τ) (fun v_ w_ => v_ = none ∧ w_ = zm b ty (mkc τ 11 540)) := by
  refine zv_open (by decide) rfl rfl [some (.ref (b 11)), some (.int 0), some (.ref (b 18)), some (.int 540), some (.int 90), none] (by simp [zv_one, Value.category]) (zle rfl) rfl ?_
  intro k K T
  refine zv_iconst K 0 1 dX4_copy_0 rfl (by decide) ?_
  refine zv_istore K [some (.ref (b 11)), some (.int 0), some (.ref (b 18)), some (.int 540), some (.int 90), some (.int 0)] 3 dX4_copy_1 rfl rfl (zlt rfl) ?_
  refine zv_ws (congrArg (zm b ty) (show τ = zmFa τ 18 (va_cpy (τ.2 11) (τ.2 18) 0 540 0) by rw [zcpy_0]; exact (zmFa_self τ 18).symm)) ?_
  exact kX4_copy_k11_l l D ty b τ K T 0 (by decide)

set_option maxHeartbeats 4000000 in
set_option maxRecDepth 100000 in
theorem kX4_copy_b11_l (l : Launch) (D : va_G) (ty : zTy) (b : Nat → Nat) (τ : zM) {k : zKx} (K : zv_ok k l D (zR 0 0) cX4_copy 6 yX4_copy.cls ty) (T : zv_rt k none (fun v_ w_ => v_ = none ∧ w_ = zm b ty (mbc τ 11 540))) : ∀ m : Nat, m ≤ 90 → zv k 3 [some (.ref (b 18)), some (.int 540), some (.ref (b 11)), some (.int 0), some (.int 90), some (.int (nI m))] [] (zm b ty (zmFa τ 11 (va_cpy (τ.2 18) (τ.2 11) 540 0 m))) := by
  refine z_wf (fun m : Nat => 90 - m) ?_
  intro m ih hm
  refine zv_iload K 5 dX4_copy_3 rfl rfl ?_
  refine zv_iload K 7 dX4_copy_5 rfl rfl ?_
  refine zv_icmp_ge K 28 10 dX4_copy_7 (by decide) rfl (fun hb => ?_) (fun hb => ?_)
  · skip
    have e : m = 90 := by have := z_ge (c := 90) hb (by decide) (by omega); omega
    exact zv_vret K T dX4_copy_28 (⟨rfl, by rw [e]; rfl⟩)
  · skip
    have hlt : m < 90 := z_lt (c := 90) hb (by omega)
    refine zv_aload_n K 11 dX4_copy_10 rfl rfl ?_
    refine zv_iload_n K 12 dX4_copy_11 rfl rfl ?_
    refine zv_iload K 14 dX4_copy_12 rfl rfl ?_
    refine zv_iadd K 15 dX4_copy_14 rfl ?_
    refine zv_aload_n K 16 dX4_copy_15 rfl rfl ?_
    refine zv_iload_n K 17 dX4_copy_16 rfl rfl ?_
    refine zv_iload K 19 dX4_copy_17 rfl rfl ?_
    refine zv_iadd K 20 dX4_copy_19 rfl ?_
    refine zv_iald (F := τ.2 18) K 13 (540 + m) 21 dX4_copy_20 rfl (zm_at (p := 13) (j := 18) rfl) (nI_add 540 m) (by omega) (by decide) ?_
    refine zv_iast K 7 (0 + m) 22 (zm b ty (zmF (zmFa τ 11 (va_cpy (τ.2 18) (τ.2 11) 540 0 m)) 11 (0 + m) (τ.2 18 (540 + m)))) dX4_copy_21 rfl (zm_at (p := 7) (j := 11) rfl) (nI_add 0 m) (by omega) (by decide) (zm_F 11 (0 + m) rfl (by decide) rfl) ?_
    refine zv_iinc K (nI (m + 1)) [some (.ref (b 18)), some (.int 540), some (.ref (b 11)), some (.int 0), some (.int 90), some (.int (nI (m + 1)))] 25 dX4_copy_22 rfl rfl (z_inc m) rfl ?_
    refine zv_goto K 3 dX4_copy_25 (by decide) ?_
    refine zv_ws (congrArg (zm b ty) ((zmF_Fa τ 11 (0 + m) _ _).trans (congrArg (zmFa τ 11) (zcpy_s (τ.2 18) (τ.2 11) 540 0 m)))) ?_
    exact ih (m + 1) (by omega) (by omega)

set_option maxHeartbeats 4000000 in
set_option maxRecDepth 100000 in
theorem kX4_copy_b11 (l : Launch) (D : va_G) (ty : zTy) (b : Nat → Nat) (τ : zM) : zv_ct l D ty yX4_copy cX4_copy 6 none (zR 0 0) [.ref (b 18), .int 540, .ref (b 11), .int 0, .int 90] (zm b ty τ) (fun v_ w_ => v_ = none ∧ w_ = zm b ty (mbc τ 11 540)) := by
  refine zv_open (by decide) rfl rfl [some (.ref (b 18)), some (.int 540), some (.ref (b 11)), some (.int 0), some (.int 90), none] (by simp [zv_one, Value.category]) (zle rfl) rfl ?_
  intro k K T
  refine zv_iconst K 0 1 dX4_copy_0 rfl (by decide) ?_
  refine zv_istore K [some (.ref (b 18)), some (.int 540), some (.ref (b 11)), some (.int 0), some (.int 90), some (.int 0)] 3 dX4_copy_1 rfl rfl (zlt rfl) ?_
  refine zv_ws (congrArg (zm b ty) (show τ = zmFa τ 11 (va_cpy (τ.2 18) (τ.2 11) 540 0 0) by rw [zcpy_0]; exact (zmFa_self τ 11).symm)) ?_
  exact kX4_copy_b11_l l D ty b τ K T 0 (by decide)

set_option maxHeartbeats 4000000 in
set_option maxRecDepth 100000 in
theorem kX4_copy_k12_l (l : Launch) (D : va_G) (ty : zTy) (b : Nat → Nat) (τ : zM) {k : zKx} (K : zv_ok k l D (zR 0 0) cX4_copy 6 yX4_copy.cls ty) (T : zv_rt k none (fun v_ w_ => v_ = none ∧ w_ = zm b ty (mkc τ 12 630))) : ∀ m : Nat, m ≤ 90 → zv k 3 [some (.ref (b 12)), some (.int 0), some (.ref (b 18)), some (.int 630), some (.int 90), some (.int (nI m))] [] (zm b ty (zmFa τ 18 (va_cpy (τ.2 12) (τ.2 18) 0 630 m))) := by
  refine z_wf (fun m : Nat => 90 - m) ?_
  intro m ih hm
  refine zv_iload K 5 dX4_copy_3 rfl rfl ?_
  refine zv_iload K 7 dX4_copy_5 rfl rfl ?_
  refine zv_icmp_ge K 28 10 dX4_copy_7 (by decide) rfl (fun hb => ?_) (fun hb => ?_)
  · skip
    have e : m = 90 := by have := z_ge (c := 90) hb (by decide) (by omega); omega
    exact zv_vret K T dX4_copy_28 (⟨rfl, by rw [e]; rfl⟩)
  · skip
    have hlt : m < 90 := z_lt (c := 90) hb (by omega)
    refine zv_aload_n K 11 dX4_copy_10 rfl rfl ?_
    refine zv_iload_n K 12 dX4_copy_11 rfl rfl ?_
    refine zv_iload K 14 dX4_copy_12 rfl rfl ?_
    refine zv_iadd K 15 dX4_copy_14 rfl ?_
    refine zv_aload_n K 16 dX4_copy_15 rfl rfl ?_
    refine zv_iload_n K 17 dX4_copy_16 rfl rfl ?_
    refine zv_iload K 19 dX4_copy_17 rfl rfl ?_
    refine zv_iadd K 20 dX4_copy_19 rfl ?_
    refine zv_iald (F := τ.2 12) K 8 (0 + m) 21 dX4_copy_20 rfl (zm_at (p := 8) (j := 12) rfl) (nI_add 0 m) (by omega) (by decide) ?_
    refine zv_iast K 13 (630 + m) 22 (zm b ty (zmF (zmFa τ 18 (va_cpy (τ.2 12) (τ.2 18) 0 630 m)) 18 (630 + m) (τ.2 12 (0 + m)))) dX4_copy_21 rfl (zm_at (p := 13) (j := 18) rfl) (nI_add 630 m) (by omega) (by decide) (zm_F 18 (630 + m) rfl (by decide) rfl) ?_
    refine zv_iinc K (nI (m + 1)) [some (.ref (b 12)), some (.int 0), some (.ref (b 18)), some (.int 630), some (.int 90), some (.int (nI (m + 1)))] 25 dX4_copy_22 rfl rfl (z_inc m) rfl ?_
    refine zv_goto K 3 dX4_copy_25 (by decide) ?_
    refine zv_ws (congrArg (zm b ty) ((zmF_Fa τ 18 (630 + m) _ _).trans (congrArg (zmFa τ 18) (zcpy_s (τ.2 12) (τ.2 18) 0 630 m)))) ?_
    exact ih (m + 1) (by omega) (by omega)

set_option maxHeartbeats 4000000 in
set_option maxRecDepth 100000 in
theorem kX4_copy_k12 (l : Launch) (D : va_G) (ty : zTy) (b : Nat → Nat) (τ : zM) : zv_ct l D ty yX4_copy cX4_copy 6 none (zR 0 0) [.ref (b 12), .int 0, .ref (b 18), .int 630, .int 90] (zm b ty τ) (fun v_ w_ => v_ = none ∧ w_ = zm b ty (mkc τ 12 630)) := by
  refine zv_open (by decide) rfl rfl [some (.ref (b 12)), some (.int 0), some (.ref (b 18)), some (.int 630), some (.int 90), none] (by simp [zv_one, Value.category]) (zle rfl) rfl ?_
  intro k K T
  refine zv_iconst K 0 1 dX4_copy_0 rfl (by decide) ?_
  refine zv_istore K [some (.ref (b 12)), some (.int 0), some (.ref (b 18)), some (.int 630), some (.int 90), some (.int 0)] 3 dX4_copy_1 rfl rfl (zlt rfl) ?_
  refine zv_ws (congrArg (zm b ty) (show τ = zmFa τ 18 (va_cpy (τ.2 12) (τ.2 18) 0 630 0) by rw [zcpy_0]; exact (zmFa_self τ 18).symm)) ?_
  exact kX4_copy_k12_l l D ty b τ K T 0 (by decide)

set_option maxHeartbeats 4000000 in
set_option maxRecDepth 100000 in
theorem kX4_copy_b12_l (l : Launch) (D : va_G) (ty : zTy) (b : Nat → Nat) (τ : zM) {k : zKx} (K : zv_ok k l D (zR 0 0) cX4_copy 6 yX4_copy.cls ty) (T : zv_rt k none (fun v_ w_ => v_ = none ∧ w_ = zm b ty (mbc τ 12 630))) : ∀ m : Nat, m ≤ 90 → zv k 3 [some (.ref (b 18)), some (.int 630), some (.ref (b 12)), some (.int 0), some (.int 90), some (.int (nI m))] [] (zm b ty (zmFa τ 12 (va_cpy (τ.2 18) (τ.2 12) 630 0 m))) := by
  refine z_wf (fun m : Nat => 90 - m) ?_
  intro m ih hm
  refine zv_iload K 5 dX4_copy_3 rfl rfl ?_
  refine zv_iload K 7 dX4_copy_5 rfl rfl ?_
  refine zv_icmp_ge K 28 10 dX4_copy_7 (by decide) rfl (fun hb => ?_) (fun hb => ?_)
  · skip
    have e : m = 90 := by have := z_ge (c := 90) hb (by decide) (by omega); omega
    exact zv_vret K T dX4_copy_28 (⟨rfl, by rw [e]; rfl⟩)
  · skip
    have hlt : m < 90 := z_lt (c := 90) hb (by omega)
    refine zv_aload_n K 11 dX4_copy_10 rfl rfl ?_
    refine zv_iload_n K 12 dX4_copy_11 rfl rfl ?_
    refine zv_iload K 14 dX4_copy_12 rfl rfl ?_
    refine zv_iadd K 15 dX4_copy_14 rfl ?_
    refine zv_aload_n K 16 dX4_copy_15 rfl rfl ?_
    refine zv_iload_n K 17 dX4_copy_16 rfl rfl ?_
    refine zv_iload K 19 dX4_copy_17 rfl rfl ?_
    refine zv_iadd K 20 dX4_copy_19 rfl ?_
    refine zv_iald (F := τ.2 18) K 13 (630 + m) 21 dX4_copy_20 rfl (zm_at (p := 13) (j := 18) rfl) (nI_add 630 m) (by omega) (by decide) ?_
    refine zv_iast K 8 (0 + m) 22 (zm b ty (zmF (zmFa τ 12 (va_cpy (τ.2 18) (τ.2 12) 630 0 m)) 12 (0 + m) (τ.2 18 (630 + m)))) dX4_copy_21 rfl (zm_at (p := 8) (j := 12) rfl) (nI_add 0 m) (by omega) (by decide) (zm_F 12 (0 + m) rfl (by decide) rfl) ?_
    refine zv_iinc K (nI (m + 1)) [some (.ref (b 18)), some (.int 630), some (.ref (b 12)), some (.int 0), some (.int 90), some (.int (nI (m + 1)))] 25 dX4_copy_22 rfl rfl (z_inc m) rfl ?_
    refine zv_goto K 3 dX4_copy_25 (by decide) ?_
    refine zv_ws (congrArg (zm b ty) ((zmF_Fa τ 12 (0 + m) _ _).trans (congrArg (zmFa τ 12) (zcpy_s (τ.2 18) (τ.2 12) 630 0 m)))) ?_
    exact ih (m + 1) (by omega) (by omega)

set_option maxHeartbeats 4000000 in
set_option maxRecDepth 100000 in
theorem kX4_copy_b12 (l : Launch) (D : va_G) (ty : zTy) (b : Nat → Nat) (τ : zM) : zv_ct l D ty yX4_copy cX4_copy 6 none (zR 0 0) [.ref (b 18), .int 630, .ref (b 12), .int 0, .int 90] (zm b ty τ) (fun v_ w_ => v_ = none ∧ w_ = zm b ty (mbc τ 12 630)) := by
  refine zv_open (by decide) rfl rfl [some (.ref (b 18)), some (.int 630), some (.ref (b 12)), some (.int 0), some (.int 90), none] (by simp [zv_one, Value.category]) (zle rfl) rfl ?_
  intro k K T
  refine zv_iconst K 0 1 dX4_copy_0 rfl (by decide) ?_
  refine zv_istore K [some (.ref (b 18)), some (.int 630), some (.ref (b 12)), some (.int 0), some (.int 90), some (.int 0)] 3 dX4_copy_1 rfl rfl (zlt rfl) ?_
  refine zv_ws (congrArg (zm b ty) (show τ = zmFa τ 12 (va_cpy (τ.2 18) (τ.2 12) 630 0 0) by rw [zcpy_0]; exact (zmFa_self τ 12).symm)) ?_
  exact kX4_copy_b12_l l D ty b τ K T 0 (by decide)

set_option maxHeartbeats 4000000 in
set_option maxRecDepth 100000 in
theorem kX4_copy_k13_l (l : Launch) (D : va_G) (ty : zTy) (b : Nat → Nat) (τ : zM) {k : zKx} (K : zv_ok k l D (zR 0 0) cX4_copy 6 yX4_copy.cls ty) (T : zv_rt k none (fun v_ w_ => v_ = none ∧ w_ = zm b ty (mkc τ 13 720))) : ∀ m : Nat, m ≤ 90 → zv k 3 [some (.ref (b 13)), some (.int 0), some (.ref (b 18)), some (.int 720), some (.int 90), some (.int (nI m))] [] (zm b ty (zmFa τ 18 (va_cpy (τ.2 13) (τ.2 18) 0 720 m))) := by
  refine z_wf (fun m : Nat => 90 - m) ?_
  intro m ih hm
  refine zv_iload K 5 dX4_copy_3 rfl rfl ?_
  refine zv_iload K 7 dX4_copy_5 rfl rfl ?_
  refine zv_icmp_ge K 28 10 dX4_copy_7 (by decide) rfl (fun hb => ?_) (fun hb => ?_)
  · skip
    have e : m = 90 := by have := z_ge (c := 90) hb (by decide) (by omega); omega
    exact zv_vret K T dX4_copy_28 (⟨rfl, by rw [e]; rfl⟩)
  · skip
    have hlt : m < 90 := z_lt (c := 90) hb (by omega)
    refine zv_aload_n K 11 dX4_copy_10 rfl rfl ?_
    refine zv_iload_n K 12 dX4_copy_11 rfl rfl ?_
    refine zv_iload K 14 dX4_copy_12 rfl rfl ?_
    refine zv_iadd K 15 dX4_copy_14 rfl ?_
    refine zv_aload_n K 16 dX4_copy_15 rfl rfl ?_
    refine zv_iload_n K 17 dX4_copy_16 rfl rfl ?_
    refine zv_iload K 19 dX4_copy_17 rfl rfl ?_
    refine zv_iadd K 20 dX4_copy_19 rfl ?_
    refine zv_iald (F := τ.2 13) K 9 (0 + m) 21 dX4_copy_20 rfl (zm_at (p := 9) (j := 13) rfl) (nI_add 0 m) (by omega) (by decide) ?_
    refine zv_iast K 13 (720 + m) 22 (zm b ty (zmF (zmFa τ 18 (va_cpy (τ.2 13) (τ.2 18) 0 720 m)) 18 (720 + m) (τ.2 13 (0 + m)))) dX4_copy_21 rfl (zm_at (p := 13) (j := 18) rfl) (nI_add 720 m) (by omega) (by decide) (zm_F 18 (720 + m) rfl (by decide) rfl) ?_
    refine zv_iinc K (nI (m + 1)) [some (.ref (b 13)), some (.int 0), some (.ref (b 18)), some (.int 720), some (.int 90), some (.int (nI (m + 1)))] 25 dX4_copy_22 rfl rfl (z_inc m) rfl ?_
    refine zv_goto K 3 dX4_copy_25 (by decide) ?_
    refine zv_ws (congrArg (zm b ty) ((zmF_Fa τ 18 (720 + m) _ _).trans (congrArg (zmFa τ 18) (zcpy_s (τ.2 13) (τ.2 18) 0 720 m)))) ?_
    exact ih (m + 1) (by omega) (by omega)

set_option maxHeartbeats 4000000 in
set_option maxRecDepth 100000 in
theorem kX4_copy_k13 (l : Launch) (D : va_G) (ty : zTy) (b : Nat → Nat) (τ : zM) : zv_ct l D ty yX4_copy cX4_copy 6 none (zR 0 0) [.ref (b 13), .int 0, .ref (b 18), .int 720, .int 90] (zm b ty τ) (fun v_ w_ => v_ = none ∧ w_ = zm b ty (mkc τ 13 720)) := by
  refine zv_open (by decide) rfl rfl [some (.ref (b 13)), some (.int 0), some (.ref (b 18)), some (.int 720), some (.int 90), none] (by simp [zv_one, Value.category]) (zle rfl) rfl ?_
  intro k K T
  refine zv_iconst K 0 1 dX4_copy_0 rfl (by decide) ?_
  refine zv_istore K [some (.ref (b 13)), some (.int 0), some (.ref (b 18)), some (.int 720), some (.int 90), some (.int 0)] 3 dX4_copy_1 rfl rfl (zlt rfl) ?_
  refine zv_ws (congrArg (zm b ty) (show τ = zmFa τ 18 (va_cpy (τ.2 13) (τ.2 18) 0 720 0) by rw [zcpy_0]; exact (zmFa_self τ 18).symm)) ?_
  exact kX4_copy_k13_l l D ty b τ K T 0 (by decide)

set_option maxHeartbeats 4000000 in
set_option maxRecDepth 100000 in
theorem kX4_copy_b13_l (l : Launch) (D : va_G) (ty : zTy) (b : Nat → Nat) (τ : zM) {k : zKx} (K : zv_ok k l D (zR 0 0) cX4_copy 6 yX4_copy.cls ty) (T : zv_rt k none (fun v_ w_ => v_ = none ∧ w_ = zm b ty (mbc τ 13 720))) : ∀ m : Nat, m ≤ 90 → zv k 3 [some (.ref (b 18)), some (.int 720), some (.ref (b 13)), some (.int 0), some (.int 90), some (.int (nI m))] [] (zm b ty (zmFa τ 13 (va_cpy (τ.2 18) (τ.2 13) 720 0 m))) := by
  refine z_wf (fun m : Nat => 90 - m) ?_
  intro m ih hm
  refine zv_iload K 5 dX4_copy_3 rfl rfl ?_
  refine zv_iload K 7 dX4_copy_5 rfl rfl ?_
  refine zv_icmp_ge K 28 10 dX4_copy_7 (by decide) rfl (fun hb => ?_) (fun hb => ?_)
  · skip
    have e : m = 90 := by have := z_ge (c := 90) hb (by decide) (by omega); omega
    exact zv_vret K T dX4_copy_28 (⟨rfl, by rw [e]; rfl⟩)
  · skip
    have hlt : m < 90 := z_lt (c := 90) hb (by omega)
    refine zv_aload_n K 11 dX4_copy_10 rfl rfl ?_
    refine zv_iload_n K 12 dX4_copy_11 rfl rfl ?_
    refine zv_iload K 14 dX4_copy_12 rfl rfl ?_
    refine zv_iadd K 15 dX4_copy_14 rfl ?_
    refine zv_aload_n K 16 dX4_copy_15 rfl rfl ?_
    refine zv_iload_n K 17 dX4_copy_16 rfl rfl ?_
    refine zv_iload K 19 dX4_copy_17 rfl rfl ?_
    refine zv_iadd K 20 dX4_copy_19 rfl ?_
    refine zv_iald (F := τ.2 18) K 13 (720 + m) 21 dX4_copy_20 rfl (zm_at (p := 13) (j := 18) rfl) (nI_add 720 m) (by omega) (by decide) ?_
    refine zv_iast K 9 (0 + m) 22 (zm b ty (zmF (zmFa τ 13 (va_cpy (τ.2 18) (τ.2 13) 720 0 m)) 13 (0 + m) (τ.2 18 (720 + m)))) dX4_copy_21 rfl (zm_at (p := 9) (j := 13) rfl) (nI_add 0 m) (by omega) (by decide) (zm_F 13 (0 + m) rfl (by decide) rfl) ?_
    refine zv_iinc K (nI (m + 1)) [some (.ref (b 18)), some (.int 720), some (.ref (b 13)), some (.int 0), some (.int 90), some (.int (nI (m + 1)))] 25 dX4_copy_22 rfl rfl (z_inc m) rfl ?_
    refine zv_goto K 3 dX4_copy_25 (by decide) ?_
    refine zv_ws (congrArg (zm b ty) ((zmF_Fa τ 13 (0 + m) _ _).trans (congrArg (zmFa τ 13) (zcpy_s (τ.2 18) (τ.2 13) 720 0 m)))) ?_
    exact ih (m + 1) (by omega) (by omega)

set_option maxHeartbeats 4000000 in
set_option maxRecDepth 100000 in
theorem kX4_copy_b13 (l : Launch) (D : va_G) (ty : zTy) (b : Nat → Nat) (τ : zM) : zv_ct l D ty yX4_copy cX4_copy 6 none (zR 0 0) [.ref (b 18), .int 720, .ref (b 13), .int 0, .int 90] (zm b ty τ) (fun v_ w_ => v_ = none ∧ w_ = zm b ty (mbc τ 13 720)) := by
  refine zv_open (by decide) rfl rfl [some (.ref (b 18)), some (.int 720), some (.ref (b 13)), some (.int 0), some (.int 90), none] (by simp [zv_one, Value.category]) (zle rfl) rfl ?_
  intro k K T
  refine zv_iconst K 0 1 dX4_copy_0 rfl (by decide) ?_
  refine zv_istore K [some (.ref (b 18)), some (.int 720), some (.ref (b 13)), some (.int 0), some (.int 90), some (.int 0)] 3 dX4_copy_1 rfl rfl (zlt rfl) ?_
  refine zv_ws (congrArg (zm b ty) (show τ = zmFa τ 13 (va_cpy (τ.2 18) (τ.2 13) 720 0 0) by rw [zcpy_0]; exact (zmFa_self τ 13).symm)) ?_
  exact kX4_copy_b13_l l D ty b τ K T 0 (by decide)

set_option maxHeartbeats 4000000 in
set_option maxRecDepth 100000 in
theorem kX4_copy_k14_l (l : Launch) (D : va_G) (ty : zTy) (b : Nat → Nat) (τ : zM) {k : zKx} (K : zv_ok k l D (zR 0 0) cX4_copy 6 yX4_copy.cls ty) (T : zv_rt k none (fun v_ w_ => v_ = none ∧ w_ = zm b ty (mkc τ 14 810))) : ∀ m : Nat, m ≤ 90 → zv k 3 [some (.ref (b 14)), some (.int 0), some (.ref (b 18)), some (.int 810), some (.int 90), some (.int (nI m))] [] (zm b ty (zmFa τ 18 (va_cpy (τ.2 14) (τ.2 18) 0 810 m))) := by
  refine z_wf (fun m : Nat => 90 - m) ?_
  intro m ih hm
  refine zv_iload K 5 dX4_copy_3 rfl rfl ?_
  refine zv_iload K 7 dX4_copy_5 rfl rfl ?_
  refine zv_icmp_ge K 28 10 dX4_copy_7 (by decide) rfl (fun hb => ?_) (fun hb => ?_)
  · skip
    have e : m = 90 := by have := z_ge (c := 90) hb (by decide) (by omega); omega
    exact zv_vret K T dX4_copy_28 (⟨rfl, by rw [e]; rfl⟩)
  · skip
    have hlt : m < 90 := z_lt (c := 90) hb (by omega)
    refine zv_aload_n K 11 dX4_copy_10 rfl rfl ?_
    refine zv_iload_n K 12 dX4_copy_11 rfl rfl ?_
    refine zv_iload K 14 dX4_copy_12 rfl rfl ?_
    refine zv_iadd K 15 dX4_copy_14 rfl ?_
    refine zv_aload_n K 16 dX4_copy_15 rfl rfl ?_
    refine zv_iload_n K 17 dX4_copy_16 rfl rfl ?_
    refine zv_iload K 19 dX4_copy_17 rfl rfl ?_
    refine zv_iadd K 20 dX4_copy_19 rfl ?_
    refine zv_iald (F := τ.2 14) K 10 (0 + m) 21 dX4_copy_20 rfl (zm_at (p := 10) (j := 14) rfl) (nI_add 0 m) (by omega) (by decide) ?_
    refine zv_iast K 13 (810 + m) 22 (zm b ty (zmF (zmFa τ 18 (va_cpy (τ.2 14) (τ.2 18) 0 810 m)) 18 (810 + m) (τ.2 14 (0 + m)))) dX4_copy_21 rfl (zm_at (p := 13) (j := 18) rfl) (nI_add 810 m) (by omega) (by decide) (zm_F 18 (810 + m) rfl (by decide) rfl) ?_
    refine zv_iinc K (nI (m + 1)) [some (.ref (b 14)), some (.int 0), some (.ref (b 18)), some (.int 810), some (.int 90), some (.int (nI (m + 1)))] 25 dX4_copy_22 rfl rfl (z_inc m) rfl ?_
    refine zv_goto K 3 dX4_copy_25 (by decide) ?_
    refine zv_ws (congrArg (zm b ty) ((zmF_Fa τ 18 (810 + m) _ _).trans (congrArg (zmFa τ 18) (zcpy_s (τ.2 14) (τ.2 18) 0 810 m)))) ?_
    exact ih (m + 1) (by omega) (by omega)

set_option maxHeartbeats 4000000 in
set_option maxRecDepth 100000 in
theorem kX4_copy_k14 (l : Launch) (D : va_G) (ty : zTy) (b : Nat → Nat) (τ : zM) : zv_ct l D ty yX4_copy cX4_copy 6 none (zR 0 0) [.ref (b 14), .int 0, .ref (b 18), .int 810, .int 90] (zm b ty τ) (fun v_ w_ => v_ = none ∧ w_ = zm b ty (mkc τ 14 810)) := by
  refine zv_open (by decide) rfl rfl [some (.ref (b 14)), some (.int 0), some (.ref (b 18)), some (.int 810), some (.int 90), none] (by simp [zv_one, Value.category]) (zle rfl) rfl ?_
  intro k K T
  refine zv_iconst K 0 1 dX4_copy_0 rfl (by decide) ?_
  refine zv_istore K [some (.ref (b 14)), some (.int 0), some (.ref (b 18)), some (.int 810), some (.int 90), some (.int 0)] 3 dX4_copy_1 rfl rfl (zlt rfl) ?_
  refine zv_ws (congrArg (zm b ty) (show τ = zmFa τ 18 (va_cpy (τ.2 14) (τ.2 18) 0 810 0) by rw [zcpy_0]; exact (zmFa_self τ 18).symm)) ?_
  exact kX4_copy_k14_l l D ty b τ K T 0 (by decide)

set_option maxHeartbeats 4000000 in
set_option maxRecDepth 100000 in
theorem kX4_copy_b14_l (l : Launch) (D : va_G) (ty : zTy) (b : Nat → Nat) (τ : zM) {k : zKx} (K : zv_ok k l D (zR 0 0) cX4_copy 6 yX4_copy.cls ty) (T : zv_rt k none (fun v_ w_ => v_ = none ∧ w_ = zm b ty (mbc τ 14 810))) : ∀ m : Nat, m ≤ 90 → zv k 3 [some (.ref (b 18)), some (.int 810), some (.ref (b 14)), some (.int 0), some (.int 90), some (.int (nI m))] [] (zm b ty (zmFa τ 14 (va_cpy (τ.2 18) (τ.2 14) 810 0 m))) := by
  refine z_wf (fun m : Nat => 90 - m) ?_
  intro m ih hm
  refine zv_iload K 5 dX4_copy_3 rfl rfl ?_
  refine zv_iload K 7 dX4_copy_5 rfl rfl ?_
  refine zv_icmp_ge K 28 10 dX4_copy_7 (by decide) rfl (fun hb => ?_) (fun hb => ?_)
  · skip
    have e : m = 90 := by have := z_ge (c := 90) hb (by decide) (by omega); omega
    exact zv_vret K T dX4_copy_28 (⟨rfl, by rw [e]; rfl⟩)
  · skip
    have hlt : m < 90 := z_lt (c := 90) hb (by omega)
    refine zv_aload_n K 11 dX4_copy_10 rfl rfl ?_
    refine zv_iload_n K 12 dX4_copy_11 rfl rfl ?_
    refine zv_iload K 14 dX4_copy_12 rfl rfl ?_
    refine zv_iadd K 15 dX4_copy_14 rfl ?_
    refine zv_aload_n K 16 dX4_copy_15 rfl rfl ?_
    refine zv_iload_n K 17 dX4_copy_16 rfl rfl ?_
    refine zv_iload K 19 dX4_copy_17 rfl rfl ?_
    refine zv_iadd K 20 dX4_copy_19 rfl ?_
    refine zv_iald (F := τ.2 18) K 13 (810 + m) 21 dX4_copy_20 rfl (zm_at (p := 13) (j := 18) rfl) (nI_add 810 m) (by omega) (by decide) ?_
    refine zv_iast K 10 (0 + m) 22 (zm b ty (zmF (zmFa τ 14 (va_cpy (τ.2 18) (τ.2 14) 810 0 m)) 14 (0 + m) (τ.2 18 (810 + m)))) dX4_copy_21 rfl (zm_at (p := 10) (j := 14) rfl) (nI_add 0 m) (by omega) (by decide) (zm_F 14 (0 + m) rfl (by decide) rfl) ?_
    refine zv_iinc K (nI (m + 1)) [some (.ref (b 18)), some (.int 810), some (.ref (b 14)), some (.int 0), some (.int 90), some (.int (nI (m + 1)))] 25 dX4_copy_22 rfl rfl (z_inc m) rfl ?_
    refine zv_goto K 3 dX4_copy_25 (by decide) ?_
    refine zv_ws (congrArg (zm b ty) ((zmF_Fa τ 14 (0 + m) _ _).trans (congrArg (zmFa τ 14) (zcpy_s (τ.2 18) (τ.2 14) 810 0 m)))) ?_
    exact ih (m + 1) (by omega) (by omega)

set_option maxHeartbeats 4000000 in
set_option maxRecDepth 100000 in
theorem kX4_copy_b14 (l : Launch) (D : va_G) (ty : zTy) (b : Nat → Nat) (τ : zM) : zv_ct l D ty yX4_copy cX4_copy 6 none (zR 0 0) [.ref (b 18), .int 810, .ref (b 14), .int 0, .int 90] (zm b ty τ) (fun v_ w_ => v_ = none ∧ w_ = zm b ty (mbc τ 14 810)) := by
  refine zv_open (by decide) rfl rfl [some (.ref (b 18)), some (.int 810), some (.ref (b 14)), some (.int 0), some (.int 90), none] (by simp [zv_one, Value.category]) (zle rfl) rfl ?_
  intro k K T
  refine zv_iconst K 0 1 dX4_copy_0 rfl (by decide) ?_
  refine zv_istore K [some (.ref (b 18)), some (.int 810), some (.ref (b 14)), some (.int 0), some (.int 90), some (.int 0)] 3 dX4_copy_1 rfl rfl (zlt rfl) ?_
  refine zv_ws (congrArg (zm b ty) (show τ = zmFa τ 14 (va_cpy (τ.2 18) (τ.2 14) 810 0 0) by rw [zcpy_0]; exact (zmFa_self τ 14).symm)) ?_
  exact kX4_copy_b14_l l D ty b τ K T 0 (by decide)

set_option maxHeartbeats 4000000 in
set_option maxRecDepth 100000 in
theorem kX4_copy_k15_l (l : Launch) (D : va_G) (ty : zTy) (b : Nat → Nat) (τ : zM) {k : zKx} (K : zv_ok k l D (zR 0 0) cX4_copy 6 yX4_copy.cls ty) (T : zv_rt k none (fun v_ w_ => v_ = none ∧ w_ = zm b ty (mkc τ 15 900))) : ∀ m : Nat, m ≤ 90 → zv k 3 [some (.ref (b 15)), some (.int 0), some (.ref (b 18)), some (.int 900), some (.int 90), some (.int (nI m))] [] (zm b ty (zmFa τ 18 (va_cpy (τ.2 15) (τ.2 18) 0 900 m))) := by
  refine z_wf (fun m : Nat => 90 - m) ?_
  intro m ih hm
  refine zv_iload K 5 dX4_copy_3 rfl rfl ?_
  refine zv_iload K 7 dX4_copy_5 rfl rfl ?_
  refine zv_icmp_ge K 28 10 dX4_copy_7 (by decide) rfl (fun hb => ?_) (fun hb => ?_)
  · skip
    have e : m = 90 := by have := z_ge (c := 90) hb (by decide) (by omega); omega
    exact zv_vret K T dX4_copy_28 (⟨rfl, by rw [e]; rfl⟩)
  · skip
    have hlt : m < 90 := z_lt (c := 90) hb (by omega)
    refine zv_aload_n K 11 dX4_copy_10 rfl rfl ?_
    refine zv_iload_n K 12 dX4_copy_11 rfl rfl ?_
    refine zv_iload K 14 dX4_copy_12 rfl rfl ?_
    refine zv_iadd K 15 dX4_copy_14 rfl ?_
    refine zv_aload_n K 16 dX4_copy_15 rfl rfl ?_
    refine zv_iload_n K 17 dX4_copy_16 rfl rfl ?_
    refine zv_iload K 19 dX4_copy_17 rfl rfl ?_
    refine zv_iadd K 20 dX4_copy_19 rfl ?_
    refine zv_iald (F := τ.2 15) K 11 (0 + m) 21 dX4_copy_20 rfl (zm_at (p := 11) (j := 15) rfl) (nI_add 0 m) (by omega) (by decide) ?_
    refine zv_iast K 13 (900 + m) 22 (zm b ty (zmF (zmFa τ 18 (va_cpy (τ.2 15) (τ.2 18) 0 900 m)) 18 (900 + m) (τ.2 15 (0 + m)))) dX4_copy_21 rfl (zm_at (p := 13) (j := 18) rfl) (nI_add 900 m) (by omega) (by decide) (zm_F 18 (900 + m) rfl (by decide) rfl) ?_
    refine zv_iinc K (nI (m + 1)) [some (.ref (b 15)), some (.int 0), some (.ref (b 18)), some (.int 900), some (.int 90), some (.int (nI (m + 1)))] 25 dX4_copy_22 rfl rfl (z_inc m) rfl ?_
    refine zv_goto K 3 dX4_copy_25 (by decide) ?_
    refine zv_ws (congrArg (zm b ty) ((zmF_Fa τ 18 (900 + m) _ _).trans (congrArg (zmFa τ 18) (zcpy_s (τ.2 15) (τ.2 18) 0 900 m)))) ?_
    exact ih (m + 1) (by omega) (by omega)

set_option maxHeartbeats 4000000 in
set_option maxRecDepth 100000 in
theorem kX4_copy_k15 (l : Launch) (D : va_G) (ty : zTy) (b : Nat → Nat) (τ : zM) : zv_ct l D ty yX4_copy cX4_copy 6 none (zR 0 0) [.ref (b 15), .int 0, .ref (b 18), .int 900, .int 90] (zm b ty τ) (fun v_ w_ => v_ = none ∧ w_ = zm b ty (mkc τ 15 900)) := by
  refine zv_open (by decide) rfl rfl [some (.ref (b 15)), some (.int 0), some (.ref (b 18)), some (.int 900), some (.int 90), none] (by simp [zv_one, Value.category]) (zle rfl) rfl ?_
  intro k K T
  refine zv_iconst K 0 1 dX4_copy_0 rfl (by decide) ?_
  refine zv_istore K [some (.ref (b 15)), some (.int 0), some (.ref (b 18)), some (.int 900), some (.int 90), some (.int 0)] 3 dX4_copy_1 rfl rfl (zlt rfl) ?_
  refine zv_ws (congrArg (zm b ty) (show τ = zmFa τ 18 (va_cpy (τ.2 15) (τ.2 18) 0 900 0) by rw [zcpy_0]; exact (zmFa_self τ 18).symm)) ?_
  exact kX4_copy_k15_l l D ty b τ K T 0 (by decide)

set_option maxHeartbeats 4000000 in
set_option maxRecDepth 100000 in
theorem kX4_copy_b15_l (l : Launch) (D : va_G) (ty : zTy) (b : Nat → Nat) (τ : zM) {k : zKx} (K : zv_ok k l D (zR 0 0) cX4_copy 6 yX4_copy.cls ty) (T : zv_rt k none (fun v_ w_ => v_ = none ∧ w_ = zm b ty (mbc τ 15 900))) : ∀ m : Nat, m ≤ 90 → zv k 3 [some (.ref (b 18)), some (.int 900), some (.ref (b 15)), some (.int 0), some (.int 90), some (.int (nI m))] [] (zm b ty (zmFa τ 15 (va_cpy (τ.2 18) (τ.2 15) 900 0 m))) := by
  refine z_wf (fun m : Nat => 90 - m) ?_
  intro m ih hm
  refine zv_iload K 5 dX4_copy_3 rfl rfl ?_
  refine zv_iload K 7 dX4_copy_5 rfl rfl ?_
  refine zv_icmp_ge K 28 10 dX4_copy_7 (by decide) rfl (fun hb => ?_) (fun hb => ?_)
  · skip
    have e : m = 90 := by have := z_ge (c := 90) hb (by decide) (by omega); omega
    exact zv_vret K T dX4_copy_28 (⟨rfl, by rw [e]; rfl⟩)
  · skip
    have hlt : m < 90 := z_lt (c := 90) hb (by omega)
    refine zv_aload_n K 11 dX4_copy_10 rfl rfl ?_
    refine zv_iload_n K 12 dX4_copy_11 rfl rfl ?_
    refine zv_iload K 14 dX4_copy_12 rfl rfl ?_
    refine zv_iadd K 15 dX4_copy_14 rfl ?_
    refine zv_aload_n K 16 dX4_copy_15 rfl rfl ?_
    refine zv_iload_n K 17 dX4_copy_16 rfl rfl ?_
    refine zv_iload K 19 dX4_copy_17 rfl rfl ?_
    refine zv_iadd K 20 dX4_copy_19 rfl ?_
    refine zv_iald (F := τ.2 18) K 13 (900 + m) 21 dX4_copy_20 rfl (zm_at (p := 13) (j := 18) rfl) (nI_add 900 m) (by omega) (by decide) ?_
    refine zv_iast K 11 (0 + m) 22 (zm b ty (zmF (zmFa τ 15 (va_cpy (τ.2 18) (τ.2 15) 900 0 m)) 15 (0 + m) (τ.2 18 (900 + m)))) dX4_copy_21 rfl (zm_at (p := 11) (j := 15) rfl) (nI_add 0 m) (by omega) (by decide) (zm_F 15 (0 + m) rfl (by decide) rfl) ?_
    refine zv_iinc K (nI (m + 1)) [some (.ref (b 18)), some (.int 900), some (.ref (b 15)), some (.int 0), some (.int 90), some (.int (nI (m + 1)))] 25 dX4_copy_22 rfl rfl (z_inc m) rfl ?_
    refine zv_goto K 3 dX4_copy_25 (by decide) ?_
    refine zv_ws (congrArg (zm b ty) ((zmF_Fa τ 15 (0 + m) _ _).trans (congrArg (zmFa τ 15) (zcpy_s (τ.2 18) (τ.2 15) 900 0 m)))) ?_
    exact ih (m + 1) (by omega) (by omega)

set_option maxHeartbeats 4000000 in
set_option maxRecDepth 100000 in
theorem kX4_copy_b15 (l : Launch) (D : va_G) (ty : zTy) (b : Nat → Nat) (τ : zM) : zv_ct l D ty yX4_copy cX4_copy 6 none (zR 0 0) [.ref (b 18), .int 900, .ref (b 15), .int 0, .int 90] (zm b ty τ) (fun v_ w_ => v_ = none ∧ w_ = zm b ty (mbc τ 15 900)) := by
  refine zv_open (by decide) rfl rfl [some (.ref (b 18)), some (.int 900), some (.ref (b 15)), some (.int 0), some (.int 90), none] (by simp [zv_one, Value.category]) (zle rfl) rfl ?_
  intro k K T
  refine zv_iconst K 0 1 dX4_copy_0 rfl (by decide) ?_
  refine zv_istore K [some (.ref (b 18)), some (.int 900), some (.ref (b 15)), some (.int 0), some (.int 90), some (.int 0)] 3 dX4_copy_1 rfl rfl (zlt rfl) ?_
  refine zv_ws (congrArg (zm b ty) (show τ = zmFa τ 15 (va_cpy (τ.2 18) (τ.2 15) 900 0 0) by rw [zcpy_0]; exact (zmFa_self τ 15).symm)) ?_
  exact kX4_copy_b15_l l D ty b τ K T 0 (by decide)

def fX4_keep (τ : zM) : Int32 × zM :=
  (1, (mkc (mkc (mkc (mkc (mkc (mkc (mkc (mkc (mkc (mkc (mkc (zmF (zmF (zmF (zmO τ 16 1) 17 0 (τ.1 0)) 17 1 (τ.1 3)) 17 2 (τ.1 4)) 5 0) 6 90) 7 180) 8 270) 9 360) 10 450) 11 540) 12 630) 13 720) 14 810) 15 900))
set_option maxHeartbeats 4000000 in
set_option maxRecDepth 100000 in
theorem kX4_keep (l : Launch) (D : va_G) (ty : zTy) (b : Nat → Nat) (τ : zM) : zv_ct l D ty yX4_keep cX4_keep 1 (some .int) (zR 1 25) [.ref (b 0)] (zm b ty τ) (fun v_ w_ => v_ = some (.int (fX4_keep τ).1) ∧ w_ = zm b ty (fX4_keep τ).2) := by
  refine zv_open (by decide) rfl rfl [some (.ref (b 0))] (by simp [zv_one, Value.category]) (zle rfl) rfl ?_
  intro k K T
  refine zv_aload_n K 1 dX4_keep_0 rfl rfl ?_
  refine zv_iconst K 1 2 dX4_keep_1 rfl (by decide) ?_
  refine zm_put K 16 5 (zmO τ 16 1) dX4_keep_2 rfl (by decide) zw_2_204 rfl rfl rfl rfl zm_O16 ?_
  refine zv_aload_n K 6 dX4_keep_5 rfl rfl ?_
  refine zm_get (v := .ref (b 17)) K 17 9 dX4_keep_6 rfl (by decide) zw_2_205 rfl ?_
  refine zv_iconst K 0 10 dX4_keep_9 rfl (by decide) ?_
  refine zv_aload_n K 11 dX4_keep_10 rfl rfl ?_
  refine zm_get (v := .int (τ.1 0)) K 0 14 dX4_keep_11 rfl (by decide) zw_2_188 rfl ?_
  refine zv_iast K 12 0 15 (zm b ty (zmF (zmO τ 16 1) 17 0 (τ.1 0))) dX4_keep_14 rfl (zm_at (p := 12) (j := 17) rfl) rfl (by decide) (by decide) (zm_F 17 0 rfl (by decide) rfl) ?_
  refine zv_aload_n K 16 dX4_keep_15 rfl rfl ?_
  refine zm_get (v := .ref (b 17)) K 17 19 dX4_keep_16 rfl (by decide) zw_2_205 rfl ?_
  refine zv_iconst K 1 20 dX4_keep_19 rfl (by decide) ?_
  refine zv_aload_n K 21 dX4_keep_20 rfl rfl ?_
  refine zm_get (v := .int (τ.1 3)) K 3 24 dX4_keep_21 rfl (by decide) zw_2_191 rfl ?_
  refine zv_iast K 12 1 25 (zm b ty (zmF (zmF (zmO τ 16 1) 17 0 (τ.1 0)) 17 1 (τ.1 3))) dX4_keep_24 rfl (zm_at (p := 12) (j := 17) rfl) rfl (by decide) (by decide) (zm_F 17 1 rfl (by decide) rfl) ?_
  refine zv_aload_n K 26 dX4_keep_25 rfl rfl ?_
  refine zm_get (v := .ref (b 17)) K 17 29 dX4_keep_26 rfl (by decide) zw_2_205 rfl ?_
  refine zv_iconst K 2 30 dX4_keep_29 rfl (by decide) ?_
  refine zv_aload_n K 31 dX4_keep_30 rfl rfl ?_
  refine zm_get (v := .int (τ.1 4)) K 4 34 dX4_keep_31 rfl (by decide) zw_2_192 rfl ?_
  refine zv_iast K 12 2 35 (zm b ty (zmF (zmF (zmF (zmO τ 16 1) 17 0 (τ.1 0)) 17 1 (τ.1 3)) 17 2 (τ.1 4))) dX4_keep_34 rfl (zm_at (p := 12) (j := 17) rfl) rfl (by decide) (by decide) (zm_F 17 2 rfl (by decide) rfl) ?_
  refine zv_aload_n K 36 dX4_keep_35 rfl rfl ?_
  refine zm_get (v := .ref (b 5)) K 5 39 dX4_keep_36 rfl (by decide) zw_2_193 rfl ?_
  refine zv_iconst K 0 40 dX4_keep_39 rfl (by decide) ?_
  refine zv_aload_n K 41 dX4_keep_40 rfl rfl ?_
  refine zm_get (v := .ref (b 18)) K 18 44 dX4_keep_41 rfl (by decide) zw_2_206 rfl ?_
  refine zv_iconst K 0 45 dX4_keep_44 rfl (by decide) ?_
  refine zv_bipush K 90 47 dX4_keep_45 rfl (by decide) ?_
  refine zv_cS0 K (As := [.ref (b 5), .int 0, .ref (b 18), .int 0, .int 90]) (rest := []) 5 50 (kX4_copy_k5 l D ty b (zmF (zmF (zmF (zmO τ 16 1) 17 0 (τ.1 0)) 17 1 (τ.1 3)) 17 2 (τ.1 4))) dX4_keep_47 rfl zw_3_199 zw_3_200 zw_1_5 zw_3_201 ⟨rfl, rfl⟩ zh_yX4_copy ⟨by decide, by decide⟩ rfl rfl (zle rfl) rfl ?_
  refine zv_aload_n K 51 dX4_keep_50 rfl rfl ?_
  refine zm_get (v := .ref (b 6)) K 6 54 dX4_keep_51 rfl (by decide) zw_2_194 rfl ?_
  refine zv_iconst K 0 55 dX4_keep_54 rfl (by decide) ?_
  refine zv_aload_n K 56 dX4_keep_55 rfl rfl ?_
  refine zm_get (v := .ref (b 18)) K 18 59 dX4_keep_56 rfl (by decide) zw_2_206 rfl ?_
  refine zv_bipush K 90 61 dX4_keep_59 rfl (by decide) ?_
  refine zv_bipush K 90 63 dX4_keep_61 rfl (by decide) ?_
  refine zv_cS0 K (As := [.ref (b 6), .int 0, .ref (b 18), .int 90, .int 90]) (rest := []) 5 66 (kX4_copy_k6 l D ty b (mkc (zmF (zmF (zmF (zmO τ 16 1) 17 0 (τ.1 0)) 17 1 (τ.1 3)) 17 2 (τ.1 4)) 5 0)) dX4_keep_63 rfl zw_3_199 zw_3_200 zw_1_5 zw_3_201 ⟨rfl, rfl⟩ zh_yX4_copy ⟨by decide, by decide⟩ rfl rfl (zle rfl) rfl ?_
  refine zv_aload_n K 67 dX4_keep_66 rfl rfl ?_
  refine zm_get (v := .ref (b 7)) K 7 70 dX4_keep_67 rfl (by decide) zw_2_195 rfl ?_
  refine zv_iconst K 0 71 dX4_keep_70 rfl (by decide) ?_
  refine zv_aload_n K 72 dX4_keep_71 rfl rfl ?_
  refine zm_get (v := .ref (b 18)) K 18 75 dX4_keep_72 rfl (by decide) zw_2_206 rfl ?_
  refine zv_sipush K 180 78 dX4_keep_75 rfl (by decide) ?_
  refine zv_bipush K 90 80 dX4_keep_78 rfl (by decide) ?_
  refine zv_cS0 K (As := [.ref (b 7), .int 0, .ref (b 18), .int 180, .int 90]) (rest := []) 5 83 (kX4_copy_k7 l D ty b (mkc (mkc (zmF (zmF (zmF (zmO τ 16 1) 17 0 (τ.1 0)) 17 1 (τ.1 3)) 17 2 (τ.1 4)) 5 0) 6 90)) dX4_keep_80 rfl zw_3_199 zw_3_200 zw_1_5 zw_3_201 ⟨rfl, rfl⟩ zh_yX4_copy ⟨by decide, by decide⟩ rfl rfl (zle rfl) rfl ?_
  refine zv_aload_n K 84 dX4_keep_83 rfl rfl ?_
  refine zm_get (v := .ref (b 8)) K 8 87 dX4_keep_84 rfl (by decide) zw_2_196 rfl ?_
  refine zv_iconst K 0 88 dX4_keep_87 rfl (by decide) ?_
  refine zv_aload_n K 89 dX4_keep_88 rfl rfl ?_
  refine zm_get (v := .ref (b 18)) K 18 92 dX4_keep_89 rfl (by decide) zw_2_206 rfl ?_
  refine zv_sipush K 270 95 dX4_keep_92 rfl (by decide) ?_
  refine zv_bipush K 90 97 dX4_keep_95 rfl (by decide) ?_
  refine zv_cS0 K (As := [.ref (b 8), .int 0, .ref (b 18), .int 270, .int 90]) (rest := []) 5 100 (kX4_copy_k8 l D ty b (mkc (mkc (mkc (zmF (zmF (zmF (zmO τ 16 1) 17 0 (τ.1 0)) 17 1 (τ.1 3)) 17 2 (τ.1 4)) 5 0) 6 90) 7 180)) dX4_keep_97 rfl zw_3_199 zw_3_200 zw_1_5 zw_3_201 ⟨rfl, rfl⟩ zh_yX4_copy ⟨by decide, by decide⟩ rfl rfl (zle rfl) rfl ?_
  refine zv_aload_n K 101 dX4_keep_100 rfl rfl ?_
  refine zm_get (v := .ref (b 9)) K 9 104 dX4_keep_101 rfl (by decide) zw_2_197 rfl ?_
  refine zv_iconst K 0 105 dX4_keep_104 rfl (by decide) ?_
  refine zv_aload_n K 106 dX4_keep_105 rfl rfl ?_
  refine zm_get (v := .ref (b 18)) K 18 109 dX4_keep_106 rfl (by decide) zw_2_206 rfl ?_
  refine zv_sipush K 360 112 dX4_keep_109 rfl (by decide) ?_
  refine zv_bipush K 90 114 dX4_keep_112 rfl (by decide) ?_
  refine zv_cS0 K (As := [.ref (b 9), .int 0, .ref (b 18), .int 360, .int 90]) (rest := []) 5 117 (kX4_copy_k9 l D ty b (mkc (mkc (mkc (mkc (zmF (zmF (zmF (zmO τ 16 1) 17 0 (τ.1 0)) 17 1 (τ.1 3)) 17 2 (τ.1 4)) 5 0) 6 90) 7 180) 8 270)) dX4_keep_114 rfl zw_3_199 zw_3_200 zw_1_5 zw_3_201 ⟨rfl, rfl⟩ zh_yX4_copy ⟨by decide, by decide⟩ rfl rfl (zle rfl) rfl ?_
  refine zv_aload_n K 118 dX4_keep_117 rfl rfl ?_
  refine zm_get (v := .ref (b 10)) K 10 121 dX4_keep_118 rfl (by decide) zw_2_198 rfl ?_
  refine zv_iconst K 0 122 dX4_keep_121 rfl (by decide) ?_
  refine zv_aload_n K 123 dX4_keep_122 rfl rfl ?_
  refine zm_get (v := .ref (b 18)) K 18 126 dX4_keep_123 rfl (by decide) zw_2_206 rfl ?_
  refine zv_sipush K 450 129 dX4_keep_126 rfl (by decide) ?_
  refine zv_bipush K 90 131 dX4_keep_129 rfl (by decide) ?_
  refine zv_cS0 K (As := [.ref (b 10), .int 0, .ref (b 18), .int 450, .int 90]) (rest := []) 5 134 (kX4_copy_k10 l D ty b (mkc (mkc (mkc (mkc (mkc (zmF (zmF (zmF (zmO τ 16 1) 17 0 (τ.1 0)) 17 1 (τ.1 3)) 17 2 (τ.1 4)) 5 0) 6 90) 7 180) 8 270) 9 360)) dX4_keep_131 rfl zw_3_199 zw_3_200 zw_1_5 zw_3_201 ⟨rfl, rfl⟩ zh_yX4_copy ⟨by decide, by decide⟩ rfl rfl (zle rfl) rfl ?_
  refine zv_aload_n K 135 dX4_keep_134 rfl rfl ?_
  refine zm_get (v := .ref (b 11)) K 11 138 dX4_keep_135 rfl (by decide) zw_2_199 rfl ?_
  refine zv_iconst K 0 139 dX4_keep_138 rfl (by decide) ?_
  refine zv_aload_n K 140 dX4_keep_139 rfl rfl ?_
  refine zm_get (v := .ref (b 18)) K 18 143 dX4_keep_140 rfl (by decide) zw_2_206 rfl ?_
  refine zv_sipush K 540 146 dX4_keep_143 rfl (by decide) ?_
  refine zv_bipush K 90 148 dX4_keep_146 rfl (by decide) ?_
  refine zv_cS0 K (As := [.ref (b 11), .int 0, .ref (b 18), .int 540, .int 90]) (rest := []) 5 151 (kX4_copy_k11 l D ty b (mkc (mkc (mkc (mkc (mkc (mkc (zmF (zmF (zmF (zmO τ 16 1) 17 0 (τ.1 0)) 17 1 (τ.1 3)) 17 2 (τ.1 4)) 5 0) 6 90) 7 180) 8 270) 9 360) 10 450)) dX4_keep_148 rfl zw_3_199 zw_3_200 zw_1_5 zw_3_201 ⟨rfl, rfl⟩ zh_yX4_copy ⟨by decide, by decide⟩ rfl rfl (zle rfl) rfl ?_
  refine zv_aload_n K 152 dX4_keep_151 rfl rfl ?_
  refine zm_get (v := .ref (b 12)) K 12 155 dX4_keep_152 rfl (by decide) zw_2_200 rfl ?_
  refine zv_iconst K 0 156 dX4_keep_155 rfl (by decide) ?_
  refine zv_aload_n K 157 dX4_keep_156 rfl rfl ?_
  refine zm_get (v := .ref (b 18)) K 18 160 dX4_keep_157 rfl (by decide) zw_2_206 rfl ?_
  refine zv_sipush K 630 163 dX4_keep_160 rfl (by decide) ?_
  refine zv_bipush K 90 165 dX4_keep_163 rfl (by decide) ?_
  refine zv_cS0 K (As := [.ref (b 12), .int 0, .ref (b 18), .int 630, .int 90]) (rest := []) 5 168 (kX4_copy_k12 l D ty b (mkc (mkc (mkc (mkc (mkc (mkc (mkc (zmF (zmF (zmF (zmO τ 16 1) 17 0 (τ.1 0)) 17 1 (τ.1 3)) 17 2 (τ.1 4)) 5 0) 6 90) 7 180) 8 270) 9 360) 10 450) 11 540)) dX4_keep_165 rfl zw_3_199 zw_3_200 zw_1_5 zw_3_201 ⟨rfl, rfl⟩ zh_yX4_copy ⟨by decide, by decide⟩ rfl rfl (zle rfl) rfl ?_
  refine zv_aload_n K 169 dX4_keep_168 rfl rfl ?_
  refine zm_get (v := .ref (b 13)) K 13 172 dX4_keep_169 rfl (by decide) zw_2_201 rfl ?_
  refine zv_iconst K 0 173 dX4_keep_172 rfl (by decide) ?_
  refine zv_aload_n K 174 dX4_keep_173 rfl rfl ?_
  refine zm_get (v := .ref (b 18)) K 18 177 dX4_keep_174 rfl (by decide) zw_2_206 rfl ?_
  refine zv_sipush K 720 180 dX4_keep_177 rfl (by decide) ?_
  refine zv_bipush K 90 182 dX4_keep_180 rfl (by decide) ?_
  refine zv_cS0 K (As := [.ref (b 13), .int 0, .ref (b 18), .int 720, .int 90]) (rest := []) 5 185 (kX4_copy_k13 l D ty b (mkc (mkc (mkc (mkc (mkc (mkc (mkc (mkc (zmF (zmF (zmF (zmO τ 16 1) 17 0 (τ.1 0)) 17 1 (τ.1 3)) 17 2 (τ.1 4)) 5 0) 6 90) 7 180) 8 270) 9 360) 10 450) 11 540) 12 630)) dX4_keep_182 rfl zw_3_199 zw_3_200 zw_1_5 zw_3_201 ⟨rfl, rfl⟩ zh_yX4_copy ⟨by decide, by decide⟩ rfl rfl (zle rfl) rfl ?_
  refine zv_aload_n K 186 dX4_keep_185 rfl rfl ?_
  refine zm_get (v := .ref (b 14)) K 14 189 dX4_keep_186 rfl (by decide) zw_2_202 rfl ?_
  refine zv_iconst K 0 190 dX4_keep_189 rfl (by decide) ?_
  refine zv_aload_n K 191 dX4_keep_190 rfl rfl ?_
  refine zm_get (v := .ref (b 18)) K 18 194 dX4_keep_191 rfl (by decide) zw_2_206 rfl ?_
  refine zv_sipush K 810 197 dX4_keep_194 rfl (by decide) ?_
  refine zv_bipush K 90 199 dX4_keep_197 rfl (by decide) ?_
  refine zv_cS0 K (As := [.ref (b 14), .int 0, .ref (b 18), .int 810, .int 90]) (rest := []) 5 202 (kX4_copy_k14 l D ty b (mkc (mkc (mkc (mkc (mkc (mkc (mkc (mkc (mkc (zmF (zmF (zmF (zmO τ 16 1) 17 0 (τ.1 0)) 17 1 (τ.1 3)) 17 2 (τ.1 4)) 5 0) 6 90) 7 180) 8 270) 9 360) 10 450) 11 540) 12 630) 13 720)) dX4_keep_199 rfl zw_3_199 zw_3_200 zw_1_5 zw_3_201 ⟨rfl, rfl⟩ zh_yX4_copy ⟨by decide, by decide⟩ rfl rfl (zle rfl) rfl ?_
  refine zv_aload_n K 203 dX4_keep_202 rfl rfl ?_
  refine zm_get (v := .ref (b 15)) K 15 206 dX4_keep_203 rfl (by decide) zw_2_203 rfl ?_
  refine zv_iconst K 0 207 dX4_keep_206 rfl (by decide) ?_
  refine zv_aload_n K 208 dX4_keep_207 rfl rfl ?_
  refine zm_get (v := .ref (b 18)) K 18 211 dX4_keep_208 rfl (by decide) zw_2_206 rfl ?_
  refine zv_sipush K 900 214 dX4_keep_211 rfl (by decide) ?_
  refine zv_bipush K 90 216 dX4_keep_214 rfl (by decide) ?_
  refine zv_cS0 K (As := [.ref (b 15), .int 0, .ref (b 18), .int 900, .int 90]) (rest := []) 5 219 (kX4_copy_k15 l D ty b (mkc (mkc (mkc (mkc (mkc (mkc (mkc (mkc (mkc (mkc (zmF (zmF (zmF (zmO τ 16 1) 17 0 (τ.1 0)) 17 1 (τ.1 3)) 17 2 (τ.1 4)) 5 0) 6 90) 7 180) 8 270) 9 360) 10 450) 11 540) 12 630) 13 720) 14 810)) dX4_keep_216 rfl zw_3_199 zw_3_200 zw_1_5 zw_3_201 ⟨rfl, rfl⟩ zh_yX4_copy ⟨by decide, by decide⟩ rfl rfl (zle rfl) rfl ?_
  refine zv_iconst K 1 220 dX4_keep_219 rfl (by decide) ?_
  exact zv_iret K T dX4_keep_220 (⟨by simp only [fX4_keep], by simp only [fX4_keep]⟩)

def fX4_back (τ : zM) : Int32 × zM :=
  if (τ.1 16) = 0 then
    ((-4), τ)
  else
    (1, (mbc (mbc (mbc (mbc (mbc (mbc (mbc (mbc (mbc (mbc (mbc (zmO (zmO (zmO τ 0 (τ.2 17 0)) 3 (τ.2 17 1)) 4 (τ.2 17 2)) 5 0) 6 90) 7 180) 8 270) 9 360) 10 450) 11 540) 12 630) 13 720) 14 810) 15 900))
set_option maxHeartbeats 4000000 in
set_option maxRecDepth 100000 in
theorem kX4_back (l : Launch) (D : va_G) (ty : zTy) (b : Nat → Nat) (τ : zM) : zv_ct l D ty yX4_back cX4_back 1 (some .int) (zR 1 25) [.ref (b 0)] (zm b ty τ) (fun v_ w_ => v_ = some (.int (fX4_back τ).1) ∧ w_ = zm b ty (fX4_back τ).2) := by
  refine zv_open (by decide) rfl rfl [some (.ref (b 0))] (by simp [zv_one, Value.category]) (zle rfl) rfl ?_
  intro k K T
  refine zv_aload_n K 1 dX4_back_0 rfl rfl ?_
  refine zm_get (v := .int (τ.1 16)) K 16 4 dX4_back_1 rfl (by decide) zw_2_204 rfl ?_
  refine zv_if_ne K 10 7 dX4_back_4 (by decide) rfl (fun h1 => ?_) (fun h1 => ?_)
  · skip
    refine zv_aload_n K 11 dX4_back_10 rfl rfl ?_
    refine zv_aload_n K 12 dX4_back_11 rfl rfl ?_
    refine zm_get (v := .ref (b 17)) K 17 15 dX4_back_12 rfl (by decide) zw_2_205 rfl ?_
    refine zv_iconst K 0 16 dX4_back_15 rfl (by decide) ?_
    refine zv_iald (F := τ.2 17) K 12 0 17 dX4_back_16 rfl (zm_at (p := 12) (j := 17) rfl) rfl (by decide) (by decide) ?_
    refine zm_put K 0 20 (zmO τ 0 (τ.2 17 0)) dX4_back_17 rfl (by decide) zw_2_188 rfl rfl rfl rfl zm_O0 ?_
    refine zv_aload_n K 21 dX4_back_20 rfl rfl ?_
    refine zv_aload_n K 22 dX4_back_21 rfl rfl ?_
    refine zm_get (v := .ref (b 17)) K 17 25 dX4_back_22 rfl (by decide) zw_2_205 rfl ?_
    refine zv_iconst K 1 26 dX4_back_25 rfl (by decide) ?_
    refine zv_iald (F := τ.2 17) K 12 1 27 dX4_back_26 rfl (zm_at (p := 12) (j := 17) rfl) rfl (by decide) (by decide) ?_
    refine zm_put K 3 30 (zmO (zmO τ 0 (τ.2 17 0)) 3 (τ.2 17 1)) dX4_back_27 rfl (by decide) zw_2_191 rfl rfl rfl rfl zm_O3 ?_
    refine zv_aload_n K 31 dX4_back_30 rfl rfl ?_
    refine zv_aload_n K 32 dX4_back_31 rfl rfl ?_
    refine zm_get (v := .ref (b 17)) K 17 35 dX4_back_32 rfl (by decide) zw_2_205 rfl ?_
    refine zv_iconst K 2 36 dX4_back_35 rfl (by decide) ?_
    refine zv_iald (F := τ.2 17) K 12 2 37 dX4_back_36 rfl (zm_at (p := 12) (j := 17) rfl) rfl (by decide) (by decide) ?_
    refine zm_put K 4 40 (zmO (zmO (zmO τ 0 (τ.2 17 0)) 3 (τ.2 17 1)) 4 (τ.2 17 2)) dX4_back_37 rfl (by decide) zw_2_192 rfl rfl rfl rfl zm_O4 ?_
    refine zv_aload_n K 41 dX4_back_40 rfl rfl ?_
    refine zm_get (v := .ref (b 18)) K 18 44 dX4_back_41 rfl (by decide) zw_2_206 rfl ?_
    refine zv_iconst K 0 45 dX4_back_44 rfl (by decide) ?_
    refine zv_aload_n K 46 dX4_back_45 rfl rfl ?_
    refine zm_get (v := .ref (b 5)) K 5 49 dX4_back_46 rfl (by decide) zw_2_193 rfl ?_
    refine zv_iconst K 0 50 dX4_back_49 rfl (by decide) ?_
    refine zv_bipush K 90 52 dX4_back_50 rfl (by decide) ?_
    refine zv_cS0 K (As := [.ref (b 18), .int 0, .ref (b 5), .int 0, .int 90]) (rest := []) 5 55 (kX4_copy_b5 l D ty b (zmO (zmO (zmO τ 0 (τ.2 17 0)) 3 (τ.2 17 1)) 4 (τ.2 17 2))) dX4_back_52 rfl zw_3_199 zw_3_200 zw_1_5 zw_3_201 ⟨rfl, rfl⟩ zh_yX4_copy ⟨by decide, by decide⟩ rfl rfl (zle rfl) rfl ?_
    refine zv_aload_n K 56 dX4_back_55 rfl rfl ?_
    refine zm_get (v := .ref (b 18)) K 18 59 dX4_back_56 rfl (by decide) zw_2_206 rfl ?_
    refine zv_bipush K 90 61 dX4_back_59 rfl (by decide) ?_
    refine zv_aload_n K 62 dX4_back_61 rfl rfl ?_
    refine zm_get (v := .ref (b 6)) K 6 65 dX4_back_62 rfl (by decide) zw_2_194 rfl ?_
    refine zv_iconst K 0 66 dX4_back_65 rfl (by decide) ?_
    refine zv_bipush K 90 68 dX4_back_66 rfl (by decide) ?_
    refine zv_cS0 K (As := [.ref (b 18), .int 90, .ref (b 6), .int 0, .int 90]) (rest := []) 5 71 (kX4_copy_b6 l D ty b (mbc (zmO (zmO (zmO τ 0 (τ.2 17 0)) 3 (τ.2 17 1)) 4 (τ.2 17 2)) 5 0)) dX4_back_68 rfl zw_3_199 zw_3_200 zw_1_5 zw_3_201 ⟨rfl, rfl⟩ zh_yX4_copy ⟨by decide, by decide⟩ rfl rfl (zle rfl) rfl ?_
    refine zv_aload_n K 72 dX4_back_71 rfl rfl ?_
    refine zm_get (v := .ref (b 18)) K 18 75 dX4_back_72 rfl (by decide) zw_2_206 rfl ?_
    refine zv_sipush K 180 78 dX4_back_75 rfl (by decide) ?_
    refine zv_aload_n K 79 dX4_back_78 rfl rfl ?_
    refine zm_get (v := .ref (b 7)) K 7 82 dX4_back_79 rfl (by decide) zw_2_195 rfl ?_
    refine zv_iconst K 0 83 dX4_back_82 rfl (by decide) ?_
    refine zv_bipush K 90 85 dX4_back_83 rfl (by decide) ?_
    refine zv_cS0 K (As := [.ref (b 18), .int 180, .ref (b 7), .int 0, .int 90]) (rest := []) 5 88 (kX4_copy_b7 l D ty b (mbc (mbc (zmO (zmO (zmO τ 0 (τ.2 17 0)) 3 (τ.2 17 1)) 4 (τ.2 17 2)) 5 0) 6 90)) dX4_back_85 rfl zw_3_199 zw_3_200 zw_1_5 zw_3_201 ⟨rfl, rfl⟩ zh_yX4_copy ⟨by decide, by decide⟩ rfl rfl (zle rfl) rfl ?_
    refine zv_aload_n K 89 dX4_back_88 rfl rfl ?_
    refine zm_get (v := .ref (b 18)) K 18 92 dX4_back_89 rfl (by decide) zw_2_206 rfl ?_
    refine zv_sipush K 270 95 dX4_back_92 rfl (by decide) ?_
    refine zv_aload_n K 96 dX4_back_95 rfl rfl ?_
    refine zm_get (v := .ref (b 8)) K 8 99 dX4_back_96 rfl (by decide) zw_2_196 rfl ?_
    refine zv_iconst K 0 100 dX4_back_99 rfl (by decide) ?_
    refine zv_bipush K 90 102 dX4_back_100 rfl (by decide) ?_
    refine zv_cS0 K (As := [.ref (b 18), .int 270, .ref (b 8), .int 0, .int 90]) (rest := []) 5 105 (kX4_copy_b8 l D ty b (mbc (mbc (mbc (zmO (zmO (zmO τ 0 (τ.2 17 0)) 3 (τ.2 17 1)) 4 (τ.2 17 2)) 5 0) 6 90) 7 180)) dX4_back_102 rfl zw_3_199 zw_3_200 zw_1_5 zw_3_201 ⟨rfl, rfl⟩ zh_yX4_copy ⟨by decide, by decide⟩ rfl rfl (zle rfl) rfl ?_
    refine zv_aload_n K 106 dX4_back_105 rfl rfl ?_
    refine zm_get (v := .ref (b 18)) K 18 109 dX4_back_106 rfl (by decide) zw_2_206 rfl ?_
    refine zv_sipush K 360 112 dX4_back_109 rfl (by decide) ?_
    refine zv_aload_n K 113 dX4_back_112 rfl rfl ?_
    refine zm_get (v := .ref (b 9)) K 9 116 dX4_back_113 rfl (by decide) zw_2_197 rfl ?_
    refine zv_iconst K 0 117 dX4_back_116 rfl (by decide) ?_
    refine zv_bipush K 90 119 dX4_back_117 rfl (by decide) ?_
    refine zv_cS0 K (As := [.ref (b 18), .int 360, .ref (b 9), .int 0, .int 90]) (rest := []) 5 122 (kX4_copy_b9 l D ty b (mbc (mbc (mbc (mbc (zmO (zmO (zmO τ 0 (τ.2 17 0)) 3 (τ.2 17 1)) 4 (τ.2 17 2)) 5 0) 6 90) 7 180) 8 270)) dX4_back_119 rfl zw_3_199 zw_3_200 zw_1_5 zw_3_201 ⟨rfl, rfl⟩ zh_yX4_copy ⟨by decide, by decide⟩ rfl rfl (zle rfl) rfl ?_
    refine zv_aload_n K 123 dX4_back_122 rfl rfl ?_
    refine zm_get (v := .ref (b 18)) K 18 126 dX4_back_123 rfl (by decide) zw_2_206 rfl ?_
    refine zv_sipush K 450 129 dX4_back_126 rfl (by decide) ?_
    refine zv_aload_n K 130 dX4_back_129 rfl rfl ?_
    refine zm_get (v := .ref (b 10)) K 10 133 dX4_back_130 rfl (by decide) zw_2_198 rfl ?_
    refine zv_iconst K 0 134 dX4_back_133 rfl (by decide) ?_
    refine zv_bipush K 90 136 dX4_back_134 rfl (by decide) ?_
    refine zv_cS0 K (As := [.ref (b 18), .int 450, .ref (b 10), .int 0, .int 90]) (rest := []) 5 139 (kX4_copy_b10 l D ty b (mbc (mbc (mbc (mbc (mbc (zmO (zmO (zmO τ 0 (τ.2 17 0)) 3 (τ.2 17 1)) 4 (τ.2 17 2)) 5 0) 6 90) 7 180) 8 270) 9 360)) dX4_back_136 rfl zw_3_199 zw_3_200 zw_1_5 zw_3_201 ⟨rfl, rfl⟩ zh_yX4_copy ⟨by decide, by decide⟩ rfl rfl (zle rfl) rfl ?_
    refine zv_aload_n K 140 dX4_back_139 rfl rfl ?_
    refine zm_get (v := .ref (b 18)) K 18 143 dX4_back_140 rfl (by decide) zw_2_206 rfl ?_
    refine zv_sipush K 540 146 dX4_back_143 rfl (by decide) ?_
    refine zv_aload_n K 147 dX4_back_146 rfl rfl ?_
    refine zm_get (v := .ref (b 11)) K 11 150 dX4_back_147 rfl (by decide) zw_2_199 rfl ?_
    refine zv_iconst K 0 151 dX4_back_150 rfl (by decide) ?_
    refine zv_bipush K 90 153 dX4_back_151 rfl (by decide) ?_
    refine zv_cS0 K (As := [.ref (b 18), .int 540, .ref (b 11), .int 0, .int 90]) (rest := []) 5 156 (kX4_copy_b11 l D ty b (mbc (mbc (mbc (mbc (mbc (mbc (zmO (zmO (zmO τ 0 (τ.2 17 0)) 3 (τ.2 17 1)) 4 (τ.2 17 2)) 5 0) 6 90) 7 180) 8 270) 9 360) 10 450)) dX4_back_153 rfl zw_3_199 zw_3_200 zw_1_5 zw_3_201 ⟨rfl, rfl⟩ zh_yX4_copy ⟨by decide, by decide⟩ rfl rfl (zle rfl) rfl ?_
    refine zv_aload_n K 157 dX4_back_156 rfl rfl ?_
    refine zm_get (v := .ref (b 18)) K 18 160 dX4_back_157 rfl (by decide) zw_2_206 rfl ?_
    refine zv_sipush K 630 163 dX4_back_160 rfl (by decide) ?_
    refine zv_aload_n K 164 dX4_back_163 rfl rfl ?_
    refine zm_get (v := .ref (b 12)) K 12 167 dX4_back_164 rfl (by decide) zw_2_200 rfl ?_
    refine zv_iconst K 0 168 dX4_back_167 rfl (by decide) ?_
    refine zv_bipush K 90 170 dX4_back_168 rfl (by decide) ?_
    refine zv_cS0 K (As := [.ref (b 18), .int 630, .ref (b 12), .int 0, .int 90]) (rest := []) 5 173 (kX4_copy_b12 l D ty b (mbc (mbc (mbc (mbc (mbc (mbc (mbc (zmO (zmO (zmO τ 0 (τ.2 17 0)) 3 (τ.2 17 1)) 4 (τ.2 17 2)) 5 0) 6 90) 7 180) 8 270) 9 360) 10 450) 11 540)) dX4_back_170 rfl zw_3_199 zw_3_200 zw_1_5 zw_3_201 ⟨rfl, rfl⟩ zh_yX4_copy ⟨by decide, by decide⟩ rfl rfl (zle rfl) rfl ?_
    refine zv_aload_n K 174 dX4_back_173 rfl rfl ?_
    refine zm_get (v := .ref (b 18)) K 18 177 dX4_back_174 rfl (by decide) zw_2_206 rfl ?_
    refine zv_sipush K 720 180 dX4_back_177 rfl (by decide) ?_
    refine zv_aload_n K 181 dX4_back_180 rfl rfl ?_
    refine zm_get (v := .ref (b 13)) K 13 184 dX4_back_181 rfl (by decide) zw_2_201 rfl ?_
    refine zv_iconst K 0 185 dX4_back_184 rfl (by decide) ?_
    refine zv_bipush K 90 187 dX4_back_185 rfl (by decide) ?_
    refine zv_cS0 K (As := [.ref (b 18), .int 720, .ref (b 13), .int 0, .int 90]) (rest := []) 5 190 (kX4_copy_b13 l D ty b (mbc (mbc (mbc (mbc (mbc (mbc (mbc (mbc (zmO (zmO (zmO τ 0 (τ.2 17 0)) 3 (τ.2 17 1)) 4 (τ.2 17 2)) 5 0) 6 90) 7 180) 8 270) 9 360) 10 450) 11 540) 12 630)) dX4_back_187 rfl zw_3_199 zw_3_200 zw_1_5 zw_3_201 ⟨rfl, rfl⟩ zh_yX4_copy ⟨by decide, by decide⟩ rfl rfl (zle rfl) rfl ?_
    refine zv_aload_n K 191 dX4_back_190 rfl rfl ?_
    refine zm_get (v := .ref (b 18)) K 18 194 dX4_back_191 rfl (by decide) zw_2_206 rfl ?_
    refine zv_sipush K 810 197 dX4_back_194 rfl (by decide) ?_
    refine zv_aload_n K 198 dX4_back_197 rfl rfl ?_
    refine zm_get (v := .ref (b 14)) K 14 201 dX4_back_198 rfl (by decide) zw_2_202 rfl ?_
    refine zv_iconst K 0 202 dX4_back_201 rfl (by decide) ?_
    refine zv_bipush K 90 204 dX4_back_202 rfl (by decide) ?_
    refine zv_cS0 K (As := [.ref (b 18), .int 810, .ref (b 14), .int 0, .int 90]) (rest := []) 5 207 (kX4_copy_b14 l D ty b (mbc (mbc (mbc (mbc (mbc (mbc (mbc (mbc (mbc (zmO (zmO (zmO τ 0 (τ.2 17 0)) 3 (τ.2 17 1)) 4 (τ.2 17 2)) 5 0) 6 90) 7 180) 8 270) 9 360) 10 450) 11 540) 12 630) 13 720)) dX4_back_204 rfl zw_3_199 zw_3_200 zw_1_5 zw_3_201 ⟨rfl, rfl⟩ zh_yX4_copy ⟨by decide, by decide⟩ rfl rfl (zle rfl) rfl ?_
    refine zv_aload_n K 208 dX4_back_207 rfl rfl ?_
    refine zm_get (v := .ref (b 18)) K 18 211 dX4_back_208 rfl (by decide) zw_2_206 rfl ?_
    refine zv_sipush K 900 214 dX4_back_211 rfl (by decide) ?_
    refine zv_aload_n K 215 dX4_back_214 rfl rfl ?_
    refine zm_get (v := .ref (b 15)) K 15 218 dX4_back_215 rfl (by decide) zw_2_203 rfl ?_
    refine zv_iconst K 0 219 dX4_back_218 rfl (by decide) ?_
    refine zv_bipush K 90 221 dX4_back_219 rfl (by decide) ?_
    refine zv_cS0 K (As := [.ref (b 18), .int 900, .ref (b 15), .int 0, .int 90]) (rest := []) 5 224 (kX4_copy_b15 l D ty b (mbc (mbc (mbc (mbc (mbc (mbc (mbc (mbc (mbc (mbc (zmO (zmO (zmO τ 0 (τ.2 17 0)) 3 (τ.2 17 1)) 4 (τ.2 17 2)) 5 0) 6 90) 7 180) 8 270) 9 360) 10 450) 11 540) 12 630) 13 720) 14 810)) dX4_back_221 rfl zw_3_199 zw_3_200 zw_1_5 zw_3_201 ⟨rfl, rfl⟩ zh_yX4_copy ⟨by decide, by decide⟩ rfl rfl (zle rfl) rfl ?_
    refine zv_iconst K 1 225 dX4_back_224 rfl (by decide) ?_
    exact zv_iret K T dX4_back_225 (⟨by simp only [fX4_back, if_neg h1], by simp only [fX4_back, if_neg h1]⟩)
  · skip
    refine zv_bipush K (-4) 9 dX4_back_7 rfl (by decide) ?_
    exact zv_iret K T dX4_back_9 (⟨by simp only [fX4_back, if_pos h1], by simp only [fX4_back, if_pos h1]⟩)

