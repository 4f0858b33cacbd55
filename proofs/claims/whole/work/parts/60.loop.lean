set_option maxRecDepth 100000 in
set_option maxHeartbeats 4000000 in
/-- THE LAW'S LOOP -/
theorem law_loop {k : zKx} {l : Launch} {D : va_G} {ty : zTy} {bS L : Nat} {xs : Nat → Int32} {c n : Nat} (K : zv_ok (zs k c n) l D room_1 cL_law 4 RL ty) (S : zl_ok (zs k c n) bS L xs) (T : zl_rt k bS) (hc : c ≤ 600000) (hn : n ≤ 7302250) (hL : L ≤ 3072) {a b : Nat → Nat} : ∀ (d i : Nat), i ≤ L + 6 → L + 6 < i + d → ∀ (σ : zC) (τ : zM), Inv σ τ → zv (zs k c n) 18 [some (.ref bS), some (.ref (a 0)), some (.ref (b 0)), some (.int (nI i))] [] (zm b ty τ ++ zc a ty σ) := by
  intro d
  induction d with
  | zero =>
    intro i h1 h2
    exact absurd h2 (by omega)
  | succ d ih =>
    intro i h1 h2 σ τ h
    refine zv_iload_n K 19 dL_law_18 rfl rfl ?_
    refine zv_aload_n K 20 dL_law_19 rfl rfl ?_
    refine zl_len K S 21 dL_law_20 rfl ?_
    refine zv_bipush K (nI 6) 23 dL_law_21 rfl (by decide) ?_
    refine zv_isub K 24 dL_law_23 rfl ?_
    refine zv_icmp_gt K 1065 27 dL_law_24 (by decide) rfl (fun _ => ?_) (fun hz => ?_)
    · refine zv_iconst K 1 1066 dL_law_1065 rfl (by decide) ?_
      exact zl_ret K T dL_law_1066 hc hn
    have hi : i + 6 ≤ L := by
      rcases Nat.lt_or_ge L 6 with q | q
      · refine absurd ?_ hz
        have e1 := pk_sneg (a := L) (b := 6) (by omega) q
        have e2 := nI_pos' (n := i) (by omega)
        rw [Int32.lt_iff_toInt_lt] at e1 ⊢
        rw [Int32.le_iff_toInt_le] at e2
        omega
      · rw [pk_sub q, nI_ltI (by omega) (by omega)] at hz
        omega
    refine zv_aload_n K 28 dL_law_27 rfl rfl ?_
    refine zv_iload_n K 29 dL_law_28 rfl rfl ?_
    refine zl_ld K S i 30 dL_law_29 rfl rfl (by omega) (by omega) ?_
    refine zv_bipush K 31 32 dL_law_30 rfl (by decide) ?_
    refine zv_iand K 33 dL_law_32 rfl ?_
    have kk : ∀ (σ2 : zC) (τ2 : zM), Inv σ2 τ2 → zv (zs k c n) 1059 [some (.ref bS), some (.ref (a 0)), some (.ref (b 0)), some (.int (nI i))] [] (zm b ty τ2 ++ zc a ty σ2) := by
      intro σ2 τ2 h2'
      refine zv_iinc K (nI (i + 6)) [some (.ref bS), some (.ref (a 0)), some (.ref (b 0)), some (.int (nI (i + 6)))] 1062 dL_law_1059 rfl rfl (nI_add i 6) rfl ?_
      refine zv_goto K 18 dL_law_1062 (by decide) ?_
      exact ih (i + 6) (by omega) (by omega) σ2 τ2 h2'
    generalize xs i &&& 31 = v
    by_cases hv : v.toInt < 0 ∨ 22 < v.toInt
    · exact zv_tableOut K 1059 dL_law_33 hv (by decide) (kk σ τ h)
    have hv2 : v.toInt = 0 ∨ v.toInt = 1 ∨ v.toInt = 2 ∨ v.toInt = 3 ∨ v.toInt = 4 ∨ v.toInt = 5 ∨ v.toInt = 6 ∨ v.toInt = 7 ∨ v.toInt = 8 ∨ v.toInt = 9 ∨ v.toInt = 10 ∨ v.toInt = 11 ∨ v.toInt = 12 ∨ v.toInt = 13 ∨ v.toInt = 14 ∨ v.toInt = 15 ∨ v.toInt = 16 ∨ v.toInt = 17 ∨ v.toInt = 18 ∨ v.toInt = 19 ∨ v.toInt = 20 ∨ v.toInt = 21 ∨ v.toInt = 22 := by omega
    rcases hv2 with hv2 | hv2 | hv2 | hv2 | hv2 | hv2 | hv2 | hv2 | hv2 | hv2 | hv2 | hv2 | hv2 | hv2 | hv2 | hv2 | hv2 | hv2 | hv2 | hv2 | hv2 | hv2 | hv2
    · exact zv_tableIn K 140 dL_law_33 (by omega) (by omega) (by rw [hv2]; rfl) (by decide) (law_day K S hL hi h kk)
    · exact zv_tableIn K 163 dL_law_33 (by omega) (by omega) (by rw [hv2]; rfl) (by decide) (law_rule K S hL hi h kk)
    · exact zv_tableIn K 196 dL_law_33 (by omega) (by omega) (by rw [hv2]; rfl) (by decide) (law_stake K S hL hi h kk)
    · exact zv_tableIn K 249 dL_law_33 (by omega) (by omega) (by rw [hv2]; rfl) (by decide) (law_work K S hL hi h kk)
    · exact zv_tableIn K 282 dL_law_33 (by omega) (by omega) (by rw [hv2]; rfl) (by decide) (law_nick K S hL hi h kk)
    · exact zv_tableIn K 325 dL_law_33 (by omega) (by omega) (by rw [hv2]; rfl) (by decide) (law_give K S hL hi h kk)
    · exact zv_tableIn K 358 dL_law_33 (by omega) (by omega) (by rw [hv2]; rfl) (by decide) (law_view K S hL hi h kk)
    · exact zv_tableIn K 411 dL_law_33 (by omega) (by omega) (by rw [hv2]; rfl) (by decide) (law_sell K S hL hi h kk)
    · exact zv_tableIn K 474 dL_law_33 (by omega) (by omega) (by rw [hv2]; rfl) (by decide) (law_dig K S hL hi h kk)
    · exact zv_tableIn K 527 dL_law_33 (by omega) (by omega) (by rw [hv2]; rfl) (by decide) (law_withdraw K S hL hi h kk)
    · exact zv_tableIn K 550 dL_law_33 (by omega) (by omega) (by rw [hv2]; rfl) (by decide) (law_fact K S hL hi h kk)
    · exact zv_tableIn K 583 dL_law_33 (by omega) (by omega) (by rw [hv2]; rfl) (by decide) (law_owner K S hL hi h kk)
    · exact zv_tableIn K 636 dL_law_33 (by omega) (by omega) (by rw [hv2]; rfl) (by decide) (law_claim K S hL hi h kk)
    · exact zv_tableIn K 689 dL_law_33 (by omega) (by omega) (by rw [hv2]; rfl) (by decide) (law_of K S hL hi h kk)
    · exact zv_tableIn K 742 dL_law_33 (by omega) (by omega) (by rw [hv2]; rfl) (by decide) (law_share K S hL hi h kk)
    · exact zv_tableIn K 795 dL_law_33 (by omega) (by omega) (by rw [hv2]; rfl) (by decide) (law_feet K S hL hi h kk)
    · exact zv_tableIn K 838 dL_law_33 (by omega) (by omega) (by rw [hv2]; rfl) (by decide) (law_contested K S hL hi h kk)
    · exact zv_tableIn K 881 dL_law_33 (by omega) (by omega) (by rw [hv2]; rfl) (by decide) (law_dug K S hL hi h kk)
    · exact zv_tableIn K 924 dL_law_33 (by omega) (by omega) (by rw [hv2]; rfl) (by decide) (law_due K S hL hi h kk)
    · exact zv_tableIn K 967 dL_law_33 (by omega) (by omega) (by rw [hv2]; rfl) (by decide) (law_changed K S hL hi h kk)
    · exact zv_tableIn K 1010 dL_law_33 (by omega) (by omega) (by rw [hv2]; rfl) (by decide) (law_many K S hL hi h kk)
    · exact zv_tableIn K 1033 dL_law_33 (by omega) (by omega) (by rw [hv2]; rfl) (by decide) (law_keep K S hL hi h kk)
    · exact zv_tableIn K 1046 dL_law_33 (by omega) (by omega) (by rw [hv2]; rfl) (by decide) (law_back K S hL hi h kk)
theorem zv_nest_in : ∀ w ∈ zv_nest, w ∈ lw_tbl := by decide +kernel
theorem zv_nest_on : ∀ w ∈ zv_nest, w.onTables = true := by decide +kernel
set_option maxRecDepth 100000 in
set_option maxHeartbeats 4000000 in
/-- THE LAW, from its entry -/
theorem whole_start {p : Program} {e : Env} {s : State} {m : MethodId} {below : List Frame} {meth : Method} {c : Code} (l : Launch) {b L : Nat} {xs : Nat → Int32} (hL : L ≤ 3072) (C0 : lw_At p s m meth c b L xs) : W p l e room_1 s m #[Value.ref b] below meth c s.heap [] 0 0 (lw_Z below #[Value.ref b] s) (entryFrame m ([Value.ref b] : List Value).toArray 4) := by
  obtain ⟨hx, hb, hr, hml, hown, hts, hX, hbl, hlocks, hgv⟩ := id C0
  have hts2 : ∀ w ∈ zT, w.before #[Value.ref b] s = true := fun w hw => hts w (zT_in w hw)
  obtain ⟨c0, iS0, hKn0⟩ := u_known (C := RX0) (T := TX0) (N := 5) (n := 5) hts2 zy_X0 (hts2 _ zw_1_17)
  obtain ⟨c1, iS1, hKn1⟩ := u_known (C := RX1) (T := TX1) (N := 12) (n := 12) hts2 zy_X1 (hts2 _ zw_1_52)
  obtain ⟨c2, iS2, hKn2⟩ := u_known (C := RX2) (T := TX2) (N := 3) (n := 3) hts2 zy_X2 (hts2 _ zw_1_45)
  obtain ⟨c3, iS3, hKn3⟩ := u_known (C := RX3) (T := TX3) (N := 7) (n := 7) hts2 zy_X3 (hts2 _ zw_1_9)
  obtain ⟨c4, iS4, hKn4⟩ := u_known (C := RX4) (T := TX4) (N := 31) (n := 31) hts2 zy_X4 (hts2 _ zw_2_183)
  obtain ⟨D, hKc⟩ : ∃ D : va_G, ∀ (k : Nat) (q : vw_C), vwCl[k]? = some q → u_Kn s q.1 q.2.1 q.2.2 (D.1 k) (D.2 k) := by
    refine ⟨(fun k => if k = 0 then c0 else if k = 1 then c1 else if k = 2 then c2 else if k = 3 then c3 else c4, fun k => if k = 0 then iS0 else if k = 1 then iS1 else if k = 2 then iS2 else if k = 3 then iS3 else iS4), ?_⟩
    intro k q hq
    match k, hq with
    | 0, hq => cases hq; exact hKn0
    | 1, hq => cases hq; exact hKn1
    | 2, hq => cases hq; exact hKn2
    | 3, hq => cases hq; exact hKn3
    | 4, hq => cases hq; exact hKn4
    | k + 5, hq => simp [vwCl] at hq
  have hAO : va_AO RX1 s := va_AO.of (hts (.arrayOver (.object RX1)) (by decide +kernel))
  obtain ⟨cI, kI, compI, i1, i2, i3⟩ := Cond.arrayClass_spec (hts2 _ zw_1_43)
  obtain ⟨cZ, kZ, compZ, j1, j2, j3⟩ := Cond.arrayClass_spec (hts2 _ zw_3_42)
  obtain ⟨compC, cC, kC, f1, f2, f3, f4, f5⟩ := Cond.arrayOver_spec hAO
  have hK : zv_K D (cI, cZ, cC) s := by
    refine ⟨⟨hKc, fun k q hq => ?_⟩, fun w hw => va_Nw.of (zv_nest_on w hw) (hts w (zv_nest_in w hw))⟩
    match k, hq with
    | 0, hq => cases hq; exact ⟨fun n z => ⟨fun k h => (by cases h), kI, i2, compI, i3⟩, i1⟩
    | 1, hq => cases hq; exact ⟨fun n z => ⟨fun k h => (by cases h), kZ, j2, compZ, j3⟩, j1⟩
    | 2, hq => cases hq; exact ⟨fun n z => ⟨fun k h => (by cases h), kC, f3, compC, f4⟩, kC, compC, f3, f4, f1, f5⟩
    | k + 3, hq => simp [zv_tys] at hq
  rw [lg_entry_eq]
  have K0 : zv_ok (zs (p, l, e, room_1, s, m, #[Value.ref b], below, meth, c, D, fun q : Nat => s.heap.size ≤ q, s.heap, 0, 0, lw_Z below #[Value.ref b] s) 0 0) l D room_1 cL_law 4 RL (cI, cZ, cC) := ⟨rfl, rfl, rfl, hx, hb, hml, hown, hts2, hK, fun q h => h, hlocks, Nat.zero_le _, Nat.zero_le _⟩
  have hO : zn_ao (p, l, e, room_1, s, m, #[Value.ref b], below, meth, c, D, fun q : Nat => s.heap.size ≤ q, s.heap, 0, 0, lw_Z below #[Value.ref b] s) := hAO
  have S0 : ∀ c1 n1, zl_ok (zs (p, l, e, room_1, s, m, #[Value.ref b], below, meth, c, D, fun q : Nat => s.heap.size ≤ q, s.heap, 0, 0, lw_Z below #[Value.ref b] s) c1 n1) b L xs := fun _ _ => ⟨hX, hbl, Nat.not_le.mpr hbl⟩
  have T0 : zl_rt (p, l, e, room_1, s, m, #[Value.ref b], below, meth, c, D, fun q : Nat => s.heap.size ≤ q, s.heap, 0, 0, lw_Z below #[Value.ref b] s) b := ⟨rfl, hb, hr, rfl, rfl, rfl⟩
  have body : zv (zs (p, l, e, room_1, s, m, #[Value.ref b], below, meth, c, D, fun q : Nat => s.heap.size ≤ q, s.heap, 0, 0, lw_Z below #[Value.ref b] s) 0 0) 0 [some (.ref b), none, none, none] [] [] := by
    generalize ((p, l, e, room_1, s, m, #[Value.ref b], below, meth, c, D, fun q : Nat => s.heap.size ≤ q, s.heap, 0, 0, lw_Z below #[Value.ref b] s) : zKx) = k at K0 hO S0 T0
    generalize (cI, cZ, cC) = ty at K0
    refine zn_new K0 (ci := 3) (C := RX3) (T := TX3) (N := 7) [.null, .null, .int 0, .int 0, .int 0, .null, .null] 1 7 3 dL_law_0 rfl zy_X3 tyX3_ok zw_1_8 zw_1_9 zw_1_1 rfl (fun j hj => by match j, hj with
      | 0, _ => rfl
      | 1, _ => rfl
      | 2, _ => rfl
      | 3, _ => rfl
      | 4, _ => rfl
      | 5, _ => rfl
      | 6, _ => rfl
      | j + 7, h => omega) rfl rfl (zle rfl) (zle rfl) (fun q0 => ?_)
    have K := zs_ok K0 (c2 := 1) (n2 := 7) (zle rfl) (zle rfl)
    refine zv_dup K 4 dL_law_3 rfl rfl ?_
    refine zn_cI (ws := []) K hO 51 2891 7 (kX3_init l D ty q0) dL_law_4 rfl zw_1_10 zw_1_11 zw_1_1 zw_1_12 ⟨rfl, rfl⟩ rfl (by decide +kernel) ⟨zle rfl, zle rfl⟩ (zle rfl) rfl rfl rfl (zle rfl) (zle rfl) (fun v w' h => ?_)
    obtain ⟨rfl, a, rfl, rfl⟩ := h
    have K := zs_ok K0 (c2 := 51) (n2 := 2891) (zle rfl) (zle rfl)
    refine zv_ws (ws2 := zc a ty σ0) rfl ?_
    refine zv_astore_n K [some (.ref b), some (.ref (a 0)), none, none] 8 dL_law_7 rfl rfl (zlt rfl) ?_
    refine zn_new K (ci := 4) (C := RX4) (T := TX4) (N := 31) [.int 0, .int 0, .int 0, .int 0, .int 0, .null, .null, .null, .null, .null, .null, .null, .null, .null, .null, .null, .int 0, .null, .null, .null, .null, .null, .null, .null, .null, .null, .null, .null, .null, .null, .null] 52 2922 11 dL_law_8 rfl zy_X4 tyX4_ok zw_2_182 zw_2_183 zw_1_5 rfl (fun j hj => by match j, hj with
      | 0, _ => rfl
      | 1, _ => rfl
      | 2, _ => rfl
      | 3, _ => rfl
      | 4, _ => rfl
      | 5, _ => rfl
      | 6, _ => rfl
      | 7, _ => rfl
      | 8, _ => rfl
      | 9, _ => rfl
      | 10, _ => rfl
      | 11, _ => rfl
      | 12, _ => rfl
      | 13, _ => rfl
      | 14, _ => rfl
      | 15, _ => rfl
      | 16, _ => rfl
      | 17, _ => rfl
      | 18, _ => rfl
      | 19, _ => rfl
      | 20, _ => rfl
      | 21, _ => rfl
      | 22, _ => rfl
      | 23, _ => rfl
      | 24, _ => rfl
      | 25, _ => rfl
      | 26, _ => rfl
      | 27, _ => rfl
      | 28, _ => rfl
      | 29, _ => rfl
      | 30, _ => rfl
      | j + 31, h => omega) rfl rfl (zle rfl) (zle rfl) (fun q1 => ?_)
    have K := zs_ok K0 (c2 := 52) (n2 := 2922) (zle rfl) (zle rfl)
    refine zv_dup K 12 dL_law_11 rfl rfl ?_
    refine zn_cI K hO 77 6866 15 (kX4_init l D ty q1) dL_law_12 rfl zw_2_184 zw_2_185 zw_1_5 zw_2_186 ⟨rfl, rfl⟩ rfl (by decide +kernel) ⟨zle rfl, zle rfl⟩ (zle rfl) rfl rfl rfl (zle rfl) (zle rfl) (fun v w' h => ?_)
    obtain ⟨rfl, b2, rfl, rfl⟩ := h
    have K := zs_ok K0 (c2 := 77) (n2 := 6866) (zle rfl) (zle rfl)
    refine zv_astore_n K [some (.ref b), some (.ref (a 0)), some (.ref (b2 0)), none] 16 dL_law_15 rfl rfl (zlt rfl) ?_
    refine zv_iconst K 0 17 dL_law_16 rfl (by decide) ?_
    refine zv_istore_n K [some (.ref b), some (.ref (a 0)), some (.ref (b2 0)), some (.int (nI 0))] 18 dL_law_17 rfl rfl (zlt rfl) ?_
    refine zn_swap ?_
    exact law_loop K (S0 77 6866) T0 (zle rfl) (zle rfl) hL (L + 7) 0 (by omega) (by omega) σ0 τ0 Inv_0
  exact body s.heap [] _ (fun k q h => by simp at h) ⟨fun i j p q h => by simp at h, fun k q h => by simp at h⟩ va_S.rf (zv_entry (av := [.ref b]) (n := 4) (by simp [zv_one, Value.category]) (zle rfl))
