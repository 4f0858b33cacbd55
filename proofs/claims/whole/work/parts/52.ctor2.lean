/-! the court's constructor -/
def σ0 : zC := (fun j f => if j = 0 then (if f = 3 then 5 else if f = 4 then 10 else 0) else 0, fun _ _ => 0)
def zad (l : List Nat) (c s : Nat → Nat) : Nat → Nat := fun j => if j < 11 then l.getD j 0 else if j < 31 then c (j - 11) else s (j - 31)
def zqC (c s : Nat → Nat) (j : Nat) : Nat × va_E := (c j, .inr (1, [.int 0, .int 0, .int 0, .int 0, .int 0, .int 0, .int 0, .int 0, .int 0, .int 0, .int 0, .ref (s j)]))
def zqS (s : Nat → Nat) (ty : zTy) (j : Nat) : Nat × va_E := (s j, .inl (ty.1, 10, .inl (fun _ => 0)))
theorem zq_perm (c s : Nat → Nat) (ty : zTy) : ∀ i, (zq c s ty i).Perm ((List.range i).map (zqC c s) ++ (List.range i).map (zqS s ty))
  | 0 => List.Perm.refl _
  | i + 1 => by
    rw [zq_succ, List.range_succ, List.map_append, List.map_append]
    have ih := zq_perm c s ty i
    refine (ih.append_right _).trans ?_
    show (((List.range i).map (zqC c s) ++ (List.range i).map (zqS s ty)) ++ ([zqC c s i] ++ [zqS s ty i])).Perm (((List.range i).map (zqC c s) ++ [zqC c s i]) ++ ((List.range i).map (zqS s ty) ++ [zqS s ty i]))
    rw [List.append_assoc, List.append_assoc]
    refine List.Perm.append_left _ ?_
    rw [← List.append_assoc, ← List.append_assoc]
    exact (List.perm_append_comm).append_right _
theorem zn_perm {k : zKx} {pc : Nat} {lv : List (Option Value)} {st : List Value} {ws ws2 : va_W} (h : ws.Perm ws2) (kk : zv k pc lv st ws2) : zv k pc lv st ws := by
  obtain ⟨p, l', e', R', s, m, args, below, meth, c0, D', A, H0, cells, slots, Q⟩ := k
  intro H locs ls hP hD hS hl
  have hnd : ws.Pairwise (fun p q => p.1 ≠ q.1) := by
    rw [List.pairwise_iff_getElem]
    intro i j hi hj hij q
    have := hD.1 i j _ _ (List.getElem?_eq_getElem hi) (List.getElem?_eq_getElem hj) q
    omega
  have hnd2 : ws2.Pairwise (fun p q => p.1 ≠ q.1) := (h.pairwise_iff (fun h => Ne.symm h)).mp hnd
  rw [List.pairwise_iff_getElem] at hnd2
  refine kk H locs ls (fun i q hq => ?_) ⟨fun i j p q h1 h2 h3 => ?_, fun i q hq => ?_⟩ hS hl
  · obtain ⟨j, hj⟩ := List.getElem?_of_mem (h.mem_iff.mpr (List.mem_of_getElem? hq))
    exact hP j q hj
  · obtain ⟨l1, g1⟩ := List.getElem?_eq_some_iff.mp h1
    obtain ⟨l2, g2⟩ := List.getElem?_eq_some_iff.mp h2
    rcases Nat.lt_trichotomy i j with z | z | z
    · exact absurd (by rw [g1, g2, h3]) (hnd2 i j l1 l2 z)
    · exact z
    · exact absurd (by rw [g1, g2, h3]) (hnd2 j i l2 l1 z)
  · obtain ⟨j, hj⟩ := List.getElem?_of_mem (h.mem_iff.mpr (List.mem_of_getElem? hq))
    exact hD.2 j q hj
theorem zc0_eq (a q1 q2 q3 q4 q5 q6 q7 q8 q9 q10 : Nat) (c s : Nat → Nat) (ty : zTy) : zc (zad [a, q1, q4, q7, q2, q3, q5, q6, q8, q9, q10] c s) ty σ0 = [(a, .inr (3, [.ref q1, .ref q4, .int 0, .int 5, .int 10, .ref q7, .ref q10])), (q1, .inr (0, [.int 0, .int 0, .int 0, .ref q2, .ref q3])), (q4, .inr (0, [.int 0, .int 0, .int 0, .ref q5, .ref q6])), (q7, .inr (2, [.int 0, .ref q8, .ref q9])), (q2, .inl (ty.1, 990, .inl (fun _ => 0))), (q3, .inl (ty.1, 90, .inl (fun _ => 0))), (q5, .inl (ty.1, 990, .inl (fun _ => 0))), (q6, .inl (ty.1, 90, .inl (fun _ => 0))), (q8, .inl (ty.2.2, 20, .inr (.inr (.inr (.inr (fun i => some ((zad [a, q1, q4, q7, q2, q3, q5, q6, q8, q9, q10] c s) (i + 11)))))))), (q9, .inl (ty.1, 11, .inl (fun _ => 0))), (q10, .inl (ty.1, 240, .inl (fun _ => 0)))] ++ ((List.range 20).map (zqC c s) ++ (List.range 20).map (zqS s ty)) := by
  unfold zc
  have e : List.range 51 = List.range 11 ++ ((List.range 20).map (· + 11) ++ (List.range 20).map (· + 31)) := by decide
  rw [e, List.map_append, List.map_append, List.map_map, List.map_map]
  have e1 : (List.range 20).map ((fun j => ((zad [a, q1, q4, q7, q2, q3, q5, q6, q8, q9, q10] c s) j, zcE (zad [a, q1, q4, q7, q2, q3, q5, q6, q8, q9, q10] c s) ty σ0 j)) ∘ (· + 11)) = (List.range 20).map (zqC c s) := by
    apply List.map_congr_left
    intro j hj
    have hj := List.mem_range.mp hj
    show ((zad [a, q1, q4, q7, q2, q3, q5, q6, q8, q9, q10] c s) (j + 11), zcE (zad [a, q1, q4, q7, q2, q3, q5, q6, q8, q9, q10] c s) ty σ0 (j + 11)) = _
    rw [zcE_cl hj]
    have h1 : (zad [a, q1, q4, q7, q2, q3, q5, q6, q8, q9, q10] c s) (j + 11) = c j := by
      unfold zad
      rw [if_neg (by omega), if_pos (by omega), Nat.add_sub_cancel]
    have h2 : (zad [a, q1, q4, q7, q2, q3, q5, q6, q8, q9, q10] c s) (j + 31) = s j := by
      unfold zad
      rw [if_neg (by omega), if_neg (by omega), Nat.add_sub_cancel]
    unfold zcl zqC
    rw [h1, h2]
    rfl
  have e2 : (List.range 20).map ((fun j => ((zad [a, q1, q4, q7, q2, q3, q5, q6, q8, q9, q10] c s) j, zcE (zad [a, q1, q4, q7, q2, q3, q5, q6, q8, q9, q10] c s) ty σ0 j)) ∘ (· + 31)) = (List.range 20).map (zqS s ty) := by
    apply List.map_congr_left
    intro j hj
    show ((zad [a, q1, q4, q7, q2, q3, q5, q6, q8, q9, q10] c s) (j + 31), zcE (zad [a, q1, q4, q7, q2, q3, q5, q6, q8, q9, q10] c s) ty σ0 (j + 31)) = _
    rw [zcE_sh]
    have h2 : (zad [a, q1, q4, q7, q2, q3, q5, q6, q8, q9, q10] c s) (j + 31) = s j := by
      unfold zad
      rw [if_neg (by omega), if_neg (by omega), Nat.add_sub_cancel]
    unfold zqS
    rw [h2]
    rfl
  rw [e1, e2]
  rfl
theorem zp11 {α : Type} (y0 y1 y2 y3 y4 y5 y6 y7 : α) (r : List α) : (y0 :: y1 :: y2 :: y3 :: y4 :: y5 :: y6 :: y7 :: r).Perm (y0 :: y1 :: y4 :: y7 :: y2 :: y3 :: y5 :: y6 :: r) := by
  refine List.Perm.cons _ (List.Perm.cons _ ?_)
  refine List.Perm.trans (l₂ := y4 :: ([y2, y3] ++ (y5 :: y6 :: y7 :: r))) (List.perm_middle (l₁ := [y2, y3])) (List.Perm.cons _ ?_)
  exact List.perm_middle (l₁ := [y2, y3, y5, y6])
theorem zc0_perm (a q1 q2 q3 q4 q5 q6 q7 q8 q9 q10 : Nat) (c s : Nat → Nat) (ty : zTy) : (((([(a, .inr (3, [.ref q1, .ref q4, .int 0, .int 5, .int 10, .ref q7, .ref q10])), (q1, .inr (0, [.int 0, .int 0, .int 0, .ref q2, .ref q3])), (q2, .inl (ty.1, 990, .inl (fun _ => 0))), (q3, .inl (ty.1, 90, .inl (fun _ => 0))), (q4, .inr (0, [.int 0, .int 0, .int 0, .ref q5, .ref q6])), (q5, .inl (ty.1, 990, .inl (fun _ => 0))), (q6, .inl (ty.1, 90, .inl (fun _ => 0))), (q7, .inr (2, [.int 0, .ref q8, .ref q9])), (q8, .inl (ty.2.2, 20, .inr (.inr (.inr (.inr (fun i => some ((zad [a, q1, q4, q7, q2, q3, q5, q6, q8, q9, q10] c s) (i + 11)))))))), (q9, .inl (ty.1, 11, .inl (fun _ => 0)))] : va_W) ++ zq c s ty 20) ++ [(q10, .inl (ty.1, 240, .inl (fun _ => 0)))]) : va_W).Perm (zc (zad [a, q1, q4, q7, q2, q3, q5, q6, q8, q9, q10] c s) ty σ0) := by
  rw [zc0_eq]
  have h1 : ([(a, .inr (3, [.ref q1, .ref q4, .int 0, .int 5, .int 10, .ref q7, .ref q10])), (q1, .inr (0, [.int 0, .int 0, .int 0, .ref q2, .ref q3])), (q2, .inl (ty.1, 990, .inl (fun _ => 0))), (q3, .inl (ty.1, 90, .inl (fun _ => 0))), (q4, .inr (0, [.int 0, .int 0, .int 0, .ref q5, .ref q6])), (q5, .inl (ty.1, 990, .inl (fun _ => 0))), (q6, .inl (ty.1, 90, .inl (fun _ => 0))), (q7, .inr (2, [.int 0, .ref q8, .ref q9])), (q8, .inl (ty.2.2, 20, .inr (.inr (.inr (.inr (fun i => some ((zad [a, q1, q4, q7, q2, q3, q5, q6, q8, q9, q10] c s) (i + 11)))))))), (q9, .inl (ty.1, 11, .inl (fun _ => 0))), (q10, .inl (ty.1, 240, .inl (fun _ => 0)))] : va_W).Perm ([(a, .inr (3, [.ref q1, .ref q4, .int 0, .int 5, .int 10, .ref q7, .ref q10])), (q1, .inr (0, [.int 0, .int 0, .int 0, .ref q2, .ref q3])), (q4, .inr (0, [.int 0, .int 0, .int 0, .ref q5, .ref q6])), (q7, .inr (2, [.int 0, .ref q8, .ref q9])), (q2, .inl (ty.1, 990, .inl (fun _ => 0))), (q3, .inl (ty.1, 90, .inl (fun _ => 0))), (q5, .inl (ty.1, 990, .inl (fun _ => 0))), (q6, .inl (ty.1, 90, .inl (fun _ => 0))), (q8, .inl (ty.2.2, 20, .inr (.inr (.inr (.inr (fun i => some ((zad [a, q1, q4, q7, q2, q3, q5, q6, q8, q9, q10] c s) (i + 11)))))))), (q9, .inl (ty.1, 11, .inl (fun _ => 0))), (q10, .inl (ty.1, 240, .inl (fun _ => 0)))] : va_W) := zp11 _ _ _ _ _ _ _ _ _
  refine (List.perm_append_comm).trans ?_
  refine List.Perm.trans (l₂ := ([(a, .inr (3, [.ref q1, .ref q4, .int 0, .int 5, .int 10, .ref q7, .ref q10])), (q1, .inr (0, [.int 0, .int 0, .int 0, .ref q2, .ref q3])), (q2, .inl (ty.1, 990, .inl (fun _ => 0))), (q3, .inl (ty.1, 90, .inl (fun _ => 0))), (q4, .inr (0, [.int 0, .int 0, .int 0, .ref q5, .ref q6])), (q5, .inl (ty.1, 990, .inl (fun _ => 0))), (q6, .inl (ty.1, 90, .inl (fun _ => 0))), (q7, .inr (2, [.int 0, .ref q8, .ref q9])), (q8, .inl (ty.2.2, 20, .inr (.inr (.inr (.inr (fun i => some ((zad [a, q1, q4, q7, q2, q3, q5, q6, q8, q9, q10] c s) (i + 11)))))))), (q9, .inl (ty.1, 11, .inl (fun _ => 0))), (q10, .inl (ty.1, 240, .inl (fun _ => 0)))] : va_W) ++ zq c s ty 20) ?_ (h1.append (zq_perm c s ty 20))
  show (([_] ++ ([(a, .inr (3, [.ref q1, .ref q4, .int 0, .int 5, .int 10, .ref q7, .ref q10])), (q1, .inr (0, [.int 0, .int 0, .int 0, .ref q2, .ref q3])), (q2, .inl (ty.1, 990, .inl (fun _ => 0))), (q3, .inl (ty.1, 90, .inl (fun _ => 0))), (q4, .inr (0, [.int 0, .int 0, .int 0, .ref q5, .ref q6])), (q5, .inl (ty.1, 990, .inl (fun _ => 0))), (q6, .inl (ty.1, 90, .inl (fun _ => 0))), (q7, .inr (2, [.int 0, .ref q8, .ref q9])), (q8, .inl (ty.2.2, 20, .inr (.inr (.inr (.inr (fun i => some ((zad [a, q1, q4, q7, q2, q3, q5, q6, q8, q9, q10] c s) (i + 11)))))))), (q9, .inl (ty.1, 11, .inl (fun _ => 0)))] : va_W)) ++ zq c s ty 20).Perm (([(a, .inr (3, [.ref q1, .ref q4, .int 0, .int 5, .int 10, .ref q7, .ref q10])), (q1, .inr (0, [.int 0, .int 0, .int 0, .ref q2, .ref q3])), (q2, .inl (ty.1, 990, .inl (fun _ => 0))), (q3, .inl (ty.1, 90, .inl (fun _ => 0))), (q4, .inr (0, [.int 0, .int 0, .int 0, .ref q5, .ref q6])), (q5, .inl (ty.1, 990, .inl (fun _ => 0))), (q6, .inl (ty.1, 90, .inl (fun _ => 0))), (q7, .inr (2, [.int 0, .ref q8, .ref q9])), (q8, .inl (ty.2.2, 20, .inr (.inr (.inr (.inr (fun i => some ((zad [a, q1, q4, q7, q2, q3, q5, q6, q8, q9, q10] c s) (i + 11)))))))), (q9, .inl (ty.1, 11, .inl (fun _ => 0))), (q10, .inl (ty.1, 240, .inl (fun _ => 0)))] : va_W) ++ zq c s ty 20)
  exact (List.perm_append_comm).append_right _
set_option maxRecDepth 100000 in
set_option maxHeartbeats 4000000 in
theorem kX3_init (l : Launch) (D : va_G) (ty : zTy) (a : Nat) : zn_ct l D ty yX3_init cX3_init 1 ({ frames := 3, cells := 50, slots := 2884, locals := 53 } : Room) 50 2884 [.ref a] [(a, .inr (3, [.null, .null, .int 0, .int 0, .int 0, .null, .null]))] (fun v w' => v = none ∧ ∃ b : Nat → Nat, b 0 = a ∧ w' = zc b ty σ0) := by
  refine zn_open (by decide) rfl [some (.ref a)] (by simp [zv_one, Value.category]) (zle rfl) rfl (fun k K hO hI T => ?_)
  refine zv_aload_n K 1 dX3_init_0 rfl rfl ?_
  refine zn_obj K 4 dX3_init_1 rfl zw_1_13 (zle rfl) (zle rfl) rfl ?_
  refine zv_aload_n K 5 dX3_init_4 rfl rfl ?_
  refine zn_new K (ci := 0) (C := RX0) (T := TX0) (N := 5) [.int 0, .int 0, .int 0, .null, .null] 1 5 8 dX3_init_5 rfl zy_X0 tyX0_ok zw_1_16 zw_1_17 zw_1_2 rfl (fun j hj => by match j, hj with
      | 0, _ => rfl
      | 1, _ => rfl
      | 2, _ => rfl
      | 3, _ => rfl
      | 4, _ => rfl
      | j + 5, h => omega) rfl rfl (zle rfl) (zle rfl) (fun q1 => ?_)
  have K := zs_ok K (c2 := 1) (n2 := 5) (zle rfl) (zle rfl)
  refine zv_dup K 9 dX3_init_8 rfl rfl ?_
  refine zn_cIN (ws := [(a, .inr (3, [.null, .null, .int 0, .int 0, .int 0, .null, .null]))]) K hO 3 1085 12 (kX0_init l D ty q1) dX3_init_9 rfl zn_0 zw_1_19 zw_1_2 zw_1_20 ⟨rfl, rfl⟩ rfl (by decide +kernel) ⟨zle rfl, zle rfl⟩ (zle rfl) rfl rfl rfl (zle rfl) (zle rfl) (fun v w' h => ?_)
  obtain ⟨rfl, q2, q3, rfl⟩ := h
  have K := zs_ok K (c2 := 3) (n2 := 1085) (zle rfl) (zle rfl)
  refine zv_ws (ws2 := [(a, .inr (3, [.null, .null, .int 0, .int 0, .int 0, .null, .null])), (q1, .inr (0, [.int 0, .int 0, .int 0, .ref q2, .ref q3])), (q2, .inl (ty.1, 990, .inl (fun _ => 0))), (q3, .inl (ty.1, 90, .inl (fun _ => 0)))]) rfl ?_
  refine zn_putF (C := RX3) (T := TX3) (N := 7) K (zs_in hI) 0 0 15 [(a, .inr (3, [.ref q1, .null, .int 0, .int 0, .int 0, .null, .null])), (q1, .inr (0, [.int 0, .int 0, .int 0, .ref q2, .ref q3])), (q2, .inl (ty.1, 990, .inl (fun _ => 0))), (q3, .inl (ty.1, 90, .inl (fun _ => 0)))] dX3_init_12 rfl zy_X3 tyX3_ok nmX3 rfl rfl (by decide) zw_1_119 rfl rfl (tyX3_ok 0 (by decide)) rfl rfl (zlt rfl) rfl ?_
  refine zv_aload_n K 16 dX3_init_15 rfl rfl ?_
  refine zn_new K (ci := 0) (C := RX0) (T := TX0) (N := 5) [.int 0, .int 0, .int 0, .null, .null] 4 1090 19 dX3_init_16 rfl zy_X0 tyX0_ok zw_1_16 zw_1_17 zw_1_2 rfl (fun j hj => by match j, hj with
      | 0, _ => rfl
      | 1, _ => rfl
      | 2, _ => rfl
      | 3, _ => rfl
      | 4, _ => rfl
      | j + 5, h => omega) rfl rfl (zle rfl) (zle rfl) (fun q4 => ?_)
  have K := zs_ok K (c2 := 4) (n2 := 1090) (zle rfl) (zle rfl)
  refine zv_dup K 20 dX3_init_19 rfl rfl ?_
  refine zn_cIN (ws := [(a, .inr (3, [.ref q1, .null, .int 0, .int 0, .int 0, .null, .null])), (q1, .inr (0, [.int 0, .int 0, .int 0, .ref q2, .ref q3])), (q2, .inl (ty.1, 990, .inl (fun _ => 0))), (q3, .inl (ty.1, 90, .inl (fun _ => 0)))]) K hO 6 2170 23 (kX0_init l D ty q4) dX3_init_20 rfl zn_0 zw_1_19 zw_1_2 zw_1_20 ⟨rfl, rfl⟩ rfl (by decide +kernel) ⟨zle rfl, zle rfl⟩ (zle rfl) rfl rfl rfl (zle rfl) (zle rfl) (fun v w' h => ?_)
  obtain ⟨rfl, q5, q6, rfl⟩ := h
  have K := zs_ok K (c2 := 6) (n2 := 2170) (zle rfl) (zle rfl)
  refine zv_ws (ws2 := [(a, .inr (3, [.ref q1, .null, .int 0, .int 0, .int 0, .null, .null])), (q1, .inr (0, [.int 0, .int 0, .int 0, .ref q2, .ref q3])), (q2, .inl (ty.1, 990, .inl (fun _ => 0))), (q3, .inl (ty.1, 90, .inl (fun _ => 0))), (q4, .inr (0, [.int 0, .int 0, .int 0, .ref q5, .ref q6])), (q5, .inl (ty.1, 990, .inl (fun _ => 0))), (q6, .inl (ty.1, 90, .inl (fun _ => 0)))]) rfl ?_
  refine zn_putF (C := RX3) (T := TX3) (N := 7) K (zs_in hI) 0 1 26 [(a, .inr (3, [.ref q1, .ref q4, .int 0, .int 0, .int 0, .null, .null])), (q1, .inr (0, [.int 0, .int 0, .int 0, .ref q2, .ref q3])), (q2, .inl (ty.1, 990, .inl (fun _ => 0))), (q3, .inl (ty.1, 90, .inl (fun _ => 0))), (q4, .inr (0, [.int 0, .int 0, .int 0, .ref q5, .ref q6])), (q5, .inl (ty.1, 990, .inl (fun _ => 0))), (q6, .inl (ty.1, 90, .inl (fun _ => 0)))] dX3_init_23 rfl zy_X3 tyX3_ok nmX3 rfl rfl (by decide) zw_1_120 rfl rfl (tyX3_ok 1 (by decide)) rfl rfl (zlt rfl) rfl ?_
  refine zv_aload_n K 27 dX3_init_26 rfl rfl ?_
  refine zv_iconst K 0 28 dX3_init_27 rfl (by decide) ?_
  refine zv_put (C := RX3) (T := TX3) (N := 7) K 0 2 31 [(a, .inr (3, [.ref q1, .ref q4, .int 0, .int 0, .int 0, .null, .null])), (q1, .inr (0, [.int 0, .int 0, .int 0, .ref q2, .ref q3])), (q2, .inl (ty.1, 990, .inl (fun _ => 0))), (q3, .inl (ty.1, 90, .inl (fun _ => 0))), (q4, .inr (0, [.int 0, .int 0, .int 0, .ref q5, .ref q6])), (q5, .inl (ty.1, 990, .inl (fun _ => 0))), (q6, .inl (ty.1, 90, .inl (fun _ => 0)))] dX3_init_28 rfl zy_X3 tyX3_ok nmX3 rfl rfl (by decide) zw_1_121 rfl (tyX3_ok 2 (by decide)) rfl rfl (zlt rfl) rfl ?_
  refine zv_aload_n K 32 dX3_init_31 rfl rfl ?_
  refine zv_iconst K 5 33 dX3_init_32 rfl (by decide) ?_
  refine zv_put (C := RX3) (T := TX3) (N := 7) K 0 3 36 [(a, .inr (3, [.ref q1, .ref q4, .int 0, .int 5, .int 0, .null, .null])), (q1, .inr (0, [.int 0, .int 0, .int 0, .ref q2, .ref q3])), (q2, .inl (ty.1, 990, .inl (fun _ => 0))), (q3, .inl (ty.1, 90, .inl (fun _ => 0))), (q4, .inr (0, [.int 0, .int 0, .int 0, .ref q5, .ref q6])), (q5, .inl (ty.1, 990, .inl (fun _ => 0))), (q6, .inl (ty.1, 90, .inl (fun _ => 0)))] dX3_init_33 rfl zy_X3 tyX3_ok nmX3 rfl rfl (by decide) zw_1_122 rfl (tyX3_ok 3 (by decide)) rfl rfl (zlt rfl) rfl ?_
  refine zv_aload_n K 37 dX3_init_36 rfl rfl ?_
  refine zv_bipush K 10 39 dX3_init_37 rfl (by decide) ?_
  refine zv_put (C := RX3) (T := TX3) (N := 7) K 0 4 42 [(a, .inr (3, [.ref q1, .ref q4, .int 0, .int 5, .int 10, .null, .null])), (q1, .inr (0, [.int 0, .int 0, .int 0, .ref q2, .ref q3])), (q2, .inl (ty.1, 990, .inl (fun _ => 0))), (q3, .inl (ty.1, 90, .inl (fun _ => 0))), (q4, .inr (0, [.int 0, .int 0, .int 0, .ref q5, .ref q6])), (q5, .inl (ty.1, 990, .inl (fun _ => 0))), (q6, .inl (ty.1, 90, .inl (fun _ => 0)))] dX3_init_39 rfl zy_X3 tyX3_ok nmX3 rfl rfl (by decide) zw_1_123 rfl (tyX3_ok 4 (by decide)) rfl rfl (zlt rfl) rfl ?_
  refine zv_aload_n K 43 dX3_init_42 rfl rfl ?_
  refine zn_new K (ci := 2) (C := RX2) (T := TX2) (N := 3) [.int 0, .null, .null] 7 2173 46 dX3_init_43 rfl zy_X2 tyX2_ok zw_1_44 zw_1_45 zw_1_3 rfl (fun j hj => by match j, hj with
      | 0, _ => rfl
      | 1, _ => rfl
      | 2, _ => rfl
      | j + 3, h => omega) rfl rfl (zle rfl) (zle rfl) (fun q7 => ?_)
  have K := zs_ok K (c2 := 7) (n2 := 2173) (zle rfl) (zle rfl)
  refine zv_dup K 47 dX3_init_46 rfl rfl ?_
  refine zn_cI (ws := [(a, .inr (3, [.ref q1, .ref q4, .int 0, .int 5, .int 10, .null, .null])), (q1, .inr (0, [.int 0, .int 0, .int 0, .ref q2, .ref q3])), (q2, .inl (ty.1, 990, .inl (fun _ => 0))), (q3, .inl (ty.1, 90, .inl (fun _ => 0))), (q4, .inr (0, [.int 0, .int 0, .int 0, .ref q5, .ref q6])), (q5, .inl (ty.1, 990, .inl (fun _ => 0))), (q6, .inl (ty.1, 90, .inl (fun _ => 0)))]) K hO 49 2644 50 (kX2_init l D ty q7) dX3_init_47 rfl zw_1_46 zw_1_47 zw_1_3 zw_1_48 ⟨rfl, rfl⟩ rfl (by decide +kernel) ⟨zle rfl, zle rfl⟩ (zle rfl) rfl rfl rfl (zle rfl) (zle rfl) (fun v w' h => ?_)
  obtain ⟨rfl, q8, q9, c, s, rfl⟩ := h
  have K := zs_ok K (c2 := 49) (n2 := 2644) (zle rfl) (zle rfl)
  refine zn_putF (C := RX3) (T := TX3) (N := 7) K (zs_in hI) 0 5 53 ([(a, .inr (3, [.ref q1, .ref q4, .int 0, .int 5, .int 10, .ref q7, .null])), (q1, .inr (0, [.int 0, .int 0, .int 0, .ref q2, .ref q3])), (q2, .inl (ty.1, 990, .inl (fun _ => 0))), (q3, .inl (ty.1, 90, .inl (fun _ => 0))), (q4, .inr (0, [.int 0, .int 0, .int 0, .ref q5, .ref q6])), (q5, .inl (ty.1, 990, .inl (fun _ => 0))), (q6, .inl (ty.1, 90, .inl (fun _ => 0)))] ++ zqs q7 q8 q9 c s ty 20) dX3_init_50 rfl zy_X3 tyX3_ok nmX3 rfl rfl (by decide) zw_1_124 rfl rfl (tyX3_ok 5 (by decide)) rfl rfl (zlt rfl) rfl ?_
  refine zv_aload_n K 54 dX3_init_53 rfl rfl ?_
  refine zv_sipush K 240 57 dX3_init_54 rfl (by decide) ?_
  refine zn_newi (N := 240) K 50 2884 59 dX3_init_57 rfl (by decide) (by decide) (by decide) rfl rfl (zle rfl) (zle rfl) (fun q10 => ?_)
  have K := zs_ok K (c2 := 50) (n2 := 2884) (zle rfl) (zle rfl)
  refine zn_putF (C := RX3) (T := TX3) (N := 7) K (zs_in hI) 0 6 62 (([(a, .inr (3, [.ref q1, .ref q4, .int 0, .int 5, .int 10, .ref q7, .ref q10])), (q1, .inr (0, [.int 0, .int 0, .int 0, .ref q2, .ref q3])), (q2, .inl (ty.1, 990, .inl (fun _ => 0))), (q3, .inl (ty.1, 90, .inl (fun _ => 0))), (q4, .inr (0, [.int 0, .int 0, .int 0, .ref q5, .ref q6])), (q5, .inl (ty.1, 990, .inl (fun _ => 0))), (q6, .inl (ty.1, 90, .inl (fun _ => 0)))] ++ zqs q7 q8 q9 c s ty 20) ++ [(q10, .inl (ty.1, 240, .inl (fun _ => 0)))]) dX3_init_59 rfl zy_X3 tyX3_ok nmX3 rfl rfl (by decide) zw_1_125 rfl rfl (tyX3_ok 6 (by decide)) rfl rfl (zlt rfl) rfl ?_
  refine zv_ws (ws2 := ([(a, .inr (3, [.ref q1, .ref q4, .int 0, .int 5, .int 10, .ref q7, .ref q10])), (q1, .inr (0, [.int 0, .int 0, .int 0, .ref q2, .ref q3])), (q2, .inl (ty.1, 990, .inl (fun _ => 0))), (q3, .inl (ty.1, 90, .inl (fun _ => 0))), (q4, .inr (0, [.int 0, .int 0, .int 0, .ref q5, .ref q6])), (q5, .inl (ty.1, 990, .inl (fun _ => 0))), (q6, .inl (ty.1, 90, .inl (fun _ => 0))), (q7, .inr (2, [.int 0, .ref q8, .ref q9])), (q8, .inl (ty.2.2, 20, .inr (.inr (.inr (.inr (zqf c 20)))))), (q9, .inl (ty.1, 11, .inl (fun _ => 0)))] ++ zq c s ty 20) ++ [(q10, .inl (ty.1, 240, .inl (fun _ => 0)))]) rfl ?_
  refine zn_arq (G := fun i => some ((zad [a, q1, q4, q7, q2, q3, q5, q6, q8, q9, q10] c s) (i + 11))) (ws2 := ([(a, .inr (3, [.ref q1, .ref q4, .int 0, .int 5, .int 10, .ref q7, .ref q10])), (q1, .inr (0, [.int 0, .int 0, .int 0, .ref q2, .ref q3])), (q2, .inl (ty.1, 990, .inl (fun _ => 0))), (q3, .inl (ty.1, 90, .inl (fun _ => 0))), (q4, .inr (0, [.int 0, .int 0, .int 0, .ref q5, .ref q6])), (q5, .inl (ty.1, 990, .inl (fun _ => 0))), (q6, .inl (ty.1, 90, .inl (fun _ => 0))), (q7, .inr (2, [.int 0, .ref q8, .ref q9])), (q8, .inl (ty.2.2, 20, .inr (.inr (.inr (.inr (fun i => some ((zad [a, q1, q4, q7, q2, q3, q5, q6, q8, q9, q10] c s) (i + 11)))))))), (q9, .inl (ty.1, 11, .inl (fun _ => 0)))] ++ zq c s ty 20) ++ [(q10, .inl (ty.1, 240, .inl (fun _ => 0)))]) 8 rfl (fun j hj => ?_) rfl ?_
  · show zqf c 20 j = some ((zad [a, q1, q4, q7, q2, q3, q5, q6, q8, q9, q10] c s) (j + 11))
    unfold zqf zad
    rw [if_pos hj, if_neg (by omega), if_pos (by omega), Nat.add_sub_cancel]
  refine zn_perm (zc0_perm a q1 q2 q3 q4 q5 q6 q7 q8 q9 q10 c s ty) ?_
  exact zn_vret K T dX3_init_62 (zle rfl) (zle rfl) ⟨rfl, (zad [a, q1, q4, q7, q2, q3, q5, q6, q8, q9, q10] c s), rfl, rfl⟩
