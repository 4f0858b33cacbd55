theorem z_wf {α : Type} (μ : α → Nat) {Q : α → Prop} (h : ∀ x, (∀ y, μ y < μ x → Q y) → Q x) : ∀ x, Q x := by
  have key : ∀ n x, μ x < n → Q x := by
    intro n
    induction n with
    | zero => intro x hx; exact absurd hx (Nat.not_lt_zero _)
    | succ n ih => intro x hx; exact h x (fun y hy => ih y (by omega))
  exact fun x => key (μ x + 1) x (Nat.lt_succ_self _)
theorem z_lt {c m : Nat} (h : ¬ nI c ≤ nI m) (hm : m < 2 ^ 31) : m < c := Nat.lt_of_not_le (fun q => h (nI_le q hm))
theorem z_ge {c m : Nat} (h : nI c ≤ nI m) (hc : c < 2 ^ 31) (hm : m < 2 ^ 31) : c ≤ m := (nI_leI hc hm).mp h
theorem z_pos {m : Nat} (h : ¬ nI m ≤ 0) : 0 < m := by
  rcases Nat.eq_zero_or_pos m with q | q
  · subst q; exact absurd (show nI 0 ≤ 0 by decide) h
  · exact q
theorem z_zero {m : Nat} (h : nI m ≤ 0) (hm : m < 2 ^ 31) : m = 0 := by
  rcases Nat.eq_zero_or_pos m with q | q
  · exact q
  · exact absurd h (nI_nle q hm)
theorem z_sub1 {m : Nat} (h : 0 < m) : nI m - 1 = nI (m - 1) := by
  obtain ⟨n, rfl⟩ : ∃ n, m = n + 1 := ⟨m - 1, by omega⟩
  exact nI_pred n
theorem z_dec {m : Nat} (h : 0 < m) : nI m + Int32.ofInt (-1) = nI (m - 1) := by
  obtain ⟨n, rfl⟩ : ∃ n, m = n + 1 := ⟨m - 1, by omega⟩
  exact pk_m1 n
theorem z_inc (m : Nat) : nI m + Int32.ofInt 1 = nI (m + 1) := nI_1 m
/-- an int between 0 and n (not reached) is a number -/
theorem z_nat {x : Int32} {n : Nat} (h0 : 0 ≤ x) (h1 : x < nI n) (hn : n < 2 ^ 31) : ∃ j : Nat, j < n ∧ x = nI j := by
  obtain ⟨j, hj, rfl⟩ := nI_of (x := x) (fun q => by rw [Int32.lt_iff_toInt_lt] at q; rw [Int32.le_iff_toInt_le] at h0; omega)
  exact ⟨j, (nI_ltI hj hn).mp h1, rfl⟩
theorem z_nat2 {x : Int32} {n : Nat} (h0 : 0 ≤ x) (h1 : x ≤ nI n) (hn : n < 2 ^ 31) : ∃ j : Nat, j ≤ n ∧ x = nI j := by
  obtain ⟨j, hj, rfl⟩ := nI_of (x := x) (fun q => by rw [Int32.lt_iff_toInt_lt] at q; rw [Int32.le_iff_toInt_le] at h0; omega)
  exact ⟨j, (nI_leI hj hn).mp h1, rfl⟩
theorem zFa_self (σ : zC) (j : Nat) : zFa σ j (σ.2 j) = σ := by
  unfold zFa
  refine Prod.ext rfl (funext fun j2 => ?_)
  show (if j2 = j then σ.2 j else σ.2 j2) = σ.2 j2
  by_cases h : j2 = j
  · subst h; simp
  · simp [h]
theorem zF_Fa (σ : zC) (j i : Nat) (G : Nat → Int32) (v : Int32) : zF (zFa σ j G) j i v = zFa σ j (upd G i v) := by
  unfold zF zFa
  refine Prod.ext rfl (funext fun j2 => ?_)
  show zu (fun j2 => if j2 = j then G else σ.2 j2) j i v j2 = if j2 = j then upd G i v else σ.2 j2
  by_cases h : j2 = j
  · subst h; simp [zu]
  · simp [zu, h]
theorem zFa_rd (σ : zC) (j : Nat) (G : Nat → Int32) : (zFa σ j G).2 j = G := by simp [zFa]
theorem zFa_Fa (σ : zC) (j : Nat) (G G2 : Nat → Int32) : zFa (zFa σ j G) j G2 = zFa σ j G2 := by
  unfold zFa
  refine Prod.ext rfl (funext fun j2 => ?_)
  show (if j2 = j then G2 else if j2 = j then G else σ.2 j2) = if j2 = j then G2 else σ.2 j2
  by_cases h : j2 = j <;> simp [h]
