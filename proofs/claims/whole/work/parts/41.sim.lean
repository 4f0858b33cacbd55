/-! one claim, in the court and in the reference -/
theorem zmF_rd (τ : zM) (j i : Nat) (v : Int32) (j2 i2 : Nat) : (zmF τ j i v).2 j2 i2 = if j2 = j ∧ i2 = i then v else τ.2 j2 i2 := by
  unfold zmF
  show zu τ.2 j i v j2 i2 = _
  unfold zu upd
  by_cases h : j2 = j
  · subst h
    by_cases h2 : i2 = i <;> simp [h2]
  · simp [h]
theorem zmFa_rd (τ : zM) (j : Nat) (g : Nat → Int32) (j2 : Nat) : (zmFa τ j g).2 j2 = if j2 = j then g else τ.2 j2 := rfl
theorem mhold_rd (τ : zM) (c : Nat) (m d : Int32) (j i : Nat) : (mhold τ c m d).2 j i = if j = 26 ∧ i = c then 0 else if j = 22 ∧ i = c then d else if j = 21 then msN c 10 (τ.2 21) m i else if j = 20 ∧ i = c then m else τ.2 j i := by
  unfold mhold
  rw [zmF_rd, zmF_rd, zmFa_rd]
  by_cases h : j = 21
  · subst h; simp
  · simp [h, zmF_rd]
def rc (r sh : Nat → Int32) (π : zM) (g : Nat) : Prop :=
  r 0 = π.2 19 g ∧ r 3 = π.2 23 g ∧ r 4 = π.2 24 g ∧ r 5 = π.2 20 g ∧ r 6 = π.2 22 g ∧ r 7 = π.2 26 g ∧ (¬ r 7 = 0 → r 8 = π.2 25 g ∧ r 9 = π.2 27 g ∧ r 10 = π.2 28 g) ∧ (∀ m, m < 10 → sh m = π.2 21 (10 * g + m)) ∧ (r 7 = 0 ∨ r 7 = 1 ∨ r 7 = 2)
theorem msN_at (c n : Nat) (g : Nat → Int32) (m : Int32) {q : Nat} (h : q < n) : msN c n g m (10 * c + q) = if nI q = m then 24 else 0 := by
  unfold msN
  rw [if_pos (by omega), Nat.add_sub_cancel_left]
theorem msN_ne (c : Nat) (g : Nat → Int32) (m : Int32) {h q : Nat} (hc : h ≠ c) (hq : q < 10) : msN c 10 g m (10 * h + q) = g (10 * h + q) := by
  unfold msN
  rw [if_neg (by omega)]
set_option maxHeartbeats 4000000 in
theorem rc_nick {r sh : Nat → Int32} {π : zM} {g : Nat} (h : rc r sh π g) (m d : Int32) : rc (rNick r m d (π.1 2)) (sNick r sh m d (π.1 2)) (fX4_nicked π g m d) g := by
  have hh := h
  obtain ⟨e0, e3, e4, e5, e6, e7, e8, esh, h7⟩ := h
  by_cases c1 : d - r 6 ≤ π.1 2
  · have a1 : fX4_nicked π g m d = π := by rw [fX4_nicked, if_pos (by rw [← e6]; exact c1)]
    have a2 : m = r 5 ∨ ¬ π.1 2 < d - r 6 := Or.inr (z_len c1)
    rw [a1, rNick, sNick, if_pos a2, if_pos a2]
    exact hh
  by_cases c2 : m = r 5
  · have a1 : fX4_nicked π g m d = π := by rw [fX4_nicked, if_neg (by rw [← e6]; exact c1), if_pos (by rw [← e5]; exact c2)]
    have a2 : m = r 5 ∨ ¬ π.1 2 < d - r 6 := Or.inl c2
    rw [a1, rNick, sNick, if_pos a2, if_pos a2]
    exact hh
  have c3 : ¬ (m = r 5 ∨ ¬ π.1 2 < d - r 6) := fun q => q.elim c2 (fun q => q (z_nle c1))
  have t1 : ¬ d - π.2 22 g ≤ π.1 2 := by rw [← e6]; exact c1
  have t2 : ¬ m = π.2 20 g := by rw [← e5]; exact c2
  have k10 : ¬ (1 : Int32) ≤ 0 := by decide
  have k20 : ¬ (2 : Int32) ≤ 0 := by decide
  have k00 : (0 : Int32) ≤ 0 := by decide
  have k01 : (0 : Int32) < 1 := by decide
  have k02 : (0 : Int32) < 2 := by decide
  have kn0 : ¬ (0 : Int32) < 0 := by decide
  have k31 : ¬ (3 : Int32) ≤ 1 := by decide
  have k32 : ¬ (3 : Int32) ≤ 2 := by decide
  have k33 : (3 : Int32) ≤ 3 := by decide
  have a01 : (0 : Int32) + 1 = 1 := by decide
  have a11 : (1 : Int32) + 1 = 2 := by decide
  have a21 : (2 : Int32) + 1 = 3 := by decide
  have n13 : ¬ (1 : Int32) = 3 := by decide
  have n23 : ¬ (2 : Int32) = 3 := by decide
  have n10 : ¬ (1 : Int32) = 0 := by decide
  have n20 : ¬ (2 : Int32) = 0 := by decide
  -- the reset case, the same for all
  have reset : ∀ (X : Nat → Int32), (∀ j, j ≠ 7 → X j = r j) → X 7 = 0 → rStale r m d = X → fX4_nicked π g m d = zmF (zmF (zmF (zmF π 27 g d) 28 g d) 25 g m) 26 g 1 ∨ fX4_nicked π g m d = zmF (zmF (zmF (zmF (zmF π 26 g 0) 27 g d) 28 g d) 25 g m) 26 g 1 → rc (rNick r m d (π.1 2)) (sNick r sh m d (π.1 2)) (fX4_nicked π g m d) g := by
    intro X hX hX7 hst hm
    have c4 : ¬ (0 < X 7 ∧ X 10 = d) := fun q => by rw [hX7] at q; exact kn0 q.1
    have hA : rAdd X m d = upd (upd (upd (upd X 9 d) 8 m) 10 d) 7 1 := by unfold rAdd; rw [if_pos hX7, hX7, a01]
    have c5 : ¬ 3 ≤ rAdd X m d 7 := by rw [hA]; exact k31
    have hr : rNick r m d (π.1 2) = upd (upd (upd (upd X 9 d) 8 m) 10 d) 7 1 := by rw [rNick, if_neg c3, hst, if_neg c4, if_neg c5, hA]
    have hs : sNick r sh m d (π.1 2) = sh := by rw [sNick, if_neg c3, hst, if_neg c4, if_neg c5]
    rw [hr, hs]
    rcases hm with hm | hm <;> (rw [hm]; unfold rc; simp [zmF_rd, upd, hX, e0, e3, e4, e5, e6]; exact esh)
  rcases h7 with h7 | h7 | h7
  · have p26 : π.2 26 g = 0 := e7.symm.trans h7
    have hst : ∃ X, rStale r m d = X ∧ (∀ j, j ≠ 7 → X j = r j) ∧ X 7 = 0 := by
      refine ⟨_, rfl, fun j hj => ?_, ?_⟩
      · unfold rStale; split <;> simp [upd, hj]
      · unfold rStale; split <;> simp [upd, h7]
    obtain ⟨X, x1, x2, x3⟩ := hst
    refine reset X x2 x3 x1 (Or.inl ?_)
    rw [fX4_nicked, if_neg t1, if_neg t2, if_pos (by rw [p26]; exact k00), if_pos p26, if_neg (by simp [zmF_rd, p26]), p26, a01]
  · have p26 : π.2 26 g = 1 := e7.symm.trans h7
    obtain ⟨q8, q9, q10⟩ := e8 (by rw [h7]; exact n10)
    by_cases c4 : r 8 = m
    · by_cases c5 : d - r 9 ≤ 10
      · have hst : rStale r m d = r := if_neg (fun q => q.elim (fun z => z c4.symm) (fun z => z_len c5 z))
        by_cases c6 : r 10 = d
        · have a1 : fX4_nicked π g m d = π := by rw [fX4_nicked, if_neg t1, if_neg t2, if_neg (by rw [p26]; exact k10), if_pos (by rw [← q8]; exact c4), if_pos (by rw [← q9]; exact c5), if_pos (by rw [← q10]; exact c6)]
          have a2 : 0 < r 7 ∧ r 10 = d := ⟨by rw [h7]; exact k01, c6⟩
          rw [a1, rNick, sNick, if_neg c3, if_neg c3, hst, if_pos a2, if_pos a2]
          exact hh
        · have a1 : fX4_nicked π g m d = zmF (zmF (zmF (zmF π 27 g (π.2 27 g)) 28 g d) 25 g m) 26 g 2 := by rw [fX4_nicked, if_neg t1, if_neg t2, if_neg (by rw [p26]; exact k10), if_pos (by rw [← q8]; exact c4), if_pos (by rw [← q9]; exact c5), if_neg (by rw [← q10]; exact c6), if_neg (by rw [p26]; exact n10), if_neg (by simp [zmF_rd, p26]), p26, a11]
          have hA : rAdd r m d = upd (upd (upd r 8 m) 10 d) 7 2 := by unfold rAdd; rw [if_neg (by rw [h7]; exact n10), h7, a11]
          have c7 : ¬ 3 ≤ rAdd r m d 7 := by rw [hA]; exact k32
          have c8 : ¬ (0 < r 7 ∧ r 10 = d) := fun q => c6 q.2
          rw [a1, rNick, sNick, if_neg c3, if_neg c3, hst, if_neg c8, if_neg c8, if_neg c7, if_neg c7, hA]
          unfold rc
          simp [zmF_rd, upd, e0, e3, e4, e5, e6, q9]
          exact esh
      · have hst : rStale r m d = upd r 7 0 := if_pos (Or.inr (z_nle c5))
        refine reset _ (fun j hj => by simp [upd, hj]) (by simp [upd]) hst (Or.inr ?_)
        rw [fX4_nicked, if_neg t1, if_neg t2, if_neg (by rw [p26]; exact k10), if_pos (by rw [← q8]; exact c4), if_neg (by rw [← q9]; exact c5), if_pos (by simp [zmF_rd]), if_pos (by simp [zmF_rd]), if_neg (by simp [zmF_rd])]
        simp [zmF_rd]
    · have hst : rStale r m d = upd r 7 0 := if_pos (Or.inl (fun z => c4 z.symm))
      refine reset _ (fun j hj => by simp [upd, hj]) (by simp [upd]) hst (Or.inr ?_)
      rw [fX4_nicked, if_neg t1, if_neg t2, if_neg (by rw [p26]; exact k10), if_neg (by rw [← q8]; exact c4), if_pos (by simp [zmF_rd]), if_pos (by simp [zmF_rd]), if_neg (by simp [zmF_rd])]
      simp [zmF_rd]
  · have p26 : π.2 26 g = 2 := e7.symm.trans h7
    obtain ⟨q8, q9, q10⟩ := e8 (by rw [h7]; exact n20)
    by_cases c4 : r 8 = m
    · by_cases c5 : d - r 9 ≤ 10
      · have hst : rStale r m d = r := if_neg (fun q => q.elim (fun z => z c4.symm) (fun z => z_len c5 z))
        by_cases c6 : r 10 = d
        · have a1 : fX4_nicked π g m d = π := by rw [fX4_nicked, if_neg t1, if_neg t2, if_neg (by rw [p26]; exact k20), if_pos (by rw [← q8]; exact c4), if_pos (by rw [← q9]; exact c5), if_pos (by rw [← q10]; exact c6)]
          have a2 : 0 < r 7 ∧ r 10 = d := ⟨by rw [h7]; exact k02, c6⟩
          rw [a1, rNick, sNick, if_neg c3, if_neg c3, hst, if_pos a2, if_pos a2]
          exact hh
        · have a1 : fX4_nicked π g m d = mhold (zmF (zmF (zmF (zmF π 27 g (π.2 27 g)) 28 g d) 25 g m) 26 g 3) g m d := by rw [fX4_nicked, if_neg t1, if_neg t2, if_neg (by rw [p26]; exact k20), if_pos (by rw [← q8]; exact c4), if_pos (by rw [← q9]; exact c5), if_neg (by rw [← q10]; exact c6), if_neg (by rw [p26]; exact n20), if_pos (by simp [zmF_rd, p26]), p26, a21]
          have hA : rAdd r m d = upd (upd (upd r 8 m) 10 d) 7 3 := by unfold rAdd; rw [if_neg (by rw [h7]; exact n20), h7, a21]
          have c7 : 3 ≤ rAdd r m d 7 := by rw [hA]; exact k33
          have c8 : ¬ (0 < r 7 ∧ r 10 = d) := fun q => c6 q.2
          rw [a1, rNick, sNick, if_neg c3, if_neg c3, hst, if_neg c8, if_neg c8, if_pos c7, if_pos c7, hA]
          unfold rc rPass
          simp [mhold_rd, zmF_rd, upd, e0, e3, e4]
          intro q hq
          rw [msN_at _ _ _ _ hq, sPass, if_pos hq]
      · have hst : rStale r m d = upd r 7 0 := if_pos (Or.inr (z_nle c5))
        refine reset _ (fun j hj => by simp [upd, hj]) (by simp [upd]) hst (Or.inr ?_)
        rw [fX4_nicked, if_neg t1, if_neg t2, if_neg (by rw [p26]; exact k20), if_pos (by rw [← q8]; exact c4), if_neg (by rw [← q9]; exact c5), if_pos (by simp [zmF_rd]), if_pos (by simp [zmF_rd]), if_neg (by simp [zmF_rd])]
        simp [zmF_rd]
    · have hst : rStale r m d = upd r 7 0 := if_pos (Or.inl (fun z => c4 z.symm))
      refine reset _ (fun j hj => by simp [upd, hj]) (by simp [upd]) hst (Or.inr ?_)
      rw [fX4_nicked, if_neg t1, if_neg t2, if_neg (by rw [p26]; exact k20), if_neg (by rw [← q8]; exact c4), if_pos (by simp [zmF_rd]), if_pos (by simp [zmF_rd]), if_neg (by simp [zmF_rd])]
      simp [zmF_rd]
