/-! what a fact changes in the reference lies at its claim alone -/
def mfx (π ρ : zM) (g : Nat) : Prop := (∀ j, 19 ≤ j → j < 29 → j ≠ 21 → ∀ h, h ≠ g → ρ.2 j h = π.2 j h) ∧ (∀ h, h ≠ g → ∀ m, m < 10 → ρ.2 21 (10 * h + m) = π.2 21 (10 * h + m)) ∧ ρ.2 29 = π.2 29
theorem mfx.rf (π : zM) (g : Nat) : mfx π π g := ⟨fun _ _ _ _ _ _ => rfl, fun _ _ _ _ => rfl, rfl⟩
theorem mfx.tr {π ρ ω : zM} {g : Nat} (h : mfx π ρ g) (h2 : mfx ρ ω g) : mfx π ω g := ⟨fun j a b c x hx => (h2.1 j a b c x hx).trans (h.1 j a b c x hx), fun x hx m hm => (h2.2.1 x hx m hm).trans (h.2.1 x hx m hm), h2.2.2.trans h.2.2⟩
theorem mfx_F {π : zM} {j g : Nat} (h1 : 19 ≤ j) (h2 : j < 29) (h3 : j ≠ 21) (v : Int32) : mfx π (zmF π j g v) g := by
  refine ⟨fun j2 a b c x hx => ?_, fun x hx m hm => ?_, ?_⟩
  · rw [zmF_rd, if_neg (fun q => hx q.2)]
  · rw [zmF_rd, if_neg (fun q => h3 q.1.symm)]
  · funext i; rw [zmF_rd, if_neg (by omega)]
theorem mfx_21 {π : zM} {g p : Nat} (hp : p < 10) (v : Int32) : mfx π (zmF π 21 (10 * g + p) v) g := by
  refine ⟨fun j2 a b c x hx => ?_, fun x hx m hm => ?_, ?_⟩
  · rw [zmF_rd, if_neg (fun q => c q.1)]
  · rw [zmF_rd, if_neg (by omega)]
  · funext i; rw [zmF_rd, if_neg (by omega)]
theorem mfx_hold (π : zM) (g : Nat) (m d : Int32) : mfx π (mhold π g m d) g := by
  refine ⟨fun j a b c x hx => ?_, fun x hx q hq => ?_, ?_⟩
  · rw [mhold_rd, if_neg (fun q => hx q.2), if_neg (fun q => hx q.2), if_neg c, if_neg (fun q => hx q.2)]
  · rw [mhold_rd, if_neg (by omega), if_neg (by omega), if_pos rfl, msN_ne _ _ _ hx hq]
  · funext i; rw [mhold_rd, if_neg (by omega), if_neg (by omega), if_neg (by omega), if_neg (by omega)]
theorem mfx_ite {π : zM} {g : Nat} {P : Prop} [Decidable P] {x y : zM} (hx : mfx π x g) (hy : mfx π y g) : mfx π (if P then x else y) g := by by_cases h : P <;> simp [h, hx, hy]
theorem mfx_nicked (π : zM) (g : Nat) (m d : Int32) : mfx π (fX4_nicked π g m d) g := by
  unfold fX4_nicked
  repeat' (first | with_reducible refine mfx_ite ?_ ?_ | with_reducible exact mfx.rf _ _ | with_reducible refine mfx.tr ?_ (mfx_hold _ _ _ _) | with_reducible refine mfx.tr ?_ (mfx_F (by decide) (by decide) (by decide) _))
theorem rc.fr {r sh : Nat → Int32} {π ρ : zM} {g h : Nat} (hr : rc r sh π h) (hx : mfx π ρ g) (hn : h ≠ g) : rc r sh ρ h := by
  unfold rc at hr ⊢
  rw [hx.1 19 (by decide) (by decide) (by decide) h hn, hx.1 23 (by decide) (by decide) (by decide) h hn, hx.1 24 (by decide) (by decide) (by decide) h hn, hx.1 20 (by decide) (by decide) (by decide) h hn, hx.1 22 (by decide) (by decide) (by decide) h hn, hx.1 26 (by decide) (by decide) (by decide) h hn, hx.1 25 (by decide) (by decide) (by decide) h hn, hx.1 27 (by decide) (by decide) (by decide) h hn, hx.1 28 (by decide) (by decide) (by decide) h hn]
  exact ⟨hr.1, hr.2.1, hr.2.2.1, hr.2.2.2.1, hr.2.2.2.2.1, hr.2.2.2.2.2.1, hr.2.2.2.2.2.2.1, fun m hm => (hr.2.2.2.2.2.2.2.1 m hm).trans (hx.2.1 h hn m hm).symm, hr.2.2.2.2.2.2.2.2⟩
theorem rNick_34 (r : Nat → Int32) (m d idle : Int32) {j : Nat} (hj : j = 1 ∨ j = 2 ∨ j = 3 ∨ j = 4) : rNick r m d idle j = r j := by
  have s1 : rStale r m d j = r j := by unfold rStale; split <;> (rcases hj with rfl | rfl | rfl | rfl <;> rfl)
  have s2 : ∀ x : Nat → Int32, rAdd x m d j = x j := by intro x; unfold rAdd; split <;> (rcases hj with rfl | rfl | rfl | rfl <;> rfl)
  have s3 : ∀ x : Nat → Int32, rPass x m d j = x j := by intro x; unfold rPass; rcases hj with rfl | rfl | rfl | rfl <;> rfl
  unfold rNick
  split
  · rfl
  · split
    · exact s1
    · split
      · rw [s3, s2, s1]
      · rw [s2, s1]
theorem rTurn_12 (σ : zC) (r : Nat → Int32) (f : Nat) (idle : Int32) {j : Nat} (hj : j = 1 ∨ j = 2) : rTurn σ r f idle j = r j := by
  unfold rTurn
  split
  · rcases hj with rfl | rfl <;> rfl
  · split
    · exact rNick_34 r _ _ _ (by omega)
    · split
      · rcases hj with rfl | rfl <;> rfl
      · split
        · rcases hj with rfl | rfl <;> rfl
        · rfl
/-- a fact of a claim that stands: the same in both -/
theorem rc_turn {σ : zC} {r sh : Nat → Int32} {π : zM} {f g : Nat} (h : rc r sh π g) (ht : tb (zg σ) π f) (hk : zg σ f 0 = 1 ∨ zg σ f 0 = 2 ∨ zg σ f 0 = 3 ∨ zg σ f 0 = 4 ∨ zg σ f 0 = 5) (h5 : zg σ f 0 = 5 → ∃ p q : Nat, p < 10 ∧ zg σ f 5 = nI p ∧ q < 10 ∧ zg σ f 10 = nI q) : rc (rTurn σ r f (π.1 2)) (sTurn σ r sh f (π.1 2)) (fX4_comesTo π f g (π.2 6 f)) g ∧ mfx π (fX4_comesTo π f g (π.2 6 f)) g := by
  obtain ⟨b0, b1, b2, b3, b4, b5, b6, b7, b8, b9, b10⟩ := ht
  have hh := h
  obtain ⟨e0, e3, e4, e5, e6, e7, e8, esh, h7⟩ := h
  rcases hk with k1 | k1 | k1 | k1 | k1
  · have p5 : π.2 5 f = 1 := b0.symm.trans k1
    have a1 : fX4_comesTo π f g (π.2 6 f) = zmF (zmF π 22 g (π.2 6 f)) 26 g 0 := by rw [fX4_comesTo, if_pos p5]
    have a2 : rTurn σ r f (π.1 2) = upd (upd r 6 (zg σ f 1)) 7 0 := by rw [rTurn, if_pos k1]
    have a3 : sTurn σ r sh f (π.1 2) = sh := by rw [sTurn, if_neg (by rw [k1]; decide), if_neg (by rw [k1]; decide)]
    rw [a1, a2, a3]
    refine ⟨?_, (mfx_F (by decide) (by decide) (by decide) _).tr (mfx_F (by decide) (by decide) (by decide) _)⟩
    unfold rc
    simp [zmF_rd, upd, e0, e3, e4, e5, b1]
    exact esh
  · have p5 : π.2 5 f = 2 := b0.symm.trans k1
    have a1 : fX4_comesTo π f g (π.2 6 f) = fX4_nicked π g (π.2 10 f) (π.2 6 f) := by rw [fX4_comesTo, if_neg (by rw [p5]; decide), if_pos p5]
    have a2 : rTurn σ r f (π.1 2) = rNick r (π.2 10 f) (π.2 6 f) (π.1 2) := by rw [rTurn, if_neg (by rw [k1]; decide), if_pos k1, b5, b1]
    have a3 : sTurn σ r sh f (π.1 2) = sNick r sh (π.2 10 f) (π.2 6 f) (π.1 2) := by rw [sTurn, if_pos k1, b5, b1]
    rw [a1, a2, a3]
    exact ⟨rc_nick hh _ _, mfx_nicked _ _ _ _⟩
  · have p5 : π.2 5 f = 3 := b0.symm.trans k1
    have a1 : fX4_comesTo π f g (π.2 6 f) = zmF π 19 g 0 := by rw [fX4_comesTo, if_neg (by rw [p5]; decide), if_neg (by rw [p5]; decide), if_pos p5]
    have a2 : rTurn σ r f (π.1 2) = upd r 0 0 := by rw [rTurn, if_neg (by rw [k1]; decide), if_neg (by rw [k1]; decide), if_pos k1]
    have a3 : sTurn σ r sh f (π.1 2) = sh := by rw [sTurn, if_neg (by rw [k1]; decide), if_neg (by rw [k1]; decide)]
    rw [a1, a2, a3]
    refine ⟨?_, mfx_F (by decide) (by decide) (by decide) _⟩
    unfold rc
    simp only [zmF_rd]
    simp [upd, e3, e4, e5, e6]
    exact ⟨e7, fun z => e8 (by rw [e7]; rw [e7] at z; exact z), esh, h7⟩
  · have p5 : π.2 5 f = 4 := b0.symm.trans k1
    have a1 : fX4_comesTo π f g (π.2 6 f) = zmF (zmF π 23 g (π.2 12 f)) 24 g (π.2 13 f) := by rw [fX4_comesTo, if_neg (by rw [p5]; decide), if_neg (by rw [p5]; decide), if_neg (by rw [p5]; decide), if_pos p5]
    have a2 : rTurn σ r f (π.1 2) = upd (upd r 3 (zg σ f 6)) 4 (zg σ f 7) := by rw [rTurn, if_neg (by rw [k1]; decide), if_neg (by rw [k1]; decide), if_neg (by rw [k1]; decide), if_pos k1]
    have a3 : sTurn σ r sh f (π.1 2) = sh := by rw [sTurn, if_neg (by rw [k1]; decide), if_neg (by rw [k1]; decide)]
    rw [a1, a2, a3]
    refine ⟨?_, (mfx_F (by decide) (by decide) (by decide) _).tr (mfx_F (by decide) (by decide) (by decide) _)⟩
    unfold rc
    simp only [zmF_rd]
    simp [upd, e0, e5, e6, b6, b7]
    exact ⟨e7, fun z => e8 (by rw [e7]; rw [e7] at z; exact z), esh, h7⟩
  · have p5 : π.2 5 f = 5 := b0.symm.trans k1
    obtain ⟨p, q, hp, ep, hq, eq⟩ := h5 k1
    have cp : (π.2 10 f).toNatClampNeg = p := by rw [← b5, ep, nI_clamp (by omega)]
    have cq : (π.2 11 f).toNatClampNeg = q := by rw [← b10, eq, nI_clamp (by omega)]
    have a2 : rTurn σ r f (π.1 2) = r := by rw [rTurn, if_neg (by rw [k1]; decide), if_neg (by rw [k1]; decide), if_neg (by rw [k1]; decide), if_neg (by rw [k1]; decide)]
    have a3 : sTurn σ r sh f (π.1 2) = sMove sh p q (π.2 14 f) := by rw [sTurn, if_neg (by rw [k1]; decide), if_pos k1, ep, eq, nI_clamp (by omega), nI_clamp (by omega), b8]
    by_cases c1 : sh p < π.2 14 f
    · have a1 : fX4_comesTo π f g (π.2 6 f) = π := by rw [fX4_comesTo, if_neg (by rw [p5]; decide), if_neg (by rw [p5]; decide), if_neg (by rw [p5]; decide), if_neg (by rw [p5]; decide), cp, if_pos (by rw [← esh p hp]; exact c1)]
      rw [a1, a2, a3, sMove, if_pos c1]
      exact ⟨hh, mfx.rf _ _⟩
    · have a1 : fX4_comesTo π f g (π.2 6 f) = zmF (zmF π 21 (10 * g + p) (sh p - π.2 14 f)) 21 (10 * g + q) ((zmF π 21 (10 * g + p) (sh p - π.2 14 f)).2 21 (10 * g + q) + π.2 14 f) := by rw [fX4_comesTo, if_neg (by rw [p5]; decide), if_neg (by rw [p5]; decide), if_neg (by rw [p5]; decide), if_neg (by rw [p5]; decide), cp, cq, if_neg (by rw [← esh p hp]; exact c1), ← esh p hp]
      rw [a1, a2, a3, sMove, if_neg c1]
      refine ⟨?_, (mfx_21 hp _).tr (mfx_21 hq _)⟩
      unfold rc
      simp only [zmF_rd]
      simp
      refine ⟨e0, e3, e4, e5, e6, e7, e8, fun m hm => ?_, h7⟩
      have i1 : (10 * g + m = 10 * g + q) ↔ m = q := by omega
      have i2 : (10 * g + m = 10 * g + p) ↔ m = p := by omega
      have i3 : (10 * g + q = 10 * g + p) ↔ q = p := by omega
      unfold upd
      by_cases z1 : m = q
      · subst z1
        by_cases z2 : m = p
        · subst z2; simp
        · simp [z2, esh m hm]
      · by_cases z2 : m = p
        · subst z2; simp [z1]
        · simp [z1, z2, esh m hm]
theorem rTurn_ft {σ : zC} {r : Nat → Int32} {n f : Nat} {idle : Int32} (h : ∃ p l : Nat, r 3 = nI p ∧ r 4 = nI l ∧ p ≤ l ∧ l < 60) (hf : fok (zg σ) n f) : ∃ p l : Nat, rTurn σ r f idle 3 = nI p ∧ rTurn σ r f idle 4 = nI l ∧ p ≤ l ∧ l < 60 := by
  unfold rTurn
  split
  · exact h
  · split
    · rw [rNick_34 r _ _ _ (by omega), rNick_34 r _ _ _ (by omega)]; exact h
    · split
      · exact h
      · split
        · exact hf.2.2.2.1 (Or.inr (by assumption))
        · exact h
/-! the least by a key -/
def amin (p : Nat → Bool) (key : Nat → Int32) : Nat → Option Nat
  | 0 => none
  | f + 1 => if p f = true ∧ (amin p key f = none ∨ key f < key ((amin p key f).getD 0)) then some f else amin p key f
theorem amin_lt {p : Nat → Bool} {key : Nat → Int32} : ∀ {c g : Nat}, amin p key c = some g → g < c ∧ p g = true
  | 0, g, h => by simp [amin] at h
  | c + 1, g, h => by
    unfold amin at h
    split at h
    · cases h; exact ⟨by omega, (by assumption : _ ∧ _).1⟩
    · have := amin_lt h; exact ⟨by omega, this.2⟩
theorem amin_none {p : Nat → Bool} {key : Nat → Int32} {n : Nat} (h : ∀ f, f < n → p f = false) : amin p key n = none := by
  cases hx : amin p key n with
  | none => rfl
  | some g =>
    have := amin_lt hx
    rw [h g this.1] at this
    exact absurd this.2 (by decide)
theorem amin_min {p : Nat → Bool} {key : Nat → Int32} {n f : Nat} (hf : f < n) (hp : p f = true) (h : ∀ g, g < n → p g = true → g ≠ f → key f < key g ∨ (key f = key g ∧ f < g)) : amin p key n = some f := by
  have h1 : amin p key (f + 1) = some f := by
    unfold amin
    refine if_pos ⟨hp, ?_⟩
    cases hx : amin p key f with
    | none => exact Or.inl rfl
    | some g =>
      have hg := amin_lt hx
      rcases h g (by omega) hg.2 (by omega) with q | q
      · exact Or.inr q
      · omega
  have key2 : ∀ k, f + 1 + k ≤ n → amin p key (f + 1 + k) = some f := by
    intro k
    induction k with
    | zero => intro _; exact h1
    | succ k ih =>
      intro hk
      have e := ih (by omega)
      show amin p key ((f + 1 + k) + 1) = some f
      unfold amin
      rw [e]
      refine if_neg (fun q => ?_)
      rcases q.2 with z | z
      · cases z
      · rcases h (f + 1 + k) (by omega) q.1 (by omega) with y | y
        · simp only [Int32.lt_iff_toInt_lt, Option.getD_some] at y z; omega
        · simp only [Option.getD_some] at z
          rw [y.1] at z
          exact absurd z (by rw [Int32.lt_iff_toInt_lt]; omega)
  have := key2 (n - (f + 1)) (by omega)
  rw [show f + 1 + (n - (f + 1)) = n by omega] at this
  exact this
theorem mow_amin (τ : zM) (vn ft : Int32) : ∀ c, mow τ vn ft c = amin (movb τ vn ft) (τ.2 6) c
  | 0 => rfl
  | c + 1 => by
    unfold mow amin
    rw [mow_amin τ vn ft c]
    simp [movb]
def mcd (τ : zM) (ld la d k_ : Int32) : Nat → Bool := fun f => decide ((ld < τ.2 6 f ∨ (τ.2 6 f = ld ∧ la < nI f)) ∧ τ.2 6 f ≤ d ∧ (τ.2 7 f ≤ k_ ∧ (τ.2 8 f = -4 ∨ ¬ τ.2 8 f ≤ k_)))
theorem mnx_amin (τ : zM) (ld la d k_ : Int32) : ∀ c, mnx τ ld la d k_ c = amin (mcd τ ld la d k_) (τ.2 6) c
  | 0 => rfl
  | c + 1 => by
    unfold mnx amin
    rw [mnx_amin τ ld la d k_ c]
    simp [mcd]
/-- different numbers with a mark: not more than the marks -/
theorem zct_inj {n : Nat} : ∀ (m : Nat) (p : Nat → Bool) (g : Nat → Nat), (∀ i, i < m → g i < n ∧ p (g i) = true) → (∀ i j, i < j → j < m → g i ≠ g j) → m ≤ zct p n
  | 0, _, _, _, _ => Nat.zero_le _
  | m + 1, p, g, h1, h2 => by
    have hm := h1 m (Nat.lt_succ_self m)
    have ih := zct_inj m (fun k => p k && decide (k ≠ g m)) g (fun i hi => ⟨(h1 i (by omega)).1, by simp [(h1 i (by omega)).2]; exact h2 i m hi (Nat.lt_succ_self m)⟩) (fun i j hij hj => h2 i j hij (by omega))
    have hl := zct_lt (p := fun k => p k && decide (k ≠ g m)) (q := p) (n := n) (fun i _ h => by simp at h; exact h.1) hm.1 hm.2 (by simp)
    omega
