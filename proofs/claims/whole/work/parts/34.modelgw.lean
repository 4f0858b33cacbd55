/-! the reference goes through the facts: pure words -/
def mfr (τ ρ : zM) : Prop := (∀ f, ρ.1 f = τ.1 f) ∧ ∀ j, j < 19 → ρ.2 j = τ.2 j
theorem mfr.rf (τ : zM) : mfr τ τ := ⟨fun _ => rfl, fun _ _ => rfl⟩
theorem mfr.tr {τ ρ π : zM} (h : mfr τ ρ) (h2 : mfr ρ π) : mfr τ π := ⟨fun f => (h2.1 f).trans (h.1 f), fun j hj => (h2.2 j hj).trans (h.2 j hj)⟩
theorem mfr_F {τ : zM} {j : Nat} (hj : 19 ≤ j) (i : Nat) (v : Int32) : mfr τ (zmF τ j i v) := ⟨fun _ => rfl, fun i hi => zu_ne (by omega)⟩
theorem mfr_Fa {τ : zM} {j : Nat} (hj : 19 ≤ j) (g : Nat → Int32) : mfr τ (zmFa τ j g) := ⟨fun _ => rfl, fun i hi => by show (if i = j then g else τ.2 i) = τ.2 i; rw [if_neg (by omega)]⟩
theorem mfr_ite {τ : zM} {P : Prop} [Decidable P] {x y : zM} (hx : mfr τ x) (hy : mfr τ y) : mfr τ (if P then x else y) := by by_cases h : P <;> simp [h, hx, hy]
theorem mfr_hold (τ : zM) (c : Nat) (m d : Int32) : mfr τ (mhold τ c m d) := (((mfr_F (by decide) c m).tr (mfr_Fa (by decide) _)).tr (mfr_F (by decide) _ _)).tr (mfr_F (by decide) _ _)
theorem mfr_nicked (τ : zM) (c : Nat) (m d : Int32) : mfr τ (fX4_nicked τ c m d) := by
  unfold fX4_nicked
  repeat' (first | with_reducible refine mfr_ite ?_ ?_ | with_reducible exact mfr.rf _ | with_reducible refine mfr.tr ?_ (mfr_F (by decide) _ _) | with_reducible refine mfr.tr ?_ (mfr_Fa (by decide) _) | with_reducible refine mfr.tr ?_ (mfr_hold _ _ _ _))
theorem mfr_dig (τ : zM) (n f : Nat) : mfr τ (mdig τ n f) := by
  unfold mdig
  split
  · exact mfr_F (by decide) _ _
  · exact mfr_Fa (by decide) _
theorem mfr_comesTo (τ : zM) (f c : Nat) (d : Int32) : mfr τ (fX4_comesTo τ f c d) := by
  unfold fX4_comesTo
  repeat' (first | with_reducible refine mfr_ite ?_ ?_ | with_reducible exact mfr.rf _ | with_reducible refine mfr.tr ?_ (mfr_F (by decide) _ _) | with_reducible refine mfr.tr ?_ (mfr_Fa (by decide) _) | with_reducible refine mfr.tr ?_ (mfr_nicked _ _ _ _))
theorem mfr_comes (τ : zM) (n f : Nat) : mfr τ (fX4_comes τ n f) := by
  unfold fX4_comes
  repeat' (first | with_reducible refine mfr_ite ?_ ?_ | with_reducible exact mfr.rf _ | with_reducible refine mfr.tr ?_ (mfr_F (by decide) _ _) | with_reducible refine mfr.tr ?_ (mfr_Fa (by decide) _) | with_reducible refine mfr.tr ?_ (mfr_hold _ _ _ _) | with_reducible refine mfr.tr ?_ (mfr_dig _ _ _) | with_reducible refine mfr.tr ?_ (mfr_comesTo _ _ _ _))
theorem mok.fr {τ ρ : zM} {f : Nat} (h : mok τ f) (hf : mfr τ ρ) : mok ρ f := by
  unfold mok
  rw [hf.2 5 (by decide), hf.2 15 (by decide), hf.2 10 (by decide), hf.2 11 (by decide)]
  exact h
def mnx (τ : zM) (ld la d k_ : Int32) : Nat → Option Nat
  | 0 => none
  | f + 1 => if ((ld < τ.2 6 f ∨ (τ.2 6 f = ld ∧ la < nI f)) ∧ τ.2 6 f ≤ d ∧ (τ.2 7 f ≤ k_ ∧ (τ.2 8 f = -4 ∨ ¬ τ.2 8 f ≤ k_))) ∧ (mnx τ ld la d k_ f = none ∨ τ.2 6 f < τ.2 6 ((mnx τ ld la d k_ f).getD 0)) then some f else mnx τ ld la d k_ f
theorem mnx_lt {τ : zM} {ld la d k_ : Int32} : ∀ {c g : Nat}, mnx τ ld la d k_ c = some g → g < c
  | 0, g, h => by simp [mnx] at h
  | c + 1, g, h => by
    unfold mnx at h
    split at h
    · cases h; omega
    · have := mnx_lt h; omega
theorem mnx_cand {τ : zM} {ld la d k_ : Int32} : ∀ {c g : Nat}, mnx τ ld la d k_ c = some g → (ld < τ.2 6 g ∨ (τ.2 6 g = ld ∧ la < nI g)) ∧ τ.2 6 g ≤ d ∧ (τ.2 7 g ≤ k_ ∧ (τ.2 8 g = -4 ∨ ¬ τ.2 8 g ≤ k_))
  | 0, g, h => by simp [mnx] at h
  | c + 1, g, h => by
    unfold mnx at h
    split at h
    · cases h
      exact (by assumption : _ ∧ _).1
    · exact mnx_cand h
theorem mnx_y {τ : zM} {ld la d k_ : Int32} {f : Nat} (h1 : (ld < τ.2 6 f ∨ (τ.2 6 f = ld ∧ la < nI f)) ∧ τ.2 6 f ≤ d ∧ (τ.2 7 f ≤ k_ ∧ (τ.2 8 f = -4 ∨ ¬ τ.2 8 f ≤ k_))) (h2 : mnx τ ld la d k_ f = none ∨ τ.2 6 f < τ.2 6 ((mnx τ ld la d k_ f).getD 0)) : mnx τ ld la d k_ (f + 1) = some f := if_pos ⟨h1, h2⟩
theorem mnx_n1 {τ : zM} {ld la d k_ : Int32} {f : Nat} (h1 : ¬ ((ld < τ.2 6 f ∨ (τ.2 6 f = ld ∧ la < nI f)) ∧ τ.2 6 f ≤ d ∧ (τ.2 7 f ≤ k_ ∧ (τ.2 8 f = -4 ∨ ¬ τ.2 8 f ≤ k_)))) : mnx τ ld la d k_ (f + 1) = mnx τ ld la d k_ f := if_neg (fun q => h1 q.1)
theorem mnx_n2 {τ : zM} {ld la d k_ : Int32} {f : Nat} (h1 : ¬ mnx τ ld la d k_ f = none) (h2 : ¬ τ.2 6 f < τ.2 6 ((mnx τ ld la d k_ f).getD 0)) : mnx τ ld la d k_ (f + 1) = mnx τ ld la d k_ f := if_neg (fun q => q.2.elim h1 h2)
def mrun (n : Nat) (d k_ : Int32) : Nat → Int32 → Int32 → zM → zM
  | 0, _, _, τ => τ
  | m + 1, ld, la, τ => match mnx τ ld la d k_ n with
    | none => τ
    | some g => mrun n d k_ m (τ.2 6 g) (nI g) (fX4_comes τ n g)
theorem mrun_none {n : Nat} {d k_ : Int32} {m : Nat} {ld la : Int32} {τ : zM} (h : mnx τ ld la d k_ n = none) : mrun n d k_ m ld la τ = τ := by
  cases m with
  | zero => rfl
  | succ m => unfold mrun; rw [h]
theorem mrun_some {n : Nat} {d k_ : Int32} {m : Nat} {ld la : Int32} {τ : zM} {g : Nat} (hm : 0 < m) (h : mnx τ ld la d k_ n = some g) : mrun n d k_ m ld la τ = mrun n d k_ (m - 1) (τ.2 6 g) (nI g) (fX4_comes τ n g) := by
  obtain ⟨m, rfl⟩ : ∃ q, m = q + 1 := ⟨m - 1, by omega⟩
  show (match mnx τ ld la d k_ n with | none => τ | some g => mrun n d k_ m (τ.2 6 g) (nI g) (fX4_comes τ n g)) = _
  rw [h]
  rfl
def mbh (τ : zM) (ld la : Int32) : Nat → Bool := fun f => decide (ld < τ.2 6 f ∨ (τ.2 6 f = ld ∧ la < nI f))
theorem zct_sub {p q : Nat → Bool} : ∀ {n : Nat}, (∀ i, i < n → p i = true → q i = true) → zct p n ≤ zct q n
  | 0, _ => Nat.le_refl _
  | n + 1, h => by
    have ih := zct_sub (n := n) (fun i hi => h i (by omega))
    have h1 := h n (Nat.lt_succ_self n)
    unfold zct
    cases hp : p n with
    | false => simp; split <;> omega
    | true => rw [h1 hp]; simp; omega
theorem zct_lt {p q : Nat → Bool} : ∀ {n g : Nat}, (∀ i, i < n → p i = true → q i = true) → g < n → q g = true → p g = false → zct p n < zct q n
  | 0, g, _, h, _, _ => absurd h (Nat.not_lt_zero _)
  | n + 1, g, h, hg, h1, h2 => by
    rcases Nat.lt_or_ge g n with z | z
    · have ih := zct_lt (fun i hi => h i (by omega)) z h1 h2
      have h3 := h n (Nat.lt_succ_self n)
      unfold zct
      cases hp : p n with
      | false => simp; split <;> omega
      | true => rw [h3 hp]; simp; omega
    · have e : g = n := by omega
      subst e
      have ih := zct_sub (n := g) (fun i hi => h i (by omega))
      unfold zct
      rw [h1, h2]
      simp
      omega
theorem mbh_lt {τ : zM} {ld la : Int32} {n g : Nat} (hg : g < n) (hc : ld < τ.2 6 g ∨ (τ.2 6 g = ld ∧ la < nI g)) : zct (mbh τ (τ.2 6 g) (nI g)) n < zct (mbh τ ld la) n := by
  refine zct_lt (fun i _ h => ?_) hg (decide_eq_true hc) (decide_eq_false (fun q => ?_))
  · have h := of_decide_eq_true h
    refine decide_eq_true ?_
    simp only [Int32.lt_iff_toInt_lt] at *
    rcases hc with c | ⟨c, c2⟩ <;> rcases h with h | ⟨h, h2⟩
    · exact Or.inl (by omega)
    · exact Or.inl (by rw [h]; exact c)
    · exact Or.inl (by rw [← c]; exact h)
    · exact Or.inr ⟨h.trans c, by omega⟩
  · simp only [Int32.lt_iff_toInt_lt] at q
    rcases q with q | ⟨-, q⟩ <;> omega
theorem mbh_fr {τ ρ : zM} (h : mfr τ ρ) (ld la : Int32) : mbh ρ ld la = mbh τ ld la := by
  funext f
  unfold mbh
  rw [h.2 6 (by decide)]
def mclear (τ : zM) : zM := zmFa (zmFa τ 19 (zclr 90 (τ.2 19))) 29 (zclr 11 (τ.2 29))
theorem mfr_clear (τ : zM) : mfr τ (mclear τ) := (mfr_Fa (by decide) _).tr (mfr_Fa (by decide) _)
def mgo (τ : zM) (n : Nat) (d k_ : Int32) : zM := mrun n d k_ n (-1) (-1) (mclear τ)
theorem mrun_fr (n : Nat) (d k_ : Int32) : ∀ (m : Nat) (ld la : Int32) (τ : zM), mfr τ (mrun n d k_ m ld la τ)
  | 0, _, _, τ => mfr.rf τ
  | m + 1, ld, la, τ => by
    unfold mrun
    split
    · exact mfr.rf τ
    · exact (mfr_comes τ n _).tr (mrun_fr n d k_ m _ _ _)
theorem mgo_fr (τ : zM) (n : Nat) (d k_ : Int32) : mfr τ (mgo τ n d k_) := (mfr_clear τ).tr (mrun_fr n d k_ n _ _ _)
