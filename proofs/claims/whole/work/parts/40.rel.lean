/-! the court and the reference hold the same: pure words -/
abbrev zTab : Type := Nat → Nat → Int32
def bf (t : zTab) (f g : Nat) : Prop := t f 1 < t g 1 ∨ (t f 1 = t g 1 ∧ f < g)
def fok (t : zTab) (n f : Nat) : Prop :=
  0 ≤ t f 1 ∧ (t f 0 = 0 ∨ t f 0 = 1 ∨ t f 0 = 2 ∨ t f 0 = 3 ∨ t f 0 = 4 ∨ t f 0 = 5 ∨ t f 0 = 6) ∧ (t f 0 = 0 → t f 9 = nI f) ∧ ((t f 0 = 0 ∨ t f 0 = 4) → ∃ p l : Nat, t f 6 = nI p ∧ t f 7 = nI l ∧ p ≤ l ∧ l < 60) ∧ (¬ t f 0 = 0 → ¬ t f 0 = 6 → ∃ g, g < n ∧ t f 9 = nI g ∧ t g 0 = 0) ∧ (t f 0 = 5 → ∃ p q : Nat, p < 10 ∧ t f 5 = nI p ∧ q < 10 ∧ t f 10 = nI q)
def stn (t : zTab) (n : Nat) : Nat := zct (fun f => decide (t f 0 = 0)) n
def gd (t : zTab) (ord : Nat → Int32) (O : Nat → Nat) (n : Nat) (stk : Int32) : Prop :=
  n ≤ 90 ∧ stk = nI (stn t n) ∧ stn t n ≤ 20 ∧ (∀ i, i < n → ord i = nI (O i) ∧ O i < n) ∧ (∀ i j, i < j → j < n → bf t (O i) (O j)) ∧ (∀ f, f < n → ∃ i, i < n ∧ O i = f) ∧ ∀ f, f < n → fok t n f
def tb (t : zTab) (τ : zM) (f : Nat) : Prop := t f 0 = τ.2 5 f ∧ t f 1 = τ.2 6 f ∧ t f 2 = τ.2 7 f ∧ t f 3 = τ.2 8 f ∧ t f 4 = τ.2 9 f ∧ t f 5 = τ.2 10 f ∧ t f 6 = τ.2 12 f ∧ t f 7 = τ.2 13 f ∧ t f 8 = τ.2 14 f ∧ t f 9 = τ.2 15 f ∧ t f 10 = τ.2 11 f
def tbk (t : zTab) (τ : zM) (f : Nat) : Prop := t f 0 = τ.2 18 (0 + f) ∧ t f 1 = τ.2 18 (90 + f) ∧ t f 2 = τ.2 18 (180 + f) ∧ t f 3 = τ.2 18 (270 + f) ∧ t f 4 = τ.2 18 (360 + f) ∧ t f 5 = τ.2 18 (450 + f) ∧ t f 6 = τ.2 18 (630 + f) ∧ t f 7 = τ.2 18 (720 + f) ∧ t f 8 = τ.2 18 (810 + f) ∧ t f 9 = τ.2 18 (900 + f) ∧ t f 10 = τ.2 18 (540 + f)
/-- the kept book's table -/
def zgk (σ : zC) (f c : Nat) : Int32 := σ.2 6 (f * 11 + c)
def Rb (σ : zC) (τ : zM) (O : Nat → Nat) (n : Nat) : Prop := σ.1 1 0 = τ.1 0 ∧ σ.1 1 1 = τ.1 3 ∧ τ.1 3 = nI n ∧ σ.1 1 2 = τ.1 4 ∧ (∀ f, f < 90 → tb (zg σ) τ f) ∧ gd (zg σ) (σ.2 5) O n (σ.1 1 2)
def Rs (σ : zC) (τ : zM) : Prop := σ.1 0 3 = τ.1 1 ∧ σ.1 0 4 = τ.1 2 ∧ σ.1 0 2 = τ.1 16 ∧ (0 ≤ σ.1 0 3 ∧ σ.1 0 3 ≤ 10)
def Rk (σ : zC) (τ : zM) : Prop := σ.1 2 0 = τ.2 17 0 ∧ σ.1 2 1 = τ.2 17 1 ∧ σ.1 2 2 = τ.2 17 2 ∧ (∀ f, f < 90 → tbk (zgk σ) τ f) ∧ ∃ (O : Nat → Nat) (n : Nat), τ.2 17 1 = nI n ∧ gd (zgk σ) (σ.2 7) O n (σ.1 2 2)
def Inv (σ : zC) (τ : zM) : Prop := (∃ (O : Nat → Nat) (n : Nat), Rb σ τ O n) ∧ Rs σ τ ∧ Rk σ τ
theorem Rb.zI {σ : zC} {τ : zM} {O : Nat → Nat} {n : Nat} (h : Rb σ τ O n) : zI σ O n := by
  obtain ⟨h0, h1, h2, h3, ht, hn, hs1, hs2, hO, hsrt, hon, hf⟩ := h
  exact ⟨hn, h1.trans h2, fun i hi => ⟨(hO i hi).1, by have := (hO i hi).2; omega⟩, fun i hi h5 => (hf _ (hO i hi).2).2.2.2.2.2 h5⟩
theorem Rb.ok {σ : zC} {τ : zM} {O : Nat → Nat} {n : Nat} (h : Rb σ τ O n) : ∀ f, f < n → mok τ f := by
  obtain ⟨h0, h1, h2, h3, ht, hn, hs1, hs2, hO, hsrt, hon, hf⟩ := h
  intro f hfn
  obtain ⟨b0, b1, b2, b3, b4, b5, b6, b7, b8, b9, b10⟩ := ht f (by omega)
  obtain ⟨f0, f1, f2, f3, f4, f5⟩ := hf f hfn
  refine ⟨fun h6 => ?_, fun e0 e6 e1 e2 e3 e4 => ?_⟩
  · rw [← b0] at h6
    rw [← b9]
    by_cases hz : zg σ f 0 = 0
    · rw [f2 hz, nI_clamp (by omega)]
      exact ⟨rfl, by omega⟩
    · obtain ⟨g, hg, e, -⟩ := f4 hz h6
      rw [e, nI_clamp (by omega)]
      exact ⟨rfl, by omega⟩
  · rw [← b0] at e0 e6 e1 e2 e3 e4
    have e5 : zg σ f 0 = 5 := by
      rcases f1 with h | h | h | h | h | h | h
      · exact absurd h e0
      · exact absurd h e1
      · exact absurd h e2
      · exact absurd h e3
      · exact absurd h e4
      · exact h
      · exact absurd h e6
    obtain ⟨p, q, hp, ep, hq, eq⟩ := f5 e5
    rw [← b5, ← b10, ep, eq, nI_clamp (by omega), nI_clamp (by omega)]
    exact ⟨⟨rfl, hp⟩, rfl, hq⟩
theorem gd.congr {t u : zTab} {ord ord2 : Nat → Int32} {O : Nat → Nat} {n : Nat} {stk : Int32} (h : gd t ord O n stk) (e : ∀ f, f < n → ∀ c, c < 11 → u f c = t f c) (e2 : ∀ i, i < n → ord2 i = ord i) : gd u ord2 O n stk := by
  obtain ⟨hn, hs1, hs2, hO, hsrt, hon, hf⟩ := h
  have es : stn u n = stn t n := zct_congr (fun i hi => by rw [e i hi 0 (by decide)])
  refine ⟨hn, by rw [es]; exact hs1, by rw [es]; exact hs2, fun i hi => by rw [e2 i hi]; exact hO i hi, fun i j hij hj => ?_, hon, fun f hfn => ?_⟩
  · have h := hsrt i j hij hj
    unfold bf at h ⊢
    rw [e _ (hO i (by omega)).2 1 (by decide), e _ (hO j hj).2 1 (by decide)]
    exact h
  · have h := hf f hfn
    unfold fok at h ⊢
    rw [e f hfn 0 (by decide), e f hfn 1 (by decide), e f hfn 5 (by decide), e f hfn 6 (by decide), e f hfn 7 (by decide), e f hfn 9 (by decide), e f hfn 10 (by decide)]
    refine ⟨h.1, h.2.1, h.2.2.1, h.2.2.2.1, fun a b => ?_, h.2.2.2.2.2⟩
    obtain ⟨g, hg, h1, h2⟩ := h.2.2.2.2.1 a b
    exact ⟨g, hg, h1, by rw [e g hg 0 (by decide)]; exact h2⟩
theorem Inv.fr {σ ρ : zC} {τ π : zM} (h : Inv σ τ) (h1 : zfr σ ρ) (h2 : mfr τ π) : Inv ρ π := by
  obtain ⟨⟨O, n, hb⟩, hs, hk⟩ := h
  have ez : zg ρ = zg σ := by funext f c; exact h1.zg f c
  have ek : zgk ρ = zgk σ := by funext f c; unfold zgk; rw [h1.2 6 (by decide)]
  refine ⟨⟨O, n, ?_⟩, ?_, ?_⟩
  · unfold Rb
    rw [ez, h1.1 1 (by decide), h1.2 5 (by decide), h2.1, h2.1, h2.1]
    obtain ⟨a1, a2, a3, a4, a5, a6⟩ := hb
    refine ⟨a1, a2, a3, a4, fun f hf => ?_, a6⟩
    unfold tb
    rw [h2.2 5 (by decide), h2.2 6 (by decide), h2.2 7 (by decide), h2.2 8 (by decide), h2.2 9 (by decide), h2.2 10 (by decide), h2.2 11 (by decide), h2.2 12 (by decide), h2.2 13 (by decide), h2.2 14 (by decide), h2.2 15 (by decide)]
    exact a5 f hf
  · unfold Rs
    rw [h1.1 0 (by decide), h2.1, h2.1, h2.1]
    exact hs
  · unfold Rk tbk
    rw [ek, h1.1 2 (by decide), h1.2 7 (by decide), h2.2 17 (by decide), h2.2 18 (by decide)]
    exact hk
theorem Inv.zO0 {σ : zC} {τ : zM} : True := trivial
