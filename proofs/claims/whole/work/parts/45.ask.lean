/-! the questions: the same answers -/
theorem Rb.fr {σ ρ : zC} {τ π : zM} {O : Nat → Nat} {n : Nat} (hb : Rb σ τ O n) (h1 : zfr σ ρ) (h2 : mfr τ π) : Rb ρ π O n := by
  have ez : zg ρ = zg σ := by funext f c; exact h1.zg f c
  unfold Rb
  rw [ez, h1.1 1 (by decide), h1.2 5 (by decide), h2.1, h2.1, h2.1]
  obtain ⟨a1, a2, a3, a4, a5, a6⟩ := hb
  exact ⟨a1, a2, a3, a4, fun f hf => (a5 f hf).fr h2, a6⟩
theorem zct_le_inj {m : Nat} (φ : Nat → Nat) : ∀ (n : Nat) (p q : Nat → Bool), (∀ i, i < n → p i = true → φ i < m ∧ q (φ i) = true) → (∀ i j, i < n → j < n → p i = true → p j = true → φ i = φ j → i = j) → zct p n ≤ zct q m
  | 0, _, _, _, _ => Nat.zero_le _
  | n + 1, p, q, h1, h2 => by
    cases hp : p n with
    | false =>
      rw [zct_f hp]
      exact zct_le_inj φ n p q (fun i hi => h1 i (by omega)) (fun i j hi hj => h2 i j (by omega) (by omega))
    | true =>
      rw [zct_t hp]
      have hn := h1 n (Nat.lt_succ_self n) hp
      have ih := zct_le_inj φ n p (fun k => q k && decide (k ≠ φ n)) (fun i hi hpi => ⟨(h1 i (by omega) hpi).1, by
        simp [(h1 i (by omega) hpi).2]
        intro e
        have := h2 i n (by omega) (Nat.lt_succ_self n) hpi hp e
        omega⟩) (fun i j hi hj => h2 i j (by omega) (by omega))
      have hl := zct_lt (p := fun k => q k && decide (k ≠ φ n)) (q := q) (n := m) (fun i _ h => by simp at h; exact h.1) hn.1 hn.2 (by simp)
      omega
theorem zct_ext {p : Nat → Bool} {m : Nat} : ∀ (k : Nat), (∀ i, m ≤ i → i < m + k → p i = false) → zct p (m + k) = zct p m
  | 0, _ => rfl
  | k + 1, h => by
    rw [← Nat.add_assoc, zct_f (h (m + k) (by omega) (by omega))]
    exact zct_ext k (fun i h1 h2 => h i h1 (by omega))
section ASK
variable {t : zTab} {ord : Nat → Int32} {O : Nat → Nat} {n : Nat} {stk : Int32} {i : Nat} {ρ : zC} {π : zM} {c : Nat} {cl : Nat → Nat}
theorem SR.cn (h : SR t O i ρ π c cl) : zcn ρ = c := zcn_of h.1 h.2.1
theorem SR.hold (h : SR t O i ρ π c cl) (hi : i ≤ n) (hg : gd t ord O n stk) (htb : ∀ f, f < 90 → tb t π f) (vn ft : Int32) : zhold ρ (zcn ρ) vn ft = mhold2 π n vn ft := by
  rw [h.cn]
  obtain ⟨o1, o2⟩ := h.own hi hg htb vn ft
  unfold zhold mhold2
  cases hz : zfst (zov ρ vn ft) c with
  | none => rw [o1 hz]
  | some a =>
    rw [o2 a hz]
    exact (h.2.2.1 a (zfst_lt hz)).2.2.2.2.1.2.2.2.1
theorem SR.count (h : SR t O i ρ π c cl) (hi : i ≤ n) (hg : gd t ord O n stk) (htb : ∀ f, f < 90 → tb t π f) (vn ft : Int32) : zct (zov ρ vn ft) (zcn ρ) = zct (movb π vn ft) n := by
  rw [h.cn]
  have hn := hg.1
  have inj : ∀ a b, a < c → b < c → cl a = cl b → a = b := fun a b ha hb e => by
    rcases Nat.lt_trichotomy a b with q | q | q
    · exact absurd e (bf_ne (h.2.2.2.1 a b q hb))
    · exact q
    · exact absurd e.symm (bf_ne (h.2.2.2.1 b a q ha))
  apply Nat.le_antisymm
  · exact zct_le_inj cl c _ _ (fun a ha hp => ⟨h.lt hi hg ha, by rw [← h.over hi hg htb vn ft ha]; exact hp⟩) (fun a b ha hb _ _ e => inj a b ha hb e)
  · have back : ∀ g, g < n → movb π vn ft g = true → ∃ a, a < c ∧ cl a = g := fun g hg9 hm => h.2.2.2.2.1 g (of_decide_eq_true hm).1 (by omega)
    refine zct_le_inj (fun g => if hx : ∃ a, a < c ∧ cl a = g then Classical.choose hx else 0) n _ _ (fun g hgn hp => ?_) (fun g k hgn hkn hp hk e => ?_)
    · have hx := back g hgn hp
      have hs := Classical.choose_spec hx
      simp only [dif_pos hx]
      exact ⟨hs.1, by rw [h.over hi hg htb vn ft hs.1, hs.2]; exact hp⟩
    · have hx := back g hgn hp
      have hy := back k hkn hk
      simp only [dif_pos hx, dif_pos hy] at e
      rw [← (Classical.choose_spec hx).2, ← (Classical.choose_spec hy).2, e]
theorem SR.owned (h : SR t O i ρ π c cl) (hi : i ≤ n) (hg : gd t ord O n stk) (htb : ∀ f, f < 90 → tb t π f) {q : Nat} (hq : q < c) : zct (zownb ρ (zcn ρ) q (ρ.1 (q + 11) 3).toNatClampNeg) ((ρ.1 (q + 11) 4).toNatClampNeg + 1) = zct (mownb π n (cl q)) 60 := by
  rw [h.cn]
  have hn := hg.1
  obtain ⟨-, k0, k1, k2, hr, hft⟩ := h.2.2.1 q hq
  obtain ⟨p0, l0, e3, e4, hpl, hl9⟩ := hft
  have hqn := h.lt hi hg hq
  have b4 := (htb (cl q) (by omega)).2.2.2.2.1
  rw [e3, e4, nI_clamp (by omega), nI_clamp (by omega)]
  have hmr : ∀ f, f < 60 → mownb π n (cl q) f = true → p0 ≤ f ∧ f ≤ l0 := by
    intro f hf hm
    have hm := of_decide_eq_true hm
    have hs : mow π (π.2 9 (cl q)) (nI f) n = some (cl q) := by
      cases hx : mow π (π.2 9 (cl q)) (nI f) n with
      | none => rw [hx] at hm; exact absurd hm (by intro z; have : nI (cl q) = -1 := z.symm; have h2 := nI_toInt (n := cl q) (by omega); rw [this] at h2; have : (-1 : Int32).toInt = -1 := rfl; omega)
      | some g =>
        rw [hx] at hm
        have hlt := mow_lt hx
        rw [(nI_eq (by omega) (by omega)).mp hm]
    rw [mow_amin] at hs
    have hv := of_decide_eq_true (amin_lt hs).2
    have v1 := z_nlt hv.2.2.1
    have v2 := z_nlt hv.2.2.2
    rw [← hr.2.1, e3] at v1
    rw [← hr.2.2.1, e4] at v2
    exact ⟨(nI_leI (by omega) (by omega)).mp v1, (nI_leI (by omega) (by omega)).mp v2⟩
  have e60 : zct (mownb π n (cl q)) 60 = zct (mownb π n (cl q)) (l0 + 1) := by
    have := zct_ext (p := mownb π n (cl q)) (m := l0 + 1) (60 - (l0 + 1)) (fun f h1 h2 => by
      cases hm : mownb π n (cl q) f with
      | false => rfl
      | true => have := hmr f (by omega) hm; omega)
    rw [show l0 + 1 + (60 - (l0 + 1)) = 60 by omega] at this
    exact this
  rw [e60]
  refine zct_congr (fun f hf => ?_)
  obtain ⟨o1, o2⟩ := h.own hi hg htb (ρ.1 (q + 11) 2) (nI f)
  unfold zownb
  by_cases hp : p0 ≤ f
  · rw [decide_eq_true hp, Bool.true_and]
    unfold mownb
    rw [k2, b4] at o1 o2 ⊢
    cases hz : zfst (zov ρ (π.2 9 (cl q)) (nI f)) c with
    | none =>
      rw [o1 hz]
      symm
      refine decide_eq_false (fun z => ?_)
      have z2 : nI (cl q) = -1 := z.symm
      have h2 := nI_toInt (n := cl q) (by omega)
      rw [z2] at h2
      have : (-1 : Int32).toInt = -1 := rfl
      omega
    | some a =>
      rw [o2 a hz]
      have ha := zfst_lt hz
      have := h.lt hi hg ha
      show decide (ρ.1 (a + 11) 1 = ρ.1 (q + 11) 1) = decide (nI (cl a) = nI (cl q))
      rw [(h.2.2.1 a ha).2.2.1, k1]
  · rw [decide_eq_false hp, Bool.false_and]
    cases hm : mownb π n (cl q) f with
    | false => rfl
    | true => exact absurd (hmr f (by omega) hm).1 hp
end ASK
/-! the rows of holders stay over a question -/
def z10 (σ ρ : zC) : Prop := ρ.2 10 = σ.2 10
theorem z10_Cl (σ : zC) (i : Nat) (r sh : Nat → Int32) : z10 σ (zCl σ i r sh) := zCl_2n σ r sh (by omega)
theorem z10_apl (σ : zC) (c f : Nat) (idle : Int32) : z10 σ (zapl σ c f idle) := by
  unfold zapl
  split
  · unfold zadd
    split
    · exact z10_Cl σ c (rBegin σ (σ.1 (c + 11)) f) (sPass (σ.2 (c + 31)) (zg σ f 5))
    · rfl
  · split
    · unfold zbo
      split
      · simp [z10, zF, zu]
      · simp [z10, zFa]
    · unfold ztn
      split
      · rfl
      · exact z10_Cl σ _ _ _
theorem z10_run (O : Nat → Nat) (day known idle : Int32) : ∀ (m i : Nat) (σ : zC), z10 σ (zrun O day known idle m i σ)
  | 0, _, σ => rfl
  | m + 1, i, σ => by
    unfold zrun
    split
    · rfl
    · split
      · exact (z10_run O day known idle m (i + 1) _).trans (z10_apl σ _ _ _)
      · exact z10_run O day known idle m (i + 1) σ
theorem z10_Q (σ : zC) (O : Nat → Nat) (n : Nat) (d k_ : Int32) : (zQ σ O n d k_).2 10 = σ.2 10 := (z10_run O d k_ (σ.1 0 4) n 0 (zclear σ)).trans (by simp [zclear, zFa, zO])
def m30 (τ ρ : zM) : Prop := ρ.2 30 = τ.2 30
theorem m30.rf (τ : zM) : m30 τ τ := rfl
theorem m30.tr {τ ρ π : zM} (h : m30 τ ρ) (h2 : m30 ρ π) : m30 τ π := Eq.trans h2 h
theorem m30_F {τ : zM} {j : Nat} (hj : j < 30) (i : Nat) (v : Int32) : m30 τ (zmF τ j i v) := zu_ne (by omega)
theorem m30_Fa {τ : zM} {j : Nat} (hj : j < 30) (g : Nat → Int32) : m30 τ (zmFa τ j g) := by show (if 30 = j then g else τ.2 30) = τ.2 30; rw [if_neg (by omega)]
theorem m30_ite {τ : zM} {P : Prop} [Decidable P] {x y : zM} (hx : m30 τ x) (hy : m30 τ y) : m30 τ (if P then x else y) := by by_cases h : P <;> simp [h, hx, hy]
theorem m30_hold (τ : zM) (c : Nat) (m d : Int32) : m30 τ (mhold τ c m d) := (((m30_F (by decide) c m).tr (m30_Fa (by decide) _)).tr (m30_F (by decide) _ _)).tr (m30_F (by decide) _ _)
theorem m30_nicked (τ : zM) (c : Nat) (m d : Int32) : m30 τ (fX4_nicked τ c m d) := by
  unfold fX4_nicked
  repeat' (first | with_reducible refine m30_ite ?_ ?_ | with_reducible exact m30.rf _ | with_reducible refine m30.tr ?_ (m30_hold _ _ _ _) | with_reducible refine m30.tr ?_ (m30_F (by decide) _ _))
theorem m30_dig (τ : zM) (n f : Nat) : m30 τ (mdig τ n f) := by
  unfold mdig
  split
  · exact m30_F (by decide) _ _
  · exact m30_Fa (by decide) _
theorem m30_comesTo (τ : zM) (f c : Nat) (d : Int32) : m30 τ (fX4_comesTo τ f c d) := by
  unfold fX4_comesTo
  repeat' (first | with_reducible refine m30_ite ?_ ?_ | with_reducible exact m30.rf _ | with_reducible refine m30.tr ?_ (m30_nicked _ _ _ _) | with_reducible refine m30.tr ?_ (m30_F (by decide) _ _))
theorem m30_comes (τ : zM) (n f : Nat) : m30 τ (fX4_comes τ n f) := by
  unfold fX4_comes
  repeat' (first | with_reducible refine m30_ite ?_ ?_ | with_reducible exact m30.rf _ | with_reducible refine m30.tr ?_ (m30_hold _ _ _ _) | with_reducible refine m30.tr ?_ (m30_dig _ _ _) | with_reducible refine m30.tr ?_ (m30_comesTo _ _ _ _) | with_reducible refine m30.tr ?_ (m30_F (by decide) _ _))
theorem m30_run (n : Nat) (d k_ : Int32) : ∀ (m : Nat) (ld la : Int32) (τ : zM), m30 τ (mrun n d k_ m ld la τ)
  | 0, _, _, τ => rfl
  | m + 1, ld, la, τ => by
    unfold mrun
    split
    · rfl
    · exact (m30_comes τ n _).tr (m30_run n d k_ m _ _ _)
theorem m30_go (τ : zM) (n : Nat) (d k_ : Int32) : (mgo τ n d k_).2 30 = τ.2 30 := (m30_run n d k_ n _ _ _).trans (by simp [mclear, zmFa])
