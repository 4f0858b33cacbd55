/-! the standing's steps leave the book, the kept book and the court alone -/
def zfr (σ ρ : zC) : Prop := (∀ j, j < 3 → ρ.1 j = σ.1 j) ∧ ∀ j, j < 9 → ρ.2 j = σ.2 j
theorem zfr.rf (σ : zC) : zfr σ σ := ⟨fun _ _ => rfl, fun _ _ => rfl⟩
theorem zfr.tr {σ ρ π : zC} (h : zfr σ ρ) (h2 : zfr ρ π) : zfr σ π := ⟨fun j hj => (h2.1 j hj).trans (h.1 j hj), fun j hj => (h2.2 j hj).trans (h.2 j hj)⟩
theorem zfr.zg {σ ρ : zC} (h : zfr σ ρ) (f c : Nat) : zg ρ f c = zg σ f c := by show ρ.2 4 _ = σ.2 4 _; rw [h.2 4 (by decide)]
theorem zfr_Cl (σ : zC) (i : Nat) (r sh : Nat → Int32) : zfr σ (zCl σ i r sh) := ⟨fun j hj => zCl_1n σ r sh (by omega), fun j hj => zCl_2n σ r sh (by omega)⟩
theorem zfr_O {σ : zC} {j : Nat} (hj : 3 ≤ j) (f : Nat) (v : Int32) : zfr σ (zO σ j f v) := ⟨fun i hi => zu_ne (by omega), fun _ _ => rfl⟩
theorem zfr_F {σ : zC} {j : Nat} (hj : 9 ≤ j) (f : Nat) (v : Int32) : zfr σ (zF σ j f v) := ⟨fun _ _ => rfl, fun i hi => zu_ne (by omega)⟩
theorem zfr_Fa {σ : zC} {j : Nat} (hj : 9 ≤ j) (g : Nat → Int32) : zfr σ (zFa σ j g) := ⟨fun _ _ => rfl, fun i hi => by show (if i = j then g else σ.2 i) = σ.2 i; rw [if_neg (by omega)]⟩
theorem zfr_clear (σ : zC) : zfr σ (zclear σ) := (zfr_O (by decide) 0 0).tr (zfr_Fa (by decide) _)
theorem zfr_add (σ : zC) (c f : Nat) : zfr σ (zadd σ c f) := by
  unfold zadd
  split
  · exact (zfr_Cl σ c _ _).tr (zfr_O (by decide) 0 _)
  · exact zfr.rf σ
theorem zfr_bo (σ : zC) (c : Nat) (vn ft v : Int32) : zfr σ (zbo σ c vn ft v) := by
  unfold zbo
  split
  · exact zfr_F (by decide) _ _
  · exact zfr_Fa (by decide) _
theorem zfr_tn (σ : zC) (c f : Nat) (idle : Int32) : zfr σ (ztn σ c f idle) := by
  unfold ztn
  split
  · exact zfr.rf σ
  · exact zfr_Cl σ _ _ _
theorem zfr_apl (σ : zC) (c f : Nat) (idle : Int32) : zfr σ (zapl σ c f idle) := by
  unfold zapl
  split
  · exact zfr_add σ c f
  · split
    · exact zfr_bo σ c _ _ _
    · exact zfr_tn σ c f idle
theorem zcn_of {σ : zC} {c : Nat} (h : σ.1 3 0 = nI c) (hc : c ≤ 20) : zcn σ = c := by unfold zcn; rw [h, nI_clamp (by omega)]
def zcok (σ : zC) : Prop := ∃ c, c ≤ 20 ∧ σ.1 3 0 = nI c
theorem zcok.is {σ : zC} (h : zcok σ) : σ.1 3 0 = nI (zcn σ) ∧ zcn σ ≤ 20 := by
  obtain ⟨c, h1, h2⟩ := h
  rw [zcn_of h2 h1]
  exact ⟨h2, h1⟩
theorem zcok_clear (σ : zC) : zcok (zclear σ) := ⟨0, by decide, by simp [zclear, zFa, zO, zu, upd]; rfl⟩
theorem zcok_apl {σ : zC} {c : Nat} (h : σ.1 3 0 = nI c) (hc : c ≤ 20) (f : Nat) (idle : Int32) : zcok (zapl σ c f idle) := by
  unfold zapl
  split
  · unfold zadd
    split
    · exact ⟨c + 1, by omega, by simp [zO, zu, upd]⟩
    · exact ⟨c, hc, h⟩
  · split
    · unfold zbo
      split
      · exact ⟨c, hc, h⟩
      · exact ⟨c, hc, h⟩
    · unfold ztn
      split
      · exact ⟨c, hc, h⟩
      · exact ⟨c, hc, by rw [zCl_3]; exact h⟩
/-- all facts in their order, up to the day -/
def zrun (O : Nat → Nat) (day known idle : Int32) : Nat → Nat → zC → zC
  | 0, _, σ => σ
  | m + 1, i, σ => if day < zg σ (O i) 1 then σ else zrun O day known idle m (i + 1) (if zg σ (O i) 2 ≤ known ∧ ¬ (¬ zg σ (O i) 3 = -4 ∧ zg σ (O i) 3 ≤ known) then zapl σ (zcn σ) (O i) idle else σ)
theorem zrun_s {O : Nat → Nat} {day known idle : Int32} {n i : Nat} {σ : zC} (h : i < n) : zrun O day known idle (n - i) i σ = if day < zg σ (O i) 1 then σ else zrun O day known idle (n - (i + 1)) (i + 1) (if zg σ (O i) 2 ≤ known ∧ ¬ (¬ zg σ (O i) 3 = -4 ∧ zg σ (O i) 3 ≤ known) then zapl σ (zcn σ) (O i) idle else σ) := by
  rw [show n - i = (n - (i + 1)) + 1 by omega]
  rfl
theorem zrun_fr (O : Nat → Nat) (day known idle : Int32) : ∀ (m i : Nat) (σ : zC), zcok σ → zfr σ (zrun O day known idle m i σ) ∧ zcok (zrun O day known idle m i σ)
  | 0, _, σ, h => ⟨zfr.rf σ, h⟩
  | m + 1, i, σ, h => by
    unfold zrun
    split
    · exact ⟨zfr.rf σ, h⟩
    · split
      · have h2 := zrun_fr O day known idle m (i + 1) (zapl σ (zcn σ) (O i) idle) (zcok_apl h.is.1 h.is.2 _ _)
        exact ⟨(zfr_apl σ _ _ _).tr h2.1, h2.2⟩
      · exact zrun_fr O day known idle m (i + 1) σ h
def zQ (σ : zC) (O : Nat → Nat) (n : Nat) (day known : Int32) : zC := zrun O day known (σ.1 0 4) n 0 (zclear σ)
theorem zQ_fr (σ : zC) (O : Nat → Nat) (n : Nat) (day known : Int32) : zfr σ (zQ σ O n day known) := (zfr_clear σ).tr (zrun_fr O day known (σ.1 0 4) n 0 (zclear σ) (zcok_clear σ)).1
theorem zQ_c (σ : zC) (O : Nat → Nat) (n : Nat) (day known : Int32) : (zQ σ O n day known).1 3 0 = nI (zcn (zQ σ O n day known)) ∧ zcn (zQ σ O n day known) ≤ 20 := (zrun_fr O day known (σ.1 0 4) n 0 (zclear σ) (zcok_clear σ)).2.is
/-- what the court's methods need of the book -/
def zI (σ : zC) (O : Nat → Nat) (n : Nat) : Prop := n ≤ 90 ∧ σ.1 1 1 = nI n ∧ (∀ i, i < n → σ.2 5 i = nI (O i) ∧ O i < 90) ∧ ∀ i, i < n → zg σ (O i) 0 = 5 → ∃ p q : Nat, p < 10 ∧ zg σ (O i) 5 = nI p ∧ q < 10 ∧ zg σ (O i) 10 = nI q
theorem zI.val {σ : zC} {O : Nat → Nat} {n : Nat} (h : zI σ O n) : zval (σ.2 5) n := fun i hi => ⟨O i, (h.2.2.1 i hi).2, (h.2.2.1 i hi).1⟩
theorem zI.fr {σ ρ : zC} {O : Nat → Nat} {n : Nat} (h : zI σ O n) (hf : zfr σ ρ) : zI ρ O n := ⟨h.1, by rw [hf.1 1 (by decide)]; exact h.2.1, fun i hi => by rw [hf.2 5 (by decide)]; exact h.2.2.1 i hi, fun i hi => by rw [hf.zg, hf.zg, hf.zg]; exact h.2.2.2 i hi⟩
theorem zdiv60 {j : Nat} (h : j < 240) : nI j / 60 = nI (j / 60) := pk_div (d := 60) (by omega) (by decide) (by decide)
theorem zrem60 {j : Nat} (h : j < 240) : nI j - nI j / 60 * 60 = nI (j % 60) := pk_rem (d := 60) (by omega) (by decide) (by decide)
def zhj (σ : zC) (c : Nat) (j : Nat) : Int32 := zhold σ c (nI (j / 60)) (nI (j % 60))
def zhN (σ : zC) (c n : Nat) (g : Nat → Int32) : Nat → Int32 := fun j => if j < n then zhj σ c j else g j
theorem zhN_0 (σ : zC) (c : Nat) (g : Nat → Int32) : zhN σ c 0 g = g := by funext j; simp [zhN]
theorem zhN_s (σ : zC) (c n : Nat) (g : Nat → Int32) : upd (zhN σ c n g) n (zhj σ c n) = zhN σ c (n + 1) g := by
  funext q
  unfold upd zhN
  by_cases h : q = n
  · subst h; rw [if_pos rfl, if_pos (Nat.lt_succ_self _)]
  · rw [if_neg h]
    by_cases h2 : q < n
    · simp only [if_pos h2, if_pos (show q < n + 1 by omega)]
    · simp only [if_neg h2, if_neg (show ¬ q < n + 1 by omega)]
theorem zhold_fr {σ ρ : zC} (h : ∀ i, ρ.1 (i + 11) = σ.1 (i + 11)) (c : Nat) (vn ft : Int32) : zhold ρ c vn ft = zhold σ c vn ft := by
  unfold zhold
  have e : zov ρ vn ft = zov σ vn ft := by funext i; unfold zov; rw [h i]
  rw [e]
  split <;> simp [h]
theorem zfeet_j {v f : Nat} (hf : f < 60) : (v * 60 + f) / 60 = v ∧ (v * 60 + f) % 60 = f := by omega
