/-! how it stands: pure words -/
def zfst (p : Nat → Bool) : Nat → Option Nat
  | 0 => none
  | n + 1 => match zfst p n with
    | some i => some i
    | none => if p n then some n else none
theorem zfst_next {p : Nat → Bool} {i : Nat} (h0 : zfst p i = none) (hp : p i = false) : zfst p (i + 1) = none := by simp [zfst, h0, hp]
theorem zfst_at {p : Nat → Bool} {i n : Nat} (h0 : zfst p i = none) (hp : p i = true) (hn : i < n) : zfst p n = some i := by
  induction n with
  | zero => exact absurd hn (Nat.not_lt_zero _)
  | succ n ih =>
    rcases Nat.lt_or_ge i n with q | q
    · simp [zfst, ih q]
    · have : n = i := by omega
      subst this
      simp [zfst, h0, hp]
theorem zfst_lt {p : Nat → Bool} {i n : Nat} (h : zfst p n = some i) : i < n := by
  induction n with
  | zero => simp [zfst] at h
  | succ n ih =>
    unfold zfst at h
    split at h
    · cases h
      have := ih (by assumption)
      omega
    · split at h
      · cases h; omega
      · cases h
theorem zfst_yes {p : Nat → Bool} {i n : Nat} (h : zfst p n = some i) : p i = true := by
  induction n with
  | zero => simp [zfst] at h
  | succ n ih =>
    unfold zfst at h
    split at h
    · cases h
      exact ih (by assumption)
    · split at h
      · cases h; assumption
      · cases h
theorem zfst_no {p : Nat → Bool} {n : Nat} (h : zfst p n = none) : ∀ j, j < n → p j = false := by
  induction n with
  | zero => intro j hj; exact absurd hj (Nat.not_lt_zero _)
  | succ n ih =>
    unfold zfst at h
    split at h
    · cases h
    · split at h
      · cases h
      · intro j hj
        rcases Nat.lt_or_ge j n with q | q
        · exact ih (by assumption) j q
        · have : j = n := by omega
          subst this
          simpa using (by assumption : ¬ p j = true)
theorem zfst_before {p : Nat → Bool} {i n : Nat} (h : zfst p n = some i) : ∀ j, j < i → p j = false := by
  induction n with
  | zero => simp [zfst] at h
  | succ n ih =>
    unfold zfst at h
    split at h
    · cases h
      exact ih (by assumption)
    · split at h
      · cases h
        exact zfst_no (by assumption)
      · cases h
theorem zfst_congr {p q : Nat → Bool} : ∀ {n : Nat}, (∀ i, i < n → p i = q i) → zfst p n = zfst q n
  | 0, _ => rfl
  | n + 1, h => by unfold zfst; rw [zfst_congr (fun i hi => h i (by omega)), h n (by omega)]
/-- which claims lie over a foot; which claim has a number -/
def zov (σ : zC) (vn ft : Int32) : Nat → Bool := fun i => decide (¬ σ.1 (i + 11) 0 = 0 ∧ σ.1 (i + 11) 2 = vn ∧ σ.1 (i + 11) 3 ≤ ft ∧ ft ≤ σ.1 (i + 11) 4)
def zfd (σ : zC) (x : Int32) : Nat → Bool := fun i => decide (¬ σ.1 (i + 11) 0 = 0 ∧ σ.1 (i + 11) 1 = x)
def zhold (σ : zC) (c : Nat) (vn ft : Int32) : Int32 := match zfst (zov σ vn ft) c with
  | none => -4
  | some i => σ.1 (i + 11) 5
def zownb (σ : zC) (c q : Nat) (p0 : Nat) : Nat → Bool := fun g => decide (p0 ≤ g) && (match zfst (zov σ (σ.1 (q + 11) 2) (nI g)) c with
  | none => false
  | some i => decide (σ.1 (i + 11) 1 = σ.1 (q + 11) 1))
def zclr (n : Nat) (g : Nat → Int32) : Nat → Int32 := fun i => if i < n then 0 else g i
theorem zclr_s (n : Nat) (g : Nat → Int32) : upd (zclr n g) n 0 = zclr (n + 1) g := by
  funext q
  unfold upd zclr
  by_cases h : q = n
  · subst h; rw [if_pos rfl, if_pos (Nat.lt_succ_self _)]
  · rw [if_neg h]
    by_cases h2 : q < n
    · simp only [if_pos h2, if_pos (show q < n + 1 by omega)]
    · simp only [if_neg h2, if_neg (show ¬ q < n + 1 by omega)]
theorem zclr_0 (g : Nat → Int32) : zclr 0 g = g := by funext q; simp [zclr]
def zclear (σ : zC) : zC := zFa (zO σ 3 0 0) 9 (zclr 11 (σ.2 9))
def zadd (σ : zC) (c f : Nat) : zC := if c < 20 then zO (zCl σ c (rBegin σ (σ.1 (c + 11)) f) (sPass (σ.2 (c + 31)) (zg σ f 5))) 3 0 (nI (c + 1)) else σ
def zorN (σ : zC) (q n : Nat) (v : Int32) : Nat → Int32 := fun m => if m < n then σ.2 9 m + v * σ.2 (q + 31) m else σ.2 9 m
theorem zorN_0 (σ : zC) (q : Nat) (v : Int32) : zorN σ q 0 v = σ.2 9 := by funext m; simp [zorN]
theorem zorN_s (σ : zC) (q n : Nat) (v : Int32) : upd (zorN σ q n v) n (zorN σ q n v n + v * σ.2 (q + 31) n) = zorN σ q (n + 1) v := by
  funext m
  unfold upd zorN
  by_cases h : m = n
  · subst h
    simp only [if_pos rfl, if_neg (Nat.lt_irrefl _), if_pos (Nat.lt_succ_self _)]
    rfl
  · rw [if_neg h]
    by_cases h2 : m < n
    · simp only [if_pos h2, if_pos (show m < n + 1 by omega)]
    · simp only [if_neg h2, if_neg (show ¬ m < n + 1 by omega)]
def zbo (σ : zC) (c : Nat) (vn ft v : Int32) : zC := match zfst (zov σ vn ft) c with
  | none => zF σ 9 10 (σ.2 9 10 + v * 24)
  | some q => zFa σ 9 (zorN σ q 10 v)
def ztn (σ : zC) (c f : Nat) (idle : Int32) : zC := match zfst (zfd σ (zg σ f 9)) c with
  | none => σ
  | some q => zCl σ q (rTurn σ (σ.1 (q + 11)) f idle) (sTurn σ (σ.1 (q + 11)) (σ.2 (q + 31)) f idle)
def zapl (σ : zC) (c f : Nat) (idle : Int32) : zC := if zg σ f 0 = 0 then zadd σ c f else if zg σ f 0 = 6 then zbo σ c (zg σ f 4) (zg σ f 6) (zg σ f 8) else ztn σ c f idle
def zcn (σ : zC) : Nat := (σ.1 3 0).toNatClampNeg
def zkn (σ : zC) (f : Nat) (y : Int32) : Prop := zg σ f 2 ≤ y ∧ ¬ (¬ zg σ f 3 = -4 ∧ zg σ f 3 ≤ y)
