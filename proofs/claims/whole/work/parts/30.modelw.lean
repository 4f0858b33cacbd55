/-! the reference's pure words -/
theorem zmFa_self (τ : zM) (j : Nat) : zmFa τ j (τ.2 j) = τ := by
  unfold zmFa
  refine Prod.ext rfl (funext fun j2 => ?_)
  show (if j2 = j then τ.2 j else τ.2 j2) = τ.2 j2
  by_cases h : j2 = j
  · subst h; simp
  · simp [h]
theorem zmF_Fa (τ : zM) (j i : Nat) (G : Nat → Int32) (v : Int32) : zmF (zmFa τ j G) j i v = zmFa τ j (upd G i v) := by
  unfold zmF zmFa
  refine Prod.ext rfl (funext fun j2 => ?_)
  show zu (fun j2 => if j2 = j then G else τ.2 j2) j i v j2 = if j2 = j then upd G i v else τ.2 j2
  by_cases h : j2 = j
  · subst h; simp [zu]
  · simp [zu, h]
def mI (o : Option Nat) : Int32 := match o with
  | none => -1
  | some g => nI g
theorem mI_neg {o : Option Nat} (h : mI o < 0) (hb : ∀ g, o = some g → g < 90) : o = none := by
  cases o with
  | none => rfl
  | some g => exact absurd h (nI_pos (by have := hb g rfl; omega))
theorem mI_pos {o : Option Nat} (h : ¬ mI o < 0) : o = some (o.getD 0) := by
  cases o with
  | none => exact absurd (show mI none < 0 by decide) h
  | some g => rfl
theorem mI_get {o : Option Nat} (h : ¬ mI o < 0) : mI o = nI (o.getD 0) := by
  cases o with
  | none => exact absurd (show mI none < 0 by decide) h
  | some g => rfl
theorem mI_nn {g : Nat} (h : g < 90) : ¬ mI (some g) < 0 := nI_pos (by omega)
/-- the owner of a foot: the eldest that stands over it -/
def mov (τ : zM) (vn ft : Int32) (c : Nat) : Prop := ¬ τ.2 19 c = 0 ∧ τ.2 9 c = vn ∧ ¬ ft < τ.2 23 c ∧ ¬ τ.2 24 c < ft
def mow (τ : zM) (vn ft : Int32) : Nat → Option Nat
  | 0 => none
  | c + 1 => if (¬ τ.2 19 c = 0 ∧ τ.2 9 c = vn ∧ ¬ ft < τ.2 23 c ∧ ¬ τ.2 24 c < ft) ∧ (mow τ vn ft c = none ∨ τ.2 6 c < τ.2 6 ((mow τ vn ft c).getD 0)) then some c else mow τ vn ft c
theorem mow_lt {τ : zM} {vn ft : Int32} : ∀ {c g : Nat}, mow τ vn ft c = some g → g < c
  | 0, g, h => by simp [mow] at h
  | c + 1, g, h => by
    unfold mow at h
    split at h
    · cases h; omega
    · have := mow_lt h; omega
theorem mow_y {τ : zM} {vn ft : Int32} {c : Nat} (h1 : ¬ τ.2 19 c = 0 ∧ τ.2 9 c = vn ∧ ¬ ft < τ.2 23 c ∧ ¬ τ.2 24 c < ft) (h2 : mow τ vn ft c = none ∨ τ.2 6 c < τ.2 6 ((mow τ vn ft c).getD 0)) : mow τ vn ft (c + 1) = some c := if_pos ⟨h1, h2⟩
theorem mow_n1 {τ : zM} {vn ft : Int32} {c : Nat} (h1 : ¬ (¬ τ.2 19 c = 0 ∧ τ.2 9 c = vn ∧ ¬ ft < τ.2 23 c ∧ ¬ τ.2 24 c < ft)) : mow τ vn ft (c + 1) = mow τ vn ft c := if_neg (fun q => h1 q.1)
theorem mow_n2 {τ : zM} {vn ft : Int32} {c : Nat} (h1 : ¬ mow τ vn ft c = none) (h2 : ¬ τ.2 6 c < τ.2 6 ((mow τ vn ft c).getD 0)) : mow τ vn ft (c + 1) = mow τ vn ft c := if_neg (fun q => q.2.elim h1 h2)
/-- shares passed -/
def msN (c n : Nat) (g : Nat → Int32) (m : Int32) : Nat → Int32 := fun j => if 10 * c ≤ j ∧ j < 10 * c + n then (if nI (j - 10 * c) = m then 24 else 0) else g j
theorem msN_0 (c : Nat) (g : Nat → Int32) (m : Int32) : msN c 0 g m = g := by
  funext j
  unfold msN
  rw [if_neg (by omega)]
theorem msN_s (c n : Nat) (g : Nat → Int32) (m v : Int32) (hv : v = if nI n = m then 24 else 0) : upd (msN c n g m) (10 * c + n) v = msN c (n + 1) g m := by
  funext j
  unfold upd msN
  by_cases h : j = 10 * c + n
  · subst h
    rw [if_pos rfl, if_pos (by omega), hv, Nat.add_sub_cancel_left]
  · rw [if_neg h]
    by_cases h2 : 10 * c ≤ j ∧ j < 10 * c + n
    · simp only [if_pos h2, if_pos (show 10 * c ≤ j ∧ j < 10 * c + (n + 1) by omega)]
    · simp only [if_neg h2, if_neg (show ¬ (10 * c ≤ j ∧ j < 10 * c + (n + 1)) by omega)]
def mhold (τ : zM) (c : Nat) (m d : Int32) : zM := zmF (zmF (zmFa (zmF τ 20 c m) 21 (msN c 10 (τ.2 21) m)) 22 c d) 26 c 0
def morN (τ : zM) (f q n : Nat) : Nat → Int32 := fun m => if m < n then τ.2 29 m + τ.2 21 (10 * q + m) * τ.2 14 f else τ.2 29 m
theorem morN_0 (τ : zM) (f q : Nat) : morN τ f q 0 = τ.2 29 := by funext m; simp [morN]
theorem morN_s (τ : zM) (f q n : Nat) : upd (morN τ f q n) n (morN τ f q n n + τ.2 21 (10 * q + n) * τ.2 14 f) = morN τ f q (n + 1) := by
  funext m
  unfold upd morN
  by_cases h : m = n
  · subst h
    simp only [if_pos rfl, if_neg (Nat.lt_irrefl _), if_pos (Nat.lt_succ_self _)]
    rfl
  · rw [if_neg h]
    by_cases h2 : m < n
    · simp only [if_pos h2, if_pos (show m < n + 1 by omega)]
    · simp only [if_neg h2, if_neg (show ¬ m < n + 1 by omega)]
def mdig (τ : zM) (n f : Nat) : zM := match mow τ (τ.2 9 f) (τ.2 12 f) n with
  | none => zmF τ 29 10 (τ.2 29 10 + 24 * τ.2 14 f)
  | some q => zmFa τ 29 (morN τ f q 10)
def mownb (τ : zM) (n c : Nat) : Nat → Bool := fun f => decide (mI (mow τ (τ.2 9 c) (nI f) n) = nI c)
theorem zcpy_0 (f g : Nat → Int32) (sp dp : Nat) : va_cpy f g sp dp 0 = g := by
  funext j
  unfold va_cpy
  rw [if_neg (by omega)]
theorem zcpy_s (f g : Nat → Int32) (sp dp n : Nat) : upd (va_cpy f g sp dp n) (dp + n) (f (sp + n)) = va_cpy f g sp dp (n + 1) := by
  funext j
  unfold upd va_cpy
  by_cases h : j = dp + n
  · subst h
    rw [if_pos rfl, if_pos (by omega), Nat.add_sub_cancel_left]
  · rw [if_neg h]
    by_cases h2 : dp ≤ j ∧ j < dp + n
    · simp only [if_pos h2, if_pos (show dp ≤ j ∧ j < dp + (n + 1) by omega)]
    · simp only [if_neg h2, if_neg (show ¬ (dp ≤ j ∧ j < dp + (n + 1)) by omega)]
