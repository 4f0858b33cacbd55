/-! the worlds: the court's cells by their numbers, the model's by its slots -/
abbrev zC : Type := (Nat → Nat → Int32) × (Nat → Nat → Int32)
abbrev zM : Type := (Nat → Int32) × (Nat → Nat → Int32)
def zu (f : Nat → Nat → Int32) (j i : Nat) (v : Int32) : Nat → Nat → Int32 := fun j2 => if j2 = j then upd (f j) i v else f j2
def zO (σ : zC) (j f : Nat) (v : Int32) : zC := (zu σ.1 j f v, σ.2)
def zF (σ : zC) (j i : Nat) (v : Int32) : zC := (σ.1, zu σ.2 j i v)
def zFa (σ : zC) (j : Nat) (g : Nat → Int32) : zC := (σ.1, fun j2 => if j2 = j then g else σ.2 j2)
theorem zu_ne {f : Nat → Nat → Int32} {j i : Nat} {v : Int32} {j2 : Nat} (h : j2 ≠ j) : zu f j i v j2 = f j2 := by simp [zu, h]
theorem zu_eq {f : Nat → Nat → Int32} {j i : Nat} {v : Int32} : zu f j i v j = upd (f j) i v := by simp [zu]
def zcl (a : Nat → Nat) (σ : zC) (j : Nat) : List Value := [.int (σ.1 (j + 11) 0), .int (σ.1 (j + 11) 1), .int (σ.1 (j + 11) 2), .int (σ.1 (j + 11) 3), .int (σ.1 (j + 11) 4), .int (σ.1 (j + 11) 5), .int (σ.1 (j + 11) 6), .int (σ.1 (j + 11) 7), .int (σ.1 (j + 11) 8), .int (σ.1 (j + 11) 9), .int (σ.1 (j + 11) 10), .ref (a (j + 31))]
def zcE (a : Nat → Nat) (ty : zTy) (σ : zC) (j : Nat) : va_E := match j with
  | 0 => .inr (3, [.ref (a 1), .ref (a 2), .int (σ.1 0 2), .int (σ.1 0 3), .int (σ.1 0 4), .ref (a 3), .ref (a 10)])
  | 1 => .inr (0, [.int (σ.1 1 0), .int (σ.1 1 1), .int (σ.1 1 2), .ref (a 4), .ref (a 5)])
  | 2 => .inr (0, [.int (σ.1 2 0), .int (σ.1 2 1), .int (σ.1 2 2), .ref (a 6), .ref (a 7)])
  | 3 => .inr (2, [.int (σ.1 3 0), .ref (a 8), .ref (a 9)])
  | 4 => .inl (ty.1, 990, .inl (σ.2 4))
  | 5 => .inl (ty.1, 90, .inl (σ.2 5))
  | 6 => .inl (ty.1, 990, .inl (σ.2 6))
  | 7 => .inl (ty.1, 90, .inl (σ.2 7))
  | 8 => .inl (ty.2.2, 20, .inr (.inr (.inr (.inr (fun i => some (a (i + 11)))))))
  | 9 => .inl (ty.1, 11, .inl (σ.2 9))
  | 10 => .inl (ty.1, 240, .inl (σ.2 10))
  | j + 11 => if j < 20 then .inr (1, zcl a σ j) else .inl (ty.1, 10, .inl (σ.2 (j + 11)))
def zc (a : Nat → Nat) (ty : zTy) (σ : zC) : va_W := (List.range 51).map (fun j => (a j, zcE a ty σ j))
theorem zc_at {a : Nat → Nat} {ty : zTy} {σ : zC} {j : Nat} (hj : j < 51) : (zc a ty σ)[j]? = some (a j, zcE a ty σ j) := by
  unfold zc
  rw [List.getElem?_map, List.getElem?_range hj]
  rfl
theorem zcE_cl {a : Nat → Nat} {ty : zTy} {σ : zC} {j : Nat} (hj : j < 20) : zcE a ty σ (j + 11) = .inr (1, zcl a σ j) := by
  show (if j < 20 then _ else _) = _
  rw [if_pos hj]
theorem zcE_sh {a : Nat → Nat} {ty : zTy} {σ : zC} {j : Nat} : zcE a ty σ (j + 31) = .inl (ty.1, 10, .inl (σ.2 (j + 31))) := by
  have h : zcE a ty σ ((j + 20) + 11) = if j + 20 < 20 then .inr (1, zcl a σ (j + 20)) else .inl (ty.1, 10, .inl (σ.2 (j + 20 + 11))) := rfl
  rw [if_neg (by omega)] at h
  exact h
theorem zc_cl {a : Nat → Nat} {ty : zTy} {σ : zC} {j : Nat} (hj : j < 20) : (zc a ty σ)[j + 11]? = some (a (j + 11), .inr (1, zcl a σ j)) := by rw [zc_at (by omega), zcE_cl hj]
theorem zc_sh {a : Nat → Nat} {ty : zTy} {σ : zC} {j : Nat} (hj : j < 20) : (zc a ty σ)[j + 31]? = some (a (j + 31), .inl (ty.1, 10, .inl (σ.2 (j + 31)))) := by rw [zc_at (by omega), zcE_sh]
theorem zcE_congr {a : Nat → Nat} {ty : zTy} {σ ρ : zC} {j : Nat} (h1 : σ.1 j = ρ.1 j) (h2 : σ.2 j = ρ.2 j) : zcE a ty σ j = zcE a ty ρ j := by
  match j, h1, h2 with
  | 0, h1, h2 => simp only [zcE, h1, h2]
  | 1, h1, h2 => simp only [zcE, h1, h2]
  | 2, h1, h2 => simp only [zcE, h1, h2]
  | 3, h1, h2 => simp only [zcE, h1, h2]
  | 4, h1, h2 => simp only [zcE, h1, h2]
  | 5, h1, h2 => simp only [zcE, h1, h2]
  | 6, h1, h2 => simp only [zcE, h1, h2]
  | 7, h1, h2 => simp only [zcE, h1, h2]
  | 8, h1, h2 => simp only [zcE, h1, h2]
  | 9, h1, h2 => simp only [zcE, h1, h2]
  | 10, h1, h2 => simp only [zcE, h1, h2]
  | j + 11, h1, h2 => simp only [zcE, zcl, h1, h2]
theorem zc_set {a : Nat → Nat} {ty : zTy} {σ ρ : zC} {j : Nat} {e : va_E} (hj : j < 51) (he : zcE a ty ρ j = e) (ho : ∀ j2, j2 ≠ j → σ.1 j2 = ρ.1 j2 ∧ σ.2 j2 = ρ.2 j2) : (zc a ty σ).set j (a j, e) = zc a ty ρ := by
  apply List.ext_getElem?
  intro j2
  by_cases h2 : j2 < 51
  · rw [zc_at h2]
    by_cases h : j2 = j
    · subst h
      rw [List.getElem?_set_self (by simp [zc]; exact h2), he]
    · rw [List.getElem?_set_ne (Ne.symm h), zc_at h2, zcE_congr (ho j2 h).1 (ho j2 h).2]
  · rw [List.getElem?_eq_none (by simp [zc]; omega), List.getElem?_eq_none (by simp [zc]; omega)]
theorem zc_O {a : Nat → Nat} {ty : zTy} {σ : zC} (j f : Nat) {v : Int32} {e : va_E} (hj : j < 51) (he : zcE a ty (zO σ j f v) j = e) : (zc a ty σ).set j (a j, e) = zc a ty (zO σ j f v) := zc_set hj he (fun j2 h => ⟨(zu_ne h).symm, rfl⟩)
theorem zc_F {a : Nat → Nat} {ty : zTy} {σ : zC} (j i : Nat) {v : Int32} {e : va_E} (hj : j < 51) (he : zcE a ty (zF σ j i v) j = e) : (zc a ty σ).set j (a j, e) = zc a ty (zF σ j i v) := zc_set hj he (fun j2 h => ⟨rfl, (zu_ne h).symm⟩)
theorem zc_Fa {a : Nat → Nat} {ty : zTy} {σ : zC} (j : Nat) {g : Nat → Int32} {e : va_E} (hj : j < 51) (he : zcE a ty (zFa σ j g) j = e) : (zc a ty σ).set j (a j, e) = zc a ty (zFa σ j g) := zc_set hj he (fun j2 h => ⟨rfl, by simp [zFa, h]⟩)
theorem zc_Fs {a : Nat → Nat} {ty : zTy} {σ : zC} {j i : Nat} {v : Int32} (hj : j < 20) : (zc a ty σ).set (j + 31) (a (j + 31), .inl (ty.1, 10, .inl (upd (σ.2 (j + 31)) i v))) = zc a ty (zF σ (j + 31) i v) := zc_F _ _ (by omega) (by rw [zcE_sh]; simp [zF, zu])
theorem zc_Oc0 {a : Nat → Nat} {ty : zTy} {σ : zC} {j : Nat} {v : Int32} (hj : j < 20) : (zc a ty σ).set (j + 11) (a (j + 11), .inr (1, (zcl a σ j).set 0 (.int v))) = zc a ty (zO σ (j + 11) 0 v) := zc_O _ _ (by omega) (by rw [zcE_cl hj]; simp [zcl, zO, zu, upd])
theorem zc_Oc1 {a : Nat → Nat} {ty : zTy} {σ : zC} {j : Nat} {v : Int32} (hj : j < 20) : (zc a ty σ).set (j + 11) (a (j + 11), .inr (1, (zcl a σ j).set 1 (.int v))) = zc a ty (zO σ (j + 11) 1 v) := zc_O _ _ (by omega) (by rw [zcE_cl hj]; simp [zcl, zO, zu, upd])
theorem zc_Oc2 {a : Nat → Nat} {ty : zTy} {σ : zC} {j : Nat} {v : Int32} (hj : j < 20) : (zc a ty σ).set (j + 11) (a (j + 11), .inr (1, (zcl a σ j).set 2 (.int v))) = zc a ty (zO σ (j + 11) 2 v) := zc_O _ _ (by omega) (by rw [zcE_cl hj]; simp [zcl, zO, zu, upd])
theorem zc_Oc3 {a : Nat → Nat} {ty : zTy} {σ : zC} {j : Nat} {v : Int32} (hj : j < 20) : (zc a ty σ).set (j + 11) (a (j + 11), .inr (1, (zcl a σ j).set 3 (.int v))) = zc a ty (zO σ (j + 11) 3 v) := zc_O _ _ (by omega) (by rw [zcE_cl hj]; simp [zcl, zO, zu, upd])
theorem zc_Oc4 {a : Nat → Nat} {ty : zTy} {σ : zC} {j : Nat} {v : Int32} (hj : j < 20) : (zc a ty σ).set (j + 11) (a (j + 11), .inr (1, (zcl a σ j).set 4 (.int v))) = zc a ty (zO σ (j + 11) 4 v) := zc_O _ _ (by omega) (by rw [zcE_cl hj]; simp [zcl, zO, zu, upd])
theorem zc_Oc5 {a : Nat → Nat} {ty : zTy} {σ : zC} {j : Nat} {v : Int32} (hj : j < 20) : (zc a ty σ).set (j + 11) (a (j + 11), .inr (1, (zcl a σ j).set 5 (.int v))) = zc a ty (zO σ (j + 11) 5 v) := zc_O _ _ (by omega) (by rw [zcE_cl hj]; simp [zcl, zO, zu, upd])
theorem zc_Oc6 {a : Nat → Nat} {ty : zTy} {σ : zC} {j : Nat} {v : Int32} (hj : j < 20) : (zc a ty σ).set (j + 11) (a (j + 11), .inr (1, (zcl a σ j).set 6 (.int v))) = zc a ty (zO σ (j + 11) 6 v) := zc_O _ _ (by omega) (by rw [zcE_cl hj]; simp [zcl, zO, zu, upd])
theorem zc_Oc7 {a : Nat → Nat} {ty : zTy} {σ : zC} {j : Nat} {v : Int32} (hj : j < 20) : (zc a ty σ).set (j + 11) (a (j + 11), .inr (1, (zcl a σ j).set 7 (.int v))) = zc a ty (zO σ (j + 11) 7 v) := zc_O _ _ (by omega) (by rw [zcE_cl hj]; simp [zcl, zO, zu, upd])
theorem zc_Oc8 {a : Nat → Nat} {ty : zTy} {σ : zC} {j : Nat} {v : Int32} (hj : j < 20) : (zc a ty σ).set (j + 11) (a (j + 11), .inr (1, (zcl a σ j).set 8 (.int v))) = zc a ty (zO σ (j + 11) 8 v) := zc_O _ _ (by omega) (by rw [zcE_cl hj]; simp [zcl, zO, zu, upd])
theorem zc_Oc9 {a : Nat → Nat} {ty : zTy} {σ : zC} {j : Nat} {v : Int32} (hj : j < 20) : (zc a ty σ).set (j + 11) (a (j + 11), .inr (1, (zcl a σ j).set 9 (.int v))) = zc a ty (zO σ (j + 11) 9 v) := zc_O _ _ (by omega) (by rw [zcE_cl hj]; simp [zcl, zO, zu, upd])
theorem zc_Oc10 {a : Nat → Nat} {ty : zTy} {σ : zC} {j : Nat} {v : Int32} (hj : j < 20) : (zc a ty σ).set (j + 11) (a (j + 11), .inr (1, (zcl a σ j).set 10 (.int v))) = zc a ty (zO σ (j + 11) 10 v) := zc_O _ _ (by omega) (by rw [zcE_cl hj]; simp [zcl, zO, zu, upd])
def zmf (b : Nat → Nat) (τ : zM) : List Value := [.int (τ.1 0), .int (τ.1 1), .int (τ.1 2), .int (τ.1 3), .int (τ.1 4), .ref (b 5), .ref (b 6), .ref (b 7), .ref (b 8), .ref (b 9), .ref (b 10), .ref (b 11), .ref (b 12), .ref (b 13), .ref (b 14), .ref (b 15), .int (τ.1 16), .ref (b 17), .ref (b 18), .ref (b 19), .ref (b 20), .ref (b 21), .ref (b 22), .ref (b 23), .ref (b 24), .ref (b 25), .ref (b 26), .ref (b 27), .ref (b 28), .ref (b 29), .ref (b 30)]
def zmE (b : Nat → Nat) (ty : zTy) (τ : zM) (j : Nat) : va_E := match j with
  | 0 => .inr (4, zmf b τ)
  | 5 => .inl (ty.1, 90, .inl (τ.2 5))
  | 6 => .inl (ty.1, 90, .inl (τ.2 6))
  | 7 => .inl (ty.1, 90, .inl (τ.2 7))
  | 8 => .inl (ty.1, 90, .inl (τ.2 8))
  | 9 => .inl (ty.1, 90, .inl (τ.2 9))
  | 10 => .inl (ty.1, 90, .inl (τ.2 10))
  | 11 => .inl (ty.1, 90, .inl (τ.2 11))
  | 12 => .inl (ty.1, 90, .inl (τ.2 12))
  | 13 => .inl (ty.1, 90, .inl (τ.2 13))
  | 14 => .inl (ty.1, 90, .inl (τ.2 14))
  | 15 => .inl (ty.1, 90, .inl (τ.2 15))
  | 17 => .inl (ty.1, 3, .inl (τ.2 17))
  | 18 => .inl (ty.1, 990, .inl (τ.2 18))
  | 19 => .inl (ty.2.1, 90, .inl (τ.2 19))
  | 20 => .inl (ty.1, 90, .inl (τ.2 20))
  | 21 => .inl (ty.1, 900, .inl (τ.2 21))
  | 22 => .inl (ty.1, 90, .inl (τ.2 22))
  | 23 => .inl (ty.1, 90, .inl (τ.2 23))
  | 24 => .inl (ty.1, 90, .inl (τ.2 24))
  | 25 => .inl (ty.1, 90, .inl (τ.2 25))
  | 26 => .inl (ty.1, 90, .inl (τ.2 26))
  | 27 => .inl (ty.1, 90, .inl (τ.2 27))
  | 28 => .inl (ty.1, 90, .inl (τ.2 28))
  | 29 => .inl (ty.1, 11, .inl (τ.2 29))
  | 30 => .inl (ty.1, 240, .inl (τ.2 30))
  | j => .inl (ty.1, 0, .inl (τ.2 j))
def zmI : List Nat := [0, 5, 6, 7, 8, 9, 10, 11, 12, 13, 14, 15, 17, 18, 19, 20, 21, 22, 23, 24, 25, 26, 27, 28, 29, 30]
def zm (b : Nat → Nat) (ty : zTy) (τ : zM) : va_W := zmI.map (fun j => (b j, zmE b ty τ j))
def zmO (τ : zM) (f : Nat) (v : Int32) : zM := (upd τ.1 f v, τ.2)
def zmF (τ : zM) (j i : Nat) (v : Int32) : zM := (τ.1, zu τ.2 j i v)
def zmFa (τ : zM) (j : Nat) (g : Nat → Int32) : zM := (τ.1, fun j2 => if j2 = j then g else τ.2 j2)
theorem zm_at {b : Nat → Nat} {ty : zTy} {τ : zM} {p j : Nat} (h : zmI[p]? = some j) : (zm b ty τ)[p]? = some (b j, zmE b ty τ j) := by
  unfold zm
  rw [List.getElem?_map, h]
  rfl
theorem zmI_nd : ∀ (p q j : Nat), zmI[p]? = some j → zmI[q]? = some j → p = q := fun p q j h1 h2 => va_nd_inj zmI (by decide) p q j h1 h2
theorem zm_set {b : Nat → Nat} {ty : zTy} {τ ρ : zM} {p j : Nat} {e : va_E} (h : zmI[p]? = some j) (he : zmE b ty ρ j = e) (ho : ∀ j2, j2 ≠ j → j2 ∈ zmI → zmE b ty τ j2 = zmE b ty ρ j2) : (zm b ty τ).set p (b j, e) = zm b ty ρ := by
  apply List.ext_getElem?
  intro q
  by_cases hq : q = p
  · subst hq
    rw [List.getElem?_set_self (by simp [zm]; exact (List.getElem?_eq_some_iff.mp h).1), zm_at h, he]
  · rw [List.getElem?_set_ne (Ne.symm hq)]
    cases hj : zmI[q]? with
    | none =>
      have hl : zmI.length ≤ q := List.getElem?_eq_none_iff.mp hj
      rw [List.getElem?_eq_none (by simp [zm]; exact hl), List.getElem?_eq_none (by simp [zm]; exact hl)]
    | some j2 =>
      rw [zm_at hj, zm_at hj, ho j2 (fun e2 => hq (zmI_nd q p j (by rw [hj, e2]) h)) (List.mem_of_getElem? hj)]
theorem zmE_congr {b : Nat → Nat} {ty : zTy} {τ ρ : zM} {j : Nat} (h0 : j ≠ 0) (h1 : τ.2 j = ρ.2 j) : zmE b ty τ j = zmE b ty ρ j := by
  unfold zmE
  split <;> first | (exact absurd rfl h0) | simp only [h1]
theorem zm_O {b : Nat → Nat} {ty : zTy} {τ : zM} (f : Nat) {v : Int32} {e : va_E} (he : zmE b ty (zmO τ f v) 0 = e) : (zm b ty τ).set 0 (b 0, e) = zm b ty (zmO τ f v) := zm_set rfl he (fun j2 h _ => zmE_congr h rfl)
theorem zm_F {b : Nat → Nat} {ty : zTy} {τ : zM} {p : Nat} (j i : Nat) {v : Int32} {e : va_E} (h : zmI[p]? = some j) (h0 : j ≠ 0) (he : zmE b ty (zmF τ j i v) j = e) : (zm b ty τ).set p (b j, e) = zm b ty (zmF τ j i v) := zm_set h he (fun j2 h2 _ => by
  by_cases hz : j2 = 0
  · subst hz; rfl
  · exact zmE_congr hz (zu_ne h2).symm)
theorem zm_O0 {b : Nat → Nat} {ty : zTy} {τ : zM} {v : Int32} : (zm b ty τ).set 0 (b 0, .inr (4, (zmf b τ).set 0 (.int v))) = zm b ty (zmO τ 0 v) := zm_O 0 rfl
theorem zm_O1 {b : Nat → Nat} {ty : zTy} {τ : zM} {v : Int32} : (zm b ty τ).set 0 (b 0, .inr (4, (zmf b τ).set 1 (.int v))) = zm b ty (zmO τ 1 v) := zm_O 1 rfl
theorem zm_O2 {b : Nat → Nat} {ty : zTy} {τ : zM} {v : Int32} : (zm b ty τ).set 0 (b 0, .inr (4, (zmf b τ).set 2 (.int v))) = zm b ty (zmO τ 2 v) := zm_O 2 rfl
theorem zm_O3 {b : Nat → Nat} {ty : zTy} {τ : zM} {v : Int32} : (zm b ty τ).set 0 (b 0, .inr (4, (zmf b τ).set 3 (.int v))) = zm b ty (zmO τ 3 v) := zm_O 3 rfl
theorem zm_O4 {b : Nat → Nat} {ty : zTy} {τ : zM} {v : Int32} : (zm b ty τ).set 0 (b 0, .inr (4, (zmf b τ).set 4 (.int v))) = zm b ty (zmO τ 4 v) := zm_O 4 rfl
theorem zm_O16 {b : Nat → Nat} {ty : zTy} {τ : zM} {v : Int32} : (zm b ty τ).set 0 (b 0, .inr (4, (zmf b τ).set 16 (.int v))) = zm b ty (zmO τ 16 v) := zm_O 16 rfl
def zB (P : Prop) [Decidable P] : Int32 := if P then 1 else 0
theorem zB_t {P : Prop} [Decidable P] (h : P) : zB P = 1 := if_pos h
theorem zB_f {P : Prop} [Decidable P] (h : ¬ P) : zB P = 0 := if_neg h
theorem zB_n0 {P : Prop} [Decidable P] (h : ¬ zB P = 0) : P := by
  by_cases hP : P
  · exact hP
  · exact absurd (zB_f hP) h
theorem zB_0 {P : Prop} [Decidable P] (h : zB P = 0) : ¬ P := fun hP => by rw [zB_t hP] at h; exact absurd h (by decide)
theorem zB_nar {P : Prop} [Decidable P] : narrow .boolean (.int (zB P)) = .int (zB P) := by
  by_cases hP : P
  · rw [zB_t hP]; rfl
  · rw [zB_f hP]; rfl
theorem zB_vp {P : Prop} [Decidable P] : vp_nar .boolean (zB P) = zB P := by
  by_cases hP : P
  · rw [zB_t hP]; rfl
  · rw [zB_f hP]; rfl
theorem zB_nle {P : Prop} [Decidable P] : ¬ zB P < 0 := by
  by_cases hP : P
  · rw [zB_t hP]; decide
  · rw [zB_f hP]; decide
theorem zB_iff {P Q : Prop} [Decidable P] [Decidable Q] (h : P ↔ Q) : zB P = zB Q := by
  by_cases hP : P
  · rw [zB_t hP, zB_t (h.mp hP)]
  · rw [zB_f hP, zB_f (fun q => hP (h.mpr q))]
section ZW
variable {k : zKx} {l : Launch} {D : va_G} {R : Room} {cc : ByteArray} {nL : Nat} {own : String} {ty : zTy} {pc : Nat} {lv : List (Option Value)} {st : List Value} {ws : va_W}
theorem zv_ifB_eq (K : zv_ok k l D R cc nL own ty) {P : Prop} [Decidable P] {off : Int} (tgt pc2 : Nat) (hd : decode cc pc = .ok (.ifCond .eq off, 3)) (ht : (pc : Int) + off = (tgt : Int)) (hp : pc + 3 = pc2) (kt : ¬ P → zv k tgt lv st ws) (kf : P → zv k pc2 lv st ws) : zv k pc lv (.int (zB P) :: st) ws := zv_if_eq K tgt pc2 hd ht hp (fun h => kt (zB_0 h)) (fun h => kf (zB_n0 h))
theorem zv_ifB_ne (K : zv_ok k l D R cc nL own ty) {P : Prop} [Decidable P] {off : Int} (tgt pc2 : Nat) (hd : decode cc pc = .ok (.ifCond .ne off, 3)) (ht : (pc : Int) + off = (tgt : Int)) (hp : pc + 3 = pc2) (kt : P → zv k tgt lv st ws) (kf : ¬ P → zv k pc2 lv st ws) : zv k pc lv (.int (zB P) :: st) ws := zv_if_ne K tgt pc2 hd ht hp (fun h => kt (zB_n0 h)) (fun h => kf (zB_0 h))
/-- the model's own fields -/
theorem zm_get (K : zv_ok k l D R cc nL own ty) {b : Nat → Nat} {τ : zM} {v : Value} {idx : Nat} (f pc2 : Nat) (hd : decode cc pc = .ok (.getfield idx, 3)) (hp : pc + 3 = pc2) (hf : f < 31) (hlk2 : Cond.fieldLink own idx (TX4 f).1 (TX4 f).2.1 (TX4 f).2.2.1 ∈ zT) (hv : (zmf b τ)[f]? = some v) (kk : zv k pc2 lv (v :: st) (zm b ty τ)) : zv k pc lv (.ref (b 0) :: st) (zm b ty τ) := zv_get K 0 f pc2 hd hp zy_X4 (zm_at (j := 0) rfl) rfl hf hlk2 hv kk
theorem zm_put (K : zv_ok k l D R cc nL own ty) {b : Nat → Nat} {τ : zM} {v : Value} {idx : Nat} (f pc2 : Nat) (ρ : zM) {t0 : FieldType} (hd : decode cc pc = .ok (.putfield idx, 3)) (hp : pc + 3 = pc2) (hf : f < 31) (hlk2 : Cond.fieldLink own idx (TX4 f).1 (TX4 f).2.1 (TX4 f).2.2.1 ∈ zT) (hfin : (TX4 f).2.2.2 = false) (ht0 : parseFieldDescriptor (TX4 f).2.2.1 = some t0) (hn : narrow t0 v = v) (hfit : fits t0 v = true) (hw2 : (zm b ty τ).set 0 (b 0, .inr (4, (zmf b τ).set f v)) = zm b ty ρ) (kk : zv k pc2 lv st (zm b ty ρ)) : zv k pc lv (v :: .ref (b 0) :: st) (zm b ty τ) := zv_put K 0 f pc2 _ hd hp zy_X4 tyX4_ok nmX4 (zm_at (j := 0) rfl) rfl hf hlk2 hfin ht0 hn hfit hf hw2 kk
/-- the court's fields: of the cell j -/
theorem zc_get (K : zv_ok k l D R cc nL own ty) {a : Nat → Nat} {σ : zC} {C : String} {T : u_T} {N ci idx : Nat} {fs : List Value} {v : Value} (j f pc2 : Nat) (hd : decode cc pc = .ok (.getfield idx, 3)) (hp : pc + 3 = pc2) (hin : ∀ w ∈ u_ws C T N, w ∈ zT) (he : (zc a ty σ)[j]? = some (a j, .inr (ci, fs))) (hc : vwCl[ci]? = some (C, T, N)) (hf : f < N) (hlk2 : Cond.fieldLink own idx (T f).1 (T f).2.1 (T f).2.2.1 ∈ zT) (hv : fs[f]? = some v) (kk : zv k pc2 lv (v :: st) (zc a ty σ)) : zv k pc lv (.ref (a j) :: st) (zc a ty σ) := zv_get K j f pc2 hd hp hin he hc hf hlk2 hv kk
end ZW
