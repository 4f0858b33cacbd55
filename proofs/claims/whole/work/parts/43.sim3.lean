/-! how it stands, in the court and in the reference -/
def SR (t : zTab) (O : Nat → Nat) (i : Nat) (ρ : zC) (π : zM) (c : Nat) (cl : Nat → Nat) : Prop :=
  ρ.1 3 0 = nI c ∧ c ≤ 20 ∧ (∀ a, a < c → (∃ j, j < i ∧ cl a = O j) ∧ t (cl a) 0 = 0 ∧ ρ.1 (a + 11) 1 = nI (cl a) ∧ ρ.1 (a + 11) 2 = t (cl a) 4 ∧ rc (ρ.1 (a + 11)) (ρ.2 (a + 31)) π (cl a) ∧ zft ρ a) ∧ (∀ a b, a < b → b < c → bf t (cl a) (cl b)) ∧ (∀ g, ¬ π.2 19 g = 0 → g < 90 → ∃ a, a < c ∧ cl a = g) ∧ ∀ m, m < 11 → ρ.2 9 m = π.2 29 m
theorem SR.mono {t : zTab} {O : Nat → Nat} {i k : Nat} {ρ : zC} {π : zM} {c : Nat} {cl : Nat → Nat} (h : SR t O i ρ π c cl) (hk : i ≤ k) : SR t O k ρ π c cl := by
  obtain ⟨h1, h2, h3, h4⟩ := h
  refine ⟨h1, h2, fun a ha => ?_, h4⟩
  obtain ⟨⟨j, hj, e⟩, h⟩ := h3 a ha
  exact ⟨⟨j, by omega, e⟩, h⟩
theorem bf_ne {t : zTab} {f g : Nat} (h : bf t f g) : f ≠ g := by
  rintro rfl
  rcases h with h | h
  · rw [Int32.lt_iff_toInt_lt] at h; omega
  · omega
theorem bf_asym {t : zTab} {f g : Nat} (h : bf t f g) (h2 : bf t g f) : False := by
  unfold bf at h h2
  simp only [Int32.lt_iff_toInt_lt] at h h2
  rcases h with h | ⟨h, h1⟩ <;> rcases h2 with h2 | ⟨h2, h3⟩
  · omega
  · rw [h2] at h; omega
  · rw [h] at h2; omega
  · omega
theorem bf_le {t : zTab} {f g : Nat} (h : bf t f g) : t f 1 ≤ t g 1 := by
  rw [Int32.le_iff_toInt_le]
  rcases h with h | h
  · rw [Int32.lt_iff_toInt_lt] at h; omega
  · rw [h.1]; omega
section SIM
variable {t : zTab} {ord : Nat → Int32} {O : Nat → Nat} {n : Nat} {stk : Int32} {i : Nat} {ρ : zC} {π : zM} {c : Nat} {cl : Nat → Nat}
theorem SR.lt (h : SR t O i ρ π c cl) (hi : i ≤ n) (hg : gd t ord O n stk) {a : Nat} (ha : a < c) : cl a < n := by
  obtain ⟨⟨j, hj, e⟩, -⟩ := h.2.2.1 a ha
  rw [e]
  exact (hg.2.2.2.1 j (by omega)).2
theorem SR.over (h : SR t O i ρ π c cl) (hi : i ≤ n) (hg : gd t ord O n stk) (htb : ∀ f, f < 90 → tb t π f) (vn ft : Int32) {a : Nat} (ha : a < c) : zov ρ vn ft a = movb π vn ft (cl a) := by
  have hl := h.lt hi hg ha
  have hn := hg.1
  obtain ⟨-, k0, k1, k2, hr, -⟩ := h.2.2.1 a ha
  have b4 := (htb (cl a) (by omega)).2.2.2.2.1
  unfold zov movb
  congr 1
  rw [k2, b4, hr.1, hr.2.1, hr.2.2.1]
  refine propext ⟨fun q => ⟨q.1, q.2.1, z_len q.2.2.1, z_len q.2.2.2⟩, fun q => ⟨q.1, q.2.1, z_nlt q.2.2.1, z_nlt q.2.2.2⟩⟩
theorem SR.own (h : SR t O i ρ π c cl) (hi : i ≤ n) (hg : gd t ord O n stk) (htb : ∀ f, f < 90 → tb t π f) (vn ft : Int32) : (zfst (zov ρ vn ft) c = none → mow π vn ft n = none) ∧ ∀ a, zfst (zov ρ vn ft) c = some a → mow π vn ft n = some (cl a) := by
  have hn := hg.1
  have back : ∀ g, g < n → movb π vn ft g = true → ∃ a, a < c ∧ cl a = g ∧ zov ρ vn ft a = true := by
    intro g hg9 hm
    obtain ⟨a, ha, e⟩ := h.2.2.2.2.1 g (of_decide_eq_true hm).1 (by omega)
    exact ⟨a, ha, e, by rw [h.over hi hg htb vn ft ha, e]; exact hm⟩
  refine ⟨fun hz => ?_, fun a hz => ?_⟩
  · rw [mow_amin]
    refine amin_none (fun f hf => ?_)
    cases hm : movb π vn ft f with
    | false => rfl
    | true =>
      obtain ⟨a, ha, -, hv⟩ := back f hf hm
      rw [zfst_no hz a ha] at hv
      cases hv
  · rw [mow_amin]
    have ha := zfst_lt hz
    refine amin_min (h.lt hi hg ha) (by rw [← h.over hi hg htb vn ft ha]; exact zfst_yes hz) (fun g hg9 hm hne => ?_)
    obtain ⟨b, hb, rfl, hv⟩ := back g hg9 hm
    have hab : a < b := by
      rcases Nat.lt_trichotomy a b with q | q | q
      · exact q
      · subst q; exact absurd rfl hne
      · rw [zfst_before hz b q] at hv; cases hv
    have hx := h.2.2.2.1 a b hab hb
    have e1 := (htb (cl a) (by have := h.lt hi hg ha; omega)).2.1
    have e2 := (htb (cl b) (by omega)).2.1
    unfold bf at hx
    rw [e1, e2] at hx
    exact hx
theorem SR.find (h : SR t O i ρ π c cl) (hi : i ≤ n) (hg : gd t ord O n stk) {x : Int32} {g : Nat} (hx : x = nI g) (hg9 : g < 90) : (zfst (zfd ρ x) c = none → π.2 19 g = 0) ∧ ∀ a, zfst (zfd ρ x) c = some a → cl a = g ∧ ¬ π.2 19 g = 0 := by
  have hn := hg.1
  refine ⟨fun hz => ?_, fun a hz => ?_⟩
  · by_cases h0 : π.2 19 g = 0
    · exact h0
    · obtain ⟨a, ha, rfl⟩ := h.2.2.2.2.1 g h0 hg9
      obtain ⟨-, -, k1, -, hr, -⟩ := h.2.2.1 a ha
      have := zfst_no hz a ha
      have h2 := of_decide_eq_false this
      exact absurd ⟨by rw [hr.1]; exact h0, by rw [k1, hx]⟩ h2
  · have ha := zfst_lt hz
    obtain ⟨y1, y2⟩ := of_decide_eq_true (zfst_yes hz)
    obtain ⟨-, -, k1, -, hr, -⟩ := h.2.2.1 a ha
    have e : cl a = g := (nI_eq (by have := h.lt hi hg ha; omega) (by omega)).mp (by rw [← k1, y2, hx])
    exact ⟨e, by rw [← e, ← hr.1]; exact y1⟩
theorem rc_29 {r sh : Nat → Int32} {π ω : zM} {g : Nat} (h : rc r sh π g) (e : ∀ j, j < 29 → ω.2 j = π.2 j) : rc r sh ω g := by
  unfold rc at h ⊢
  rw [e 19 (by decide), e 20 (by decide), e 21 (by decide), e 22 (by decide), e 23 (by decide), e 24 (by decide), e 25 (by decide), e 26 (by decide), e 27 (by decide), e 28 (by decide)]
  exact h
set_option maxHeartbeats 1000000 in
/-- a fact comes -/
theorem SR.step (h : SR t O i ρ π c cl) (hi : i < n) (hg : gd t ord O n stk) (htb : ∀ f, f < 90 → tb t π f) (hz : ∀ f c, zg ρ f c = t f c) : ∃ c2 cl2, SR t O (i + 1) (zapl ρ c (O i) (π.1 2)) (fX4_comes π n (O i)) c2 cl2 := by
  have hn := hg.1
  obtain ⟨hO1, hO2⟩ := hg.2.2.2.1 i hi
  obtain ⟨f, ef⟩ : ∃ f, f = O i := ⟨_, rfl⟩
  rw [← ef] at hO2 ⊢
  have hf := hg.2.2.2.2.2.2 f hO2
  have htf := htb f (by omega)
  obtain ⟨b0, b1, b2, b3, b4, b5, b6, b7, b8, b9, b10⟩ := id htf
  have hneq : ∀ a, a < c → cl a ≠ f := fun a ha => by
    obtain ⟨⟨j, hj, e⟩, -⟩ := h.2.2.1 a ha
    rw [e, ef]
    exact bf_ne (hg.2.2.2.2.1 j i hj hi)
  by_cases k0 : t f 0 = 0
  · -- a stake
    have e9 : t f 9 = nI f := hf.2.2.1 k0
    have eF : (π.2 15 f).toNatClampNeg = f := by rw [← b9, e9, nI_clamp (by omega)]
    have hc20 : c < 20 := by
      have hst := hg.2.2.1
      have := zct_inj (n := n) (c + 1) (fun g => decide (t g 0 = 0)) (fun a => if a = c then f else cl a) (fun a ha => by
        by_cases q : a = c
        · simp [q, hO2, k0]
        · have ha2 : a < c := by omega
          simp [q, h.lt (by omega) hg ha2, (h.2.2.1 a ha2).2.1]) (fun a b hab hb => by
        have ha2 : a < c := by omega
        by_cases q : b = c
        · simp [q, show ¬ a = c by omega]; exact hneq a ha2
        · simp [q, show ¬ a = c by omega]
          exact bf_ne (h.2.2.2.1 a b hab (by omega)))
      unfold stn at hst
      omega
    have a1 : zapl ρ c f (π.1 2) = zO (zCl ρ c (rBegin ρ (ρ.1 (c + 11)) f) (sPass (ρ.2 (c + 31)) (zg ρ f 5))) 3 0 (nI (c + 1)) := by rw [zapl, if_pos (by rw [hz]; exact k0), zadd, if_pos hc20]
    have a2 : fX4_comes π n f = mhold (zmF (zmF (zmF π 19 f 1) 23 f (π.2 12 f)) 24 f (π.2 13 f)) f (π.2 10 f) (π.2 6 f) := by rw [fX4_comes, if_pos (by rw [← b0]; exact k0), eF]
    rw [a1, a2]
    have hmx : mfx π (mhold (zmF (zmF (zmF π 19 f 1) 23 f (π.2 12 f)) 24 f (π.2 13 f)) f (π.2 10 f) (π.2 6 f)) f := (((mfx_F (by decide) (by decide) (by decide) _).tr (mfx_F (by decide) (by decide) (by decide) _)).tr (mfx_F (by decide) (by decide) (by decide) _)).tr (mfx_hold _ _ _ _)
    generalize hπ2 : mhold (zmF (zmF (zmF π 19 f 1) 23 f (π.2 12 f)) 24 f (π.2 13 f)) f (π.2 10 f) (π.2 6 f) = π2 at hmx ⊢
    obtain ⟨R, hR⟩ : ∃ R, R = rBegin ρ (ρ.1 (c + 11)) f := ⟨_, rfl⟩
    obtain ⟨S, hS⟩ : ∃ S, S = sPass (ρ.2 (c + 31)) (zg ρ f 5) := ⟨_, rfl⟩
    rw [← hR, ← hS]
    have x1 : ∀ a, (zO (zCl ρ c R S) 3 0 (nI (c + 1))).1 (a + 11) = if a = c then R else ρ.1 (a + 11) := fun a => by
      show zu (zCl ρ c R S).1 3 0 (nI (c + 1)) (a + 11) = _
      rw [zu_ne (by omega)]
      by_cases q : a = c
      · subst q; simp [zCl]
      · rw [if_neg q, zCl_1n ρ R S (by omega)]
    have x2 : ∀ a, (zO (zCl ρ c R S) 3 0 (nI (c + 1))).2 (a + 31) = if a = c then S else ρ.2 (a + 31) := fun a => by
      show (zCl ρ c R S).2 (a + 31) = _
      by_cases q : a = c
      · subst q; simp [zCl]
      · rw [if_neg q, zCl_2n ρ R S (by omega)]
    have x3 : (zO (zCl ρ c R S) 3 0 (nI (c + 1))).2 9 = ρ.2 9 := by
      show (zCl ρ c R S).2 9 = ρ.2 9
      exact zCl_2n ρ R S (by omega)
    refine ⟨c + 1, fun a => if a = c then f else cl a, ?_, by omega, fun a ha => ?_, fun a b hab hb => ?_, fun g hg0 hg9 => ?_, fun m hm => ?_⟩
    · show zu (zCl ρ c R S).1 3 0 (nI (c + 1)) 3 0 = _
      simp [zu, upd]
    · by_cases q : a = c
      · subst q
        simp only [if_true, x1, x2]
        refine ⟨⟨i, by omega, ef⟩, k0, by rw [hR]; rfl, by rw [hR, ← hz]; rfl, ?_, ?_⟩
        · rw [← hπ2]
          unfold rc
          have r0 : R 0 = 1 := by rw [hR]; rfl
          have r3 : R 3 = π.2 12 f := by rw [hR, ← b6, ← hz]; rfl
          have r4 : R 4 = π.2 13 f := by rw [hR, ← b7, ← hz]; rfl
          have r5 : R 5 = π.2 10 f := by rw [hR, ← b5, ← hz]; rfl
          have r6 : R 6 = π.2 6 f := by rw [hR, ← b1, ← hz]; rfl
          have r7 : R 7 = 0 := by rw [hR]; rfl
          simp [mhold_rd, zmF_rd, r0, r3, r4, r5, r6, r7]
          intro m hm
          rw [msN_at _ _ _ _ hm, hS, sPass, if_pos hm, hz, b5]
        · have hft := hf.2.2.2.1 (Or.inl k0)
          unfold zft
          simp only [x1, if_true]
          obtain ⟨p, l, q1, q2, q3⟩ := hft
          exact ⟨p, l, by rw [hR, ← q1, ← hz]; rfl, by rw [hR, ← q2, ← hz]; rfl, q3⟩
      · have ha2 : a < c := by omega
        obtain ⟨⟨j, hj, e⟩, k1, k2, k3, k4, k5⟩ := h.2.2.1 a ha2
        simp only [if_neg q, x1, x2]
        refine ⟨⟨j, by omega, e⟩, k1, k2, k3, k4.fr hmx (hneq a ha2), ?_⟩
        unfold zft at k5 ⊢
        simp only [x1, if_neg q]
        exact k5
    · have ha2 : a < c := by omega
      by_cases q : b = c
      · simp only [if_neg (show ¬ a = c by omega), if_pos q]
        obtain ⟨⟨j, hj, e⟩, -⟩ := h.2.2.1 a ha2
        rw [e, ef]
        exact hg.2.2.2.2.1 j i hj hi
      · simp only [if_neg (show ¬ a = c by omega), if_neg q]
        exact h.2.2.2.1 a b hab (by omega)
    · by_cases q : g = f
      · exact ⟨c, by omega, by simp [q]⟩
      · rw [hmx.1 19 (by decide) (by decide) (by decide) g q] at hg0
        obtain ⟨a, ha, e⟩ := h.2.2.2.2.1 g hg0 hg9
        exact ⟨a, by omega, by simp only [if_neg (show ¬ a = c by omega)]; exact e⟩
    · rw [x3, hmx.2.2]
      exact h.2.2.2.2.2 m hm
  by_cases k6 : t f 0 = 6
  · -- ore
    have a1 : zapl ρ c f (π.1 2) = zbo ρ c (t f 4) (t f 6) (t f 8) := by rw [zapl, if_neg (by rw [hz]; exact k0), if_pos (by rw [hz]; exact k6), hz, hz, hz]
    have a2 : fX4_comes π n f = mdig π n f := by rw [fX4_comes, if_neg (by rw [← b0]; exact k0), if_pos (by rw [← b0]; exact k6)]
    rw [a1, a2]
    obtain ⟨o1, o2⟩ := h.own (by omega) hg htb (t f 4) (t f 6)
    rw [b4, b6] at o1 o2 ⊢
    cases hzf : zfst (zov ρ (π.2 9 f) (π.2 12 f)) c with
    | none =>
      have a3 : zbo ρ c (π.2 9 f) (π.2 12 f) (t f 8) = zF ρ 9 10 (ρ.2 9 10 + t f 8 * 24) := by unfold zbo; rw [hzf]
      have a4 : mdig π n f = zmF π 29 10 (π.2 29 10 + 24 * π.2 14 f) := by unfold mdig; rw [o1 hzf]
      rw [a3, a4]
      refine ⟨c, cl, h.1, h.2.1, fun a ha => ?_, h.2.2.2.1, fun g hg0 hg9 => ?_, fun m hm => ?_⟩
      · obtain ⟨⟨j, hj, e⟩, k1, k2, k3, k4, k5⟩ := h.2.2.1 a ha
        refine ⟨⟨j, by omega, e⟩, k1, k2, k3, ?_, k5⟩
        have e31 : (zF ρ 9 10 (ρ.2 9 10 + t f 8 * 24)).2 (a + 31) = ρ.2 (a + 31) := by
          show zu ρ.2 9 10 (ρ.2 9 10 + t f 8 * 24) (a + 31) = _
          exact zu_ne (by omega)
        rw [e31]
        exact rc_29 k4 (fun j hj => by
          show zu π.2 29 10 (π.2 29 10 + 24 * π.2 14 f) j = _
          exact zu_ne (by omega))
      · refine h.2.2.2.2.1 g ?_ hg9
        rw [zmF_rd, if_neg (by omega)] at hg0
        exact hg0
      · rw [zmF_rd]
        show zu ρ.2 9 10 (ρ.2 9 10 + t f 8 * 24) 9 m = _
        rw [zu_eq, upd]
        by_cases q : m = 10
        · subst q
          simp only [if_true, and_self]
          rw [h.2.2.2.2.2 10 (by decide), b8, Int32.mul_comm]
        · simp only [if_neg q, q, and_false, if_false]
          exact h.2.2.2.2.2 m hm
    | some q =>
      have hq := zfst_lt hzf
      have a3 : zbo ρ c (π.2 9 f) (π.2 12 f) (t f 8) = zFa ρ 9 (zorN ρ q 10 (t f 8)) := by unfold zbo; rw [hzf]
      have a4 : mdig π n f = zmFa π 29 (morN π f (cl q) 10) := by unfold mdig; rw [o2 q hzf]
      rw [a3, a4]
      refine ⟨c, cl, h.1, h.2.1, fun a ha => ?_, h.2.2.2.1, fun g hg0 hg9 => h.2.2.2.2.1 g hg0 hg9, fun m hm => ?_⟩
      · obtain ⟨⟨j, hj, e⟩, k1, k2, k3, k4, k5⟩ := h.2.2.1 a ha
        refine ⟨⟨j, by omega, e⟩, k1, k2, k3, ?_, k5⟩
        have e31 : (zFa ρ 9 (zorN ρ q 10 (t f 8))).2 (a + 31) = ρ.2 (a + 31) := by simp [zFa]
        rw [e31]
        exact rc_29 k4 (fun j hj => by rw [zmFa_rd, if_neg (by omega)])
      · rw [zFa_rd]
        show _ = morN π f (cl q) 10 m
        unfold zorN morN
        by_cases q9 : m < 10
        · rw [if_pos q9, if_pos q9, h.2.2.2.2.2 m hm, (h.2.2.1 q hq).2.2.2.2.1.2.2.2.2.2.2.2.1 m q9, b8, Int32.mul_comm]
        · rw [if_neg q9, if_neg q9]
          exact h.2.2.2.2.2 m hm
  · -- a fact of a claim
    obtain ⟨g, hgn, eg, eg0⟩ := hf.2.2.2.2.1 k0 k6
    have hg9 : g < 90 := by omega
    have eG : (π.2 15 f).toNatClampNeg = g := by rw [← b9, eg, nI_clamp (by omega)]
    obtain ⟨o1, o2⟩ := h.find (x := t f 9) (by omega) hg eg hg9
    have a1 : zapl ρ c f (π.1 2) = ztn ρ c f (π.1 2) := by rw [zapl, if_neg (by rw [hz]; exact k0), if_neg (by rw [hz]; exact k6)]
    rw [a1]
    have e59 : zg ρ f 9 = t f 9 := hz f 9
    cases hzf : zfst (zfd ρ (t f 9)) c with
    | none =>
      have a3 : ztn ρ c f (π.1 2) = ρ := by unfold ztn; rw [e59, hzf]
      have a4 : fX4_comes π n f = π := by rw [fX4_comes, if_neg (by rw [← b0]; exact k0), if_neg (by rw [← b0]; exact k6), eG, if_pos (o1 hzf)]
      rw [a3, a4]
      exact ⟨c, cl, h.mono (by omega)⟩
    | some q =>
      have hq := zfst_lt hzf
      have hq20 : q < 20 := by have := h.2.1; omega
      obtain ⟨eq, hst⟩ := o2 q hzf
      have a3 : ztn ρ c f (π.1 2) = zCl ρ q (rTurn ρ (ρ.1 (q + 11)) f (π.1 2)) (sTurn ρ (ρ.1 (q + 11)) (ρ.2 (q + 31)) f (π.1 2)) := by unfold ztn; rw [e59, hzf]
      have a4 : fX4_comes π n f = fX4_comesTo π f g (π.2 6 f) := by rw [fX4_comes, if_neg (by rw [← b0]; exact k0), if_neg (by rw [← b0]; exact k6), eG, if_neg hst]
      rw [a3, a4]
      have hzt : zg ρ = t := by funext f c; exact hz f c
      have htb2 : tb (zg ρ) π f := by rw [hzt]; exact htf
      have hf2 : fok (zg ρ) n f := by rw [hzt]; exact hf
      obtain ⟨⟨j, hj, e⟩, k1, k2, k3, k4, k5⟩ := h.2.2.1 q hq
      rw [eq] at k4
      obtain ⟨hrc, hmx⟩ := rc_turn (σ := ρ) k4 htb2 (by rw [hz]; rcases hf.2.1 with z | z | z | z | z | z | z <;> simp_all) hf2.2.2.2.2.2
      generalize hR : rTurn ρ (ρ.1 (q + 11)) f (π.1 2) = R at hrc
      generalize hS : sTurn ρ (ρ.1 (q + 11)) (ρ.2 (q + 31)) f (π.1 2) = S at hrc
      generalize fX4_comesTo π f g (π.2 6 f) = π2 at hrc hmx
      have x1 : ∀ a, (zCl ρ q R S).1 (a + 11) = if a = q then R else ρ.1 (a + 11) := fun a => by
        by_cases z : a = q
        · subst z; simp [zCl]
        · rw [if_neg z, zCl_1n ρ R S (by omega)]
      have x2 : ∀ a, (zCl ρ q R S).2 (a + 31) = if a = q then S else ρ.2 (a + 31) := fun a => by
        by_cases z : a = q
        · subst z; simp [zCl]
        · rw [if_neg z, zCl_2n ρ R S (by omega)]
      refine ⟨c, cl, by rw [zCl_3]; exact h.1, h.2.1, fun a ha => ?_, h.2.2.2.1, fun g2 hg0 hg29 => ?_, fun m hm => ?_⟩
      · by_cases z : a = q
        · subst z
          simp only [x1, x2, if_true]
          refine ⟨⟨j, by omega, e⟩, k1, by rw [← hR, rTurn_12 _ _ _ _ (Or.inl rfl)]; exact k2, by rw [← hR, rTurn_12 _ _ _ _ (Or.inr rfl)]; exact k3, by rw [eq]; exact hrc, ?_⟩
          unfold zft at k5 ⊢
          simp only [x1, if_true]
          rw [← hR]
          exact rTurn_ft k5 hf2
        · obtain ⟨⟨j2, hj2, e2⟩, l1, l2, l3, l4, l5⟩ := h.2.2.1 a ha
          simp only [x1, x2, if_neg z]
          have hne : cl a ≠ g := by
            rw [← eq]
            rcases Nat.lt_trichotomy a q with w | w | w
            · exact bf_ne (h.2.2.2.1 a q w hq)
            · exact absurd w z
            · exact (bf_ne (h.2.2.2.1 q a w ha)).symm
          refine ⟨⟨j2, by omega, e2⟩, l1, l2, l3, l4.fr hmx hne, ?_⟩
          unfold zft at l5 ⊢
          simp only [x1, if_neg z]
          exact l5
      · by_cases z : g2 = g
        · exact ⟨q, hq, by rw [z]; exact eq⟩
        · rw [hmx.1 19 (by decide) (by decide) (by decide) g2 z] at hg0
          exact h.2.2.2.2.1 g2 hg0 hg29
      · rw [zCl_2n ρ R S (by omega), hmx.2.2]
        exact h.2.2.2.2.2 m hm
end SIM
