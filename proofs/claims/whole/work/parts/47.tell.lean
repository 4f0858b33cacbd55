/-! a new fact, in the court and in the reference -/
theorem zins_spec {kf : Int32 → Int32} {ab f : Int32} : ∀ (n : Nat) (G : Nat → Int32), (∀ i j, i < j → j < n → kf (G i) ≤ kf (G j)) → ∃ p, p ≤ n ∧ (∀ j, j < p → zins kf ab f n G j = G j) ∧ zins kf ab f n G p = f ∧ (∀ j, p < j → j ≤ n → zins kf ab f n G j = G (j - 1)) ∧ (∀ j, n < j → zins kf ab f n G j = G j) ∧ (∀ j, j < p → kf (G j) ≤ ab) ∧ ∀ j, p ≤ j → j < n → ab < kf (G j)
  | 0, G, _ => ⟨0, Nat.le_refl 0, fun j h => absurd h (Nat.not_lt_zero _), by simp [zins, upd], fun j h1 h2 => by omega, fun j h => by simp [zins, upd]; omega, fun j h => absurd h (Nat.not_lt_zero _), fun j _ h => absurd h (Nat.not_lt_zero _)⟩
  | m + 1, G, hs => by
    by_cases c1 : ab < kf (G m)
    · have e : zins kf ab f (m + 1) G = zins kf ab f m (upd G (m + 1) (G m)) := by unfold zins; rw [if_pos c1]; cases m <;> rfl
      have hu : ∀ j, j ≤ m → upd G (m + 1) (G m) j = G j := fun j hj => by unfold upd; rw [if_neg (by omega)]
      obtain ⟨p, h1, h2, h3, h4, h5, h6, h7⟩ := zins_spec (kf := kf) (ab := ab) (f := f) m (upd G (m + 1) (G m)) (fun i j hij hj => by rw [hu i (by omega), hu j (by omega)]; exact hs i j hij (by omega))
      rw [e]
      refine ⟨p, by omega, fun j hj => ?_, h3, fun j hj1 hj2 => ?_, fun j hj => ?_, fun j hj => ?_, fun j hj1 hj2 => ?_⟩
      · rw [h2 j hj, hu j (by omega)]
      · rcases Nat.lt_or_eq_of_le hj2 with q | q
        · rw [h4 j hj1 (by omega), hu (j - 1) (by omega)]
        · subst q
          rw [h5 (m + 1) (by omega)]
          simp [upd]
      · rw [h5 j (by omega)]
        unfold upd
        rw [if_neg (by omega)]
      · have := h6 j hj
        rw [hu j (by omega)] at this
        exact this
      · rcases Nat.lt_or_eq_of_le (Nat.le_of_lt_succ hj2) with q | q
        · have := h7 j hj1 q
          rw [hu j (by omega)] at this
          exact this
        · subst q; exact c1
    · have e : zins kf ab f (m + 1) G = upd G (m + 1) f := by unfold zins; rw [if_neg c1]
      rw [e]
      refine ⟨m + 1, Nat.le_refl _, fun j hj => by unfold upd; rw [if_neg (by omega)], by simp [upd], fun j h1 h2 => by omega, fun j hj => by unfold upd; rw [if_neg (by omega)], fun j hj => ?_, fun j h1 h2 => by omega⟩
      have c2 := z_nlt c1
      rcases Nat.lt_or_eq_of_le (Nat.le_of_lt_succ hj) with q | q
      · have := hs j m q (Nat.lt_succ_self m)
        rw [Int32.le_iff_toInt_le] at this c2 ⊢
        omega
      · subst q; exact c2
theorem gd_add {t u : zTab} {ord ord2 : Nat → Int32} {O : Nat → Nat} {n : Nat} {stk stk2 : Int32} (h : gd t ord O n stk) (hn9 : n < 90) (e : ∀ f, f < n → ∀ c, c < 11 → u f c = t f c) {kf : Int32 → Int32} (hkf : ∀ j, j < n → kf (ord j) = t (O j) 1) (hord : ord2 = zins kf (u n 1) (nI n) n ord) (hf : fok u (n + 1) n) (hs1 : stk2 = nI (stn u (n + 1))) (hs2 : stn u (n + 1) ≤ 20) : ∃ O2, gd u ord2 O2 (n + 1) stk2 := by
  obtain ⟨hn, -, -, hO, hsrt, hon, hfk⟩ := h
  obtain ⟨p, p1, p2, p3, p4, -, p6, p7⟩ := zins_spec (kf := kf) (ab := u n 1) (f := nI n) n ord (fun i j hij hj => by rw [hkf i (by omega), hkf j hj]; exact bf_le (hsrt i j hij hj))
  rw [← hord] at p2 p3 p4
  have eu : ∀ j, j < n → u (O j) 1 = t (O j) 1 := fun j hj => e _ (hO j hj).2 1 (by decide)
  refine ⟨fun j => if j < p then O j else if j = p then n else O (j - 1), by omega, hs1, hs2, fun i hi => ?_, fun i j hij hj => ?_, fun f hf9 => ?_, fun f hf9 => ?_⟩
  · by_cases c1 : i < p
    · simp only [if_pos c1]
      rw [p2 i c1]
      have := hO i (by omega)
      exact ⟨this.1, by omega⟩
    · by_cases c2 : i = p
      · simp only [if_neg c1, if_pos c2]
        rw [c2]
        exact ⟨p3, by omega⟩
      · simp only [if_neg c1, if_neg c2]
        rw [p4 i (by omega) (by omega)]
        have := hO (i - 1) (by omega)
        exact ⟨this.1, by omega⟩
  · unfold bf
    by_cases c1 : j < p
    · simp only [if_pos c1, if_pos (show i < p by omega)]
      have := hsrt i j hij (by omega)
      unfold bf at this
      rw [eu i (by omega), eu j (by omega)]
      exact this
    · by_cases c2 : j = p
      · simp only [if_neg c1, if_pos c2, if_pos (show i < p by omega)]
        have := p6 i (by omega)
        rw [hkf i (by omega), ← eu i (by omega)] at this
        have hl := (hO i (by omega)).2
        by_cases c3 : u (O i) 1 = u n 1
        · exact Or.inr ⟨c3, hl⟩
        · refine Or.inl ?_
          rw [Int32.lt_iff_toInt_lt]
          rw [Int32.le_iff_toInt_le] at this
          have : (u (O i) 1).toInt ≠ (u n 1).toInt := fun z => c3 (Int32.toInt_inj.mp z)
          omega
      · have hj1 : j - 1 < n := by omega
        by_cases c3 : i < p
        · simp only [if_neg c1, if_neg c2, if_pos c3]
          have := hsrt i (j - 1) (by omega) hj1
          unfold bf at this
          rw [eu i (by omega), eu (j - 1) hj1]
          exact this
        · by_cases c4 : i = p
          · simp only [if_neg c1, if_neg c2, if_neg c3, if_pos c4]
            have := p7 (j - 1) (by omega) hj1
            rw [hkf (j - 1) hj1, ← eu (j - 1) hj1] at this
            exact Or.inl this
          · simp only [if_neg c1, if_neg c2, if_neg c3, if_neg c4]
            have := hsrt (i - 1) (j - 1) (by omega) hj1
            unfold bf at this
            rw [eu (i - 1) (by omega), eu (j - 1) hj1]
            exact this
  · by_cases c1 : f = n
    · exact ⟨p, by omega, by simp [c1]⟩
    · obtain ⟨i, hi, ei⟩ := hon f (by omega)
      by_cases c2 : i < p
      · exact ⟨i, by omega, by simp only [if_pos c2]; exact ei⟩
      · exact ⟨i + 1, by omega, by simp only [if_neg (show ¬ i + 1 < p by omega), if_neg (show ¬ i + 1 = p by omega)]; exact ei⟩
  · by_cases c1 : f = n
    · subst c1; exact hf
    · have hfn : f < n := by omega
      have h := hfk f hfn
      unfold fok at h ⊢
      rw [e f hfn 0 (by decide), e f hfn 1 (by decide), e f hfn 5 (by decide), e f hfn 6 (by decide), e f hfn 7 (by decide), e f hfn 9 (by decide), e f hfn 10 (by decide)]
      refine ⟨h.1, h.2.1, h.2.2.1, h.2.2.2.1, fun a b => ?_, h.2.2.2.2.2⟩
      obtain ⟨g, hg, h1, h2⟩ := h.2.2.2.2.1 a b
      exact ⟨g, by omega, h1, by rw [e g hg 0 (by decide)]; exact h2⟩
theorem zg_zp (σ : zC) (f c : Nat) (v : Int32) (f2 c2 : Nat) (hc : c < 11) (hc2 : c2 < 11) : zg (zp σ f c v) f2 c2 = if f2 = f ∧ c2 = c then v else zg σ f2 c2 := by
  unfold zg zp zF
  show zu σ.2 4 (f * 11 + c) v 4 (f2 * 11 + c2) = _
  rw [zu_eq]
  unfold upd
  by_cases h : f2 = f ∧ c2 = c
  · rw [if_pos h, if_pos (by rw [h.1, h.2])]
  · rw [if_neg h, if_neg (by omega)]
theorem zg_fi (σ : zC) (n f c : Nat) (hc : c < 11) : zg (zFa σ 4 (zfi n 11 (σ.2 4))) f c = if f = n then -4 else zg σ f c := by
  unfold zg
  rw [zFa_rd]
  unfold zfi
  by_cases h : f = n
  · subst h; rw [if_pos rfl, if_pos (by omega)]
  · rw [if_neg h, if_neg (by omega)]
def rw0 (kd ab clk vn : Int32) : Nat → Int32 := fun c => if c = 0 then kd else if c = 1 then ab else if c = 2 then clk else if c = 4 then vn else if c = 8 then 0 else -4
theorem zg_apC (σ : zC) (n : Nat) (kd ab vn : Int32) (f c : Nat) (hc : c < 11) : zg (zapC σ n kd ab vn) f c = if f = n then rw0 kd ab (σ.1 1 0) vn c else zg σ f c := by
  unfold zapC
  rw [zg_zp _ _ _ _ _ _ (by decide) hc, zg_zp _ _ _ _ _ _ (by decide) hc, zg_zp _ _ _ _ _ _ (by decide) hc, zg_zp _ _ _ _ _ _ (by decide) hc, zg_zp _ _ _ _ _ _ (by decide) hc, zg_fi _ _ _ _ hc]
  by_cases h : f = n
  · subst h
    simp only [true_and, if_true, rw0]
    by_cases c0 : c = 0
    · subst c0; rfl
    by_cases c1 : c = 1
    · subst c1; rfl
    by_cases c2 : c = 2
    · subst c2; rfl
    by_cases c4 : c = 4
    · subst c4; rfl
    by_cases c8 : c = 8
    · subst c8; rfl
    simp [c0, c1, c2, c4, c8]
  · simp [h]
def cApp (σ ρ : zC) (n : Nat) (kd ab vn : Int32) (row : Nat → Int32) (s : Int32) : Prop :=
  (∀ f c, c < 11 → zg ρ f c = if f = n then row c else zg σ f c) ∧ ρ.1 0 = σ.1 0 ∧ ρ.1 2 = σ.1 2 ∧ ρ.1 1 0 = σ.1 1 0 ∧ ρ.1 1 1 = nI (n + 1) ∧ ρ.1 1 2 = s ∧ ρ.2 5 = zins (zky (zapC σ n kd ab vn)) ab (nI n) n (σ.2 5) ∧ ρ.2 6 = σ.2 6 ∧ ρ.2 7 = σ.2 7
theorem cApp_0 (σ : zC) (n : Nat) (kd ab vn : Int32) : cApp σ (zap σ n kd ab vn) n kd ab vn (rw0 kd ab (σ.1 1 0) vn) (σ.1 1 2) :=
  ⟨fun f c hc => (show zg (zap σ n kd ab vn) f c = zg (zapC σ n kd ab vn) f c from rfl).trans (zg_apC σ n kd ab vn f c hc), rfl, rfl, rfl, rfl, rfl, rfl, rfl, rfl⟩
theorem cApp.zp {σ ρ : zC} {n : Nat} {kd ab vn : Int32} {row : Nat → Int32} {s : Int32} (h : cApp σ ρ n kd ab vn row s) (c : Nat) (hc : c < 11) (v : Int32) : cApp σ (zp ρ n c v) n kd ab vn (upd row c v) s := by
  obtain ⟨h1, h2, h3, h4, h5, h6, h7, h8, h9⟩ := h
  refine ⟨fun f c2 hc2 => ?_, h2, h3, h4, h5, h6, h7, h8, h9⟩
  rw [zg_zp _ _ _ _ _ _ hc hc2, h1 f c2 hc2]
  unfold upd
  by_cases hf : f = n
  · by_cases hcc : c2 = c <;> simp [hf, hcc]
  · simp [hf]
theorem cApp.st {σ ρ : zC} {n : Nat} {kd ab vn : Int32} {row : Nat → Int32} {s : Int32} (h : cApp σ ρ n kd ab vn row s) (v : Int32) : cApp σ (zO ρ 1 2 v) n kd ab vn row v := by
  obtain ⟨h1, h2, h3, h4, h5, h6, h7, h8, h9⟩ := h
  exact ⟨h1, h2, h3, h4, h5, rfl, h7, h8, h9⟩
def mApp (τ π : zM) (n : Nat) (row : Nat → Int32) (s : Int32) : Prop :=
  (∀ j i, 5 ≤ j → j ≤ 15 → π.2 j i = if i = n then row j else τ.2 j i) ∧ π.1 0 = τ.1 0 ∧ π.1 1 = τ.1 1 ∧ π.1 2 = τ.1 2 ∧ π.1 3 = nI (n + 1) ∧ π.1 4 = s ∧ π.1 16 = τ.1 16 ∧ π.2 17 = τ.2 17 ∧ π.2 18 = τ.2 18
def mr0 (kd ab clk x vn m : Int32) : Nat → Int32 := fun j => if j = 5 then kd else if j = 6 then ab else if j = 7 then clk else if j = 9 then vn else if j = 10 then m else if j = 14 then 0 else if j = 15 then x else -4
theorem mApp_k (τ : zM) (n : Nat) (kd ab x vn m : Int32) : mApp τ (zmO (zmF (zmF (zmF (zmF (zmF (zmF (zmF (zmF (zmF (zmF (zmF τ 5 n kd) 6 n ab) 7 n (τ.1 0)) 8 n (-4)) 15 n x) 9 n vn) 10 n m) 11 n (-4)) 12 n (-4)) 13 n (-4)) 14 n 0) 3 (nI (n + 1))) n (mr0 kd ab (τ.1 0) x vn m) (τ.1 4) := by
  refine ⟨fun j i h1 h2 => ?_, rfl, rfl, rfl, rfl, rfl, rfl, rfl, rfl⟩
  show (zmF (zmF (zmF (zmF (zmF (zmF (zmF (zmF (zmF (zmF (zmF τ 5 n kd) 6 n ab) 7 n (τ.1 0)) 8 n (-4)) 15 n x) 9 n vn) 10 n m) 11 n (-4)) 12 n (-4)) 13 n (-4)) 14 n 0).2 j i = _
  simp only [zmF_rd, mr0]
  by_cases hi : i = n
  · have hj : j = 5 ∨ j = 6 ∨ j = 7 ∨ j = 8 ∨ j = 9 ∨ j = 10 ∨ j = 11 ∨ j = 12 ∨ j = 13 ∨ j = 14 ∨ j = 15 := by omega
    rcases hj with rfl | rfl | rfl | rfl | rfl | rfl | rfl | rfl | rfl | rfl | rfl <;> simp [hi]
  · simp [hi]
theorem mApp_tell (τ : zM) (n : Nat) (kd ab x m : Int32) : mApp τ (fX4_tell τ n kd ab x m).2 n (mr0 kd ab (τ.1 0) x (if x < 0 then 0 else τ.2 9 x.toNatClampNeg) m) (τ.1 4) := by
  unfold fX4_tell
  by_cases h : x < 0
  · simp only [if_pos h]; exact mApp_k τ n kd ab x 0 m
  · simp only [if_neg h]; exact mApp_k τ n kd ab x _ m
theorem mApp.F {τ π : zM} {n : Nat} {row : Nat → Int32} {s : Int32} (h : mApp τ π n row s) (j : Nat) (h1 : 5 ≤ j) (h2 : j ≤ 15) (v : Int32) : mApp τ (zmF π j n v) n (upd row j v) s := by
  obtain ⟨a1, a2, a3, a4, a5, a6, a7, a8, a9⟩ := h
  refine ⟨fun j2 i q1 q2 => ?_, a2, a3, a4, a5, a6, a7, ?_, ?_⟩
  · rw [zmF_rd, a1 j2 i q1 q2]
    unfold upd
    by_cases hi : i = n
    · by_cases hj : j2 = j <;> simp [hi, hj]
    · simp [hi]
  · rw [← a8]; funext i; rw [zmF_rd, if_neg (by omega)]
  · rw [← a9]; funext i; rw [zmF_rd, if_neg (by omega)]
theorem mApp.st {τ π : zM} {n : Nat} {row : Nat → Int32} {s : Int32} (h : mApp τ π n row s) (v : Int32) : mApp τ (zmO π 4 v) n row v := by
  obtain ⟨a1, a2, a3, a4, a5, a6, a7, a8, a9⟩ := h
  exact ⟨a1, a2, a3, a4, a5, rfl, a7, a8, a9⟩
/-- the same fact told to both -/
theorem Inv_app {σ ρ : zC} {τ π : zM} (h : Inv σ τ) {O : Nat → Nat} {n : Nat} (hb : Rb σ τ O n) (hn9 : n < 90) {kd ab vn s : Int32} {row mrow : Nat → Int32} (hc : cApp σ ρ n kd ab vn row s) (hm : mApp τ π n mrow s)
    (hr : row 0 = mrow 5 ∧ row 1 = mrow 6 ∧ row 2 = mrow 7 ∧ row 3 = mrow 8 ∧ row 4 = mrow 9 ∧ row 5 = mrow 10 ∧ row 6 = mrow 12 ∧ row 7 = mrow 13 ∧ row 8 = mrow 14 ∧ row 9 = mrow 15 ∧ row 10 = mrow 11) (hab : row 1 = ab)
    (hf : 0 ≤ row 1 ∧ (row 0 = 0 ∨ row 0 = 1 ∨ row 0 = 2 ∨ row 0 = 3 ∨ row 0 = 4 ∨ row 0 = 5 ∨ row 0 = 6) ∧ (row 0 = 0 → row 9 = nI n) ∧ ((row 0 = 0 ∨ row 0 = 4) → ∃ p l : Nat, row 6 = nI p ∧ row 7 = nI l ∧ p ≤ l ∧ l < 60) ∧ (¬ row 0 = 0 → ¬ row 0 = 6 → ∃ g, g < n ∧ row 9 = nI g ∧ zg σ g 0 = 0) ∧ (row 0 = 5 → ∃ p q : Nat, p < 10 ∧ row 5 = nI p ∧ q < 10 ∧ row 10 = nI q))
    (hs : (¬ row 0 = 0 ∧ s = σ.1 1 2) ∨ (row 0 = 0 ∧ s = nI (stn (zg σ) n + 1) ∧ stn (zg σ) n < 20)) : Inv ρ π := by
  obtain ⟨c1, c2, c3, c4, c5, c6, c7, c8, c9⟩ := hc
  obtain ⟨m1, m2, m3, m4, m5, m6, m7, m8, m9⟩ := hm
  obtain ⟨b1, b2, b3, b4, b5, b6⟩ := hb
  have hold : ∀ f, f < n → ∀ c, c < 11 → zg ρ f c = zg σ f c := fun f hf c hc => by rw [c1 f c hc, if_neg (by omega)]
  have hnew : ∀ c, c < 11 → zg ρ n c = row c := fun c hc => by rw [c1 n c hc, if_pos rfl]
  have hst : stn (zg ρ) n = stn (zg σ) n := zct_congr (fun i hi => by rw [hold i hi 0 (by decide)])
  have hst2 : s = nI (stn (zg ρ) (n + 1)) ∧ stn (zg ρ) (n + 1) ≤ 20 := by
    rcases hs with ⟨z1, z2⟩ | ⟨z1, z2, z3⟩
    · have e : stn (zg ρ) (n + 1) = stn (zg σ) n := by
        unfold stn
        rw [zct_f (decide_eq_false (by rw [hnew 0 (by decide)]; exact z1))]
        exact hst
      rw [e, z2]
      exact ⟨b6.2.1, b6.2.2.1⟩
    · have e : stn (zg ρ) (n + 1) = stn (zg σ) n + 1 := by
        unfold stn
        rw [zct_t (decide_eq_true (by rw [hnew 0 (by decide)]; exact z1))]
        exact congrArg (· + 1) hst
      rw [e, z2]
      exact ⟨rfl, by omega⟩
  obtain ⟨O2, hO2⟩ := gd_add (u := zg ρ) (ord2 := ρ.2 5) (stk2 := ρ.1 1 2) (kf := zky (zapC σ n kd ab vn)) b6 hn9 hold (fun j hj => by
      have hl := (b6.2.2.2.1 j hj)
      rw [hl.1, zky_nI _ (by omega), zg_apC _ _ _ _ _ _ _ (by decide), if_neg (by omega)]) (by rw [c7, hnew 1 (by decide), hab]) (by
      unfold fok
      rw [hnew 0 (by decide), hnew 1 (by decide), hnew 5 (by decide), hnew 6 (by decide), hnew 7 (by decide), hnew 9 (by decide), hnew 10 (by decide)]
      refine ⟨hf.1, hf.2.1, hf.2.2.1, hf.2.2.2.1, fun q1 q2 => ?_, hf.2.2.2.2.2⟩
      obtain ⟨g, g1, g2, g3⟩ := hf.2.2.2.2.1 q1 q2
      exact ⟨g, by omega, g2, by rw [hold g g1 0 (by decide)]; exact g3⟩) (by rw [c6]; exact hst2.1) hst2.2
  refine ⟨⟨O2, n + 1, by rw [c4, m2]; exact b1, by rw [c5, m5], m5, by rw [c6, m6], fun f hf9 => ?_, hO2⟩, ?_, ?_⟩
  · unfold tb
    rw [c1 f 0 (by decide), c1 f 1 (by decide), c1 f 2 (by decide), c1 f 3 (by decide), c1 f 4 (by decide), c1 f 5 (by decide), c1 f 6 (by decide), c1 f 7 (by decide), c1 f 8 (by decide), c1 f 9 (by decide), c1 f 10 (by decide), m1 5 f (by decide) (by decide), m1 6 f (by decide) (by decide), m1 7 f (by decide) (by decide), m1 8 f (by decide) (by decide), m1 9 f (by decide) (by decide), m1 10 f (by decide) (by decide), m1 11 f (by decide) (by decide), m1 12 f (by decide) (by decide), m1 13 f (by decide) (by decide), m1 14 f (by decide) (by decide), m1 15 f (by decide) (by decide)]
    by_cases hfn : f = n
    · simp only [if_pos hfn]; exact hr
    · simp only [if_neg hfn]; exact b5 f hf9
  · unfold Rs
    rw [c2, m3, m4, m7]
    exact h.2.1
  · have ek : zgk ρ = zgk σ := by funext f c; unfold zgk; rw [c8]
    unfold Rk tbk
    rw [ek, c3, c9, m8, m9]
    exact h.2.2
