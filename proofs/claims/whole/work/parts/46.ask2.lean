theorem ask {σ : zC} {τ : zM} {O : Nat → Nat} {n : Nat} (hb : Rb σ τ O n) (hid : σ.1 0 4 = τ.1 2) (d k_ : Int32) : ∃ i c cl, i ≤ n ∧ SR (zg σ) O i (zQ σ O n d k_) (mgo τ n d k_) c cl ∧ gd (zg σ) (σ.2 5) O n (σ.1 1 2) ∧ ∀ f, f < 90 → tb (zg σ) (mgo τ n d k_) f := by
  obtain ⟨i, c, cl, h1, h2⟩ := sim_go hb hid d k_
  exact ⟨i, c, cl, h1, h2, hb.2.2.2.2.2, fun f hf => (hb.2.2.2.2.1 f hf).fr (mgo_fr τ n d k_)⟩
theorem Inv.q {σ : zC} {τ : zM} (h : Inv σ τ) (O : Nat → Nat) (n : Nat) (d k_ : Int32) : Inv (zQ σ O n d k_) (mgo τ n d k_) := h.fr (zQ_fr σ O n d k_) (mgo_fr τ n d k_)
theorem mI_m1 {g : Nat} (h : g < 90) : ¬ (nI g : Int32) < 0 := nI_pos (by omega)
theorem eq_dug {σ : zC} {τ : zM} (h : Inv σ τ) {O : Nat → Nat} {n : Nat} (hb : Rb σ τ O n) (x d k_ : Int32) : (fX3_dug σ O n x d k_).1 = (fX4_dug τ n x d k_).1 ∧ Inv (fX3_dug σ O n x d k_).2 (fX4_dug τ n x d k_).2 := by
  by_cases h1 : 0 ≤ x ∧ x ≤ 10
  · skip
    by_cases hd : (0 ≤ d ∧ d ≤ 999)
    · skip
      by_cases hk : (0 ≤ k_ ∧ k_ ≤ 999)
      · skip
        obtain ⟨hx, hx9⟩ := z_upto (m := 10) h1 (by decide)
        obtain ⟨i, c, cl, hi, hS, hg, htb⟩ := ask hb h.2.1.2.1 d k_
        refine ⟨by simp only [fX3_dug, fX4_dug, if_pos h1, if_pos hd, if_pos hk, if_pos (show (0 ≤ d ∧ d ≤ 999) ∧ (0 ≤ k_ ∧ k_ ≤ 999) from ⟨hd, hk⟩)]; exact hS.2.2.2.2.2 _ hx9, ?_⟩
        simp only [fX3_dug, fX4_dug, if_pos h1, if_pos hd, if_pos hk, if_pos (show (0 ≤ d ∧ d ≤ 999) ∧ (0 ≤ k_ ∧ k_ ≤ 999) from ⟨hd, hk⟩)]
        exact h.q O n d k_
      · refine ⟨by simp only [fX3_dug, fX4_dug, if_pos h1, if_pos hd, if_neg hk, if_neg (show ¬ ((0 ≤ d ∧ d ≤ 999) ∧ (0 ≤ k_ ∧ k_ ≤ 999)) from fun q => hk q.2)], ?_⟩
        simp only [fX3_dug, fX4_dug, if_pos h1, if_pos hd, if_neg hk, if_neg (show ¬ ((0 ≤ d ∧ d ≤ 999) ∧ (0 ≤ k_ ∧ k_ ≤ 999)) from fun q => hk q.2)]
        exact h
    · refine ⟨by simp only [fX3_dug, fX4_dug, if_pos h1, if_neg hd, if_neg (show ¬ ((0 ≤ d ∧ d ≤ 999) ∧ (0 ≤ k_ ∧ k_ ≤ 999)) from fun q => hd q.1)], ?_⟩
      simp only [fX3_dug, fX4_dug, if_pos h1, if_neg hd, if_neg (show ¬ ((0 ≤ d ∧ d ≤ 999) ∧ (0 ≤ k_ ∧ k_ ≤ 999)) from fun q => hd q.1)]
      exact h
  · refine ⟨by simp only [fX3_dug, fX4_dug, if_neg h1], ?_⟩
    simp only [fX3_dug, fX4_dug, if_neg h1]
    exact h
theorem eq_due {σ : zC} {τ : zM} (h : Inv σ τ) {O : Nat → Nat} {n : Nat} (hb : Rb σ τ O n) (x d k_ : Int32) : (fX3_due σ O n x d k_).1 = (fX4_due τ n x d k_).1 ∧ Inv (fX3_due σ O n x d k_).2 (fX4_due τ n x d k_).2 := by
  by_cases h1 : 0 ≤ x ∧ x ≤ 9
  · skip
    by_cases hd : (0 ≤ d ∧ d ≤ 999)
    · skip
      by_cases hk : (0 ≤ k_ ∧ k_ ≤ 999)
      · skip
        obtain ⟨hx, hx9⟩ := z_upto (m := 9) h1 (by decide)
        obtain ⟨i, c, cl, hi, hS, hg, htb⟩ := ask hb h.2.1.2.1 d k_
        refine ⟨by simp only [fX3_due, fX4_due, if_pos h1, if_pos hd, if_pos hk, if_pos (show (0 ≤ d ∧ d ≤ 999) ∧ (0 ≤ k_ ∧ k_ ≤ 999) from ⟨hd, hk⟩)]; rw [hS.2.2.2.2.2 _ (by omega)], ?_⟩
        simp only [fX3_due, fX4_due, if_pos h1, if_pos hd, if_pos hk, if_pos (show (0 ≤ d ∧ d ≤ 999) ∧ (0 ≤ k_ ∧ k_ ≤ 999) from ⟨hd, hk⟩)]
        exact h.q O n d k_
      · refine ⟨by simp only [fX3_due, fX4_due, if_pos h1, if_pos hd, if_neg hk, if_neg (show ¬ ((0 ≤ d ∧ d ≤ 999) ∧ (0 ≤ k_ ∧ k_ ≤ 999)) from fun q => hk q.2)], ?_⟩
        simp only [fX3_due, fX4_due, if_pos h1, if_pos hd, if_neg hk, if_neg (show ¬ ((0 ≤ d ∧ d ≤ 999) ∧ (0 ≤ k_ ∧ k_ ≤ 999)) from fun q => hk q.2)]
        exact h
    · refine ⟨by simp only [fX3_due, fX4_due, if_pos h1, if_neg hd, if_neg (show ¬ ((0 ≤ d ∧ d ≤ 999) ∧ (0 ≤ k_ ∧ k_ ≤ 999)) from fun q => hd q.1)], ?_⟩
      simp only [fX3_due, fX4_due, if_pos h1, if_neg hd, if_neg (show ¬ ((0 ≤ d ∧ d ≤ 999) ∧ (0 ≤ k_ ∧ k_ ≤ 999)) from fun q => hd q.1)]
      exact h
  · refine ⟨by simp only [fX3_due, fX4_due, if_neg h1], ?_⟩
    simp only [fX3_due, fX4_due, if_neg h1]
    exact h
theorem eq_feet {σ : zC} {τ : zM} (h : Inv σ τ) {O : Nat → Nat} {n : Nat} (hb : Rb σ τ O n) (x d k_ : Int32) : (fX3_feet σ O n x d k_).1 = (fX4_feet τ n x d k_).1 ∧ Inv (fX3_feet σ O n x d k_).2 (fX4_feet τ n x d k_).2 := by
  by_cases h1 : 0 ≤ x ∧ x ≤ 9
  · skip
    by_cases hd : (0 ≤ d ∧ d ≤ 999)
    · skip
      by_cases hk : (0 ≤ k_ ∧ k_ ≤ 999)
      · skip
        obtain ⟨i, c, cl, hi, hS, hg, htb⟩ := ask hb h.2.1.2.1 d k_
        refine ⟨by simp only [fX3_feet, fX4_feet, if_pos h1, if_pos hd, if_pos hk, if_pos (show (0 ≤ d ∧ d ≤ 999) ∧ (0 ≤ k_ ∧ k_ ≤ 999) from ⟨hd, hk⟩)]; refine congrArg nI (zct_congr (fun j _ => ?_)); unfold zfeet mfeet zhj mhj; rw [hS.hold hi hg htb], ?_⟩
        simp only [fX3_feet, fX4_feet, if_pos h1, if_pos hd, if_pos hk, if_pos (show (0 ≤ d ∧ d ≤ 999) ∧ (0 ≤ k_ ∧ k_ ≤ 999) from ⟨hd, hk⟩)]
        exact h.q O n d k_
      · refine ⟨by simp only [fX3_feet, fX4_feet, if_pos h1, if_pos hd, if_neg hk, if_neg (show ¬ ((0 ≤ d ∧ d ≤ 999) ∧ (0 ≤ k_ ∧ k_ ≤ 999)) from fun q => hk q.2)], ?_⟩
        simp only [fX3_feet, fX4_feet, if_pos h1, if_pos hd, if_neg hk, if_neg (show ¬ ((0 ≤ d ∧ d ≤ 999) ∧ (0 ≤ k_ ∧ k_ ≤ 999)) from fun q => hk q.2)]
        exact h
    · refine ⟨by simp only [fX3_feet, fX4_feet, if_pos h1, if_neg hd, if_neg (show ¬ ((0 ≤ d ∧ d ≤ 999) ∧ (0 ≤ k_ ∧ k_ ≤ 999)) from fun q => hd q.1)], ?_⟩
      simp only [fX3_feet, fX4_feet, if_pos h1, if_neg hd, if_neg (show ¬ ((0 ≤ d ∧ d ≤ 999) ∧ (0 ≤ k_ ∧ k_ ≤ 999)) from fun q => hd q.1)]
      exact h
  · refine ⟨by simp only [fX3_feet, fX4_feet, if_neg h1], ?_⟩
    simp only [fX3_feet, fX4_feet, if_neg h1]
    exact h
theorem ge2_iff {m : Nat} (h : m ≤ 90) : (¬ nI m < 2) ↔ (¬ nI m ≤ 1) := by
  have e := nI_toInt (n := m) (by omega)
  have e2 : (2 : Int32).toInt = 2 := rfl
  have e1 : (1 : Int32).toInt = 1 := rfl
  rw [Int32.lt_iff_toInt_lt, Int32.le_iff_toInt_le, e, e1, e2]
  omega
theorem eq_contested {σ : zC} {τ : zM} (h : Inv σ τ) {O : Nat → Nat} {n : Nat} (hb : Rb σ τ O n) (vn d k_ : Int32) : (fX3_contested σ O n vn d k_).1 = (fX4_contested τ n vn d k_).1 ∧ Inv (fX3_contested σ O n vn d k_).2 (fX4_contested τ n vn d k_).2 := by
  by_cases h1 : 0 ≤ vn ∧ vn ≤ 3
  · skip
    by_cases hd : (0 ≤ d ∧ d ≤ 999)
    · skip
      by_cases hk : (0 ≤ k_ ∧ k_ ≤ 999)
      · skip
        obtain ⟨i, c, cl, hi, hS, hg, htb⟩ := ask hb h.2.1.2.1 d k_
        refine ⟨by simp only [fX3_contested, fX4_contested, if_pos h1, if_pos hd, if_pos hk, if_pos (show (0 ≤ d ∧ d ≤ 999) ∧ (0 ≤ k_ ∧ k_ ≤ 999) from ⟨hd, hk⟩)]; refine congrArg nI (zct_congr (fun j _ => ?_)); unfold zcont mcont; rw [hS.count hi hg htb]; exact decide_eq_decide.mpr (ge2_iff (Nat.le_trans (zct_le _ _) hg.1)), ?_⟩
        simp only [fX3_contested, fX4_contested, if_pos h1, if_pos hd, if_pos hk, if_pos (show (0 ≤ d ∧ d ≤ 999) ∧ (0 ≤ k_ ∧ k_ ≤ 999) from ⟨hd, hk⟩)]
        exact h.q O n d k_
      · refine ⟨by simp only [fX3_contested, fX4_contested, if_pos h1, if_pos hd, if_neg hk, if_neg (show ¬ ((0 ≤ d ∧ d ≤ 999) ∧ (0 ≤ k_ ∧ k_ ≤ 999)) from fun q => hk q.2)], ?_⟩
        simp only [fX3_contested, fX4_contested, if_pos h1, if_pos hd, if_neg hk, if_neg (show ¬ ((0 ≤ d ∧ d ≤ 999) ∧ (0 ≤ k_ ∧ k_ ≤ 999)) from fun q => hk q.2)]
        exact h
    · refine ⟨by simp only [fX3_contested, fX4_contested, if_pos h1, if_neg hd, if_neg (show ¬ ((0 ≤ d ∧ d ≤ 999) ∧ (0 ≤ k_ ∧ k_ ≤ 999)) from fun q => hd q.1)], ?_⟩
      simp only [fX3_contested, fX4_contested, if_pos h1, if_neg hd, if_neg (show ¬ ((0 ≤ d ∧ d ≤ 999) ∧ (0 ≤ k_ ∧ k_ ≤ 999)) from fun q => hd q.1)]
      exact h
  · refine ⟨by simp only [fX3_contested, fX4_contested, if_neg h1], ?_⟩
    simp only [fX3_contested, fX4_contested, if_neg h1]
    exact h
theorem fX4_claim_v {τ : zM} {n : Nat} {vn ft d k_ : Int32} (h1 : 0 ≤ vn ∧ vn ≤ 3) (h2 : 0 ≤ ft ∧ ft ≤ 59) (hd : 0 ≤ d ∧ d ≤ 999) (hk : 0 ≤ k_ ∧ k_ ≤ 999) : (mow (mgo τ n d k_) vn ft n = none → fX4_claim τ n vn ft d k_ = (-4, mgo τ n d k_)) ∧ ∀ g, g < 90 → mow (mgo τ n d k_) vn ft n = some g → fX4_claim τ n vn ft d k_ = (nI g, mgo τ n d k_) := by
  refine ⟨fun e => ?_, fun g hg e => ?_⟩
  · simp only [fX4_claim, if_pos h1, if_pos h2, if_pos hd, if_pos hk, e]
    rw [if_neg (by decide)]
  · simp only [fX4_claim, if_pos h1, if_pos h2, if_pos hd, if_pos hk, e]
    rw [if_pos (z_nlt (mI_nn hg))]
    rfl
theorem eq_claim {σ : zC} {τ : zM} (h : Inv σ τ) {O : Nat → Nat} {n : Nat} (hb : Rb σ τ O n) (vn ft d k_ : Int32) : (fX3_claim σ O n vn ft d k_).1 = (fX4_claim τ n vn ft d k_).1 ∧ Inv (fX3_claim σ O n vn ft d k_).2 (fX4_claim τ n vn ft d k_).2 := by
  by_cases h1 : 0 ≤ vn ∧ vn ≤ 3
  · skip
    by_cases h2 : 0 ≤ ft ∧ ft ≤ 59
    · skip
      by_cases hd : (0 ≤ d ∧ d ≤ 999)
      · skip
        by_cases hk : (0 ≤ k_ ∧ k_ ≤ 999)
        · skip
          obtain ⟨i, c, cl, hi, hS, hg, htb⟩ := ask hb h.2.1.2.1 d k_
          obtain ⟨o1, o2⟩ := hS.own hi hg htb vn ft
          obtain ⟨v1, v2⟩ := fX4_claim_v (τ := τ) (n := n) h1 h2 hd hk
          have hcn := hS.cn
          simp only [fX3_claim, if_pos h1, if_pos h2, if_pos hd, if_pos hk, if_pos (show (0 ≤ d ∧ d ≤ 999) ∧ (0 ≤ k_ ∧ k_ ≤ 999) from ⟨hd, hk⟩)]
          rw [hcn]
          cases hz : zfst (zov (zQ σ O n d k_) vn ft) c with
          | none =>
            rw [v1 (o1 hz)]
            exact ⟨rfl, h.q O n d k_⟩
          | some a =>
            have ha := zfst_lt hz
            have hl := hS.lt hi hg ha
            have hn := hg.1
            rw [v2 (cl a) (by omega) (o2 a hz)]
            exact ⟨(hS.2.2.1 a ha).2.2.1, h.q O n d k_⟩
        · refine ⟨by simp only [fX3_claim, fX4_claim, if_pos h1, if_pos h2, if_pos hd, if_neg hk, if_neg (show ¬ ((0 ≤ d ∧ d ≤ 999) ∧ (0 ≤ k_ ∧ k_ ≤ 999)) from fun q => hk q.2)], ?_⟩
          simp only [fX3_claim, fX4_claim, if_pos h1, if_pos h2, if_pos hd, if_neg hk, if_neg (show ¬ ((0 ≤ d ∧ d ≤ 999) ∧ (0 ≤ k_ ∧ k_ ≤ 999)) from fun q => hk q.2)]
          exact h
      · refine ⟨by simp only [fX3_claim, fX4_claim, if_pos h1, if_pos h2, if_neg hd, if_neg (show ¬ ((0 ≤ d ∧ d ≤ 999) ∧ (0 ≤ k_ ∧ k_ ≤ 999)) from fun q => hd q.1)], ?_⟩
        simp only [fX3_claim, fX4_claim, if_pos h1, if_pos h2, if_neg hd, if_neg (show ¬ ((0 ≤ d ∧ d ≤ 999) ∧ (0 ≤ k_ ∧ k_ ≤ 999)) from fun q => hd q.1)]
        exact h
    · refine ⟨by simp only [fX3_claim, fX4_claim, if_pos h1, if_neg h2], ?_⟩
      simp only [fX3_claim, fX4_claim, if_pos h1, if_neg h2]
      exact h
  · refine ⟨by simp only [fX3_claim, fX4_claim, if_neg h1], ?_⟩
    simp only [fX3_claim, fX4_claim, if_neg h1]
    exact h
theorem fX4_owner_n {τ : zM} {n : Nat} {vn ft d k_ : Int32} (e : fX4_claim τ n vn ft d k_ = (-1, τ)) : fX4_owner τ n vn ft d k_ = (-1, τ) := by unfold fX4_owner; rw [e, if_neg (show ¬ (0 : Int32) ≤ -1 by decide)]
theorem eq_owner {σ : zC} {τ : zM} (h : Inv σ τ) {O : Nat → Nat} {n : Nat} (hb : Rb σ τ O n) (vn ft d k_ : Int32) : (fX3_owner σ O n vn ft d k_).1 = (fX4_owner τ n vn ft d k_).1 ∧ Inv (fX3_owner σ O n vn ft d k_).2 (fX4_owner τ n vn ft d k_).2 := by
  by_cases h1 : 0 ≤ vn ∧ vn ≤ 3
  · skip
    by_cases h2 : 0 ≤ ft ∧ ft ≤ 59
    · skip
      by_cases hd : (0 ≤ d ∧ d ≤ 999)
      · skip
        by_cases hk : (0 ≤ k_ ∧ k_ ≤ 999)
        · skip
          obtain ⟨i, c, cl, hi, hS, hg, htb⟩ := ask hb h.2.1.2.1 d k_
          obtain ⟨v1, v2⟩ := fX4_claim_v (τ := τ) (n := n) h1 h2 hd hk
          have hn := hg.1
          simp only [fX3_owner, if_pos h1, if_pos h2, if_pos hd, if_pos hk, if_pos (show (0 ≤ d ∧ d ≤ 999) ∧ (0 ≤ k_ ∧ k_ ≤ 999) from ⟨hd, hk⟩)]
          rw [hS.hold hi hg htb]
          cases hz : mow (mgo τ n d k_) vn ft n with
          | none =>
            have e := v1 hz
            have e4 : fX4_owner τ n vn ft d k_ = (-4, mgo τ n d k_) := by unfold fX4_owner; rw [e, if_neg (show ¬ (0 : Int32) ≤ -4 by decide)]
            rw [e4]
            exact ⟨by unfold mhold2; rw [hz], h.q O n d k_⟩
          | some g =>
            have hg9 : g < 90 := by have := mow_lt hz; omega
            have e := v2 g hg9 hz
            have e4 : fX4_owner τ n vn ft d k_ = ((mgo τ n d k_).2 20 g, mgo τ n d k_) := by unfold fX4_owner; rw [e, if_pos (nI_pos' (by omega)), nI_clamp (by omega)]
            rw [e4]
            exact ⟨by unfold mhold2; rw [hz], h.q O n d k_⟩
        · rw [fX4_owner_n (by simp only [fX4_claim, if_pos h1, if_pos h2, if_pos hd, if_neg hk, if_neg (show ¬ ((0 ≤ d ∧ d ≤ 999) ∧ (0 ≤ k_ ∧ k_ ≤ 999)) from fun q => hk q.2)])]
          simp only [fX3_owner, if_pos h1, if_pos h2, if_pos hd, if_neg hk, if_neg (show ¬ ((0 ≤ d ∧ d ≤ 999) ∧ (0 ≤ k_ ∧ k_ ≤ 999)) from fun q => hk q.2)]
          exact ⟨trivial, h⟩
      · rw [fX4_owner_n (by simp only [fX4_claim, if_pos h1, if_pos h2, if_neg hd, if_neg (show ¬ ((0 ≤ d ∧ d ≤ 999) ∧ (0 ≤ k_ ∧ k_ ≤ 999)) from fun q => hd q.1)])]
        simp only [fX3_owner, if_pos h1, if_pos h2, if_neg hd, if_neg (show ¬ ((0 ≤ d ∧ d ≤ 999) ∧ (0 ≤ k_ ∧ k_ ≤ 999)) from fun q => hd q.1)]
        exact ⟨trivial, h⟩
    · rw [fX4_owner_n (by simp only [fX4_claim, if_pos h1, if_neg h2])]
      simp only [fX3_owner, if_pos h1, if_neg h2]
      exact ⟨trivial, h⟩
  · rw [fX4_owner_n (by simp only [fX4_claim, if_neg h1])]
    simp only [fX3_owner, if_neg h1]
    exact ⟨trivial, h⟩
theorem ask_x {σ : zC} {τ : zM} {O : Nat → Nat} {n : Nat} (hb : Rb σ τ O n) {x : Int32} (h : 0 ≤ x ∧ x < σ.1 1 1) : x = nI x.toNatClampNeg ∧ x.toNatClampNeg < 90 := z_has hb.zI h
theorem eq_share {σ : zC} {τ : zM} (h : Inv σ τ) {O : Nat → Nat} {n : Nat} (hb : Rb σ τ O n) (x y d k_ : Int32) : (fX3_share σ O n x y d k_).1 = (fX4_share τ n x y d k_).1 ∧ Inv (fX3_share σ O n x y d k_).2 (fX4_share τ n x y d k_).2 := by
  by_cases hx_ : 0 ≤ x ∧ x < σ.1 1 1
  · skip
    obtain ⟨hx, hx9⟩ := ask_x hb hx_
    have b0 := (hb.2.2.2.2.1 x.toNatClampNeg hx9).1
    by_cases hy_ : 0 ≤ y ∧ y ≤ 9
    · skip
      by_cases hd : (0 ≤ d ∧ d ≤ 999)
      · skip
        by_cases hk : (0 ≤ k_ ∧ k_ ≤ 999)
        · skip
          by_cases hs : zg σ x.toNatClampNeg 0 = 0
          · skip
            obtain ⟨i, c, cl, hi, hS, hg, htb⟩ := ask hb h.2.1.2.1 d k_
            obtain ⟨hy, hy9⟩ := z_upto (m := 9) hy_ (by decide)
            obtain ⟨o1, o2⟩ := hS.find hi hg hx hx9
            have hcn := hS.cn
            simp only [fX3_share, fX4_share, ← hb.2.1, ← b0, if_pos hx_, if_pos hy_, if_pos hd, if_pos hk, if_pos hs, if_pos (show (0 ≤ d ∧ d ≤ 999) ∧ (0 ≤ k_ ∧ k_ ≤ 999) from ⟨hd, hk⟩)]
            rw [hcn]
            cases hz : zfst (zfd (zQ σ O n d k_) x) c with
            | none =>
              rw [if_pos (o1 hz)]
              exact ⟨rfl, h.q O n d k_⟩
            | some a =>
              obtain ⟨e, hst⟩ := o2 a hz
              rw [if_neg hst]
              refine ⟨?_, h.q O n d k_⟩
              have := (hS.2.2.1 a (zfst_lt hz)).2.2.2.2.1.2.2.2.2.2.2.2.1 _ hy9
              rw [e] at this
              exact this
          · refine ⟨by simp only [fX3_share, fX4_share, ← hb.2.1, ← b0, if_pos hx_, if_pos hy_, if_pos hd, if_pos hk, if_pos (show (0 ≤ d ∧ d ≤ 999) ∧ (0 ≤ k_ ∧ k_ ≤ 999) from ⟨hd, hk⟩), if_neg hs], ?_⟩
            simp only [fX3_share, fX4_share, ← hb.2.1, ← b0, if_pos hx_, if_pos hy_, if_pos hd, if_pos hk, if_pos (show (0 ≤ d ∧ d ≤ 999) ∧ (0 ≤ k_ ∧ k_ ≤ 999) from ⟨hd, hk⟩), if_neg hs]
            exact h
        · refine ⟨by simp only [fX3_share, fX4_share, ← hb.2.1, ← b0, if_pos hx_, if_pos hy_, if_pos hd, if_neg hk, if_neg (show ¬ ((0 ≤ d ∧ d ≤ 999) ∧ (0 ≤ k_ ∧ k_ ≤ 999)) from fun q => hk q.2)], ?_⟩
          simp only [fX3_share, fX4_share, ← hb.2.1, ← b0, if_pos hx_, if_pos hy_, if_pos hd, if_neg hk, if_neg (show ¬ ((0 ≤ d ∧ d ≤ 999) ∧ (0 ≤ k_ ∧ k_ ≤ 999)) from fun q => hk q.2)]
          exact h
      · refine ⟨by simp only [fX3_share, fX4_share, ← hb.2.1, ← b0, if_pos hx_, if_pos hy_, if_neg hd, if_neg (show ¬ ((0 ≤ d ∧ d ≤ 999) ∧ (0 ≤ k_ ∧ k_ ≤ 999)) from fun q => hd q.1)], ?_⟩
        simp only [fX3_share, fX4_share, ← hb.2.1, ← b0, if_pos hx_, if_pos hy_, if_neg hd, if_neg (show ¬ ((0 ≤ d ∧ d ≤ 999) ∧ (0 ≤ k_ ∧ k_ ≤ 999)) from fun q => hd q.1)]
        exact h
    · refine ⟨by simp only [fX3_share, fX4_share, ← hb.2.1, ← b0, if_pos hx_, if_neg hy_], ?_⟩
      simp only [fX3_share, fX4_share, ← hb.2.1, ← b0, if_pos hx_, if_neg hy_]
      exact h
  · refine ⟨by simp only [fX3_share, fX4_share, ← hb.2.1, if_neg hx_], ?_⟩
    simp only [fX3_share, fX4_share, ← hb.2.1, if_neg hx_]
    exact h
theorem eq_of {σ : zC} {τ : zM} (h : Inv σ τ) {O : Nat → Nat} {n : Nat} (hb : Rb σ τ O n) (x y d k_ : Int32) : (fX3_of σ O n x y d k_).1 = (fX4_of τ n x y d k_).1 ∧ Inv (fX3_of σ O n x y d k_).2 (fX4_of τ n x y d k_).2 := by
  by_cases hx_ : 0 ≤ x ∧ x < σ.1 1 1
  · skip
    obtain ⟨hx, hx9⟩ := ask_x hb hx_
    have b0 := (hb.2.2.2.2.1 x.toNatClampNeg hx9).1
    by_cases hd : (0 ≤ d ∧ d ≤ 999)
    · skip
      by_cases hk : (0 ≤ k_ ∧ k_ ≤ 999)
      · skip
        by_cases hy_ : 0 ≤ y ∧ y ≤ 6
        · skip
          by_cases hs : zg σ x.toNatClampNeg 0 = 0
          · skip
            obtain ⟨i, c, cl, hi, hS, hg, htb⟩ := ask hb h.2.1.2.1 d k_
            obtain ⟨o1, o2⟩ := hS.find hi hg hx hx9
            have hcn := hS.cn
            simp only [fX3_of, fX4_of, ← hb.2.1, ← b0, if_pos hx_, if_pos hd, if_pos hk, if_pos hy_, if_pos hs, if_pos (show (0 ≤ d ∧ d ≤ 999) ∧ (0 ≤ k_ ∧ k_ ≤ 999) from ⟨hd, hk⟩)]
            rw [hcn]
            cases hz : zfst (zfd (zQ σ O n d k_) x) c with
            | none =>
              rw [if_pos (o1 hz)]
              exact ⟨rfl, h.q O n d k_⟩
            | some a =>
              obtain ⟨e, hst⟩ := o2 a hz
              rw [if_neg hst]
              have ha := zfst_lt hz
              obtain ⟨-, -, -, -, hr, hft⟩ := hS.2.2.1 a ha
              have how := hS.owned hi hg htb ha
              rw [e] at hr how
              rw [hcn] at how
              obtain ⟨r0, r3, r4, r5, r6, r7, -⟩ := hr
              have e2 : (mgo τ n d k_).1 2 = (zQ σ O n d k_).1 0 4 := by rw [(mgo_fr τ n d k_).1 2, (zQ_fr σ O n d k_).1 0 (by decide)]; exact h.2.1.2.1.symm
              by_cases y0 : y = 0
              · simp only [fX3_tellOf, if_pos y0]
                exact ⟨r5, h.q O n d k_⟩
              by_cases y1 : y = 1
              · simp only [fX3_tellOf, if_neg y0, if_pos y1]
                exact ⟨r3, h.q O n d k_⟩
              by_cases y2 : y = 2
              · simp only [fX3_tellOf, if_neg y0, if_neg y1, if_pos y2]
                exact ⟨r4, h.q O n d k_⟩
              by_cases y3 : y = 3
              · simp only [fX3_tellOf, if_neg y0, if_neg y1, if_neg y2, if_pos y3]
                exact ⟨r6, h.q O n d k_⟩
              by_cases y4 : y = 4
              · simp only [fX3_tellOf, if_neg y0, if_neg y1, if_neg y2, if_neg y3, if_pos y4, e2, ← r6]
                by_cases z : (zQ σ O n d k_).1 0 4 < d - (zQ σ O n d k_).1 (a + 11) 6
                · rw [if_pos z, if_neg (z_ltn z)]; exact ⟨rfl, h.q O n d k_⟩
                · rw [if_neg z, if_pos (z_nlt z)]; exact ⟨rfl, h.q O n d k_⟩
              by_cases y5 : y = 5
              · simp only [fX3_tellOf, if_neg y0, if_neg y1, if_neg y2, if_neg y3, if_neg y4, if_pos y5]
                exact ⟨r7, h.q O n d k_⟩
              simp only [fX3_tellOf, if_neg y0, if_neg y1, if_neg y2, if_neg y3, if_neg y4, if_neg y5]
              exact ⟨congrArg nI how, h.q O n d k_⟩
          · refine ⟨by simp only [fX3_of, fX4_of, ← hb.2.1, ← b0, if_pos hx_, if_pos hd, if_pos hk, if_pos hy_, if_pos (show (0 ≤ d ∧ d ≤ 999) ∧ (0 ≤ k_ ∧ k_ ≤ 999) from ⟨hd, hk⟩), if_neg hs], ?_⟩
            simp only [fX3_of, fX4_of, ← hb.2.1, ← b0, if_pos hx_, if_pos hd, if_pos hk, if_pos hy_, if_pos (show (0 ≤ d ∧ d ≤ 999) ∧ (0 ≤ k_ ∧ k_ ≤ 999) from ⟨hd, hk⟩), if_neg hs]
            exact h
        · refine ⟨by simp only [fX3_of, fX4_of, ← hb.2.1, ← b0, if_pos hx_, if_pos hd, if_pos hk, if_pos (show (0 ≤ d ∧ d ≤ 999) ∧ (0 ≤ k_ ∧ k_ ≤ 999) from ⟨hd, hk⟩), if_neg hy_], ?_⟩
          simp only [fX3_of, fX4_of, ← hb.2.1, ← b0, if_pos hx_, if_pos hd, if_pos hk, if_pos (show (0 ≤ d ∧ d ≤ 999) ∧ (0 ≤ k_ ∧ k_ ≤ 999) from ⟨hd, hk⟩), if_neg hy_]
          exact h
      · refine ⟨by simp only [fX3_of, fX4_of, ← hb.2.1, ← b0, if_pos hx_, if_pos hd, if_neg hk, if_neg (show ¬ ((0 ≤ d ∧ d ≤ 999) ∧ (0 ≤ k_ ∧ k_ ≤ 999)) from fun q => hk q.2)], ?_⟩
        simp only [fX3_of, fX4_of, ← hb.2.1, ← b0, if_pos hx_, if_pos hd, if_neg hk, if_neg (show ¬ ((0 ≤ d ∧ d ≤ 999) ∧ (0 ≤ k_ ∧ k_ ≤ 999)) from fun q => hk q.2)]
        exact h
    · refine ⟨by simp only [fX3_of, fX4_of, ← hb.2.1, ← b0, if_pos hx_, if_neg hd, if_neg (show ¬ ((0 ≤ d ∧ d ≤ 999) ∧ (0 ≤ k_ ∧ k_ ≤ 999)) from fun q => hd q.1)], ?_⟩
      simp only [fX3_of, fX4_of, ← hb.2.1, ← b0, if_pos hx_, if_neg hd, if_neg (show ¬ ((0 ≤ d ∧ d ≤ 999) ∧ (0 ≤ k_ ∧ k_ ≤ 999)) from fun q => hd q.1)]
      exact h
  · refine ⟨by simp only [fX3_of, fX4_of, ← hb.2.1, if_neg hx_], ?_⟩
    simp only [fX3_of, fX4_of, ← hb.2.1, if_neg hx_]
    exact h
theorem of_feet {σ : zC} {τ : zM} (h : Inv σ τ) {O : Nat → Nat} {n : Nat} (hb : Rb σ τ O n) (d k_ : Int32) : ∀ q, q < zcn (zQ σ O n d k_) → zft (zQ σ O n d k_) q := by
  obtain ⟨i, c, cl, hi, hS, hg, htb⟩ := ask hb h.2.1.2.1 d k_
  rw [hS.cn]
  exact fun q hq => (hS.2.2.1 q hq).2.2.2.2.2
theorem eq_changed {σ : zC} {τ : zM} (h : Inv σ τ) {O : Nat → Nat} {n : Nat} (hb : Rb σ τ O n) (x y z : Int32) : (fX3_changed σ O n x y z).1 = (fX4_changed τ n x y z).1 ∧ Inv (fX3_changed σ O n x y z).2 (fX4_changed τ n x y z).2 := by
  by_cases h1 : (0 ≤ x ∧ x ≤ 999)
  · by_cases h2 : (0 ≤ y ∧ y ≤ 999)
    · by_cases h3 : (0 ≤ z ∧ z ≤ 999)
      · simp only [fX3_changed, fX4_changed, if_pos (show (0 ≤ x ∧ x ≤ 999) ∧ (0 ≤ y ∧ y ≤ 999) from ⟨h1, h2⟩), if_pos h1, if_pos h2, if_pos h3]
        obtain ⟨i, c, cl, hi, hS, hg, htb⟩ := ask hb h.2.1.2.1 x y
        have f1 : zfr σ (zN (zQ σ O n x y)) := (zQ_fr σ O n x y).tr (zfr_N _)
        have f2 : mfr τ (mN (mgo τ n x y) n) := (mgo_fr τ n x y).tr (mfr_N _ _)
        have hb2 := hb.fr f1 f2
        have h2' := h.fr f1 f2
        obtain ⟨i2, c2, cl2, hi2, hS2, hg2, htb2⟩ := ask hb2 h2'.2.1.2.1 x z
        refine ⟨congrArg nI (zct_congr (fun j hj => ?_)), h2'.q O n x z⟩
        unfold zchg mchg
        rw [z10_Q, m30_go]
        have e1 : (zN (zQ σ O n x y)).2 10 j = zhj (zQ σ O n x y) (zcn (zQ σ O n x y)) j := by
          unfold zN
          rw [zFa_rd]
          unfold zhN
          rw [if_pos hj]
        have e2 : (mN (mgo τ n x y) n).2 30 j = mhj (mgo τ n x y) n j := by
          unfold mN
          rw [zmFa_rd, if_pos rfl]
          unfold mhN
          rw [if_pos hj]
        rw [e1, e2]
        unfold zhj mhj
        rw [hS.hold hi hg htb, hS2.hold hi2 hg2 htb2]
      · have n3 := h3
        simp only [fX3_changed, fX4_changed, if_pos (show (0 ≤ x ∧ x ≤ 999) ∧ (0 ≤ y ∧ y ≤ 999) from ⟨h1, h2⟩), if_pos h1, if_pos h2, if_neg h3]
        exact ⟨trivial, h⟩
    · simp only [fX3_changed, fX4_changed, if_neg (show ¬ ((0 ≤ x ∧ x ≤ 999) ∧ (0 ≤ y ∧ y ≤ 999)) from fun q => h2 q.2), if_pos h1, if_neg h2]
      exact ⟨trivial, h⟩
  · simp only [fX3_changed, fX4_changed, if_neg (show ¬ ((0 ≤ x ∧ x ≤ 999) ∧ (0 ≤ y ∧ y ≤ 999)) from fun q => h1 q.1), if_neg h1]
    exact ⟨trivial, h⟩
