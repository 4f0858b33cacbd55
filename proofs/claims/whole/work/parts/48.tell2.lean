/-! the telling methods: the same answers, the tie kept -/
theorem gd.congr2 {t u : zTab} {ord ord2 : Nat → Int32} {O : Nat → Nat} {n : Nat} {stk : Int32} (h : gd t ord O n stk) (e : ∀ f, f < n → u f 0 = t f 0 ∧ u f 1 = t f 1 ∧ u f 5 = t f 5 ∧ u f 6 = t f 6 ∧ u f 7 = t f 7 ∧ u f 9 = t f 9 ∧ u f 10 = t f 10) (e2 : ∀ i, i < n → ord2 i = ord i) : gd u ord2 O n stk := by
  obtain ⟨hn, hs1, hs2, hO, hsrt, hon, hf⟩ := h
  have es : stn u n = stn t n := zct_congr (fun i hi => by rw [(e i hi).1])
  refine ⟨hn, by rw [es]; exact hs1, by rw [es]; exact hs2, fun i hi => by rw [e2 i hi]; exact hO i hi, fun i j hij hj => ?_, hon, fun f hfn => ?_⟩
  · have h := hsrt i j hij hj
    unfold bf at h ⊢
    rw [(e _ (hO i (by omega)).2).2.1, (e _ (hO j hj).2).2.1]
    exact h
  · have h := hf f hfn
    obtain ⟨x0, x1, x5, x6, x7, x9, x10⟩ := e f hfn
    unfold fok at h ⊢
    rw [x0, x1, x5, x6, x7, x9, x10]
    refine ⟨h.1, h.2.1, h.2.2.1, h.2.2.2.1, fun a b => ?_, h.2.2.2.2.2⟩
    obtain ⟨g, hg, h1, h2⟩ := h.2.2.2.2.1 a b
    exact ⟨g, hg, h1, by rw [(e g hg).1]; exact h2⟩
theorem eq_day {σ : zC} {τ : zM} (h : Inv σ τ) (x : Int32) : (fX3_day σ x).1 = (fX4_day τ x).1 ∧ Inv (fX3_day σ x).2 (fX4_day τ x).2 := by
  obtain ⟨⟨O, n, hb⟩, hs, hk⟩ := id h
  have e0 := hb.1
  unfold fX3_day fX4_day
  rw [e0]
  by_cases h1 : (0 ≤ x ∧ x ≤ 100)
  · by_cases h2 : τ.1 0 + x ≤ 999
    · simp only [if_pos h1, if_pos h2]
      refine ⟨trivial, ⟨O, n, ?_⟩, hs, hk⟩
      exact ⟨rfl, hb.2.1, hb.2.2.1, hb.2.2.2.1, hb.2.2.2.2.1, hb.2.2.2.2.2⟩
    · simp only [if_pos h1, if_neg h2]
      exact ⟨trivial, h⟩
  · simp only [if_neg h1]
    exact ⟨trivial, h⟩
theorem eq_rule {σ : zC} {τ : zM} (h : Inv σ τ) (x y : Int32) : (fX3_rule σ x y).1 = (fX4_rule τ x y).1 ∧ Inv (fX3_rule σ x y).2 (fX4_rule τ x y).2 := by
  obtain ⟨hb, hs, hk⟩ := id h
  obtain ⟨s1, s2, s3, s4⟩ := id hs
  unfold fX3_rule fX4_rule
  by_cases x0 : x = 0
  · subst x0
    simp only [if_pos rfl, if_pos (show (0 : Int32) ≤ 0 ∧ (0 : Int32) ≤ 1 by decide), if_neg (show ¬ (0 : Int32) = 1 by decide), if_true]
    by_cases h1 : (1 ≤ y ∧ y ≤ 10)
    · simp only [if_pos h1]
      refine ⟨s1, hb, ⟨rfl, s2, s3, ?_, h1.2⟩, hk⟩
      have := h1.1
      show 0 ≤ y
      rw [Int32.le_iff_toInt_le] at this ⊢
      have e1 : (1 : Int32).toInt = 1 := rfl
      have e0 : (0 : Int32).toInt = 0 := rfl
      omega
    · simp only [if_neg h1, if_true, if_false]
      exact ⟨trivial, h⟩
  · by_cases x1 : x = 1
    · subst x1
      simp only [if_neg x0, if_pos rfl, if_pos (show (0 : Int32) ≤ 1 ∧ (1 : Int32) ≤ 1 by decide), if_true]
      by_cases h1 : (1 ≤ y ∧ y ≤ 30)
      · simp only [if_pos h1]
        exact ⟨s2, hb, ⟨s1, rfl, s3, s4⟩, hk⟩
      · simp only [if_neg h1]
        exact ⟨trivial, h⟩
    · have hx : ¬ (0 ≤ x ∧ x ≤ 1) := fun q => by
        obtain ⟨j, hj, e⟩ := z_nat2 (n := 1) q.1 q.2 (by decide)
        have : j = 0 ∨ j = 1 := by omega
        rcases this with rfl | rfl
        · exact x0 e
        · exact x1 e
      simp only [if_neg x0, if_neg x1, if_neg hx]
      exact ⟨trivial, h⟩
theorem full_iff {n : Nat} (h : n ≤ 90) : ((90 : Int32) ≤ nI n) ↔ nI n = 90 := by
  constructor
  · intro q
    have := (nI_leI (a := 90) (b := n) (by decide) (by omega)).mp q
    have e : n = 90 := by omega
    rw [e]; rfl
  · intro q; rw [q]; decide
theorem eq_ref {σ : zC} {τ : zM} {O : Nat → Nat} {n : Nat} (hb : Rb σ τ O n) (g ab x : Int32) : fX3_refusalOfClaim σ g ab x = fX4_wrong τ ab x g := by
  obtain ⟨b1, b2, b3, b4, b5, b6⟩ := id hb
  have hn := b6.1
  unfold fX3_refusalOfClaim fX4_wrong
  rw [b1, b2]
  by_cases h1 : g = 0
  · simp only [if_pos h1]
    by_cases h2 : (0 ≤ ab ∧ ab ≤ τ.1 0)
    · by_cases h3 : (0 ≤ x ∧ x < τ.1 3)
      · simp only [if_pos h2, if_pos h3]
      · simp only [if_pos h2, if_neg h3]
    · simp only [if_neg h2]
  · by_cases h2 : (0 ≤ ab ∧ ab ≤ τ.1 0)
    · by_cases h3 : (0 ≤ x ∧ x < τ.1 3)
      · have hx9 := (ask_x hb (by rw [b2]; exact h3)).2
        rw [(b5 _ hx9).1]
        simp only [if_neg h1, if_pos h2, if_pos h3]
        rw [b3]
        by_cases h4 : τ.2 5 x.toNatClampNeg = 0
        · simp only [if_pos h4]
          by_cases h5 : nI n = 90
          · rw [if_pos ((full_iff hn).mpr h5), if_pos h5]
          · rw [if_neg (fun q => h5 ((full_iff hn).mp q)), if_neg h5]
        · simp only [if_neg h4]
      · simp only [if_neg h1, if_pos h2, if_neg h3]
    · simp only [if_neg h1, if_neg h2]
theorem ref0 {σ : zC} {ab x : Int32} : ¬ 0 ≤ fX3_refusalOfClaim σ 0 ab x := by unfold fX3_refusalOfClaim; rw [if_pos rfl]; decide
/-- what is known of a claim that isn't refused -/
theorem ref_ok {σ : zC} {τ : zM} {O : Nat → Nat} {n : Nat} (hb : Rb σ τ O n) {g ab x : Int32} (h : 0 ≤ fX3_refusalOfClaim σ g ab x) : n < 90 ∧ 0 ≤ ab ∧ (x = nI x.toNatClampNeg ∧ x.toNatClampNeg < n) ∧ zg σ x.toNatClampNeg 0 = 0 ∧ ¬ x < 0 ∧ zg σ x.toNatClampNeg 4 = τ.2 9 x.toNatClampNeg ∧ ¬ g = 0 := by
  obtain ⟨r1, r2, r3, r4, r5⟩ := z_ref h
  have hI := hb.zI
  have hn9 := z_nf hI r5
  obtain ⟨hx, hx9⟩ := ask_x hb r3
  have hxn : x.toNatClampNeg < n := by
    have := r3.2
    rw [hI.2.1, hx] at this
    exact (nI_ltI (by omega) (by omega)).mp this
  exact ⟨hn9, r2.1, ⟨hx, hxn⟩, r4, z_len r3.1, (hb.2.2.2.2.1 _ (by omega)).2.2.2.2.1, r1⟩
theorem eq_work {σ : zC} {τ : zM} (h : Inv σ τ) {O : Nat → Nat} {n : Nat} (hb : Rb σ τ O n) (ab x : Int32) : (fX3_work σ n ab x).1 = (fX4_work τ n ab x).1 ∧ Inv (fX3_work σ n ab x).2 (fX4_work τ n ab x).2 := by
  unfold fX3_work fX4_work
  rw [← eq_ref hb]
  by_cases hr : 0 ≤ fX3_refusalOfClaim σ 1 ab x
  · simp only [if_pos hr]
    obtain ⟨hn9, hab, ⟨hx, hxn⟩, hk0, hx0, hv4, hg0⟩ := ref_ok hb hr
    have hC := ((cApp_0 σ n 1 ab (zg σ x.toNatClampNeg 4)).zp 9 (by decide) x)
    have hM := (mApp_tell τ n 1 ab x (-4))
    rw [if_neg hx0, ← hb.2.2.2.1] at hM
    refine ⟨trivial, Inv_app h hb hn9 hC hM ⟨rfl, rfl, hb.1, rfl, hv4, rfl, rfl, rfl, rfl, rfl, rfl⟩ rfl ⟨hab, Or.inr (Or.inl rfl), fun q => absurd (show (1 : Int32) = 0 from q) (by decide), fun q => absurd (show (1 : Int32) = 0 ∨ (1 : Int32) = 4 from q) (by decide), fun _ _ => ⟨x.toNatClampNeg, hxn, hx, hk0⟩, fun q => absurd (show (1 : Int32) = 5 from q) (by decide)⟩ (Or.inl ⟨show ¬ (1 : Int32) = 0 by decide, rfl⟩)⟩
  · simp only [if_neg hr]
    exact ⟨trivial, h⟩
theorem eq_give {σ : zC} {τ : zM} (h : Inv σ τ) {O : Nat → Nat} {n : Nat} (hb : Rb σ τ O n) (ab x : Int32) : (fX3_give σ n ab x).1 = (fX4_give τ n ab x).1 ∧ Inv (fX3_give σ n ab x).2 (fX4_give τ n ab x).2 := by
  unfold fX3_give fX4_give
  rw [← eq_ref hb]
  by_cases hr : 0 ≤ fX3_refusalOfClaim σ 1 ab x
  · simp only [if_pos hr]
    obtain ⟨hn9, hab, ⟨hx, hxn⟩, hk0, hx0, hv4, hg0⟩ := ref_ok hb hr
    have hC := ((cApp_0 σ n 3 ab (zg σ x.toNatClampNeg 4)).zp 9 (by decide) x)
    have hM := (mApp_tell τ n 3 ab x (-4))
    rw [if_neg hx0, ← hb.2.2.2.1] at hM
    refine ⟨trivial, Inv_app h hb hn9 hC hM ⟨rfl, rfl, hb.1, rfl, hv4, rfl, rfl, rfl, rfl, rfl, rfl⟩ rfl ⟨hab, Or.inr (Or.inr (Or.inr (Or.inl rfl))), fun q => absurd (show (3 : Int32) = 0 from q) (by decide), fun q => absurd (show (3 : Int32) = 0 ∨ (3 : Int32) = 4 from q) (by decide), fun _ _ => ⟨x.toNatClampNeg, hxn, hx, hk0⟩, fun q => absurd (show (3 : Int32) = 5 from q) (by decide)⟩ (Or.inl ⟨show ¬ (3 : Int32) = 0 by decide, rfl⟩)⟩
  · simp only [if_neg hr]
    exact ⟨trivial, h⟩
theorem eq_nick {σ : zC} {τ : zM} (h : Inv σ τ) {O : Nat → Nat} {n : Nat} (hb : Rb σ τ O n) (ab x m : Int32) : (fX3_nick σ n ab x m).1 = (fX4_nick τ n ab x m).1 ∧ Inv (fX3_nick σ n ab x m).2 (fX4_nick τ n ab x m).2 := by
  unfold fX3_nick fX4_nick
  rw [← eq_ref hb]
  by_cases hr : 0 ≤ fX3_refusalOfClaim σ (zB (0 ≤ m ∧ m ≤ 9)) ab x
  · simp only [if_pos hr]
    obtain ⟨hn9, hab, ⟨hx, hxn⟩, hk0, hx0, hv4, hg0⟩ := ref_ok hb hr
    have hC := (((cApp_0 σ n 2 ab (zg σ x.toNatClampNeg 4)).zp 9 (by decide) x).zp 5 (by decide) m)
    have hM := (mApp_tell τ n 2 ab x m)
    rw [if_neg hx0, ← hb.2.2.2.1] at hM
    refine ⟨trivial, Inv_app h hb hn9 hC hM ⟨rfl, rfl, hb.1, rfl, hv4, rfl, rfl, rfl, rfl, rfl, rfl⟩ rfl ⟨hab, Or.inr (Or.inr (Or.inl rfl)), fun q => absurd (show (2 : Int32) = 0 from q) (by decide), fun q => absurd (show (2 : Int32) = 0 ∨ (2 : Int32) = 4 from q) (by decide), fun _ _ => ⟨x.toNatClampNeg, hxn, hx, hk0⟩, fun q => absurd (show (2 : Int32) = 5 from q) (by decide)⟩ (Or.inl ⟨show ¬ (2 : Int32) = 0 by decide, rfl⟩)⟩
  · simp only [if_neg hr]
    exact ⟨trivial, h⟩
theorem eq_view {σ : zC} {τ : zM} (h : Inv σ τ) {O : Nat → Nat} {n : Nat} (hb : Rb σ τ O n) (ab x p q : Int32) : (fX3_view σ n ab x p q).1 = (fX4_view τ n ab x p q).1 ∧ Inv (fX3_view σ n ab x p q).2 (fX4_view τ n ab x p q).2 := by
  unfold fX3_view fX4_view
  simp only [← eq_ref hb]
  by_cases h1 : (0 ≤ p ∧ p ≤ 59)
  rotate_left
  · simp only [if_neg h1, if_neg ref0]
    exact ⟨trivial, h⟩
  by_cases h2 : (0 ≤ q ∧ q ≤ 59)
  rotate_left
  · simp only [if_pos h1, if_neg h2, if_neg ref0]
    exact ⟨trivial, h⟩
  by_cases h3 : q < p
  · simp only [if_pos h1, if_pos h2, if_pos h3, if_neg ref0]
    exact ⟨trivial, h⟩
  simp only [if_pos h1, if_pos h2, if_neg h3]
  by_cases hr : 0 ≤ fX3_refusalOfClaim σ 1 ab x
  · simp only [if_pos hr]
    obtain ⟨hn9, hab, ⟨hx, hxn⟩, hk0, hx0, hv4, hg0⟩ := ref_ok hb hr
    obtain ⟨p_, hp_, ep⟩ := z_nat2 (n := 59) h1.1 h1.2 (by decide)
    obtain ⟨q_, hq_, eq⟩ := z_nat2 (n := 59) h2.1 h2.2 (by decide)
    have hpq : p_ ≤ q_ := by have := z_nlt h3; rw [ep, eq] at this; exact (nI_leI (by omega) (by omega)).mp this
    have hC := ((((cApp_0 σ n 4 ab (zg σ x.toNatClampNeg 4)).zp 9 (by decide) x).zp 6 (by decide) p).zp 7 (by decide) q)
    have hM := (((mApp_tell τ n 4 ab x (-4)).F 12 (by decide) (by decide) p).F 13 (by decide) (by decide) q)
    rw [if_neg hx0, ← hb.2.2.2.1] at hM
    refine ⟨trivial, Inv_app h hb hn9 hC hM ⟨rfl, rfl, hb.1, rfl, hv4, rfl, rfl, rfl, rfl, rfl, rfl⟩ rfl ⟨hab, Or.inr (Or.inr (Or.inr (Or.inr (Or.inl rfl)))), fun q => absurd (show (4 : Int32) = 0 from q) (by decide), fun _ => ⟨p_, q_, ep, eq, hpq, by omega⟩, fun _ _ => ⟨x.toNatClampNeg, hxn, hx, hk0⟩, fun q => absurd (show (4 : Int32) = 5 from q) (by decide)⟩ (Or.inl ⟨show ¬ (4 : Int32) = 0 by decide, rfl⟩)⟩
  · simp only [if_neg hr]
    exact ⟨trivial, h⟩
theorem eq_sell {σ : zC} {τ : zM} (h : Inv σ τ) {O : Nat → Nat} {n : Nat} (hb : Rb σ τ O n) (ab x m q v : Int32) : (fX3_sell σ n ab x m q v).1 = (fX4_sell τ n ab x m q v).1 ∧ Inv (fX3_sell σ n ab x m q v).2 (fX4_sell τ n ab x m q v).2 := by
  unfold fX3_sell fX4_sell
  simp only [← eq_ref hb]
  by_cases h1 : (0 ≤ m ∧ m ≤ 9)
  rotate_left
  · simp only [if_neg h1, if_neg ref0]
    exact ⟨trivial, h⟩
  by_cases h2 : (0 ≤ q ∧ q ≤ 9)
  rotate_left
  · simp only [if_pos h1, if_neg h2, if_neg ref0]
    exact ⟨trivial, h⟩
  by_cases h3 : m = q
  · rw [if_pos h1, if_pos h2, if_pos h3, if_neg ref0, if_pos h1, if_pos h2, if_pos h3, if_neg ref0]
    exact ⟨rfl, h⟩
  by_cases h4 : (1 ≤ v ∧ v ≤ 24)
  rotate_left
  · simp only [if_pos h1, if_pos h2, if_neg h3, if_neg h4, if_neg ref0]
    exact ⟨trivial, h⟩
  simp only [if_pos h1, if_pos h2, if_neg h3, if_pos h4]
  by_cases hr : 0 ≤ fX3_refusalOfClaim σ 1 ab x
  · simp only [if_pos hr]
    obtain ⟨hn9, hab, ⟨hx, hxn⟩, hk0, hx0, hv4, hg0⟩ := ref_ok hb hr
    obtain ⟨p_, hp_, ep⟩ := z_nat2 (n := 9) h1.1 h1.2 (by decide)
    obtain ⟨q_, hq_, eq⟩ := z_nat2 (n := 9) h2.1 h2.2 (by decide)
    have hC := (((((cApp_0 σ n 5 ab (zg σ x.toNatClampNeg 4)).zp 9 (by decide) x).zp 5 (by decide) m).zp 10 (by decide) q).zp 8 (by decide) v)
    have hM := (((mApp_tell τ n 5 ab x m).F 11 (by decide) (by decide) q).F 14 (by decide) (by decide) v)
    rw [if_neg hx0, ← hb.2.2.2.1] at hM
    refine ⟨trivial, Inv_app h hb hn9 hC hM ⟨rfl, rfl, hb.1, rfl, hv4, rfl, rfl, rfl, rfl, rfl, rfl⟩ rfl ⟨hab, Or.inr (Or.inr (Or.inr (Or.inr (Or.inr (Or.inl rfl))))), fun q => absurd (show (5 : Int32) = 0 from q) (by decide), fun q => absurd (show (5 : Int32) = 0 ∨ (5 : Int32) = 4 from q) (by decide), fun _ _ => ⟨x.toNatClampNeg, hxn, hx, hk0⟩, fun _ => ⟨p_, q_, by omega, ep, by omega, eq⟩⟩ (Or.inl ⟨show ¬ (5 : Int32) = 0 by decide, rfl⟩)⟩
  · simp only [if_neg hr]
    exact ⟨trivial, h⟩
theorem eq_dig {σ : zC} {τ : zM} (h : Inv σ τ) {O : Nat → Nat} {n : Nat} (hb : Rb σ τ O n) (ab vn ft v : Int32) : (fX3_dig σ n ab vn ft v).1 = (fX4_dig τ n ab vn ft v).1 ∧ Inv (fX3_dig σ n ab vn ft v).2 (fX4_dig τ n ab vn ft v).2 := by
  have hn := hb.2.2.2.2.2.1
  unfold fX3_dig fX4_dig
  rw [hb.1, hb.2.1, hb.2.2.1]
  by_cases h1 : (0 ≤ ab ∧ ab ≤ τ.1 0)
  rotate_left
  · simp only [if_neg h1]
    exact ⟨trivial, h⟩
  by_cases h2 : (0 ≤ vn ∧ vn ≤ 3)
  rotate_left
  · simp only [if_pos h1, if_neg h2]
    exact ⟨trivial, h⟩
  by_cases h3 : (0 ≤ ft ∧ ft ≤ 59)
  rotate_left
  · simp only [if_pos h1, if_pos h2, if_neg h3]
    exact ⟨trivial, h⟩
  by_cases h4 : (1 ≤ v ∧ v ≤ 1000)
  rotate_left
  · simp only [if_pos h1, if_pos h2, if_pos h3, if_neg h4]
    exact ⟨trivial, h⟩
  simp only [if_pos h1, if_pos h2, if_pos h3, if_pos h4]
  by_cases h5 : nI n = 90
  · rw [if_pos ((full_iff hn).mpr h5), if_pos h5]
    exact ⟨rfl, h⟩
  rw [if_neg (fun q => h5 ((full_iff hn).mp q)), if_neg h5]
  have hn9 : n < 90 := zm_n9 hn hb.2.2.1 (by rw [hb.2.2.1]; exact h5)
  have hC := (((cApp_0 σ n 6 ab vn).zp 6 (by decide) ft).zp 7 (by decide) ft).zp 8 (by decide) v
  have hM := ((((mApp_tell τ n 6 ab (-4) (-4)).F 9 (by decide) (by decide) vn).F 12 (by decide) (by decide) ft).F 13 (by decide) (by decide) ft).F 14 (by decide) (by decide) v
  rw [← hb.2.2.2.1] at hM
  exact ⟨rfl, Inv_app h hb hn9 hC hM ⟨rfl, rfl, hb.1, rfl, rfl, rfl, rfl, rfl, rfl, rfl, rfl⟩ rfl ⟨h1.1, Or.inr (Or.inr (Or.inr (Or.inr (Or.inr (Or.inr rfl))))), fun q => absurd (show (6 : Int32) = 0 from q) (by decide), fun q => absurd (show (6 : Int32) = 0 ∨ (6 : Int32) = 4 from q) (by decide), fun _ q => absurd rfl q, fun q => absurd (show (6 : Int32) = 5 from q) (by decide)⟩ (Or.inl ⟨show ¬ (6 : Int32) = 0 by decide, rfl⟩)⟩
theorem eq_stake {σ : zC} {τ : zM} (h : Inv σ τ) {O : Nat → Nat} {n : Nat} (hb : Rb σ τ O n) (ab vn ft m : Int32) : (fX3_stake σ n ab vn ft m).1 = (fX4_stake τ n ab vn ft m).1 ∧ Inv (fX3_stake σ n ab vn ft m).2 (fX4_stake τ n ab vn ft m).2 := by
  have hn := hb.2.2.2.2.2.1
  obtain ⟨b1, b2, b3, b4, b5, b6⟩ := id hb
  obtain ⟨s1, s2, s3, s4⟩ := id h.2.1
  have hs20 := b6.2.2.1
  have hstk := b6.2.1
  unfold fX3_stake fX4_stake
  rw [hb.1, hb.2.1, hb.2.2.1]
  by_cases h1 : (0 ≤ ab ∧ ab ≤ τ.1 0)
  rotate_left
  · simp only [if_neg h1]
    exact ⟨trivial, h⟩
  by_cases h2 : (0 ≤ vn ∧ vn ≤ 3)
  rotate_left
  · simp only [if_pos h1, if_neg h2]
    exact ⟨trivial, h⟩
  by_cases h3 : (0 ≤ ft ∧ ft ≤ 59)
  rotate_left
  · simp only [if_pos h1, if_pos h2, if_neg h3]
    exact ⟨trivial, h⟩
  by_cases h4 : (0 ≤ m ∧ m ≤ 9)
  rotate_left
  · simp only [if_pos h1, if_pos h2, if_pos h3, if_neg h4]
    exact ⟨trivial, h⟩
  simp only [if_pos h1, if_pos h2, if_pos h3, if_pos h4]
  by_cases h5 : nI n = 90
  · rw [if_pos ((full_iff hn).mpr h5), if_pos h5]
    exact ⟨rfl, h⟩
  rw [if_neg (fun q => h5 ((full_iff hn).mp q)), if_neg h5]
  have hn9 : n < 90 := zm_n9 hn hb.2.2.1 (by rw [hb.2.2.1]; exact h5)
  rw [← b4]
  by_cases h6 : σ.1 1 2 = 20
  · rw [if_neg (by rw [h6]; decide), if_pos h6]
    exact ⟨rfl, h⟩
  have hlt : stn (zg σ) n < 20 := by
    rcases Nat.lt_or_eq_of_le hs20 with q | q
    · exact q
    · rw [q] at hstk; exact absurd hstk h6
  rw [if_pos (by rw [hstk]; exact (nI_ltI (b := 20) (by omega) (by decide)).mpr hlt), if_neg h6]
  have e1 : (fX4_tell τ n 0 ab (-4) m).2.1 1 = σ.1 0 3 := by rw [fX4_tell_s _ _ _ _ _ _ (by decide)]; exact s1.symm
  have e4 : (fX4_tell τ n 0 ab (-4) m).2.1 4 = σ.1 1 2 := by rw [fX4_tell_s _ _ _ _ _ _ (by decide)]; exact b4.symm
  rw [e1, e4]
  obtain ⟨F, hF, eF⟩ := z_nat2 (n := 59) h3.1 h3.2 (by decide)
  obtain ⟨R, hR, eR⟩ := z_nat2 (n := 10) s4.1 s4.2 (by decide)
  have hp : ∃ p : Nat, (if ft - σ.1 0 3 < 0 then 0 else ft - σ.1 0 3) = nI p ∧ p ≤ F := by
    rw [eF, eR]
    rcases Nat.lt_or_ge F R with q | q
    · rw [if_pos (pk_sneg (by omega) q)]
      exact ⟨0, rfl, by omega⟩
    · rw [pk_sub q, if_neg (nI_pos (by omega))]
      exact ⟨F - R, rfl, by omega⟩
  have hl : ∃ l : Nat, (if 59 < ft + σ.1 0 3 then 59 else ft + σ.1 0 3) = nI l ∧ F ≤ l ∧ l < 60 := by
    rw [eF, eR, nI_add]
    by_cases q : 59 < F + R
    · rw [if_pos (show (59 : Int32) < nI (F + R) from (nI_ltI (a := 59) (by decide) (by omega)).mpr q)]
      exact ⟨59, rfl, by omega, by omega⟩
    · rw [if_neg (show ¬ (59 : Int32) < nI (F + R) from fun z => q ((nI_ltI (a := 59) (by decide) (by omega)).mp z))]
      exact ⟨F + R, rfl, by omega, by omega⟩
  obtain ⟨p, ep, hpF⟩ := hp
  obtain ⟨l, el, hFl, hl9⟩ := hl
  have key : ∀ vp vl : Int32, vp = (if ft - σ.1 0 3 < 0 then 0 else ft - σ.1 0 3) → vl = (if 59 < ft + σ.1 0 3 then 59 else ft + σ.1 0 3) → Inv (zO (zp (zp (zp (zp (zap σ n 0 ab vn) n 9 (nI n)) n 5 m) n 6 (if ft - σ.1 0 3 < 0 then 0 else ft - σ.1 0 3)) n 7 (if 59 < ft + σ.1 0 3 then 59 else ft + σ.1 0 3)) 1 2 (σ.1 1 2 + 1)) (zmO (zmF (zmF (zmF (zmF (fX4_tell τ n 0 ab (-4) m).2 15 n (nI n)) 9 n vn) 12 n vp) 13 n vl) 4 (σ.1 1 2 + 1)) := by
    intro vp vl evp evl
    have hC := (((((cApp_0 σ n 0 ab vn).zp 9 (by decide) (nI n)).zp 5 (by decide) m).zp 6 (by decide) (if ft - σ.1 0 3 < 0 then 0 else ft - σ.1 0 3)).zp 7 (by decide) (if 59 < ft + σ.1 0 3 then 59 else ft + σ.1 0 3)).st (σ.1 1 2 + 1)
    have hM := (((((mApp_tell τ n 0 ab (-4) m).F 15 (by decide) (by decide) (nI n)).F 9 (by decide) (by decide) vn).F 12 (by decide) (by decide) vp).F 13 (by decide) (by decide) vl).st (σ.1 1 2 + 1)
    exact Inv_app h hb hn9 hC hM ⟨rfl, rfl, hb.1, rfl, rfl, rfl, evp.symm, evl.symm, rfl, rfl, rfl⟩ rfl ⟨h1.1, Or.inl rfl, fun _ => rfl, fun _ => ⟨p, l, ep, el, by omega, hl9⟩, fun q => absurd rfl q, fun q => absurd (show (0 : Int32) = 5 from q) (by decide)⟩ (Or.inr ⟨rfl, by rw [hstk]; exact nI_1 _, hlt⟩)
  by_cases c1 : 0 ≤ ft - σ.1 0 3
  · by_cases c2 : ft + σ.1 0 3 ≤ 59
    · simp only [if_pos c1, if_pos c2]
      exact ⟨trivial, key _ _ (by rw [if_neg (z_len c1)]) (by rw [if_neg (z_len c2)])⟩
    · simp only [if_pos c1, if_neg c2]
      exact ⟨trivial, key _ _ (by rw [if_neg (z_len c1)]) (by rw [if_pos (z_nle c2)])⟩
  · by_cases c2 : ft + σ.1 0 3 ≤ 59
    · simp only [if_neg c1, if_pos c2]
      exact ⟨trivial, key _ _ (by rw [if_pos (z_nle c1)]) (by rw [if_neg (z_len c2)])⟩
    · simp only [if_neg c1, if_neg c2]
      exact ⟨trivial, key _ _ (by rw [if_pos (z_nle c1)]) (by rw [if_pos (z_nle c2)])⟩
theorem eq_withdraw {σ : zC} {τ : zM} (h : Inv σ τ) (x : Int32) : (fX3_withdraw σ x).1 = (fX4_withdraw τ x).1 ∧ Inv (fX3_withdraw σ x).2 (fX4_withdraw τ x).2 := by
  obtain ⟨⟨O, n, hb⟩, hs, hk⟩ := id h
  obtain ⟨b1, b2, b3, b4, b5, b6⟩ := id hb
  unfold fX3_withdraw fX4_withdraw
  by_cases h1 : (0 ≤ x ∧ x < σ.1 1 1)
  rotate_left
  · rw [← b2]
    simp only [if_neg h1]
    exact ⟨trivial, h⟩
  obtain ⟨hx, hx9⟩ := ask_x hb h1
  have e3 := (b5 _ hx9).2.2.2.1
  rw [← b2, ← e3]
  simp only [if_pos h1]
  by_cases h2 : zg σ x.toNatClampNeg 3 = -4
  rotate_left
  · rw [if_pos h2, if_neg h2]
    exact ⟨rfl, h⟩
  rw [if_neg (fun q => q h2), if_pos h2]
  refine ⟨rfl, ⟨O, n, b1, b2, b3, b4, fun f hf => ?_, b6.congr2 (fun f hf => ?_) (fun i hi => rfl)⟩, hs, hk⟩
  · obtain ⟨a0, a1, a2, a3, a4, a5, a6, a7, a8, a9, a10⟩ := b5 f hf
    unfold tb
    simp only [zg_zp _ _ _ _ _ _ (show 3 < 11 by decide) (show 0 < 11 by decide), zg_zp _ _ _ _ _ _ (show 3 < 11 by decide) (show 1 < 11 by decide), zg_zp _ _ _ _ _ _ (show 3 < 11 by decide) (show 2 < 11 by decide), zg_zp _ _ _ _ _ _ (show 3 < 11 by decide) (show 3 < 11 by decide), zg_zp _ _ _ _ _ _ (show 3 < 11 by decide) (show 4 < 11 by decide), zg_zp _ _ _ _ _ _ (show 3 < 11 by decide) (show 5 < 11 by decide), zg_zp _ _ _ _ _ _ (show 3 < 11 by decide) (show 6 < 11 by decide), zg_zp _ _ _ _ _ _ (show 3 < 11 by decide) (show 7 < 11 by decide), zg_zp _ _ _ _ _ _ (show 3 < 11 by decide) (show 8 < 11 by decide), zg_zp _ _ _ _ _ _ (show 3 < 11 by decide) (show 9 < 11 by decide), zg_zp _ _ _ _ _ _ (show 3 < 11 by decide) (show 10 < 11 by decide), zmF_rd]
    simp [a0, a1, a2, a3, a4, a5, a6, a7, a8, a9, a10, b1]
  · simp only [zg_zp _ _ _ _ _ _ (show 3 < 11 by decide) (show 0 < 11 by decide), zg_zp _ _ _ _ _ _ (show 3 < 11 by decide) (show 1 < 11 by decide), zg_zp _ _ _ _ _ _ (show 3 < 11 by decide) (show 5 < 11 by decide), zg_zp _ _ _ _ _ _ (show 3 < 11 by decide) (show 6 < 11 by decide), zg_zp _ _ _ _ _ _ (show 3 < 11 by decide) (show 7 < 11 by decide), zg_zp _ _ _ _ _ _ (show 3 < 11 by decide) (show 9 < 11 by decide), zg_zp _ _ _ _ _ _ (show 3 < 11 by decide) (show 10 < 11 by decide)]
    simp
theorem eq_fact {σ : zC} {τ : zM} (h : Inv σ τ) (x y : Int32) : fX3_fact σ x y = fX4_fact τ x y := by
  obtain ⟨⟨O, n, hb⟩, hs, hk⟩ := id h
  obtain ⟨b1, b2, b3, b4, b5, b6⟩ := id hb
  unfold fX3_fact fX4_fact
  rw [← b2]
  by_cases h1 : (0 ≤ x ∧ x < σ.1 1 1)
  rotate_left
  · simp only [if_neg h1]
  by_cases h2 : (0 ≤ y ∧ y ≤ 9)
  rotate_left
  · simp only [if_pos h1, if_neg h2]
  obtain ⟨hx, hx9⟩ := ask_x hb h1
  obtain ⟨a0, a1, a2, a3, a4, a5, a6, a7, a8, a9, a10⟩ := b5 _ hx9
  simp only [if_pos h1, if_pos h2]
  obtain ⟨k, hk9, rfl⟩ := z_nat2 (n := 9) h2.1 h2.2 (by decide)
  rw [nI_clamp (by omega)]
  have hkk : k = 0 ∨ k = 1 ∨ k = 2 ∨ k = 3 ∨ k = 4 ∨ k = 5 ∨ k = 6 ∨ k = 7 ∨ k = 8 ∨ k = 9 := by omega
  rcases hkk with rfl | rfl | rfl | rfl | rfl | rfl | rfl | rfl | rfl | rfl
  · exact a0
  · exact a1
  · exact a2
  · exact a3
  · exact a4
  · exact a5
  · exact a6
  · exact a7
  · exact a8
  · exact a9
theorem eq_many {σ : zC} {τ : zM} (h : Inv σ τ) {O : Nat → Nat} {n : Nat} (hb : Rb σ τ O n) (x : Int32) : fX3_many σ n x = fX4_many τ n x := by
  obtain ⟨b1, b2, b3, b4, b5, b6⟩ := id hb
  have hn := b6.1
  have ew : zct (fun f => decide (¬ zg σ f 3 = -4)) n = zct (fun f => decide (¬ τ.2 8 f = -4)) n := zct_congr (fun f hf => by rw [(b5 f (by omega)).2.2.2.1])
  unfold fX3_many fX4_many
  rw [b1, b2, b4, h.2.1.1, h.2.1.2.1, ew]
theorem mkc_18 (τ : zM) (i q j : Nat) : (mkc τ i q).2 18 j = if q ≤ j ∧ j < q + 90 then τ.2 i (j - q) else τ.2 18 j := by
  unfold mkc
  rw [zmFa_rd, if_pos rfl]
  unfold va_cpy
  rw [Nat.zero_add]
theorem mkc_ne (τ : zM) (i q : Nat) {s : Nat} (h : s ≠ 18) : (mkc τ i q).2 s = τ.2 s := by unfold mkc; rw [zmFa_rd, if_neg h]
theorem mbc_at (τ : zM) (i q j : Nat) (hj : j < 90) : (mbc τ i q).2 i j = τ.2 18 (q + j) := by
  unfold mbc
  rw [zmFa_rd, if_pos rfl]
  unfold va_cpy
  rw [if_pos (by omega), Nat.sub_zero]
theorem mbc_ne (τ : zM) (i q : Nat) {s : Nat} (h : s ≠ i) : (mbc τ i q).2 s = τ.2 s := by unfold mbc; rw [zmFa_rd, if_neg h]
theorem cpy_in {f g : Nat → Int32} {n j : Nat} (h : j < n) : va_cpy f g 0 0 n j = f j := by unfold va_cpy; rw [if_pos (by omega), Nat.zero_add, Nat.sub_zero]
theorem eq_keep {σ : zC} {τ : zM} (h : Inv σ τ) : (fX3_keep σ).1 = (fX4_keep τ).1 ∧ Inv (fX3_keep σ).2 (fX4_keep τ).2 := by
  obtain ⟨⟨O, n, hb⟩, hs, hk⟩ := id h
  obtain ⟨b1, b2, b3, b4, b5, b6⟩ := id hb
  have hn := b6.1
  refine ⟨rfl, ⟨O, n, b1, b2, b3, b4, b5, b6⟩, ⟨hs.1, hs.2.1, rfl, hs.2.2.2⟩, ?_⟩
  have ek : ∀ f, f < 90 → ∀ c, c < 11 → zgk (fX3_keep σ).2 f c = zg σ f c := fun f hf c hc => by
    show va_cpy (σ.2 4) (σ.2 6) 0 0 990 (f * 11 + c) = σ.2 4 (f * 11 + c)
    exact cpy_in (by omega)
  have eo : ∀ i, i < 90 → (fX3_keep σ).2.2 7 i = σ.2 5 i := fun i hi => by
    show va_cpy (σ.2 5) (σ.2 7) 0 0 90 i = σ.2 5 i
    exact cpy_in hi
  obtain ⟨K, hK⟩ : ∃ K, K = zmF (zmF (zmF (zmO τ 16 1) 17 0 (τ.1 0)) 17 1 (τ.1 3)) 17 2 (τ.1 4) := ⟨_, rfl⟩
  have e4 : (fX4_keep τ).2 = mkc (mkc (mkc (mkc (mkc (mkc (mkc (mkc (mkc (mkc (mkc K 5 0) 6 90) 7 180) 8 270) 9 360) 10 450) 11 540) 12 630) 13 720) 14 810) 15 900 := by rw [hK]; rfl
  have eK : ∀ s, s ≠ 17 → K.2 s = τ.2 s := fun s hs' => by
    rw [hK]
    funext i
    rw [zmF_rd, if_neg (by omega), zmF_rd, if_neg (by omega), zmF_rd, if_neg (by omega)]
    rfl
  have e17 : (fX4_keep τ).2.2 17 = K.2 17 := by rw [e4]; simp only [mkc_ne _ _ _ (show 17 ≠ 18 by decide)]
  rw [Rk, e17]
  have k0 : K.2 17 0 = τ.1 0 := by rw [hK]; simp [zmF_rd]
  have k1 : K.2 17 1 = τ.1 3 := by rw [hK]; simp [zmF_rd]
  have k2 : K.2 17 2 = τ.1 4 := by rw [hK]; simp [zmF_rd]
  refine ⟨by rw [k0]; exact b1, by rw [k1]; exact b2, by rw [k2]; exact b4, fun f hf => ?_, O, n, by rw [k1]; exact b3, ?_⟩
  · obtain ⟨a0, a1, a2, a3, a4, a5, a6, a7, a8, a9, a10⟩ := b5 f hf
    unfold tbk
    rw [e4, ek f hf 0 (by decide), ek f hf 1 (by decide), ek f hf 2 (by decide), ek f hf 3 (by decide), ek f hf 4 (by decide), ek f hf 5 (by decide), ek f hf 6 (by decide), ek f hf 7 (by decide), ek f hf 8 (by decide), ek f hf 9 (by decide), ek f hf 10 (by decide)]
    have w0 : (mkc (mkc (mkc (mkc (mkc (mkc (mkc (mkc (mkc (mkc (mkc K 5 0) 6 90) 7 180) 8 270) 9 360) 10 450) 11 540) 12 630) 13 720) 14 810) 15 900).2 18 (0 + f) = τ.2 5 f := by rw [mkc_18, if_neg (by omega), mkc_18, if_neg (by omega), mkc_18, if_neg (by omega), mkc_18, if_neg (by omega), mkc_18, if_neg (by omega), mkc_18, if_neg (by omega), mkc_18, if_neg (by omega), mkc_18, if_neg (by omega), mkc_18, if_neg (by omega), mkc_18, if_neg (by omega), mkc_18, if_pos (by omega), show 0 + f - 0 = f by omega, eK 5 (by decide)]
    have w1 : (mkc (mkc (mkc (mkc (mkc (mkc (mkc (mkc (mkc (mkc (mkc K 5 0) 6 90) 7 180) 8 270) 9 360) 10 450) 11 540) 12 630) 13 720) 14 810) 15 900).2 18 (90 + f) = τ.2 6 f := by rw [mkc_18, if_neg (by omega), mkc_18, if_neg (by omega), mkc_18, if_neg (by omega), mkc_18, if_neg (by omega), mkc_18, if_neg (by omega), mkc_18, if_neg (by omega), mkc_18, if_neg (by omega), mkc_18, if_neg (by omega), mkc_18, if_neg (by omega), mkc_18, if_pos (by omega), show 90 + f - 90 = f by omega, mkc_ne _ _ _ (show 6 ≠ 18 by decide), eK 6 (by decide)]
    have w2 : (mkc (mkc (mkc (mkc (mkc (mkc (mkc (mkc (mkc (mkc (mkc K 5 0) 6 90) 7 180) 8 270) 9 360) 10 450) 11 540) 12 630) 13 720) 14 810) 15 900).2 18 (180 + f) = τ.2 7 f := by rw [mkc_18, if_neg (by omega), mkc_18, if_neg (by omega), mkc_18, if_neg (by omega), mkc_18, if_neg (by omega), mkc_18, if_neg (by omega), mkc_18, if_neg (by omega), mkc_18, if_neg (by omega), mkc_18, if_neg (by omega), mkc_18, if_pos (by omega), show 180 + f - 180 = f by omega, mkc_ne _ _ _ (show 7 ≠ 18 by decide), mkc_ne _ _ _ (show 7 ≠ 18 by decide), eK 7 (by decide)]
    have w3 : (mkc (mkc (mkc (mkc (mkc (mkc (mkc (mkc (mkc (mkc (mkc K 5 0) 6 90) 7 180) 8 270) 9 360) 10 450) 11 540) 12 630) 13 720) 14 810) 15 900).2 18 (270 + f) = τ.2 8 f := by rw [mkc_18, if_neg (by omega), mkc_18, if_neg (by omega), mkc_18, if_neg (by omega), mkc_18, if_neg (by omega), mkc_18, if_neg (by omega), mkc_18, if_neg (by omega), mkc_18, if_neg (by omega), mkc_18, if_pos (by omega), show 270 + f - 270 = f by omega, mkc_ne _ _ _ (show 8 ≠ 18 by decide), mkc_ne _ _ _ (show 8 ≠ 18 by decide), mkc_ne _ _ _ (show 8 ≠ 18 by decide), eK 8 (by decide)]
    have w4 : (mkc (mkc (mkc (mkc (mkc (mkc (mkc (mkc (mkc (mkc (mkc K 5 0) 6 90) 7 180) 8 270) 9 360) 10 450) 11 540) 12 630) 13 720) 14 810) 15 900).2 18 (360 + f) = τ.2 9 f := by rw [mkc_18, if_neg (by omega), mkc_18, if_neg (by omega), mkc_18, if_neg (by omega), mkc_18, if_neg (by omega), mkc_18, if_neg (by omega), mkc_18, if_neg (by omega), mkc_18, if_pos (by omega), show 360 + f - 360 = f by omega, mkc_ne _ _ _ (show 9 ≠ 18 by decide), mkc_ne _ _ _ (show 9 ≠ 18 by decide), mkc_ne _ _ _ (show 9 ≠ 18 by decide), mkc_ne _ _ _ (show 9 ≠ 18 by decide), eK 9 (by decide)]
    have w5 : (mkc (mkc (mkc (mkc (mkc (mkc (mkc (mkc (mkc (mkc (mkc K 5 0) 6 90) 7 180) 8 270) 9 360) 10 450) 11 540) 12 630) 13 720) 14 810) 15 900).2 18 (450 + f) = τ.2 10 f := by rw [mkc_18, if_neg (by omega), mkc_18, if_neg (by omega), mkc_18, if_neg (by omega), mkc_18, if_neg (by omega), mkc_18, if_neg (by omega), mkc_18, if_pos (by omega), show 450 + f - 450 = f by omega, mkc_ne _ _ _ (show 10 ≠ 18 by decide), mkc_ne _ _ _ (show 10 ≠ 18 by decide), mkc_ne _ _ _ (show 10 ≠ 18 by decide), mkc_ne _ _ _ (show 10 ≠ 18 by decide), mkc_ne _ _ _ (show 10 ≠ 18 by decide), eK 10 (by decide)]
    have w6 : (mkc (mkc (mkc (mkc (mkc (mkc (mkc (mkc (mkc (mkc (mkc K 5 0) 6 90) 7 180) 8 270) 9 360) 10 450) 11 540) 12 630) 13 720) 14 810) 15 900).2 18 (630 + f) = τ.2 12 f := by rw [mkc_18, if_neg (by omega), mkc_18, if_neg (by omega), mkc_18, if_neg (by omega), mkc_18, if_pos (by omega), show 630 + f - 630 = f by omega, mkc_ne _ _ _ (show 12 ≠ 18 by decide), mkc_ne _ _ _ (show 12 ≠ 18 by decide), mkc_ne _ _ _ (show 12 ≠ 18 by decide), mkc_ne _ _ _ (show 12 ≠ 18 by decide), mkc_ne _ _ _ (show 12 ≠ 18 by decide), mkc_ne _ _ _ (show 12 ≠ 18 by decide), mkc_ne _ _ _ (show 12 ≠ 18 by decide), eK 12 (by decide)]
    have w7 : (mkc (mkc (mkc (mkc (mkc (mkc (mkc (mkc (mkc (mkc (mkc K 5 0) 6 90) 7 180) 8 270) 9 360) 10 450) 11 540) 12 630) 13 720) 14 810) 15 900).2 18 (720 + f) = τ.2 13 f := by rw [mkc_18, if_neg (by omega), mkc_18, if_neg (by omega), mkc_18, if_pos (by omega), show 720 + f - 720 = f by omega, mkc_ne _ _ _ (show 13 ≠ 18 by decide), mkc_ne _ _ _ (show 13 ≠ 18 by decide), mkc_ne _ _ _ (show 13 ≠ 18 by decide), mkc_ne _ _ _ (show 13 ≠ 18 by decide), mkc_ne _ _ _ (show 13 ≠ 18 by decide), mkc_ne _ _ _ (show 13 ≠ 18 by decide), mkc_ne _ _ _ (show 13 ≠ 18 by decide), mkc_ne _ _ _ (show 13 ≠ 18 by decide), eK 13 (by decide)]
    have w8 : (mkc (mkc (mkc (mkc (mkc (mkc (mkc (mkc (mkc (mkc (mkc K 5 0) 6 90) 7 180) 8 270) 9 360) 10 450) 11 540) 12 630) 13 720) 14 810) 15 900).2 18 (810 + f) = τ.2 14 f := by rw [mkc_18, if_neg (by omega), mkc_18, if_pos (by omega), show 810 + f - 810 = f by omega, mkc_ne _ _ _ (show 14 ≠ 18 by decide), mkc_ne _ _ _ (show 14 ≠ 18 by decide), mkc_ne _ _ _ (show 14 ≠ 18 by decide), mkc_ne _ _ _ (show 14 ≠ 18 by decide), mkc_ne _ _ _ (show 14 ≠ 18 by decide), mkc_ne _ _ _ (show 14 ≠ 18 by decide), mkc_ne _ _ _ (show 14 ≠ 18 by decide), mkc_ne _ _ _ (show 14 ≠ 18 by decide), mkc_ne _ _ _ (show 14 ≠ 18 by decide), eK 14 (by decide)]
    have w9 : (mkc (mkc (mkc (mkc (mkc (mkc (mkc (mkc (mkc (mkc (mkc K 5 0) 6 90) 7 180) 8 270) 9 360) 10 450) 11 540) 12 630) 13 720) 14 810) 15 900).2 18 (900 + f) = τ.2 15 f := by rw [mkc_18, if_pos (by omega), show 900 + f - 900 = f by omega, mkc_ne _ _ _ (show 15 ≠ 18 by decide), mkc_ne _ _ _ (show 15 ≠ 18 by decide), mkc_ne _ _ _ (show 15 ≠ 18 by decide), mkc_ne _ _ _ (show 15 ≠ 18 by decide), mkc_ne _ _ _ (show 15 ≠ 18 by decide), mkc_ne _ _ _ (show 15 ≠ 18 by decide), mkc_ne _ _ _ (show 15 ≠ 18 by decide), mkc_ne _ _ _ (show 15 ≠ 18 by decide), mkc_ne _ _ _ (show 15 ≠ 18 by decide), mkc_ne _ _ _ (show 15 ≠ 18 by decide), eK 15 (by decide)]
    have w10 : (mkc (mkc (mkc (mkc (mkc (mkc (mkc (mkc (mkc (mkc (mkc K 5 0) 6 90) 7 180) 8 270) 9 360) 10 450) 11 540) 12 630) 13 720) 14 810) 15 900).2 18 (540 + f) = τ.2 11 f := by rw [mkc_18, if_neg (by omega), mkc_18, if_neg (by omega), mkc_18, if_neg (by omega), mkc_18, if_neg (by omega), mkc_18, if_pos (by omega), show 540 + f - 540 = f by omega, mkc_ne _ _ _ (show 11 ≠ 18 by decide), mkc_ne _ _ _ (show 11 ≠ 18 by decide), mkc_ne _ _ _ (show 11 ≠ 18 by decide), mkc_ne _ _ _ (show 11 ≠ 18 by decide), mkc_ne _ _ _ (show 11 ≠ 18 by decide), mkc_ne _ _ _ (show 11 ≠ 18 by decide), eK 11 (by decide)]
    rw [w0, w1, w2, w3, w4, w5, w6, w7, w8, w9, w10]
    exact ⟨a0, a1, a2, a3, a4, a5, a6, a7, a8, a9, a10⟩
  · have e12 : (fX3_keep σ).2.1 2 2 = σ.1 1 2 := rfl
    rw [e12]
    exact b6.congr (fun f hf c hc => ek f (by omega) c hc) (fun i hi => eo i (by omega))
theorem eq_back {σ : zC} {τ : zM} (h : Inv σ τ) : (fX3_back σ).1 = (fX4_back τ).1 ∧ Inv (fX3_back σ).2 (fX4_back τ).2 := by
  obtain ⟨⟨O, n, hb⟩, hs, hk⟩ := id h
  obtain ⟨k0, k1, k2, k3, Ok, nk, k4, k5⟩ := id hk
  have hn := k5.1
  unfold fX3_back fX4_back
  rw [hs.2.2.1]
  by_cases h1 : τ.1 16 = 0
  · simp only [if_pos h1]
    exact ⟨trivial, h⟩
  simp only [if_neg h1]
  refine ⟨trivial, ?_⟩
  have ek : ∀ f, f < 90 → ∀ c, c < 11 → zg (zcp1 σ) f c = zgk σ f c := fun f hf c hc => by
    show va_cpy (σ.2 6) (σ.2 4) 0 0 990 (f * 11 + c) = σ.2 6 (f * 11 + c)
    exact cpy_in (by omega)
  have eo : ∀ i, i < 90 → (zcp1 σ).2 5 i = σ.2 7 i := fun i hi => by
    show va_cpy (σ.2 7) (σ.2 5) 0 0 90 i = σ.2 7 i
    exact cpy_in hi
  obtain ⟨K, hK⟩ : ∃ K, K = zmO (zmO (zmO τ 0 (τ.2 17 0)) 3 (τ.2 17 1)) 4 (τ.2 17 2) := ⟨_, rfl⟩
  rw [← hK]
  have eK : ∀ s, K.2 s = τ.2 s := fun s => by rw [hK]; rfl
  have e1 : ∀ s, ((mbc (mbc (mbc (mbc (mbc (mbc (mbc (mbc (mbc (mbc (mbc K 5 0) 6 90) 7 180) 8 270) 9 360) 10 450) 11 540) 12 630) 13 720) 14 810) 15 900)).1 s = K.1 s := fun s => rfl
  have x0 : K.1 0 = τ.2 17 0 := by rw [hK]; rfl
  have x3 : K.1 3 = τ.2 17 1 := by rw [hK]; rfl
  have x4 : K.1 4 = τ.2 17 2 := by rw [hK]; rfl
  have x1 : K.1 1 = τ.1 1 := by rw [hK]; rfl
  have x2 : K.1 2 = τ.1 2 := by rw [hK]; rfl
  have x16 : K.1 16 = τ.1 16 := by rw [hK]; rfl
  have y17 : ((mbc (mbc (mbc (mbc (mbc (mbc (mbc (mbc (mbc (mbc (mbc K 5 0) 6 90) 7 180) 8 270) 9 360) 10 450) 11 540) 12 630) 13 720) 14 810) 15 900)).2 17 = τ.2 17 := by rw [mbc_ne _ _ _ (show 17 ≠ 15 by decide), mbc_ne _ _ _ (show 17 ≠ 14 by decide), mbc_ne _ _ _ (show 17 ≠ 13 by decide), mbc_ne _ _ _ (show 17 ≠ 12 by decide), mbc_ne _ _ _ (show 17 ≠ 11 by decide), mbc_ne _ _ _ (show 17 ≠ 10 by decide), mbc_ne _ _ _ (show 17 ≠ 9 by decide), mbc_ne _ _ _ (show 17 ≠ 8 by decide), mbc_ne _ _ _ (show 17 ≠ 7 by decide), mbc_ne _ _ _ (show 17 ≠ 6 by decide), mbc_ne _ _ _ (show 17 ≠ 5 by decide), eK 17]
  have y18 : ((mbc (mbc (mbc (mbc (mbc (mbc (mbc (mbc (mbc (mbc (mbc K 5 0) 6 90) 7 180) 8 270) 9 360) 10 450) 11 540) 12 630) 13 720) 14 810) 15 900)).2 18 = τ.2 18 := by rw [mbc_ne _ _ _ (show 18 ≠ 15 by decide), mbc_ne _ _ _ (show 18 ≠ 14 by decide), mbc_ne _ _ _ (show 18 ≠ 13 by decide), mbc_ne _ _ _ (show 18 ≠ 12 by decide), mbc_ne _ _ _ (show 18 ≠ 11 by decide), mbc_ne _ _ _ (show 18 ≠ 10 by decide), mbc_ne _ _ _ (show 18 ≠ 9 by decide), mbc_ne _ _ _ (show 18 ≠ 8 by decide), mbc_ne _ _ _ (show 18 ≠ 7 by decide), mbc_ne _ _ _ (show 18 ≠ 6 by decide), mbc_ne _ _ _ (show 18 ≠ 5 by decide), eK 18]
  refine ⟨⟨Ok, nk, by rw [e1, x0]; exact k0, by rw [e1, x3]; exact k1, by rw [e1, x3]; exact k4, by rw [e1, x4]; exact k2, fun f hf => ?_, ?_⟩, ?_, ?_⟩
  · obtain ⟨a0, a1, a2, a3, a4, a5, a6, a7, a8, a9, a10⟩ := k3 f hf
    unfold tb
    rw [ek f hf 0 (by decide), ek f hf 1 (by decide), ek f hf 2 (by decide), ek f hf 3 (by decide), ek f hf 4 (by decide), ek f hf 5 (by decide), ek f hf 6 (by decide), ek f hf 7 (by decide), ek f hf 8 (by decide), ek f hf 9 (by decide), ek f hf 10 (by decide)]
    have w0 : ((mbc (mbc (mbc (mbc (mbc (mbc (mbc (mbc (mbc (mbc (mbc K 5 0) 6 90) 7 180) 8 270) 9 360) 10 450) 11 540) 12 630) 13 720) 14 810) 15 900)).2 5 f = τ.2 18 (0 + f) := by rw [mbc_ne _ _ _ (show 5 ≠ 15 by decide), mbc_ne _ _ _ (show 5 ≠ 14 by decide), mbc_ne _ _ _ (show 5 ≠ 13 by decide), mbc_ne _ _ _ (show 5 ≠ 12 by decide), mbc_ne _ _ _ (show 5 ≠ 11 by decide), mbc_ne _ _ _ (show 5 ≠ 10 by decide), mbc_ne _ _ _ (show 5 ≠ 9 by decide), mbc_ne _ _ _ (show 5 ≠ 8 by decide), mbc_ne _ _ _ (show 5 ≠ 7 by decide), mbc_ne _ _ _ (show 5 ≠ 6 by decide), mbc_at _ _ _ _ hf, eK 18]
    have w1 : ((mbc (mbc (mbc (mbc (mbc (mbc (mbc (mbc (mbc (mbc (mbc K 5 0) 6 90) 7 180) 8 270) 9 360) 10 450) 11 540) 12 630) 13 720) 14 810) 15 900)).2 6 f = τ.2 18 (90 + f) := by rw [mbc_ne _ _ _ (show 6 ≠ 15 by decide), mbc_ne _ _ _ (show 6 ≠ 14 by decide), mbc_ne _ _ _ (show 6 ≠ 13 by decide), mbc_ne _ _ _ (show 6 ≠ 12 by decide), mbc_ne _ _ _ (show 6 ≠ 11 by decide), mbc_ne _ _ _ (show 6 ≠ 10 by decide), mbc_ne _ _ _ (show 6 ≠ 9 by decide), mbc_ne _ _ _ (show 6 ≠ 8 by decide), mbc_ne _ _ _ (show 6 ≠ 7 by decide), mbc_at _ _ _ _ hf, mbc_ne _ _ _ (show 18 ≠ 5 by decide), eK 18]
    have w2 : ((mbc (mbc (mbc (mbc (mbc (mbc (mbc (mbc (mbc (mbc (mbc K 5 0) 6 90) 7 180) 8 270) 9 360) 10 450) 11 540) 12 630) 13 720) 14 810) 15 900)).2 7 f = τ.2 18 (180 + f) := by rw [mbc_ne _ _ _ (show 7 ≠ 15 by decide), mbc_ne _ _ _ (show 7 ≠ 14 by decide), mbc_ne _ _ _ (show 7 ≠ 13 by decide), mbc_ne _ _ _ (show 7 ≠ 12 by decide), mbc_ne _ _ _ (show 7 ≠ 11 by decide), mbc_ne _ _ _ (show 7 ≠ 10 by decide), mbc_ne _ _ _ (show 7 ≠ 9 by decide), mbc_ne _ _ _ (show 7 ≠ 8 by decide), mbc_at _ _ _ _ hf, mbc_ne _ _ _ (show 18 ≠ 6 by decide), mbc_ne _ _ _ (show 18 ≠ 5 by decide), eK 18]
    have w3 : ((mbc (mbc (mbc (mbc (mbc (mbc (mbc (mbc (mbc (mbc (mbc K 5 0) 6 90) 7 180) 8 270) 9 360) 10 450) 11 540) 12 630) 13 720) 14 810) 15 900)).2 8 f = τ.2 18 (270 + f) := by rw [mbc_ne _ _ _ (show 8 ≠ 15 by decide), mbc_ne _ _ _ (show 8 ≠ 14 by decide), mbc_ne _ _ _ (show 8 ≠ 13 by decide), mbc_ne _ _ _ (show 8 ≠ 12 by decide), mbc_ne _ _ _ (show 8 ≠ 11 by decide), mbc_ne _ _ _ (show 8 ≠ 10 by decide), mbc_ne _ _ _ (show 8 ≠ 9 by decide), mbc_at _ _ _ _ hf, mbc_ne _ _ _ (show 18 ≠ 7 by decide), mbc_ne _ _ _ (show 18 ≠ 6 by decide), mbc_ne _ _ _ (show 18 ≠ 5 by decide), eK 18]
    have w4 : ((mbc (mbc (mbc (mbc (mbc (mbc (mbc (mbc (mbc (mbc (mbc K 5 0) 6 90) 7 180) 8 270) 9 360) 10 450) 11 540) 12 630) 13 720) 14 810) 15 900)).2 9 f = τ.2 18 (360 + f) := by rw [mbc_ne _ _ _ (show 9 ≠ 15 by decide), mbc_ne _ _ _ (show 9 ≠ 14 by decide), mbc_ne _ _ _ (show 9 ≠ 13 by decide), mbc_ne _ _ _ (show 9 ≠ 12 by decide), mbc_ne _ _ _ (show 9 ≠ 11 by decide), mbc_ne _ _ _ (show 9 ≠ 10 by decide), mbc_at _ _ _ _ hf, mbc_ne _ _ _ (show 18 ≠ 8 by decide), mbc_ne _ _ _ (show 18 ≠ 7 by decide), mbc_ne _ _ _ (show 18 ≠ 6 by decide), mbc_ne _ _ _ (show 18 ≠ 5 by decide), eK 18]
    have w5 : ((mbc (mbc (mbc (mbc (mbc (mbc (mbc (mbc (mbc (mbc (mbc K 5 0) 6 90) 7 180) 8 270) 9 360) 10 450) 11 540) 12 630) 13 720) 14 810) 15 900)).2 10 f = τ.2 18 (450 + f) := by rw [mbc_ne _ _ _ (show 10 ≠ 15 by decide), mbc_ne _ _ _ (show 10 ≠ 14 by decide), mbc_ne _ _ _ (show 10 ≠ 13 by decide), mbc_ne _ _ _ (show 10 ≠ 12 by decide), mbc_ne _ _ _ (show 10 ≠ 11 by decide), mbc_at _ _ _ _ hf, mbc_ne _ _ _ (show 18 ≠ 9 by decide), mbc_ne _ _ _ (show 18 ≠ 8 by decide), mbc_ne _ _ _ (show 18 ≠ 7 by decide), mbc_ne _ _ _ (show 18 ≠ 6 by decide), mbc_ne _ _ _ (show 18 ≠ 5 by decide), eK 18]
    have w6 : ((mbc (mbc (mbc (mbc (mbc (mbc (mbc (mbc (mbc (mbc (mbc K 5 0) 6 90) 7 180) 8 270) 9 360) 10 450) 11 540) 12 630) 13 720) 14 810) 15 900)).2 12 f = τ.2 18 (630 + f) := by rw [mbc_ne _ _ _ (show 12 ≠ 15 by decide), mbc_ne _ _ _ (show 12 ≠ 14 by decide), mbc_ne _ _ _ (show 12 ≠ 13 by decide), mbc_at _ _ _ _ hf, mbc_ne _ _ _ (show 18 ≠ 11 by decide), mbc_ne _ _ _ (show 18 ≠ 10 by decide), mbc_ne _ _ _ (show 18 ≠ 9 by decide), mbc_ne _ _ _ (show 18 ≠ 8 by decide), mbc_ne _ _ _ (show 18 ≠ 7 by decide), mbc_ne _ _ _ (show 18 ≠ 6 by decide), mbc_ne _ _ _ (show 18 ≠ 5 by decide), eK 18]
    have w7 : ((mbc (mbc (mbc (mbc (mbc (mbc (mbc (mbc (mbc (mbc (mbc K 5 0) 6 90) 7 180) 8 270) 9 360) 10 450) 11 540) 12 630) 13 720) 14 810) 15 900)).2 13 f = τ.2 18 (720 + f) := by rw [mbc_ne _ _ _ (show 13 ≠ 15 by decide), mbc_ne _ _ _ (show 13 ≠ 14 by decide), mbc_at _ _ _ _ hf, mbc_ne _ _ _ (show 18 ≠ 12 by decide), mbc_ne _ _ _ (show 18 ≠ 11 by decide), mbc_ne _ _ _ (show 18 ≠ 10 by decide), mbc_ne _ _ _ (show 18 ≠ 9 by decide), mbc_ne _ _ _ (show 18 ≠ 8 by decide), mbc_ne _ _ _ (show 18 ≠ 7 by decide), mbc_ne _ _ _ (show 18 ≠ 6 by decide), mbc_ne _ _ _ (show 18 ≠ 5 by decide), eK 18]
    have w8 : ((mbc (mbc (mbc (mbc (mbc (mbc (mbc (mbc (mbc (mbc (mbc K 5 0) 6 90) 7 180) 8 270) 9 360) 10 450) 11 540) 12 630) 13 720) 14 810) 15 900)).2 14 f = τ.2 18 (810 + f) := by rw [mbc_ne _ _ _ (show 14 ≠ 15 by decide), mbc_at _ _ _ _ hf, mbc_ne _ _ _ (show 18 ≠ 13 by decide), mbc_ne _ _ _ (show 18 ≠ 12 by decide), mbc_ne _ _ _ (show 18 ≠ 11 by decide), mbc_ne _ _ _ (show 18 ≠ 10 by decide), mbc_ne _ _ _ (show 18 ≠ 9 by decide), mbc_ne _ _ _ (show 18 ≠ 8 by decide), mbc_ne _ _ _ (show 18 ≠ 7 by decide), mbc_ne _ _ _ (show 18 ≠ 6 by decide), mbc_ne _ _ _ (show 18 ≠ 5 by decide), eK 18]
    have w9 : ((mbc (mbc (mbc (mbc (mbc (mbc (mbc (mbc (mbc (mbc (mbc K 5 0) 6 90) 7 180) 8 270) 9 360) 10 450) 11 540) 12 630) 13 720) 14 810) 15 900)).2 15 f = τ.2 18 (900 + f) := by rw [mbc_at _ _ _ _ hf, mbc_ne _ _ _ (show 18 ≠ 14 by decide), mbc_ne _ _ _ (show 18 ≠ 13 by decide), mbc_ne _ _ _ (show 18 ≠ 12 by decide), mbc_ne _ _ _ (show 18 ≠ 11 by decide), mbc_ne _ _ _ (show 18 ≠ 10 by decide), mbc_ne _ _ _ (show 18 ≠ 9 by decide), mbc_ne _ _ _ (show 18 ≠ 8 by decide), mbc_ne _ _ _ (show 18 ≠ 7 by decide), mbc_ne _ _ _ (show 18 ≠ 6 by decide), mbc_ne _ _ _ (show 18 ≠ 5 by decide), eK 18]
    have w10 : ((mbc (mbc (mbc (mbc (mbc (mbc (mbc (mbc (mbc (mbc (mbc K 5 0) 6 90) 7 180) 8 270) 9 360) 10 450) 11 540) 12 630) 13 720) 14 810) 15 900)).2 11 f = τ.2 18 (540 + f) := by rw [mbc_ne _ _ _ (show 11 ≠ 15 by decide), mbc_ne _ _ _ (show 11 ≠ 14 by decide), mbc_ne _ _ _ (show 11 ≠ 13 by decide), mbc_ne _ _ _ (show 11 ≠ 12 by decide), mbc_at _ _ _ _ hf, mbc_ne _ _ _ (show 18 ≠ 10 by decide), mbc_ne _ _ _ (show 18 ≠ 9 by decide), mbc_ne _ _ _ (show 18 ≠ 8 by decide), mbc_ne _ _ _ (show 18 ≠ 7 by decide), mbc_ne _ _ _ (show 18 ≠ 6 by decide), mbc_ne _ _ _ (show 18 ≠ 5 by decide), eK 18]
    rw [w0, w1, w2, w3, w4, w5, w6, w7, w8, w9, w10]
    exact ⟨a0, a1, a2, a3, a4, a5, a6, a7, a8, a9, a10⟩
  · have e12 : (zcp1 σ).1 1 2 = σ.1 2 2 := rfl
    rw [e12]
    exact k5.congr (fun f hf c hc => ek f (by omega) c hc) (fun i hi => eo i (by omega))
  · unfold Rs
    rw [e1, e1, e1, x1, x2, x16]
    exact hs
  · unfold Rk tbk
    rw [y17, y18]
    exact hk
