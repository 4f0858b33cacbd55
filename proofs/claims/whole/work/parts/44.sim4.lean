/-! the whole way through the facts -/
theorem tb.fr {t : zTab} {τ π : zM} {f : Nat} (h : tb t τ f) (h2 : mfr τ π) : tb t π f := by
  unfold tb
  rw [h2.2 5 (by decide), h2.2 6 (by decide), h2.2 7 (by decide), h2.2 8 (by decide), h2.2 9 (by decide), h2.2 10 (by decide), h2.2 11 (by decide), h2.2 12 (by decide), h2.2 13 (by decide), h2.2 14 (by decide), h2.2 15 (by decide)]
  exact h
def kno (t : zTab) (k_ : Int32) (f : Nat) : Prop := t f 2 ≤ k_ ∧ ¬ (¬ t f 3 = -4 ∧ t f 3 ≤ k_)
theorem kno_m {t : zTab} {π : zM} {k_ : Int32} {f : Nat} (h : tb t π f) : kno t k_ f ↔ (π.2 7 f ≤ k_ ∧ (π.2 8 f = -4 ∨ ¬ π.2 8 f ≤ k_)) := by
  unfold kno
  rw [h.2.2.1, h.2.2.2.1]
  constructor
  · rintro ⟨h1, h2⟩
    refine ⟨h1, ?_⟩
    by_cases q : π.2 8 f = -4
    · exact Or.inl q
    · exact Or.inr (fun z => h2 ⟨q, z⟩)
  · rintro ⟨h1, h2⟩
    exact ⟨h1, fun z => h2.elim (fun q => z.1 q) (fun q => q z.2)⟩
set_option maxHeartbeats 1000000 in
theorem sim {σ : zC} {τ : zM} {O : Nat → Nat} {n : Nat} (hb : Rb σ τ O n) (hid : σ.1 0 4 = τ.1 2) (d k_ : Int32) : ∀ (rem i m : Nat) (ρ : zC) (π : zM) (ld la : Int32) (c : Nat) (cl : Nat → Nat), i + rem = n → rem ≤ m → zfr σ ρ → mfr τ π → SR (zg σ) O i ρ π c cl → (∀ j, j < n → zg σ (O j) 1 ≤ d → kno (zg σ) k_ (O j) → ((ld < zg σ (O j) 1 ∨ (zg σ (O j) 1 = ld ∧ la < nI (O j))) ↔ i ≤ j)) → ∃ i2 c2 cl2, i2 ≤ n ∧ SR (zg σ) O i2 (zrun O d k_ (σ.1 0 4) rem i ρ) (mrun n d k_ m ld la π) c2 cl2 := by
  obtain ⟨h0, h1, h2, h3, ht, hg⟩ := hb
  have hn := hg.1
  have hO := hg.2.2.2.1
  have hsrt := hg.2.2.2.2.1
  have hon := hg.2.2.2.2.2.1
  intro rem
  induction rem with
  | zero =>
    intro i m ρ π ld la c cl hi hm hfr hmr hS hbh
    have htb : ∀ f, f < 90 → tb (zg σ) π f := fun f hf => (ht f hf).fr hmr
    have hnone : mnx π ld la d k_ n = none := by
      rw [mnx_amin]
      refine amin_none (fun f hf => decide_eq_false (fun q => ?_))
      obtain ⟨j, hj, rfl⟩ := hon f hf
      have tbf := htb (O j) (by have := (hO j hj).2; omega)
      rw [← tbf.2.1, ← kno_m tbf] at q
      have := (hbh j hj q.2.1 q.2.2).mp q.1
      omega
    rw [mrun_none hnone]
    exact ⟨i, c, cl, by omega, hS⟩
  | succ rem ih =>
    intro i m ρ π ld la c cl hi hm hfr hmr hS hbh
    have hin : i < n := by omega
    have htb : ∀ f, f < 90 → tb (zg σ) π f := fun f hf => (ht f hf).fr hmr
    have hz : ∀ f c, zg ρ f c = zg σ f c := fun f c => hfr.zg f c
    have key : ∀ j, j < n → tb (zg σ) π (O j) := fun j hj => htb (O j) (by have := (hO j hj).2; omega)
    unfold zrun
    rw [hz, hz, hz]
    by_cases c1 : d < zg σ (O i) 1
    · rw [if_pos c1]
      have hnone : mnx π ld la d k_ n = none := by
        rw [mnx_amin]
        refine amin_none (fun f hf => decide_eq_false (fun q => ?_))
        obtain ⟨j, hj, rfl⟩ := hon f hf
        have tbf := key j hj
        rw [← tbf.2.1, ← kno_m tbf] at q
        have hij := (hbh j hj q.2.1 q.2.2).mp q.1
        have hle : zg σ (O i) 1 ≤ zg σ (O j) 1 := by
          rcases Nat.lt_or_eq_of_le hij with w | w
          · exact bf_le (hsrt i j w hj)
          · subst w; rw [Int32.le_iff_toInt_le]; omega
        have q2 := q.2.1
        simp only [Int32.lt_iff_toInt_lt, Int32.le_iff_toInt_le] at c1 hle q2
        omega
      rw [mrun_none hnone]
      exact ⟨i, c, cl, by omega, hS⟩
    · rw [if_neg c1]
      have c1' : zg σ (O i) 1 ≤ d := z_nlt c1
      by_cases c2 : kno (zg σ) k_ (O i)
      · rw [if_pos (show zg σ (O i) 2 ≤ k_ ∧ ¬ (¬ zg σ (O i) 3 = -4 ∧ zg σ (O i) 3 ≤ k_) from c2)]
        have hcand : (ld < zg σ (O i) 1 ∨ (zg σ (O i) 1 = ld ∧ la < nI (O i))) := (hbh i hin c1' c2).mpr (Nat.le_refl i)
        have tbi := key i hin
        have hsome : mnx π ld la d k_ n = some (O i) := by
          rw [mnx_amin]
          refine amin_min (hO i hin).2 (decide_eq_true ?_) (fun g hgn hp hne => ?_)
          · rw [← tbi.2.1, ← kno_m tbi]
            exact ⟨hcand, c1', c2⟩
          · obtain ⟨j, hj, rfl⟩ := hon g hgn
            have tbj := key j hj
            have q := of_decide_eq_true hp
            rw [← tbj.2.1, ← kno_m tbj] at q
            have hij := (hbh j hj q.2.1 q.2.2).mp q.1
            have hlt : i < j := by
              rcases Nat.lt_or_eq_of_le hij with w | w
              · exact w
              · subst w; exact absurd rfl hne
            have := hsrt i j hlt hj
            unfold bf at this
            rw [tbi.2.1, tbj.2.1] at this
            exact this
        rw [mrun_some (by omega) hsome, hid, ← hmr.1 2]
        have hzc : zcn ρ = c := zcn_of hS.1 hS.2.1
        rw [hzc]
        obtain ⟨c3, cl3, hS3⟩ := hS.step hin hg htb hz
        have r := ih (i + 1) (m - 1) (zapl ρ c (O i) (π.1 2)) (fX4_comes π n (O i)) (π.2 6 (O i)) (nI (O i)) c3 cl3 (by omega) (by omega) (hfr.tr (zfr_apl _ _ _ _)) (hmr.tr (mfr_comes _ _ _)) hS3 (fun j hj d1 d2 => ?_)
        · rw [hid, ← hmr.1 2] at r
          exact r
        · rw [← tbi.2.1]
          have oi := (hO i hin).2
          have oj := (hO j hj).2
          constructor
          · intro q
            rcases Nat.lt_or_ge i j with w | w
            · exact w
            · exfalso
              have hbf : bf (zg σ) (O i) (O j) := by
                unfold bf
                rcases q with q | q
                · exact Or.inl q
                · exact Or.inr ⟨q.1.symm, (nI_ltI (by omega) (by omega)).mp q.2⟩
              rcases Nat.lt_or_eq_of_le w with w | w
              · exact bf_asym hbf (hsrt j i w hin)
              · subst w; exact bf_ne hbf rfl
          · intro w
            have hbf := hsrt i j w hj
            unfold bf at hbf
            rcases hbf with q | q
            · exact Or.inl q
            · exact Or.inr ⟨q.1.symm, (nI_ltI (by omega) (by omega)).mpr q.2⟩
      · rw [if_neg (show ¬ (zg σ (O i) 2 ≤ k_ ∧ ¬ (¬ zg σ (O i) 3 = -4 ∧ zg σ (O i) 3 ≤ k_)) from c2)]
        refine ih (i + 1) m ρ π ld la c cl (by omega) (by omega) hfr hmr (hS.mono (by omega)) (fun j hj d1 d2 => ?_)
        rw [hbh j hj d1 d2]
        constructor
        · intro w
          rcases Nat.lt_or_eq_of_le w with w | w
          · exact w
          · subst w; exact absurd d2 c2
        · intro w; omega
theorem SR_0 {σ : zC} {τ : zM} {t : zTab} {O : Nat → Nat} : SR t O 0 (zclear σ) (mclear τ) 0 (fun _ => 0) := by
  refine ⟨by simp [zclear, zFa, zO, zu, upd]; rfl, by decide, fun a ha => absurd ha (Nat.not_lt_zero _), fun a b _ hb => absurd hb (Nat.not_lt_zero _), fun g h0 h9 => ?_, fun m hm => ?_⟩
  · refine absurd ?_ h0
    simp [mclear, zmFa, zclr, h9]
  · simp [zclear, zFa, mclear, zmFa, zclr, hm]
/-- behind goThrough and go: they stand alike -/
theorem sim_go {σ : zC} {τ : zM} {O : Nat → Nat} {n : Nat} (hb : Rb σ τ O n) (hid : σ.1 0 4 = τ.1 2) (d k_ : Int32) : ∃ i c cl, i ≤ n ∧ SR (zg σ) O i (zQ σ O n d k_) (mgo τ n d k_) c cl := by
  refine sim hb hid d k_ n 0 n (zclear σ) (mclear τ) (-1) (-1) 0 (fun _ => 0) (by omega) (Nat.le_refl _) (zfr_clear σ) (mfr_clear τ) SR_0 (fun j hj _ _ => ⟨fun _ => Nat.zero_le _, fun _ => Or.inl ?_⟩)
  have h0 := (hb.2.2.2.2.2.2.2.2.2.2.2 (O j) (hb.2.2.2.2.2.2.2.2.1 j hj).2).1
  rw [Int32.le_iff_toInt_le] at h0
  rw [Int32.lt_iff_toInt_lt]
  have e0 : (0 : Int32).toInt = 0 := rfl
  have e1 : (-1 : Int32).toInt = -1 := rfl
  omega
