set_option maxHeartbeats 4000000 in
set_option maxRecDepth 100000 in
theorem kX4_go_l4 (l : Launch) (D : va_G) (ty : zTy) (b : Nat → Nat) (ρ : zM) (n : Nat) (hn : n ≤ 90) (hc : ρ.1 3 = nI n) (d k_ ld la : Int32) (Fin : zM) {k : zKx} (K : zv_ok k l D (zR 4 93) cX4_go 9 yX4_go.cls ty) (T : zv_rt k none (fun v_ w_ => v_ = none ∧ w_ = zm b ty Fin)) (hout : ∀ o8 : Option Value, zv k 164 [some (.ref (b 0)), some (.int d), some (.int k_), some (.int ld), some (.int la), some (.int 1), some (.int (mI (mnx ρ ld la d k_ n))), some (.int (nI n)), o8] [] (zm b ty ρ)) : ∀ f : Nat, f ≤ n → ∀ o8 : Option Value, zv k 61 [some (.ref (b 0)), some (.int d), some (.int k_), some (.int ld), some (.int la), some (.int 1), some (.int (mI (mnx ρ ld la d k_ f))), some (.int (nI f)), o8] [] (zm b ty ρ) := by
  refine z_wf (fun f : Nat => n - f) ?_
  intro f ih hfn o8
  have hb90 : ∀ g, mnx ρ ld la d k_ f = some g → g < 90 := fun g q => by have := mnx_lt q; omega
  refine zv_iload K 63 dX4_go_61 rfl rfl ?_
  refine zv_aload_n K 64 dX4_go_63 rfl rfl ?_
  refine zm_get (v := .int (ρ.1 3)) K 3 67 dX4_go_64 rfl (by decide) zw_2_191 rfl ?_
  refine zv_topi (nI n) hc ?_
  refine zv_icmp_ge K 164 70 dX4_go_67 (by decide) rfl (fun hb => ?_) (fun hb => ?_)
  · skip
    have e : f = n := by have := z_ge hb (by omega) (by omega); omega
    subst e
    exact hout _
  · skip
    have hlt : f < n := z_lt hb (by omega)
    refine zv_aload_n K 71 dX4_go_70 rfl rfl ?_
    refine zm_get (v := .ref (b 6)) K 6 74 dX4_go_71 rfl (by decide) zw_2_194 rfl ?_
    refine zv_iload K 76 dX4_go_74 rfl rfl ?_
    refine zv_iald (F := ρ.2 6) K 2 f 77 dX4_go_76 rfl (zm_at (p := 2) (j := 6) rfl) rfl (by omega) (by decide) ?_
    refine zv_iload_n K 78 dX4_go_77 rfl rfl ?_
    refine zv_icmp_gt K 99 81 dX4_go_78 (by decide) rfl (fun h2 => ?_) (fun h2 => ?_)
    · skip
      refine zv_iconst K 1 100 dX4_go_99 rfl (by decide) ?_
      refine zv_goto K 104 dX4_go_100 (by decide) ?_
      refine zv_istore K [some (.ref (b 0)), some (.int d), some (.int k_), some (.int ld), some (.int la), some (.int 1), some (.int (mI (mnx ρ ld la d k_ f))), some (.int (nI f)), some (.int 1)] 106 dX4_go_104 rfl rfl (zlt rfl) ?_
      refine zv_iload K 108 dX4_go_106 rfl rfl ?_
      refine zv_if_eq K 158 111 dX4_go_108 (by decide) rfl (fun h3 => ?_) (fun h3 => ?_)
      · exact absurd h3 (by decide)
      · skip
        refine zv_aload_n K 112 dX4_go_111 rfl rfl ?_
        refine zm_get (v := .ref (b 6)) K 6 115 dX4_go_112 rfl (by decide) zw_2_194 rfl ?_
        refine zv_iload K 117 dX4_go_115 rfl rfl ?_
        refine zv_iald (F := ρ.2 6) K 2 f 118 dX4_go_117 rfl (zm_at (p := 2) (j := 6) rfl) rfl (by omega) (by decide) ?_
        refine zv_iload_n K 119 dX4_go_118 rfl rfl ?_
        refine zv_icmp_gt K 158 122 dX4_go_119 (by decide) rfl (fun h4 => ?_) (fun h4 => ?_)
        · skip
          refine zv_iinc K (nI (f + 1)) [some (.ref (b 0)), some (.int d), some (.int k_), some (.int ld), some (.int la), some (.int 1), some (.int (mI (mnx ρ ld la d k_ f))), some (.int (nI (f + 1))), some (.int 1)] 161 dX4_go_158 rfl rfl (z_inc f) rfl ?_
          refine zv_goto K 61 dX4_go_161 (by decide) ?_
          refine zv_eq (lv2 := [some (.ref (b 0)), some (.int d), some (.int k_), some (.int ld), some (.int la), some (.int 1), some (.int (mI (mnx ρ ld la d k_ (f + 1)))), some (.int (nI (f + 1))), some (.int 1)]) rfl (by rw [mnx_n1 (fun q => z_ltn h4 q.2.1)]; try rfl) rfl rfl ?_
          exact ih (f + 1) (by omega) (by omega) (some (.int 1))
        · skip
          refine zv_aload_n K 123 dX4_go_122 rfl rfl ?_
          refine zv_iload K 125 dX4_go_123 rfl rfl ?_
          refine zv_iload_n K 126 dX4_go_125 rfl rfl ?_
          refine zv_cV1 K (q0 := 0) (As := [.int (nI f), .int k_]) (rest := []) 2 129 (kX4_isKnown l D ty b ρ (nI f) k_ f rfl (by omega)) dX4_go_126 rfl zw_3_126 zw_3_128 zw_p2_4 zw_1_5 zw_3_129 ⟨rfl, rfl⟩ zh_yX4_isKnown ⟨by decide, by decide⟩ (zm_at (p := 0) (j := 0) rfl) rfl rfl rfl (zle rfl) rfl ?_
          refine zv_ifB_eq K 158 132 dX4_go_129 (by decide) rfl (fun h5 => ?_) (fun h5 => ?_)
          · skip
            refine zv_iinc K (nI (f + 1)) [some (.ref (b 0)), some (.int d), some (.int k_), some (.int ld), some (.int la), some (.int 1), some (.int (mI (mnx ρ ld la d k_ f))), some (.int (nI (f + 1))), some (.int 1)] 161 dX4_go_158 rfl rfl (z_inc f) rfl ?_
            refine zv_goto K 61 dX4_go_161 (by decide) ?_
            refine zv_eq (lv2 := [some (.ref (b 0)), some (.int d), some (.int k_), some (.int ld), some (.int la), some (.int 1), some (.int (mI (mnx ρ ld la d k_ (f + 1)))), some (.int (nI (f + 1))), some (.int 1)]) rfl (by rw [mnx_n1 (fun q => h5 q.2.2)]; try rfl) rfl rfl ?_
            exact ih (f + 1) (by omega) (by omega) (some (.int 1))
          · skip
            refine zv_iload K 134 dX4_go_132 rfl rfl ?_
            refine zv_if_lt K 154 137 dX4_go_134 (by decide) rfl (fun h6 => ?_) (fun h6 => ?_)
            · skip
              refine zv_iload K 156 dX4_go_154 rfl rfl ?_
              refine zv_istore K [some (.ref (b 0)), some (.int d), some (.int k_), some (.int ld), some (.int la), some (.int 1), some (.int (nI f)), some (.int (nI f)), some (.int 1)] 158 dX4_go_156 rfl rfl (zlt rfl) ?_
              refine zv_iinc K (nI (f + 1)) [some (.ref (b 0)), some (.int d), some (.int k_), some (.int ld), some (.int la), some (.int 1), some (.int (nI f)), some (.int (nI (f + 1))), some (.int 1)] 161 dX4_go_158 rfl rfl (z_inc f) rfl ?_
              refine zv_goto K 61 dX4_go_161 (by decide) ?_
              refine zv_eq (lv2 := [some (.ref (b 0)), some (.int d), some (.int k_), some (.int ld), some (.int la), some (.int 1), some (.int (mI (mnx ρ ld la d k_ (f + 1)))), some (.int (nI (f + 1))), some (.int 1)]) rfl (by rw [mnx_y ⟨(Or.inl h2), z_nlt h4, h5⟩ (Or.inl (mI_neg h6 hb90))]; try rfl) rfl rfl ?_
              exact ih (f + 1) (by omega) (by omega) (some (.int 1))
            · skip
              refine zv_aload_n K 138 dX4_go_137 rfl rfl ?_
              refine zm_get (v := .ref (b 6)) K 6 141 dX4_go_138 rfl (by decide) zw_2_194 rfl ?_
              refine zv_iload K 143 dX4_go_141 rfl rfl ?_
              refine zv_iald (F := ρ.2 6) K 2 f 144 dX4_go_143 rfl (zm_at (p := 2) (j := 6) rfl) rfl (by omega) (by decide) ?_
              refine zv_aload_n K 145 dX4_go_144 rfl rfl ?_
              refine zm_get (v := .ref (b 6)) K 6 148 dX4_go_145 rfl (by decide) zw_2_194 rfl ?_
              refine zv_iload K 150 dX4_go_148 rfl rfl ?_
              refine zv_iald (F := ρ.2 6) K 2 ((mnx ρ ld la d k_ f).getD 0) 151 dX4_go_150 rfl (zm_at (p := 2) (j := 6) rfl) (mI_get h6) (hb90 _ (mI_pos h6)) (by decide) ?_
              refine zv_icmp_ge K 158 154 dX4_go_151 (by decide) rfl (fun h7 => ?_) (fun h7 => ?_)
              · skip
                refine zv_iinc K (nI (f + 1)) [some (.ref (b 0)), some (.int d), some (.int k_), some (.int ld), some (.int la), some (.int 1), some (.int (mI (mnx ρ ld la d k_ f))), some (.int (nI (f + 1))), some (.int 1)] 161 dX4_go_158 rfl rfl (z_inc f) rfl ?_
                refine zv_goto K 61 dX4_go_161 (by decide) ?_
                refine zv_eq (lv2 := [some (.ref (b 0)), some (.int d), some (.int k_), some (.int ld), some (.int la), some (.int 1), some (.int (mI (mnx ρ ld la d k_ (f + 1)))), some (.int (nI (f + 1))), some (.int 1)]) rfl (by rw [mnx_n2 (fun q => h6 (by rw [q]; decide)) (z_len h7)]; try rfl) rfl rfl ?_
                exact ih (f + 1) (by omega) (by omega) (some (.int 1))
              · skip
                refine zv_iload K 156 dX4_go_154 rfl rfl ?_
                refine zv_istore K [some (.ref (b 0)), some (.int d), some (.int k_), some (.int ld), some (.int la), some (.int 1), some (.int (nI f)), some (.int (nI f)), some (.int 1)] 158 dX4_go_156 rfl rfl (zlt rfl) ?_
                refine zv_iinc K (nI (f + 1)) [some (.ref (b 0)), some (.int d), some (.int k_), some (.int ld), some (.int la), some (.int 1), some (.int (nI f)), some (.int (nI (f + 1))), some (.int 1)] 161 dX4_go_158 rfl rfl (z_inc f) rfl ?_
                refine zv_goto K 61 dX4_go_161 (by decide) ?_
                refine zv_eq (lv2 := [some (.ref (b 0)), some (.int d), some (.int k_), some (.int ld), some (.int la), some (.int 1), some (.int (mI (mnx ρ ld la d k_ (f + 1)))), some (.int (nI (f + 1))), some (.int 1)]) rfl (by rw [mnx_y ⟨(Or.inl h2), z_nlt h4, h5⟩ (Or.inr (z_nle h7))]; try rfl) rfl rfl ?_
                exact ih (f + 1) (by omega) (by omega) (some (.int 1))
    · skip
      refine zv_aload_n K 82 dX4_go_81 rfl rfl ?_
      refine zm_get (v := .ref (b 6)) K 6 85 dX4_go_82 rfl (by decide) zw_2_194 rfl ?_
      refine zv_iload K 87 dX4_go_85 rfl rfl ?_
      refine zv_iald (F := ρ.2 6) K 2 f 88 dX4_go_87 rfl (zm_at (p := 2) (j := 6) rfl) rfl (by omega) (by decide) ?_
      refine zv_iload_n K 89 dX4_go_88 rfl rfl ?_
      refine zv_icmp_ne K 103 92 dX4_go_89 (by decide) rfl (fun h8 => ?_) (fun h8 => ?_)
      · skip
        refine zv_iconst K 0 104 dX4_go_103 rfl (by decide) ?_
        refine zv_istore K [some (.ref (b 0)), some (.int d), some (.int k_), some (.int ld), some (.int la), some (.int 1), some (.int (mI (mnx ρ ld la d k_ f))), some (.int (nI f)), some (.int 0)] 106 dX4_go_104 rfl rfl (zlt rfl) ?_
        refine zv_iload K 108 dX4_go_106 rfl rfl ?_
        refine zv_if_eq K 158 111 dX4_go_108 (by decide) rfl (fun h9 => ?_) (fun h9 => ?_)
        rotate_left
        · exact absurd h9 (by decide)
        · skip
          refine zv_iinc K (nI (f + 1)) [some (.ref (b 0)), some (.int d), some (.int k_), some (.int ld), some (.int la), some (.int 1), some (.int (mI (mnx ρ ld la d k_ f))), some (.int (nI (f + 1))), some (.int 0)] 161 dX4_go_158 rfl rfl (z_inc f) rfl ?_
          refine zv_goto K 61 dX4_go_161 (by decide) ?_
          refine zv_eq (lv2 := [some (.ref (b 0)), some (.int d), some (.int k_), some (.int ld), some (.int la), some (.int 1), some (.int (mI (mnx ρ ld la d k_ (f + 1)))), some (.int (nI (f + 1))), some (.int 0)]) rfl (by rw [mnx_n1 (fun q => q.1.elim h2 (fun z => h8 z.1))]; try rfl) rfl rfl ?_
          exact ih (f + 1) (by omega) (by omega) (some (.int 0))
      · skip
        refine zv_iload K 94 dX4_go_92 rfl rfl ?_
        refine zv_iload K 96 dX4_go_94 rfl rfl ?_
        refine zv_icmp_le K 103 99 dX4_go_96 (by decide) rfl (fun h10 => ?_) (fun h10 => ?_)
        · skip
          refine zv_iconst K 0 104 dX4_go_103 rfl (by decide) ?_
          refine zv_istore K [some (.ref (b 0)), some (.int d), some (.int k_), some (.int ld), some (.int la), some (.int 1), some (.int (mI (mnx ρ ld la d k_ f))), some (.int (nI f)), some (.int 0)] 106 dX4_go_104 rfl rfl (zlt rfl) ?_
          refine zv_iload K 108 dX4_go_106 rfl rfl ?_
          refine zv_if_eq K 158 111 dX4_go_108 (by decide) rfl (fun h11 => ?_) (fun h11 => ?_)
          rotate_left
          · exact absurd h11 (by decide)
          · skip
            refine zv_iinc K (nI (f + 1)) [some (.ref (b 0)), some (.int d), some (.int k_), some (.int ld), some (.int la), some (.int 1), some (.int (mI (mnx ρ ld la d k_ f))), some (.int (nI (f + 1))), some (.int 0)] 161 dX4_go_158 rfl rfl (z_inc f) rfl ?_
            refine zv_goto K 61 dX4_go_161 (by decide) ?_
            refine zv_eq (lv2 := [some (.ref (b 0)), some (.int d), some (.int k_), some (.int ld), some (.int la), some (.int 1), some (.int (mI (mnx ρ ld la d k_ (f + 1)))), some (.int (nI (f + 1))), some (.int 0)]) rfl (by rw [mnx_n1 (fun q => q.1.elim h2 (fun z => z_len h10 z.2))]; try rfl) rfl rfl ?_
            exact ih (f + 1) (by omega) (by omega) (some (.int 0))
        · skip
          refine zv_iconst K 1 100 dX4_go_99 rfl (by decide) ?_
          refine zv_goto K 104 dX4_go_100 (by decide) ?_
          refine zv_istore K [some (.ref (b 0)), some (.int d), some (.int k_), some (.int ld), some (.int la), some (.int 1), some (.int (mI (mnx ρ ld la d k_ f))), some (.int (nI f)), some (.int 1)] 106 dX4_go_104 rfl rfl (zlt rfl) ?_
          refine zv_iload K 108 dX4_go_106 rfl rfl ?_
          refine zv_if_eq K 158 111 dX4_go_108 (by decide) rfl (fun h12 => ?_) (fun h12 => ?_)
          · exact absurd h12 (by decide)
          · skip
            refine zv_aload_n K 112 dX4_go_111 rfl rfl ?_
            refine zm_get (v := .ref (b 6)) K 6 115 dX4_go_112 rfl (by decide) zw_2_194 rfl ?_
            refine zv_iload K 117 dX4_go_115 rfl rfl ?_
            refine zv_iald (F := ρ.2 6) K 2 f 118 dX4_go_117 rfl (zm_at (p := 2) (j := 6) rfl) rfl (by omega) (by decide) ?_
            refine zv_iload_n K 119 dX4_go_118 rfl rfl ?_
            refine zv_icmp_gt K 158 122 dX4_go_119 (by decide) rfl (fun h13 => ?_) (fun h13 => ?_)
            · skip
              refine zv_iinc K (nI (f + 1)) [some (.ref (b 0)), some (.int d), some (.int k_), some (.int ld), some (.int la), some (.int 1), some (.int (mI (mnx ρ ld la d k_ f))), some (.int (nI (f + 1))), some (.int 1)] 161 dX4_go_158 rfl rfl (z_inc f) rfl ?_
              refine zv_goto K 61 dX4_go_161 (by decide) ?_
              refine zv_eq (lv2 := [some (.ref (b 0)), some (.int d), some (.int k_), some (.int ld), some (.int la), some (.int 1), some (.int (mI (mnx ρ ld la d k_ (f + 1)))), some (.int (nI (f + 1))), some (.int 1)]) rfl (by rw [mnx_n1 (fun q => z_ltn h13 q.2.1)]; try rfl) rfl rfl ?_
              exact ih (f + 1) (by omega) (by omega) (some (.int 1))
            · skip
              refine zv_aload_n K 123 dX4_go_122 rfl rfl ?_
              refine zv_iload K 125 dX4_go_123 rfl rfl ?_
              refine zv_iload_n K 126 dX4_go_125 rfl rfl ?_
              refine zv_cV1 K (q0 := 0) (As := [.int (nI f), .int k_]) (rest := []) 2 129 (kX4_isKnown l D ty b ρ (nI f) k_ f rfl (by omega)) dX4_go_126 rfl zw_3_126 zw_3_128 zw_p2_4 zw_1_5 zw_3_129 ⟨rfl, rfl⟩ zh_yX4_isKnown ⟨by decide, by decide⟩ (zm_at (p := 0) (j := 0) rfl) rfl rfl rfl (zle rfl) rfl ?_
              refine zv_ifB_eq K 158 132 dX4_go_129 (by decide) rfl (fun h14 => ?_) (fun h14 => ?_)
              · skip
                refine zv_iinc K (nI (f + 1)) [some (.ref (b 0)), some (.int d), some (.int k_), some (.int ld), some (.int la), some (.int 1), some (.int (mI (mnx ρ ld la d k_ f))), some (.int (nI (f + 1))), some (.int 1)] 161 dX4_go_158 rfl rfl (z_inc f) rfl ?_
                refine zv_goto K 61 dX4_go_161 (by decide) ?_
                refine zv_eq (lv2 := [some (.ref (b 0)), some (.int d), some (.int k_), some (.int ld), some (.int la), some (.int 1), some (.int (mI (mnx ρ ld la d k_ (f + 1)))), some (.int (nI (f + 1))), some (.int 1)]) rfl (by rw [mnx_n1 (fun q => h14 q.2.2)]; try rfl) rfl rfl ?_
                exact ih (f + 1) (by omega) (by omega) (some (.int 1))
              · skip
                refine zv_iload K 134 dX4_go_132 rfl rfl ?_
                refine zv_if_lt K 154 137 dX4_go_134 (by decide) rfl (fun h15 => ?_) (fun h15 => ?_)
                · skip
                  refine zv_iload K 156 dX4_go_154 rfl rfl ?_
                  refine zv_istore K [some (.ref (b 0)), some (.int d), some (.int k_), some (.int ld), some (.int la), some (.int 1), some (.int (nI f)), some (.int (nI f)), some (.int 1)] 158 dX4_go_156 rfl rfl (zlt rfl) ?_
                  refine zv_iinc K (nI (f + 1)) [some (.ref (b 0)), some (.int d), some (.int k_), some (.int ld), some (.int la), some (.int 1), some (.int (nI f)), some (.int (nI (f + 1))), some (.int 1)] 161 dX4_go_158 rfl rfl (z_inc f) rfl ?_
                  refine zv_goto K 61 dX4_go_161 (by decide) ?_
                  refine zv_eq (lv2 := [some (.ref (b 0)), some (.int d), some (.int k_), some (.int ld), some (.int la), some (.int 1), some (.int (mI (mnx ρ ld la d k_ (f + 1)))), some (.int (nI (f + 1))), some (.int 1)]) rfl (by rw [mnx_y ⟨(Or.inr ⟨h8, z_nle h10⟩), z_nlt h13, h14⟩ (Or.inl (mI_neg h15 hb90))]; try rfl) rfl rfl ?_
                  exact ih (f + 1) (by omega) (by omega) (some (.int 1))
                · skip
                  refine zv_aload_n K 138 dX4_go_137 rfl rfl ?_
                  refine zm_get (v := .ref (b 6)) K 6 141 dX4_go_138 rfl (by decide) zw_2_194 rfl ?_
                  refine zv_iload K 143 dX4_go_141 rfl rfl ?_
                  refine zv_iald (F := ρ.2 6) K 2 f 144 dX4_go_143 rfl (zm_at (p := 2) (j := 6) rfl) rfl (by omega) (by decide) ?_
                  refine zv_aload_n K 145 dX4_go_144 rfl rfl ?_
                  refine zm_get (v := .ref (b 6)) K 6 148 dX4_go_145 rfl (by decide) zw_2_194 rfl ?_
                  refine zv_iload K 150 dX4_go_148 rfl rfl ?_
                  refine zv_iald (F := ρ.2 6) K 2 ((mnx ρ ld la d k_ f).getD 0) 151 dX4_go_150 rfl (zm_at (p := 2) (j := 6) rfl) (mI_get h15) (hb90 _ (mI_pos h15)) (by decide) ?_
                  refine zv_icmp_ge K 158 154 dX4_go_151 (by decide) rfl (fun h16 => ?_) (fun h16 => ?_)
                  · skip
                    refine zv_iinc K (nI (f + 1)) [some (.ref (b 0)), some (.int d), some (.int k_), some (.int ld), some (.int la), some (.int 1), some (.int (mI (mnx ρ ld la d k_ f))), some (.int (nI (f + 1))), some (.int 1)] 161 dX4_go_158 rfl rfl (z_inc f) rfl ?_
                    refine zv_goto K 61 dX4_go_161 (by decide) ?_
                    refine zv_eq (lv2 := [some (.ref (b 0)), some (.int d), some (.int k_), some (.int ld), some (.int la), some (.int 1), some (.int (mI (mnx ρ ld la d k_ (f + 1)))), some (.int (nI (f + 1))), some (.int 1)]) rfl (by rw [mnx_n2 (fun q => h15 (by rw [q]; decide)) (z_len h16)]; try rfl) rfl rfl ?_
                    exact ih (f + 1) (by omega) (by omega) (some (.int 1))
                  · skip
                    refine zv_iload K 156 dX4_go_154 rfl rfl ?_
                    refine zv_istore K [some (.ref (b 0)), some (.int d), some (.int k_), some (.int ld), some (.int la), some (.int 1), some (.int (nI f)), some (.int (nI f)), some (.int 1)] 158 dX4_go_156 rfl rfl (zlt rfl) ?_
                    refine zv_iinc K (nI (f + 1)) [some (.ref (b 0)), some (.int d), some (.int k_), some (.int ld), some (.int la), some (.int 1), some (.int (nI f)), some (.int (nI (f + 1))), some (.int 1)] 161 dX4_go_158 rfl rfl (z_inc f) rfl ?_
                    refine zv_goto K 61 dX4_go_161 (by decide) ?_
                    refine zv_eq (lv2 := [some (.ref (b 0)), some (.int d), some (.int k_), some (.int ld), some (.int la), some (.int 1), some (.int (mI (mnx ρ ld la d k_ (f + 1)))), some (.int (nI (f + 1))), some (.int 1)]) rfl (by rw [mnx_y ⟨(Or.inr ⟨h8, z_nle h10⟩), z_nlt h13, h14⟩ (Or.inr (z_nle h16))]; try rfl) rfl rfl ?_
                    exact ih (f + 1) (by omega) (by omega) (some (.int 1))

set_option maxHeartbeats 4000000 in
set_option maxRecDepth 100000 in
theorem kX4_go_l3 (l : Launch) (D : va_G) (ty : zTy) (b : Nat → Nat) (τ : zM) (n : Nat) (hn : n ≤ 90) (hcτ : τ.1 3 = nI n) (hok : ∀ f, f < n → mok τ f) (d k_ : Int32) (Fin : zM) {k : zKx} (K : zv_ok k l D (zR 4 93) cX4_go 9 yX4_go.cls ty) (T : zv_rt k none (fun v_ w_ => v_ = none ∧ w_ = zm b ty Fin)) : ∀ p : Nat × zM × Int32 × Int32, mfr τ p.2.1 → zct (mbh p.2.1 p.2.2.1 p.2.2.2) n ≤ p.1 → mrun n d k_ p.1 p.2.2.1 p.2.2.2 p.2.1 = Fin → ∀ o6 o7 o8 : Option Value, zv k 50 [some (.ref (b 0)), some (.int d), some (.int k_), some (.int p.2.2.1), some (.int p.2.2.2), some (.int 1), o6, o7, o8] [] (zm b ty p.2.1) := by
  refine z_wf (fun p : Nat × zM × Int32 × Int32 => p.1) ?_
  intro ⟨m, ρ, ld, la⟩ ih hfr hms0 hfin o6 o7 o8
  replace hfr : mfr τ ρ := hfr
  replace hms0 : zct (mbh ρ ld la) n ≤ m := hms0
  replace hfin : mrun n d k_ m ld la ρ = Fin := hfin
  have hc : ρ.1 3 = nI n := (hfr.1 3).trans hcτ
  show zv k 50 [some (.ref (b 0)), some (.int d), some (.int k_), some (.int ld), some (.int la), some (.int 1), o6, o7, o8] [] (zm b ty ρ)
  refine zv_iload K 52 dX4_go_50 rfl rfl ?_
  refine zv_if_eq K 202 55 dX4_go_52 (by decide) rfl (fun h1 => ?_) (fun h1 => ?_)
  · exact absurd h1 (by decide)
  · skip
    refine zv_iconst K (-1) 56 dX4_go_55 rfl (by decide) ?_
    refine zv_istore K [some (.ref (b 0)), some (.int d), some (.int k_), some (.int ld), some (.int la), some (.int 1), some (.int (-1)), o7, o8] 58 dX4_go_56 rfl rfl (zlt rfl) ?_
    refine zv_iconst K 0 59 dX4_go_58 rfl (by decide) ?_
    refine zv_istore K [some (.ref (b 0)), some (.int d), some (.int k_), some (.int ld), some (.int la), some (.int 1), some (.int (-1)), some (.int 0), o8] 61 dX4_go_59 rfl rfl (zlt rfl) ?_
    refine kX4_go_l4 l D ty b ρ n hn hc d k_ ld la Fin K T (fun o8_ => ?_) 0 (Nat.zero_le _) _
    refine zv_iload K 166 dX4_go_164 rfl rfl ?_
    refine zv_if_lt K 173 169 dX4_go_166 (by decide) rfl (fun hs => ?_) (fun hs => ?_)
    · skip
      refine zv_iconst K 0 174 dX4_go_173 rfl (by decide) ?_
      refine zv_istore K [some (.ref (b 0)), some (.int d), some (.int k_), some (.int ld), some (.int la), some (.int 0), some (.int (mI (mnx ρ ld la d k_ n))), some (.int (nI n)), o8_] 176 dX4_go_174 rfl rfl (zlt rfl) ?_
      refine zv_iload K 178 dX4_go_176 rfl rfl ?_
      refine zv_if_eq K 199 181 dX4_go_178 (by decide) rfl (fun h3 => ?_) (fun h3 => ?_)
      rotate_left
      · exact absurd h3 (by decide)
      · skip
        refine zv_goto K 50 dX4_go_199 (by decide) ?_
        refine zv_iload K 52 dX4_go_50 rfl rfl ?_
        refine zv_if_eq K 202 55 dX4_go_52 (by decide) rfl (fun h4 => ?_) (fun h4 => ?_)
        rotate_left
        · exact absurd h4 (by decide)
        · skip
          exact zv_vret K T dX4_go_202 (⟨rfl, congrArg (zm b ty) (by rw [← hfin]; exact (mrun_none (mI_neg hs (fun g q => by have := mnx_lt q; omega))).symm)⟩)
    · skip
      refine zv_iconst K 1 170 dX4_go_169 rfl (by decide) ?_
      refine zv_goto K 174 dX4_go_170 (by decide) ?_
      refine zv_istore K [some (.ref (b 0)), some (.int d), some (.int k_), some (.int ld), some (.int la), some (.int 1), some (.int (mI (mnx ρ ld la d k_ n))), some (.int (nI n)), o8_] 176 dX4_go_174 rfl rfl (zlt rfl) ?_
      refine zv_iload K 178 dX4_go_176 rfl rfl ?_
      refine zv_if_eq K 199 181 dX4_go_178 (by decide) rfl (fun h5 => ?_) (fun h5 => ?_)
      · exact absurd h5 (by decide)
      · skip
        obtain ⟨g, hg⟩ : ∃ g, mnx ρ ld la d k_ n = some g := ⟨_, mI_pos hs⟩
        have hg9 : g < n := mnx_lt hg
        have hokg : mok ρ g := (hok g hg9).fr hfr
        have hms := mbh_lt hg9 (mnx_cand hg).1
        refine zv_eq (lv2 := [some (.ref (b 0)), some (.int d), some (.int k_), some (.int ld), some (.int la), some (.int 1), some (.int (nI g)), some (.int (nI n)), o8_]) rfl (by rw [hg]; rfl) rfl rfl ?_
        refine zv_aload_n K 182 dX4_go_181 rfl rfl ?_
        refine zm_get (v := .ref (b 6)) K 6 185 dX4_go_182 rfl (by decide) zw_2_194 rfl ?_
        refine zv_iload K 187 dX4_go_185 rfl rfl ?_
        refine zv_iald (F := ρ.2 6) K 2 g 188 dX4_go_187 rfl (zm_at (p := 2) (j := 6) rfl) rfl (by omega) (by decide) ?_
        refine zv_istore_n K [some (.ref (b 0)), some (.int d), some (.int k_), some (.int (ρ.2 6 g)), some (.int la), some (.int 1), some (.int (nI g)), some (.int (nI n)), o8_] 189 dX4_go_188 rfl rfl (zlt rfl) ?_
        refine zv_iload K 191 dX4_go_189 rfl rfl ?_
        refine zv_istore K [some (.ref (b 0)), some (.int d), some (.int k_), some (.int (ρ.2 6 g)), some (.int (nI g)), some (.int 1), some (.int (nI g)), some (.int (nI n)), o8_] 193 dX4_go_191 rfl rfl (zlt rfl) ?_
        refine zv_aload_n K 194 dX4_go_193 rfl rfl ?_
        refine zv_iload K 196 dX4_go_194 rfl rfl ?_
        refine zv_cV0 K (q0 := 0) (As := [.int (nI g)]) (rest := []) 1 199 (kX4_comes l D ty b ρ n hn hc (nI g) g rfl (by omega) hokg) dX4_go_196 rfl zw_3_130 zw_3_132 zw_p2_5 zw_1_5 zw_3_133 ⟨rfl, rfl⟩ zh_yX4_comes ⟨by decide, by decide⟩ (zm_at (p := 0) (j := 0) rfl) rfl rfl rfl (zle rfl) rfl ?_
        refine zv_goto K 50 dX4_go_199 (by decide) ?_
        exact ih (m - 1, fX4_comes ρ n g, ρ.2 6 g, nI g) (by show m - 1 < m; omega) (hfr.tr (mfr_comes ρ n g)) (by show zct (mbh (fX4_comes ρ n g) (ρ.2 6 g) (nI g)) n ≤ m - 1; rw [mbh_fr (mfr_comes ρ n g)]; omega) (by show mrun n d k_ (m - 1) (ρ.2 6 g) (nI g) (fX4_comes ρ n g) = Fin; rw [← hfin, mrun_some (by omega) hg]) _ _ _

set_option maxHeartbeats 4000000 in
set_option maxRecDepth 100000 in
theorem kX4_go_l2 (l : Launch) (D : va_G) (ty : zTy) (b : Nat → Nat) (τ : zM) (n : Nat) (hn : n ≤ 90) (hc : τ.1 3 = nI n) (hok : ∀ f, f < n → mok τ f) (d k_ : Int32) {k : zKx} (K : zv_ok k l D (zR 4 93) cX4_go 9 yX4_go.cls ty) (T : zv_rt k none (fun v_ w_ => v_ = none ∧ w_ = zm b ty (mgo τ n d k_))) : ∀ m : Nat, m ≤ 11 → zv k 23 [some (.ref (b 0)), some (.int d), some (.int k_), some (.int (nI m)), none, none, none, none, none] [] (zm b ty (zmFa (zmFa τ 19 (zclr 90 (τ.2 19))) 29 (zclr m (τ.2 29)))) := by
  refine z_wf (fun m : Nat => 11 - m) ?_
  intro m ih hm
  refine zv_iload_n K 24 dX4_go_23 rfl rfl ?_
  refine zv_bipush K 11 26 dX4_go_24 rfl (by decide) ?_
  refine zv_icmp_ge K 42 29 dX4_go_26 (by decide) rfl (fun hb => ?_) (fun hb => ?_)
  · skip
    refine zv_iconst K (-1) 43 dX4_go_42 rfl (by decide) ?_
    refine zv_istore_n K [some (.ref (b 0)), some (.int d), some (.int k_), some (.int (-1)), none, none, none, none, none] 44 dX4_go_43 rfl rfl (zlt rfl) ?_
    refine zv_iconst K (-1) 45 dX4_go_44 rfl (by decide) ?_
    refine zv_istore K [some (.ref (b 0)), some (.int d), some (.int k_), some (.int (-1)), some (.int (-1)), none, none, none, none] 47 dX4_go_45 rfl rfl (zlt rfl) ?_
    refine zv_iconst K 1 48 dX4_go_47 rfl (by decide) ?_
    refine zv_istore K [some (.ref (b 0)), some (.int d), some (.int k_), some (.int (-1)), some (.int (-1)), some (.int 1), none, none, none] 50 dX4_go_48 rfl rfl (zlt rfl) ?_
    have e : m = 11 := by have := z_ge (c := 11) hb (by decide) (by omega); omega
    subst e
    exact kX4_go_l3 l D ty b τ n hn hc hok d k_ _ K T (n, mclear τ, -1, -1) (mfr_clear τ) (zct_le _ _) rfl none none none
  · skip
    have hlt : m < 11 := z_lt (c := 11) hb (by omega)
    refine zv_aload_n K 30 dX4_go_29 rfl rfl ?_
    refine zm_get (v := .ref (b 29)) K 29 33 dX4_go_30 rfl (by decide) zw_2_217 rfl ?_
    refine zv_iload_n K 34 dX4_go_33 rfl rfl ?_
    refine zv_iconst K 0 35 dX4_go_34 rfl (by decide) ?_
    refine zv_iast K 24 m 36 (zm b ty (zmF (zmFa (zmFa τ 19 (zclr 90 (τ.2 19))) 29 (zclr m (τ.2 29))) 29 m 0)) dX4_go_35 rfl (zm_at (p := 24) (j := 29) rfl) rfl hlt (by decide) (zm_F 29 m rfl (by decide) rfl) ?_
    refine zv_iinc K (nI (m + 1)) [some (.ref (b 0)), some (.int d), some (.int k_), some (.int (nI (m + 1))), none, none, none, none, none] 39 dX4_go_36 rfl rfl (z_inc m) rfl ?_
    refine zv_goto K 23 dX4_go_39 (by decide) ?_
    refine zv_ws (congrArg (zm b ty) ((zmF_Fa (zmFa τ 19 (zclr 90 (τ.2 19))) 29 m _ 0).trans (congrArg (zmFa (zmFa τ 19 (zclr 90 (τ.2 19))) 29) (zclr_s m (τ.2 29))))) ?_
    exact ih (m + 1) (by omega) (by omega)

set_option maxHeartbeats 4000000 in
set_option maxRecDepth 100000 in
theorem kX4_go_l1 (l : Launch) (D : va_G) (ty : zTy) (b : Nat → Nat) (τ : zM) (n : Nat) (hn : n ≤ 90) (hc : τ.1 3 = nI n) (hok : ∀ f, f < n → mok τ f) (d k_ : Int32) {k : zKx} (K : zv_ok k l D (zR 4 93) cX4_go 9 yX4_go.cls ty) (T : zv_rt k none (fun v_ w_ => v_ = none ∧ w_ = zm b ty (mgo τ n d k_))) : ∀ c : Nat, c ≤ 90 → zv k 2 [some (.ref (b 0)), some (.int d), some (.int k_), some (.int (nI c)), none, none, none, none, none] [] (zm b ty (zmFa τ 19 (zclr c (τ.2 19)))) := by
  refine z_wf (fun c : Nat => 90 - c) ?_
  intro c ih hcn
  refine zv_iload_n K 3 dX4_go_2 rfl rfl ?_
  refine zv_bipush K 90 5 dX4_go_3 rfl (by decide) ?_
  refine zv_icmp_ge K 21 8 dX4_go_5 (by decide) rfl (fun hb => ?_) (fun hb => ?_)
  · skip
    refine zv_iconst K 0 22 dX4_go_21 rfl (by decide) ?_
    refine zv_istore_n K [some (.ref (b 0)), some (.int d), some (.int k_), some (.int 0), none, none, none, none, none] 23 dX4_go_22 rfl rfl (zlt rfl) ?_
    have e : c = 90 := by have := z_ge (c := 90) hb (by decide) (by omega); omega
    subst e
    refine zv_ws (congrArg (zm b ty) (show zmFa τ 19 (zclr 90 (τ.2 19)) = zmFa (zmFa τ 19 (zclr 90 (τ.2 19))) 29 (zclr 0 (τ.2 29)) by rw [zclr_0]; exact (zmFa_self (zmFa τ 19 (zclr 90 (τ.2 19))) 29).symm)) ?_
    exact kX4_go_l2 l D ty b τ n hn hc hok d k_ K T 0 (by decide)
  · skip
    have hlt : c < 90 := z_lt (c := 90) hb (by omega)
    refine zv_aload_n K 9 dX4_go_8 rfl rfl ?_
    refine zm_get (v := .ref (b 19)) K 19 12 dX4_go_9 rfl (by decide) zw_2_207 rfl ?_
    refine zv_iload_n K 13 dX4_go_12 rfl rfl ?_
    refine zv_iconst K 0 14 dX4_go_13 rfl (by decide) ?_
    refine zv_zast K 14 c 15 (zm b ty (zmF (zmFa τ 19 (zclr c (τ.2 19))) 19 c 0)) dX4_go_14 rfl (zm_at (p := 14) (j := 19) rfl) rfl hlt (by decide) rfl (zm_F 19 c rfl (by decide) rfl) ?_
    refine zv_iinc K (nI (c + 1)) [some (.ref (b 0)), some (.int d), some (.int k_), some (.int (nI (c + 1))), none, none, none, none, none] 18 dX4_go_15 rfl rfl (z_inc c) rfl ?_
    refine zv_goto K 2 dX4_go_18 (by decide) ?_
    refine zv_ws (congrArg (zm b ty) ((zmF_Fa τ 19 c _ 0).trans (congrArg (zmFa τ 19) (zclr_s c (τ.2 19))))) ?_
    exact ih (c + 1) (by omega) (by omega)

set_option maxHeartbeats 4000000 in
set_option maxRecDepth 100000 in
theorem kX4_go (l : Launch) (D : va_G) (ty : zTy) (b : Nat → Nat) (τ : zM) (n : Nat) (hn : n ≤ 90) (hc : τ.1 3 = nI n) (hok : ∀ f, f < n → mok τ f) (d k_ : Int32) : zv_ct l D ty yX4_go cX4_go 9 none (zR 4 93) [.ref (b 0), .int d, .int k_] (zm b ty τ) (fun v_ w_ => v_ = none ∧ w_ = zm b ty (mgo τ n d k_)) := by
  refine zv_open (by decide) rfl rfl [some (.ref (b 0)), some (.int d), some (.int k_), none, none, none, none, none, none] (by simp [zv_one, Value.category]) (zle rfl) rfl ?_
  intro k K T
  refine zv_iconst K 0 1 dX4_go_0 rfl (by decide) ?_
  refine zv_istore_n K [some (.ref (b 0)), some (.int d), some (.int k_), some (.int 0), none, none, none, none, none] 2 dX4_go_1 rfl rfl (zlt rfl) ?_
  refine zv_ws (congrArg (zm b ty) (show τ = zmFa τ 19 (zclr 0 (τ.2 19)) by rw [zclr_0]; exact (zmFa_self τ 19).symm)) ?_
  exact kX4_go_l1 l D ty b τ n hn hc hok d k_ K T 0 (by decide)

