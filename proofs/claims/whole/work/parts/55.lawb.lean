set_option maxRecDepth 100000 in
set_option maxHeartbeats 4000000 in
theorem law_claim {k : zKx} {l : Launch} {D : va_G} {ty : zTy} {bS L : Nat} {xs : Nat → Int32} (K : zv_ok k l D room_1 cL_law 4 RL ty) (S : zl_ok k bS L xs) (hL : L ≤ 3072) {i : Nat} (hi : i + 6 ≤ L) {a b : Nat → Nat} {σ : zC} {τ : zM} (h : Inv σ τ) (kk : ∀ (σ2 : zC) (τ2 : zM), Inv σ2 τ2 → zv k 1059 [some (.ref bS), some (.ref (a 0)), some (.ref (b 0)), some (.int (nI i))] [] (zm b ty τ2 ++ zc a ty σ2)) : zv k 636 [some (.ref bS), some (.ref (a 0)), some (.ref (b 0)), some (.int (nI i))] [] (zm b ty τ ++ zc a ty σ) := by
  obtain ⟨⟨O, n, hb⟩, hs, hk⟩ := id h
  refine zv_aload_n K 637 dL_law_636 rfl rfl ?_
  refine zl_arg K S hL hi 1 642 dL_law_637 dL_law_638 dL_law_639 dL_law_640 dL_law_641 rfl (by decide) (by decide) rfl rfl ?_
  refine zl_arg K S hL hi 2 647 dL_law_642 dL_law_643 dL_law_644 dL_law_645 dL_law_646 rfl (by decide) (by decide) rfl rfl ?_
  refine zl_arg K S hL hi 3 652 dL_law_647 dL_law_648 dL_law_649 dL_law_650 dL_law_651 rfl (by decide) (by decide) rfl rfl ?_
  refine zl_arg K S hL hi 4 657 dL_law_652 dL_law_653 dL_law_654 dL_law_655 dL_law_656 rfl (by decide) (by decide) rfl rfl ?_
  refine zn_cV1 K 4 660 (kX3_claim l D ty a σ O n hb.zI (xs (i + 1)) (xs (i + 2)) (xs (i + 3)) (xs (i + 4))) dL_law_657 rfl zw_2_108 zw_2_109 zw_2_110 zw_1_1 zw_2_111 ⟨rfl, rfl⟩ zh_yX3_claim ⟨zle rfl, zle rfl⟩ (zc_at (j := 0) (by decide)) rfl rfl rfl (zle rfl) rfl ?_
  refine zn_swap ?_
  refine zv_aload_n K 661 dL_law_660 rfl rfl ?_
  refine zl_arg K S hL hi 1 666 dL_law_661 dL_law_662 dL_law_663 dL_law_664 dL_law_665 rfl (by decide) (by decide) rfl rfl ?_
  refine zl_arg K S hL hi 2 671 dL_law_666 dL_law_667 dL_law_668 dL_law_669 dL_law_670 rfl (by decide) (by decide) rfl rfl ?_
  refine zl_arg K S hL hi 3 676 dL_law_671 dL_law_672 dL_law_673 dL_law_674 dL_law_675 rfl (by decide) (by decide) rfl rfl ?_
  refine zl_arg K S hL hi 4 681 dL_law_676 dL_law_677 dL_law_678 dL_law_679 dL_law_680 rfl (by decide) (by decide) rfl rfl ?_
  refine zn_cV1 K 4 684 (kX4_claim l D ty b τ n hb.2.2.2.2.2.1 hb.2.2.1 hb.ok (xs (i + 1)) (xs (i + 2)) (xs (i + 3)) (xs (i + 4))) dL_law_681 rfl zw_3_154 zw_3_116 zw_3_117 zw_1_5 zw_3_118 ⟨rfl, rfl⟩ zh_yX4_claim ⟨zle rfl, zle rfl⟩ (zm_at (p := 0) (j := 0) rfl) rfl rfl rfl (zle rfl) rfl ?_
  refine zn_swap ?_
  exact zv_icmp_eq K 1059 687 dL_law_684 (by decide) rfl (fun _ => kk _ _ (eq_claim h hb (xs (i + 1)) (xs (i + 2)) (xs (i + 3)) (xs (i + 4))).2) (fun z => absurd (eq_claim h hb (xs (i + 1)) (xs (i + 2)) (xs (i + 3)) (xs (i + 4))).1 z)
set_option maxRecDepth 100000 in
set_option maxHeartbeats 4000000 in
theorem law_of {k : zKx} {l : Launch} {D : va_G} {ty : zTy} {bS L : Nat} {xs : Nat → Int32} (K : zv_ok k l D room_1 cL_law 4 RL ty) (S : zl_ok k bS L xs) (hL : L ≤ 3072) {i : Nat} (hi : i + 6 ≤ L) {a b : Nat → Nat} {σ : zC} {τ : zM} (h : Inv σ τ) (kk : ∀ (σ2 : zC) (τ2 : zM), Inv σ2 τ2 → zv k 1059 [some (.ref bS), some (.ref (a 0)), some (.ref (b 0)), some (.int (nI i))] [] (zm b ty τ2 ++ zc a ty σ2)) : zv k 689 [some (.ref bS), some (.ref (a 0)), some (.ref (b 0)), some (.int (nI i))] [] (zm b ty τ ++ zc a ty σ) := by
  obtain ⟨⟨O, n, hb⟩, hs, hk⟩ := id h
  refine zv_aload_n K 690 dL_law_689 rfl rfl ?_
  refine zl_arg K S hL hi 1 695 dL_law_690 dL_law_691 dL_law_692 dL_law_693 dL_law_694 rfl (by decide) (by decide) rfl rfl ?_
  refine zl_arg K S hL hi 2 700 dL_law_695 dL_law_696 dL_law_697 dL_law_698 dL_law_699 rfl (by decide) (by decide) rfl rfl ?_
  refine zl_arg K S hL hi 3 705 dL_law_700 dL_law_701 dL_law_702 dL_law_703 dL_law_704 rfl (by decide) (by decide) rfl rfl ?_
  refine zl_arg K S hL hi 4 710 dL_law_705 dL_law_706 dL_law_707 dL_law_708 dL_law_709 rfl (by decide) (by decide) rfl rfl ?_
  refine zn_cV1 K 4 713 (kX3_of l D ty a σ O n hb.zI (xs (i + 1)) (xs (i + 2)) (xs (i + 3)) (xs (i + 4)) (of_feet h hb (xs (i + 3)) (xs (i + 4)))) dL_law_710 rfl zw_2_113 zw_2_114 zw_2_115 zw_1_1 zw_2_116 ⟨rfl, rfl⟩ zh_yX3_of ⟨zle rfl, zle rfl⟩ (zc_at (j := 0) (by decide)) rfl rfl rfl (zle rfl) rfl ?_
  refine zn_swap ?_
  refine zv_aload_n K 714 dL_law_713 rfl rfl ?_
  refine zl_arg K S hL hi 1 719 dL_law_714 dL_law_715 dL_law_716 dL_law_717 dL_law_718 rfl (by decide) (by decide) rfl rfl ?_
  refine zl_arg K S hL hi 2 724 dL_law_719 dL_law_720 dL_law_721 dL_law_722 dL_law_723 rfl (by decide) (by decide) rfl rfl ?_
  refine zl_arg K S hL hi 3 729 dL_law_724 dL_law_725 dL_law_726 dL_law_727 dL_law_728 rfl (by decide) (by decide) rfl rfl ?_
  refine zl_arg K S hL hi 4 734 dL_law_729 dL_law_730 dL_law_731 dL_law_732 dL_law_733 rfl (by decide) (by decide) rfl rfl ?_
  refine zn_cV1 K 4 737 (kX4_of l D ty b τ n hb.2.2.2.2.2.1 hb.2.2.1 hb.ok (xs (i + 1)) (xs (i + 2)) (xs (i + 3)) (xs (i + 4))) dL_law_734 rfl zw_3_155 zw_3_156 zw_3_157 zw_1_5 zw_3_158 ⟨rfl, rfl⟩ zh_yX4_of ⟨zle rfl, zle rfl⟩ (zm_at (p := 0) (j := 0) rfl) rfl rfl rfl (zle rfl) rfl ?_
  refine zn_swap ?_
  exact zv_icmp_eq K 1059 740 dL_law_737 (by decide) rfl (fun _ => kk _ _ (eq_of h hb (xs (i + 1)) (xs (i + 2)) (xs (i + 3)) (xs (i + 4))).2) (fun z => absurd (eq_of h hb (xs (i + 1)) (xs (i + 2)) (xs (i + 3)) (xs (i + 4))).1 z)
set_option maxRecDepth 100000 in
set_option maxHeartbeats 4000000 in
theorem law_share {k : zKx} {l : Launch} {D : va_G} {ty : zTy} {bS L : Nat} {xs : Nat → Int32} (K : zv_ok k l D room_1 cL_law 4 RL ty) (S : zl_ok k bS L xs) (hL : L ≤ 3072) {i : Nat} (hi : i + 6 ≤ L) {a b : Nat → Nat} {σ : zC} {τ : zM} (h : Inv σ τ) (kk : ∀ (σ2 : zC) (τ2 : zM), Inv σ2 τ2 → zv k 1059 [some (.ref bS), some (.ref (a 0)), some (.ref (b 0)), some (.int (nI i))] [] (zm b ty τ2 ++ zc a ty σ2)) : zv k 742 [some (.ref bS), some (.ref (a 0)), some (.ref (b 0)), some (.int (nI i))] [] (zm b ty τ ++ zc a ty σ) := by
  obtain ⟨⟨O, n, hb⟩, hs, hk⟩ := id h
  refine zv_aload_n K 743 dL_law_742 rfl rfl ?_
  refine zl_arg K S hL hi 1 748 dL_law_743 dL_law_744 dL_law_745 dL_law_746 dL_law_747 rfl (by decide) (by decide) rfl rfl ?_
  refine zl_arg K S hL hi 2 753 dL_law_748 dL_law_749 dL_law_750 dL_law_751 dL_law_752 rfl (by decide) (by decide) rfl rfl ?_
  refine zl_arg K S hL hi 3 758 dL_law_753 dL_law_754 dL_law_755 dL_law_756 dL_law_757 rfl (by decide) (by decide) rfl rfl ?_
  refine zl_arg K S hL hi 4 763 dL_law_758 dL_law_759 dL_law_760 dL_law_761 dL_law_762 rfl (by decide) (by decide) rfl rfl ?_
  refine zn_cV1 K 4 766 (kX3_share l D ty a σ O n hb.zI (xs (i + 1)) (xs (i + 2)) (xs (i + 3)) (xs (i + 4))) dL_law_763 rfl zw_2_127 zw_2_128 zw_2_129 zw_1_1 zw_2_130 ⟨rfl, rfl⟩ zh_yX3_share ⟨zle rfl, zle rfl⟩ (zc_at (j := 0) (by decide)) rfl rfl rfl (zle rfl) rfl ?_
  refine zn_swap ?_
  refine zv_aload_n K 767 dL_law_766 rfl rfl ?_
  refine zl_arg K S hL hi 1 772 dL_law_767 dL_law_768 dL_law_769 dL_law_770 dL_law_771 rfl (by decide) (by decide) rfl rfl ?_
  refine zl_arg K S hL hi 2 777 dL_law_772 dL_law_773 dL_law_774 dL_law_775 dL_law_776 rfl (by decide) (by decide) rfl rfl ?_
  refine zl_arg K S hL hi 3 782 dL_law_777 dL_law_778 dL_law_779 dL_law_780 dL_law_781 rfl (by decide) (by decide) rfl rfl ?_
  refine zl_arg K S hL hi 4 787 dL_law_782 dL_law_783 dL_law_784 dL_law_785 dL_law_786 rfl (by decide) (by decide) rfl rfl ?_
  refine zn_cV1 K 4 790 (kX4_share l D ty b τ n hb.2.2.2.2.2.1 hb.2.2.1 hb.ok (xs (i + 1)) (xs (i + 2)) (xs (i + 3)) (xs (i + 4))) dL_law_787 rfl zw_3_163 zw_3_164 zw_3_165 zw_1_5 zw_3_166 ⟨rfl, rfl⟩ zh_yX4_share ⟨zle rfl, zle rfl⟩ (zm_at (p := 0) (j := 0) rfl) rfl rfl rfl (zle rfl) rfl ?_
  refine zn_swap ?_
  exact zv_icmp_eq K 1059 793 dL_law_790 (by decide) rfl (fun _ => kk _ _ (eq_share h hb (xs (i + 1)) (xs (i + 2)) (xs (i + 3)) (xs (i + 4))).2) (fun z => absurd (eq_share h hb (xs (i + 1)) (xs (i + 2)) (xs (i + 3)) (xs (i + 4))).1 z)
set_option maxRecDepth 100000 in
set_option maxHeartbeats 4000000 in
theorem law_feet {k : zKx} {l : Launch} {D : va_G} {ty : zTy} {bS L : Nat} {xs : Nat → Int32} (K : zv_ok k l D room_1 cL_law 4 RL ty) (S : zl_ok k bS L xs) (hL : L ≤ 3072) {i : Nat} (hi : i + 6 ≤ L) {a b : Nat → Nat} {σ : zC} {τ : zM} (h : Inv σ τ) (kk : ∀ (σ2 : zC) (τ2 : zM), Inv σ2 τ2 → zv k 1059 [some (.ref bS), some (.ref (a 0)), some (.ref (b 0)), some (.int (nI i))] [] (zm b ty τ2 ++ zc a ty σ2)) : zv k 795 [some (.ref bS), some (.ref (a 0)), some (.ref (b 0)), some (.int (nI i))] [] (zm b ty τ ++ zc a ty σ) := by
  obtain ⟨⟨O, n, hb⟩, hs, hk⟩ := id h
  refine zv_aload_n K 796 dL_law_795 rfl rfl ?_
  refine zl_arg K S hL hi 1 801 dL_law_796 dL_law_797 dL_law_798 dL_law_799 dL_law_800 rfl (by decide) (by decide) rfl rfl ?_
  refine zl_arg K S hL hi 2 806 dL_law_801 dL_law_802 dL_law_803 dL_law_804 dL_law_805 rfl (by decide) (by decide) rfl rfl ?_
  refine zl_arg K S hL hi 3 811 dL_law_806 dL_law_807 dL_law_808 dL_law_809 dL_law_810 rfl (by decide) (by decide) rfl rfl ?_
  refine zn_cV1 K 3 814 (kX3_feet l D ty a σ O n hb.zI (xs (i + 1)) (xs (i + 2)) (xs (i + 3))) dL_law_811 rfl zw_2_131 zw_2_132 zw_2_133 zw_1_1 zw_2_134 ⟨rfl, rfl⟩ zh_yX3_feet ⟨zle rfl, zle rfl⟩ (zc_at (j := 0) (by decide)) rfl rfl rfl (zle rfl) rfl ?_
  refine zn_swap ?_
  refine zv_aload_n K 815 dL_law_814 rfl rfl ?_
  refine zl_arg K S hL hi 1 820 dL_law_815 dL_law_816 dL_law_817 dL_law_818 dL_law_819 rfl (by decide) (by decide) rfl rfl ?_
  refine zl_arg K S hL hi 2 825 dL_law_820 dL_law_821 dL_law_822 dL_law_823 dL_law_824 rfl (by decide) (by decide) rfl rfl ?_
  refine zl_arg K S hL hi 3 830 dL_law_825 dL_law_826 dL_law_827 dL_law_828 dL_law_829 rfl (by decide) (by decide) rfl rfl ?_
  refine zn_cV1 K 3 833 (kX4_feet l D ty b τ n hb.2.2.2.2.2.1 hb.2.2.1 hb.ok (xs (i + 1)) (xs (i + 2)) (xs (i + 3))) dL_law_830 rfl zw_3_167 zw_3_168 zw_3_169 zw_1_5 zw_3_170 ⟨rfl, rfl⟩ zh_yX4_feet ⟨zle rfl, zle rfl⟩ (zm_at (p := 0) (j := 0) rfl) rfl rfl rfl (zle rfl) rfl ?_
  refine zn_swap ?_
  exact zv_icmp_eq K 1059 836 dL_law_833 (by decide) rfl (fun _ => kk _ _ (eq_feet h hb (xs (i + 1)) (xs (i + 2)) (xs (i + 3))).2) (fun z => absurd (eq_feet h hb (xs (i + 1)) (xs (i + 2)) (xs (i + 3))).1 z)
set_option maxRecDepth 100000 in
set_option maxHeartbeats 4000000 in
theorem law_contested {k : zKx} {l : Launch} {D : va_G} {ty : zTy} {bS L : Nat} {xs : Nat → Int32} (K : zv_ok k l D room_1 cL_law 4 RL ty) (S : zl_ok k bS L xs) (hL : L ≤ 3072) {i : Nat} (hi : i + 6 ≤ L) {a b : Nat → Nat} {σ : zC} {τ : zM} (h : Inv σ τ) (kk : ∀ (σ2 : zC) (τ2 : zM), Inv σ2 τ2 → zv k 1059 [some (.ref bS), some (.ref (a 0)), some (.ref (b 0)), some (.int (nI i))] [] (zm b ty τ2 ++ zc a ty σ2)) : zv k 838 [some (.ref bS), some (.ref (a 0)), some (.ref (b 0)), some (.int (nI i))] [] (zm b ty τ ++ zc a ty σ) := by
  obtain ⟨⟨O, n, hb⟩, hs, hk⟩ := id h
  refine zv_aload_n K 839 dL_law_838 rfl rfl ?_
  refine zl_arg K S hL hi 1 844 dL_law_839 dL_law_840 dL_law_841 dL_law_842 dL_law_843 rfl (by decide) (by decide) rfl rfl ?_
  refine zl_arg K S hL hi 2 849 dL_law_844 dL_law_845 dL_law_846 dL_law_847 dL_law_848 rfl (by decide) (by decide) rfl rfl ?_
  refine zl_arg K S hL hi 3 854 dL_law_849 dL_law_850 dL_law_851 dL_law_852 dL_law_853 rfl (by decide) (by decide) rfl rfl ?_
  refine zn_cV1 K 3 857 (kX3_contested l D ty a σ O n hb.zI (xs (i + 1)) (xs (i + 2)) (xs (i + 3))) dL_law_854 rfl zw_2_135 zw_2_136 zw_2_137 zw_1_1 zw_2_138 ⟨rfl, rfl⟩ zh_yX3_contested ⟨zle rfl, zle rfl⟩ (zc_at (j := 0) (by decide)) rfl rfl rfl (zle rfl) rfl ?_
  refine zn_swap ?_
  refine zv_aload_n K 858 dL_law_857 rfl rfl ?_
  refine zl_arg K S hL hi 1 863 dL_law_858 dL_law_859 dL_law_860 dL_law_861 dL_law_862 rfl (by decide) (by decide) rfl rfl ?_
  refine zl_arg K S hL hi 2 868 dL_law_863 dL_law_864 dL_law_865 dL_law_866 dL_law_867 rfl (by decide) (by decide) rfl rfl ?_
  refine zl_arg K S hL hi 3 873 dL_law_868 dL_law_869 dL_law_870 dL_law_871 dL_law_872 rfl (by decide) (by decide) rfl rfl ?_
  refine zn_cV1 K 3 876 (kX4_contested l D ty b τ n hb.2.2.2.2.2.1 hb.2.2.1 hb.ok (xs (i + 1)) (xs (i + 2)) (xs (i + 3))) dL_law_873 rfl zw_3_171 zw_3_172 zw_3_173 zw_1_5 zw_3_174 ⟨rfl, rfl⟩ zh_yX4_contested ⟨zle rfl, zle rfl⟩ (zm_at (p := 0) (j := 0) rfl) rfl rfl rfl (zle rfl) rfl ?_
  refine zn_swap ?_
  exact zv_icmp_eq K 1059 879 dL_law_876 (by decide) rfl (fun _ => kk _ _ (eq_contested h hb (xs (i + 1)) (xs (i + 2)) (xs (i + 3))).2) (fun z => absurd (eq_contested h hb (xs (i + 1)) (xs (i + 2)) (xs (i + 3))).1 z)
set_option maxRecDepth 100000 in
set_option maxHeartbeats 4000000 in
theorem law_dug {k : zKx} {l : Launch} {D : va_G} {ty : zTy} {bS L : Nat} {xs : Nat → Int32} (K : zv_ok k l D room_1 cL_law 4 RL ty) (S : zl_ok k bS L xs) (hL : L ≤ 3072) {i : Nat} (hi : i + 6 ≤ L) {a b : Nat → Nat} {σ : zC} {τ : zM} (h : Inv σ τ) (kk : ∀ (σ2 : zC) (τ2 : zM), Inv σ2 τ2 → zv k 1059 [some (.ref bS), some (.ref (a 0)), some (.ref (b 0)), some (.int (nI i))] [] (zm b ty τ2 ++ zc a ty σ2)) : zv k 881 [some (.ref bS), some (.ref (a 0)), some (.ref (b 0)), some (.int (nI i))] [] (zm b ty τ ++ zc a ty σ) := by
  obtain ⟨⟨O, n, hb⟩, hs, hk⟩ := id h
  refine zv_aload_n K 882 dL_law_881 rfl rfl ?_
  refine zl_arg K S hL hi 1 887 dL_law_882 dL_law_883 dL_law_884 dL_law_885 dL_law_886 rfl (by decide) (by decide) rfl rfl ?_
  refine zl_arg K S hL hi 2 892 dL_law_887 dL_law_888 dL_law_889 dL_law_890 dL_law_891 rfl (by decide) (by decide) rfl rfl ?_
  refine zl_arg K S hL hi 3 897 dL_law_892 dL_law_893 dL_law_894 dL_law_895 dL_law_896 rfl (by decide) (by decide) rfl rfl ?_
  refine zn_cV1 K 3 900 (kX3_dug l D ty a σ O n hb.zI (xs (i + 1)) (xs (i + 2)) (xs (i + 3))) dL_law_897 rfl zw_2_143 zw_2_144 zw_2_145 zw_1_1 zw_2_146 ⟨rfl, rfl⟩ zh_yX3_dug ⟨zle rfl, zle rfl⟩ (zc_at (j := 0) (by decide)) rfl rfl rfl (zle rfl) rfl ?_
  refine zn_swap ?_
  refine zv_aload_n K 901 dL_law_900 rfl rfl ?_
  refine zl_arg K S hL hi 1 906 dL_law_901 dL_law_902 dL_law_903 dL_law_904 dL_law_905 rfl (by decide) (by decide) rfl rfl ?_
  refine zl_arg K S hL hi 2 911 dL_law_906 dL_law_907 dL_law_908 dL_law_909 dL_law_910 rfl (by decide) (by decide) rfl rfl ?_
  refine zl_arg K S hL hi 3 916 dL_law_911 dL_law_912 dL_law_913 dL_law_914 dL_law_915 rfl (by decide) (by decide) rfl rfl ?_
  refine zn_cV1 K 3 919 (kX4_dug l D ty b τ n hb.2.2.2.2.2.1 hb.2.2.1 hb.ok (xs (i + 1)) (xs (i + 2)) (xs (i + 3))) dL_law_916 rfl zw_3_175 zw_3_176 zw_3_177 zw_1_5 zw_3_178 ⟨rfl, rfl⟩ zh_yX4_dug ⟨zle rfl, zle rfl⟩ (zm_at (p := 0) (j := 0) rfl) rfl rfl rfl (zle rfl) rfl ?_
  refine zn_swap ?_
  exact zv_icmp_eq K 1059 922 dL_law_919 (by decide) rfl (fun _ => kk _ _ (eq_dug h hb (xs (i + 1)) (xs (i + 2)) (xs (i + 3))).2) (fun z => absurd (eq_dug h hb (xs (i + 1)) (xs (i + 2)) (xs (i + 3))).1 z)
set_option maxRecDepth 100000 in
set_option maxHeartbeats 4000000 in
theorem law_due {k : zKx} {l : Launch} {D : va_G} {ty : zTy} {bS L : Nat} {xs : Nat → Int32} (K : zv_ok k l D room_1 cL_law 4 RL ty) (S : zl_ok k bS L xs) (hL : L ≤ 3072) {i : Nat} (hi : i + 6 ≤ L) {a b : Nat → Nat} {σ : zC} {τ : zM} (h : Inv σ τ) (kk : ∀ (σ2 : zC) (τ2 : zM), Inv σ2 τ2 → zv k 1059 [some (.ref bS), some (.ref (a 0)), some (.ref (b 0)), some (.int (nI i))] [] (zm b ty τ2 ++ zc a ty σ2)) : zv k 924 [some (.ref bS), some (.ref (a 0)), some (.ref (b 0)), some (.int (nI i))] [] (zm b ty τ ++ zc a ty σ) := by
  obtain ⟨⟨O, n, hb⟩, hs, hk⟩ := id h
  refine zv_aload_n K 925 dL_law_924 rfl rfl ?_
  refine zl_arg K S hL hi 1 930 dL_law_925 dL_law_926 dL_law_927 dL_law_928 dL_law_929 rfl (by decide) (by decide) rfl rfl ?_
  refine zl_arg K S hL hi 2 935 dL_law_930 dL_law_931 dL_law_932 dL_law_933 dL_law_934 rfl (by decide) (by decide) rfl rfl ?_
  refine zl_arg K S hL hi 3 940 dL_law_935 dL_law_936 dL_law_937 dL_law_938 dL_law_939 rfl (by decide) (by decide) rfl rfl ?_
  refine zn_cV1 K 3 943 (kX3_due l D ty a σ O n hb.zI (xs (i + 1)) (xs (i + 2)) (xs (i + 3))) dL_law_940 rfl zw_2_147 zw_2_148 zw_2_149 zw_1_1 zw_2_150 ⟨rfl, rfl⟩ zh_yX3_due ⟨zle rfl, zle rfl⟩ (zc_at (j := 0) (by decide)) rfl rfl rfl (zle rfl) rfl ?_
  refine zn_swap ?_
  refine zv_aload_n K 944 dL_law_943 rfl rfl ?_
  refine zl_arg K S hL hi 1 949 dL_law_944 dL_law_945 dL_law_946 dL_law_947 dL_law_948 rfl (by decide) (by decide) rfl rfl ?_
  refine zl_arg K S hL hi 2 954 dL_law_949 dL_law_950 dL_law_951 dL_law_952 dL_law_953 rfl (by decide) (by decide) rfl rfl ?_
  refine zl_arg K S hL hi 3 959 dL_law_954 dL_law_955 dL_law_956 dL_law_957 dL_law_958 rfl (by decide) (by decide) rfl rfl ?_
  refine zn_cV1 K 3 962 (kX4_due l D ty b τ n hb.2.2.2.2.2.1 hb.2.2.1 hb.ok (xs (i + 1)) (xs (i + 2)) (xs (i + 3))) dL_law_959 rfl zw_3_179 zw_3_180 zw_3_181 zw_1_5 zw_3_182 ⟨rfl, rfl⟩ zh_yX4_due ⟨zle rfl, zle rfl⟩ (zm_at (p := 0) (j := 0) rfl) rfl rfl rfl (zle rfl) rfl ?_
  refine zn_swap ?_
  exact zv_icmp_eq K 1059 965 dL_law_962 (by decide) rfl (fun _ => kk _ _ (eq_due h hb (xs (i + 1)) (xs (i + 2)) (xs (i + 3))).2) (fun z => absurd (eq_due h hb (xs (i + 1)) (xs (i + 2)) (xs (i + 3))).1 z)
set_option maxRecDepth 100000 in
set_option maxHeartbeats 4000000 in
theorem law_changed {k : zKx} {l : Launch} {D : va_G} {ty : zTy} {bS L : Nat} {xs : Nat → Int32} (K : zv_ok k l D room_1 cL_law 4 RL ty) (S : zl_ok k bS L xs) (hL : L ≤ 3072) {i : Nat} (hi : i + 6 ≤ L) {a b : Nat → Nat} {σ : zC} {τ : zM} (h : Inv σ τ) (kk : ∀ (σ2 : zC) (τ2 : zM), Inv σ2 τ2 → zv k 1059 [some (.ref bS), some (.ref (a 0)), some (.ref (b 0)), some (.int (nI i))] [] (zm b ty τ2 ++ zc a ty σ2)) : zv k 967 [some (.ref bS), some (.ref (a 0)), some (.ref (b 0)), some (.int (nI i))] [] (zm b ty τ ++ zc a ty σ) := by
  obtain ⟨⟨O, n, hb⟩, hs, hk⟩ := id h
  refine zv_aload_n K 968 dL_law_967 rfl rfl ?_
  refine zl_arg K S hL hi 1 973 dL_law_968 dL_law_969 dL_law_970 dL_law_971 dL_law_972 rfl (by decide) (by decide) rfl rfl ?_
  refine zl_arg K S hL hi 2 978 dL_law_973 dL_law_974 dL_law_975 dL_law_976 dL_law_977 rfl (by decide) (by decide) rfl rfl ?_
  refine zl_arg K S hL hi 3 983 dL_law_978 dL_law_979 dL_law_980 dL_law_981 dL_law_982 rfl (by decide) (by decide) rfl rfl ?_
  refine zn_cV1 K 3 986 (kX3_changed l D ty a σ O n hb.zI (xs (i + 1)) (xs (i + 2)) (xs (i + 3))) dL_law_983 rfl zw_2_151 zw_2_152 zw_2_153 zw_1_1 zw_2_154 ⟨rfl, rfl⟩ zh_yX3_changed ⟨zle rfl, zle rfl⟩ (zc_at (j := 0) (by decide)) rfl rfl rfl (zle rfl) rfl ?_
  refine zn_swap ?_
  refine zv_aload_n K 987 dL_law_986 rfl rfl ?_
  refine zl_arg K S hL hi 1 992 dL_law_987 dL_law_988 dL_law_989 dL_law_990 dL_law_991 rfl (by decide) (by decide) rfl rfl ?_
  refine zl_arg K S hL hi 2 997 dL_law_992 dL_law_993 dL_law_994 dL_law_995 dL_law_996 rfl (by decide) (by decide) rfl rfl ?_
  refine zl_arg K S hL hi 3 1002 dL_law_997 dL_law_998 dL_law_999 dL_law_1000 dL_law_1001 rfl (by decide) (by decide) rfl rfl ?_
  refine zn_cV1 K 3 1005 (kX4_changed l D ty b τ n hb.2.2.2.2.2.1 hb.2.2.1 hb.ok (xs (i + 1)) (xs (i + 2)) (xs (i + 3))) dL_law_1002 rfl zw_3_183 zw_3_184 zw_3_185 zw_1_5 zw_3_186 ⟨rfl, rfl⟩ zh_yX4_changed ⟨zle rfl, zle rfl⟩ (zm_at (p := 0) (j := 0) rfl) rfl rfl rfl (zle rfl) rfl ?_
  refine zn_swap ?_
  exact zv_icmp_eq K 1059 1008 dL_law_1005 (by decide) rfl (fun _ => kk _ _ (eq_changed h hb (xs (i + 1)) (xs (i + 2)) (xs (i + 3))).2) (fun z => absurd (eq_changed h hb (xs (i + 1)) (xs (i + 2)) (xs (i + 3))).1 z)
set_option maxRecDepth 100000 in
set_option maxHeartbeats 4000000 in
theorem law_many {k : zKx} {l : Launch} {D : va_G} {ty : zTy} {bS L : Nat} {xs : Nat → Int32} (K : zv_ok k l D room_1 cL_law 4 RL ty) (S : zl_ok k bS L xs) (hL : L ≤ 3072) {i : Nat} (hi : i + 6 ≤ L) {a b : Nat → Nat} {σ : zC} {τ : zM} (h : Inv σ τ) (kk : ∀ (σ2 : zC) (τ2 : zM), Inv σ2 τ2 → zv k 1059 [some (.ref bS), some (.ref (a 0)), some (.ref (b 0)), some (.int (nI i))] [] (zm b ty τ2 ++ zc a ty σ2)) : zv k 1010 [some (.ref bS), some (.ref (a 0)), some (.ref (b 0)), some (.int (nI i))] [] (zm b ty τ ++ zc a ty σ) := by
  obtain ⟨⟨O, n, hb⟩, hs, hk⟩ := id h
  refine zv_aload_n K 1011 dL_law_1010 rfl rfl ?_
  refine zl_arg K S hL hi 1 1016 dL_law_1011 dL_law_1012 dL_law_1013 dL_law_1014 dL_law_1015 rfl (by decide) (by decide) rfl rfl ?_
  refine zn_cV1 K 1 1019 (kX3_many l D ty a σ O n hb.zI (xs (i + 1))) dL_law_1016 rfl zw_2_159 zw_2_160 zw_2_161 zw_1_1 zw_2_162 ⟨rfl, rfl⟩ zh_yX3_many ⟨zle rfl, zle rfl⟩ (zc_at (j := 0) (by decide)) rfl rfl rfl (zle rfl) rfl ?_
  refine zn_swap ?_
  refine zv_aload_n K 1020 dL_law_1019 rfl rfl ?_
  refine zl_arg K S hL hi 1 1025 dL_law_1020 dL_law_1021 dL_law_1022 dL_law_1023 dL_law_1024 rfl (by decide) (by decide) rfl rfl ?_
  refine zn_cV1 K 1 1028 (kX4_many l D ty b τ n hb.2.2.2.2.2.1 hb.2.2.1 (xs (i + 1))) dL_law_1025 rfl zw_3_187 zw_3_188 zw_3_189 zw_1_5 zw_3_190 ⟨rfl, rfl⟩ zh_yX4_many ⟨zle rfl, zle rfl⟩ (zm_at (p := 0) (j := 0) rfl) rfl rfl rfl (zle rfl) rfl ?_
  refine zn_swap ?_
  exact zv_icmp_eq K 1059 1031 dL_law_1028 (by decide) rfl (fun _ => kk _ _ h) (fun z => absurd (eq_many h hb (xs (i + 1))) z)
set_option maxRecDepth 100000 in
set_option maxHeartbeats 4000000 in
theorem law_keep {k : zKx} {l : Launch} {D : va_G} {ty : zTy} {bS L : Nat} {xs : Nat → Int32} (K : zv_ok k l D room_1 cL_law 4 RL ty) (S : zl_ok k bS L xs) (hL : L ≤ 3072) {i : Nat} (hi : i + 6 ≤ L) {a b : Nat → Nat} {σ : zC} {τ : zM} (h : Inv σ τ) (kk : ∀ (σ2 : zC) (τ2 : zM), Inv σ2 τ2 → zv k 1059 [some (.ref bS), some (.ref (a 0)), some (.ref (b 0)), some (.int (nI i))] [] (zm b ty τ2 ++ zc a ty σ2)) : zv k 1033 [some (.ref bS), some (.ref (a 0)), some (.ref (b 0)), some (.int (nI i))] [] (zm b ty τ ++ zc a ty σ) := by
  refine zv_aload_n K 1034 dL_law_1033 rfl rfl ?_
  refine zn_cV1 K 0 1037 (kX3_keep l D ty a σ ) dL_law_1034 rfl zw_2_167 zw_2_168 zw_2_169 zw_1_1 zw_2_170 ⟨rfl, rfl⟩ zh_yX3_keep ⟨zle rfl, zle rfl⟩ (zc_at (j := 0) (by decide)) rfl rfl rfl (zle rfl) rfl ?_
  refine zn_swap ?_
  refine zv_aload_n K 1038 dL_law_1037 rfl rfl ?_
  refine zn_cV1 K 0 1041 (kX4_keep l D ty b τ ) dL_law_1038 rfl zw_3_195 zw_3_196 zw_3_197 zw_1_5 zw_3_198 ⟨rfl, rfl⟩ zh_yX4_keep ⟨zle rfl, zle rfl⟩ (zm_at (p := 0) (j := 0) rfl) rfl rfl rfl (zle rfl) rfl ?_
  refine zn_swap ?_
  exact zv_icmp_eq K 1059 1044 dL_law_1041 (by decide) rfl (fun _ => kk _ _ (eq_keep h ).2) (fun z => absurd (eq_keep h ).1 z)
set_option maxRecDepth 100000 in
set_option maxHeartbeats 4000000 in
theorem law_back {k : zKx} {l : Launch} {D : va_G} {ty : zTy} {bS L : Nat} {xs : Nat → Int32} (K : zv_ok k l D room_1 cL_law 4 RL ty) (S : zl_ok k bS L xs) (hL : L ≤ 3072) {i : Nat} (hi : i + 6 ≤ L) {a b : Nat → Nat} {σ : zC} {τ : zM} (h : Inv σ τ) (kk : ∀ (σ2 : zC) (τ2 : zM), Inv σ2 τ2 → zv k 1059 [some (.ref bS), some (.ref (a 0)), some (.ref (b 0)), some (.int (nI i))] [] (zm b ty τ2 ++ zc a ty σ2)) : zv k 1046 [some (.ref bS), some (.ref (a 0)), some (.ref (b 0)), some (.int (nI i))] [] (zm b ty τ ++ zc a ty σ) := by
  refine zv_aload_n K 1047 dL_law_1046 rfl rfl ?_
  refine zn_cV1 K 0 1050 (kX3_back l D ty a σ ) dL_law_1047 rfl zw_2_178 zw_2_179 zw_2_180 zw_1_1 zw_2_181 ⟨rfl, rfl⟩ zh_yX3_back ⟨zle rfl, zle rfl⟩ (zc_at (j := 0) (by decide)) rfl rfl rfl (zle rfl) rfl ?_
  refine zn_swap ?_
  refine zv_aload_n K 1051 dL_law_1050 rfl rfl ?_
  refine zn_cV1 K 0 1054 (kX4_back l D ty b τ ) dL_law_1051 rfl zw_3_202 zw_3_203 zw_3_204 zw_1_5 zw_3_205 ⟨rfl, rfl⟩ zh_yX4_back ⟨zle rfl, zle rfl⟩ (zm_at (p := 0) (j := 0) rfl) rfl rfl rfl (zle rfl) rfl ?_
  refine zn_swap ?_
  exact zv_icmp_eq K 1059 1057 dL_law_1054 (by decide) rfl (fun _ => kk _ _ (eq_back h ).2) (fun z => absurd (eq_back h ).1 z)
