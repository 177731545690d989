section LC
variable {Γ : hG} {G : hQ} {l : Launch} {I : hI} {J : hJ} {b L : Nat} {xs : Nat → Int32}
set_option maxHeartbeats 1000000 in
set_option maxRecDepth 100000 in
theorem lc_14 (K : h_C Γ G l 4 cL_law wsL_law RL 9 380) (S : lw_S Γ b L xs) {i : Nat} (hi : i + 6 ≤ L) (hR : Rel I) (kk : ∀ I' J', Rel I' → h_WW Γ G 1114 (lw_lo G b i) [] I' J') : h_WW Γ G 704 (lw_lo G b i) [] I J := by
  obtain ⟨P, hP, hQ⟩ := op_state (l := l) (G := G) (J := J) hR (xs (i + 1))
  refine x_aload_n (pc := 704) (x := G.2.2 0) K 2 dL_law_704 rfl rfl ?_
  refine x_arg (pc := 705) K S 1 dL_law_705 dL_law_706 dL_law_707 dL_law_708 dL_law_709 (by decide) (by omega) ?_
  refine x_calliV (pc := 710) (st := []) (n := 1) K (by decide) sh_0 rfl hP gL_law_X7_state (by decide +kernel) rfl (by decide) (by decide) rfl rfl (Nat.le_of_ble_eq_true rfl) dL_law_710 (fun ρ I1 J1 hp => ?_)
  obtain ⟨Q, hQ1, hE⟩ := hQ ρ I1 J1 hp
  refine x_aload_n (pc := 713) (x := G.2.2 76) K 1 dL_law_713 rfl rfl ?_
  refine x_arg (pc := 714) K S 1 dL_law_714 dL_law_715 dL_law_716 dL_law_717 dL_law_718 (by decide) (by omega) ?_
  refine x_calliV (pc := 719) (st := [.int ρ]) (n := 1) K (by decide) sh_76 rfl hQ1 gL_law_X8_state (by decide +kernel) rfl (by decide) (by decide) rfl rfl (Nat.le_of_ble_eq_true rfl) dL_law_719 (fun ρ' I2 J2 hq => ?_)
  obtain ⟨e, hR2⟩ := hE ρ' I2 J2 hq
  exact x_icmp_eq (pc := 722) (tgt := 1114) K dL_law_722 (by decide) (fun _ => kk I2 J2 hR2) (fun w => absurd e w)
set_option maxHeartbeats 1000000 in
set_option maxRecDepth 100000 in
theorem lc_15 (K : h_C Γ G l 4 cL_law wsL_law RL 9 380) (S : lw_S Γ b L xs) {i : Nat} (hi : i + 6 ≤ L) (hR : Rel I) (kk : ∀ I' J', Rel I' → h_WW Γ G 1114 (lw_lo G b i) [] I' J') : h_WW Γ G 727 (lw_lo G b i) [] I J := by
  obtain ⟨P, hP, hQ⟩ := op_within (l := l) (G := G) (J := J) hR (xs (i + 1)) (xs (i + 2)) (xs (i + 3))
  refine x_aload_n (pc := 727) (x := G.2.2 0) K 2 dL_law_727 rfl rfl ?_
  refine x_arg (pc := 728) K S 1 dL_law_728 dL_law_729 dL_law_730 dL_law_731 dL_law_732 (by decide) (by omega) ?_
  refine x_arg (pc := 733) K S 2 dL_law_733 dL_law_734 dL_law_735 dL_law_736 dL_law_737 (by decide) (by omega) ?_
  refine x_arg (pc := 738) K S 3 dL_law_738 dL_law_739 dL_law_740 dL_law_741 dL_law_742 (by decide) (by omega) ?_
  refine x_calliV (pc := 743) (st := []) (n := 3) K (by decide) sh_0 rfl hP gL_law_X7_within (by decide +kernel) rfl (by decide) (by decide) rfl rfl (Nat.le_of_ble_eq_true rfl) dL_law_743 (fun ρ I1 J1 hp => ?_)
  obtain ⟨Q, hQ1, hE⟩ := hQ ρ I1 J1 hp
  refine x_aload_n (pc := 746) (x := G.2.2 76) K 1 dL_law_746 rfl rfl ?_
  refine x_arg (pc := 747) K S 1 dL_law_747 dL_law_748 dL_law_749 dL_law_750 dL_law_751 (by decide) (by omega) ?_
  refine x_arg (pc := 752) K S 2 dL_law_752 dL_law_753 dL_law_754 dL_law_755 dL_law_756 (by decide) (by omega) ?_
  refine x_arg (pc := 757) K S 3 dL_law_757 dL_law_758 dL_law_759 dL_law_760 dL_law_761 (by decide) (by omega) ?_
  refine x_calliV (pc := 762) (st := [.int ρ]) (n := 3) K (by decide) sh_76 rfl hQ1 gL_law_X8_within (by decide +kernel) rfl (by decide) (by decide) rfl rfl (Nat.le_of_ble_eq_true rfl) dL_law_762 (fun ρ' I2 J2 hq => ?_)
  obtain ⟨e, hR2⟩ := hE ρ' I2 J2 hq
  exact x_icmp_eq (pc := 765) (tgt := 1114) K dL_law_765 (by decide) (fun _ => kk I2 J2 hR2) (fun w => absurd e w)
set_option maxHeartbeats 1000000 in
set_option maxRecDepth 100000 in
theorem lc_16 (K : h_C Γ G l 4 cL_law wsL_law RL 9 380) (S : lw_S Γ b L xs) {i : Nat} (hi : i + 6 ≤ L) (hR : Rel I) (kk : ∀ I' J', Rel I' → h_WW Γ G 1114 (lw_lo G b i) [] I' J') : h_WW Γ G 770 (lw_lo G b i) [] I J := by
  obtain ⟨P, hP, hQ⟩ := op_carried (l := l) (G := G) (J := J) hR (xs (i + 1)) (xs (i + 2)) (xs (i + 3)) (xs (i + 4)) (xs (i + 5))
  refine x_aload_n (pc := 770) (x := G.2.2 0) K 2 dL_law_770 rfl rfl ?_
  refine x_arg (pc := 771) K S 1 dL_law_771 dL_law_772 dL_law_773 dL_law_774 dL_law_775 (by decide) (by omega) ?_
  refine x_arg (pc := 776) K S 2 dL_law_776 dL_law_777 dL_law_778 dL_law_779 dL_law_780 (by decide) (by omega) ?_
  refine x_arg (pc := 781) K S 3 dL_law_781 dL_law_782 dL_law_783 dL_law_784 dL_law_785 (by decide) (by omega) ?_
  refine x_arg (pc := 786) K S 4 dL_law_786 dL_law_787 dL_law_788 dL_law_789 dL_law_790 (by decide) (by omega) ?_
  refine x_arg (pc := 791) K S 5 dL_law_791 dL_law_792 dL_law_793 dL_law_794 dL_law_795 (by decide) (by omega) ?_
  refine x_calllV (pc := 796) (st := []) (n := 5) K (by decide) sh_0 rfl hP gL_law_X7_carried (by decide +kernel) rfl (by decide) (by decide) rfl rfl (Nat.le_of_ble_eq_true rfl) dL_law_796 (fun ρ I1 J1 hp => ?_)
  obtain ⟨Q, hQ1, hE⟩ := hQ ρ I1 J1 hp
  refine x_aload_n (pc := 799) (x := G.2.2 76) K 1 dL_law_799 rfl rfl ?_
  refine x_arg (pc := 800) K S 1 dL_law_800 dL_law_801 dL_law_802 dL_law_803 dL_law_804 (by decide) (by omega) ?_
  refine x_arg (pc := 805) K S 2 dL_law_805 dL_law_806 dL_law_807 dL_law_808 dL_law_809 (by decide) (by omega) ?_
  refine x_arg (pc := 810) K S 3 dL_law_810 dL_law_811 dL_law_812 dL_law_813 dL_law_814 (by decide) (by omega) ?_
  refine x_arg (pc := 815) K S 4 dL_law_815 dL_law_816 dL_law_817 dL_law_818 dL_law_819 (by decide) (by omega) ?_
  refine x_arg (pc := 820) K S 5 dL_law_820 dL_law_821 dL_law_822 dL_law_823 dL_law_824 (by decide) (by omega) ?_
  refine x_calllV (pc := 825) (st := [.long ρ]) (n := 5) K (by decide) sh_76 rfl hQ1 gL_law_X8_carried (by decide +kernel) rfl (by decide) (by decide) rfl rfl (Nat.le_of_ble_eq_true rfl) dL_law_825 (fun ρ' I2 J2 hq => ?_)
  obtain ⟨e, hR2⟩ := hE ρ' I2 J2 hq
  refine x_lcmp (pc := 828) K dL_law_828 ?_
  exact x_if_eq (pc := 829) (tgt := 1114) K dL_law_829 (by decide) (fun _ => kk I2 J2 hR2) (fun w => absurd ((lg_cmp_eq _ _).mpr e) w)
set_option maxHeartbeats 1000000 in
set_option maxRecDepth 100000 in
theorem lc_17 (K : h_C Γ G l 4 cL_law wsL_law RL 9 380) (S : lw_S Γ b L xs) {i : Nat} (hi : i + 6 ≤ L) (hR : Rel I) (kk : ∀ I' J', Rel I' → h_WW Γ G 1114 (lw_lo G b i) [] I' J') : h_WW Γ G 834 (lw_lo G b i) [] I J := by
  obtain ⟨P, hP, hQ⟩ := op_meet (l := l) (G := G) (J := J) hR (xs (i + 1)) (xs (i + 2)) (xs (i + 3))
  refine x_aload_n (pc := 834) (x := G.2.2 0) K 2 dL_law_834 rfl rfl ?_
  refine x_arg (pc := 835) K S 1 dL_law_835 dL_law_836 dL_law_837 dL_law_838 dL_law_839 (by decide) (by omega) ?_
  refine x_arg (pc := 840) K S 2 dL_law_840 dL_law_841 dL_law_842 dL_law_843 dL_law_844 (by decide) (by omega) ?_
  refine x_arg (pc := 845) K S 3 dL_law_845 dL_law_846 dL_law_847 dL_law_848 dL_law_849 (by decide) (by omega) ?_
  refine x_calliV (pc := 850) (st := []) (n := 3) K (by decide) sh_0 rfl hP gL_law_X7_meet (by decide +kernel) rfl (by decide) (by decide) rfl rfl (Nat.le_of_ble_eq_true rfl) dL_law_850 (fun ρ I1 J1 hp => ?_)
  obtain ⟨Q, hQ1, hE⟩ := hQ ρ I1 J1 hp
  refine x_aload_n (pc := 853) (x := G.2.2 76) K 1 dL_law_853 rfl rfl ?_
  refine x_arg (pc := 854) K S 1 dL_law_854 dL_law_855 dL_law_856 dL_law_857 dL_law_858 (by decide) (by omega) ?_
  refine x_arg (pc := 859) K S 2 dL_law_859 dL_law_860 dL_law_861 dL_law_862 dL_law_863 (by decide) (by omega) ?_
  refine x_arg (pc := 864) K S 3 dL_law_864 dL_law_865 dL_law_866 dL_law_867 dL_law_868 (by decide) (by omega) ?_
  refine x_calliV (pc := 869) (st := [.int ρ]) (n := 3) K (by decide) sh_76 rfl hQ1 gL_law_X8_meet (by decide +kernel) rfl (by decide) (by decide) rfl rfl (Nat.le_of_ble_eq_true rfl) dL_law_869 (fun ρ' I2 J2 hq => ?_)
  obtain ⟨e, hR2⟩ := hE ρ' I2 J2 hq
  exact x_icmp_eq (pc := 872) (tgt := 1114) K dL_law_872 (by decide) (fun _ => kk I2 J2 hR2) (fun w => absurd e w)
set_option maxHeartbeats 1000000 in
set_option maxRecDepth 100000 in
theorem lc_18 (K : h_C Γ G l 4 cL_law wsL_law RL 9 380) (S : lw_S Γ b L xs) {i : Nat} (hi : i + 6 ≤ L) (hR : Rel I) (kk : ∀ I' J', Rel I' → h_WW Γ G 1114 (lw_lo G b i) [] I' J') : h_WW Γ G 877 (lw_lo G b i) [] I J := by
  obtain ⟨P, hP, hQ⟩ := op_area (l := l) (G := G) (J := J) hR (xs (i + 1)) (xs (i + 2))
  refine x_aload_n (pc := 877) (x := G.2.2 0) K 2 dL_law_877 rfl rfl ?_
  refine x_arg (pc := 878) K S 1 dL_law_878 dL_law_879 dL_law_880 dL_law_881 dL_law_882 (by decide) (by omega) ?_
  refine x_arg (pc := 883) K S 2 dL_law_883 dL_law_884 dL_law_885 dL_law_886 dL_law_887 (by decide) (by omega) ?_
  refine x_calliV (pc := 888) (st := []) (n := 2) K (by decide) sh_0 rfl hP gL_law_X7_area (by decide +kernel) rfl (by decide) (by decide) rfl rfl (Nat.le_of_ble_eq_true rfl) dL_law_888 (fun ρ I1 J1 hp => ?_)
  obtain ⟨Q, hQ1, hE⟩ := hQ ρ I1 J1 hp
  refine x_aload_n (pc := 891) (x := G.2.2 76) K 1 dL_law_891 rfl rfl ?_
  refine x_arg (pc := 892) K S 1 dL_law_892 dL_law_893 dL_law_894 dL_law_895 dL_law_896 (by decide) (by omega) ?_
  refine x_arg (pc := 897) K S 2 dL_law_897 dL_law_898 dL_law_899 dL_law_900 dL_law_901 (by decide) (by omega) ?_
  refine x_calliV (pc := 902) (st := [.int ρ]) (n := 2) K (by decide) sh_76 rfl hQ1 gL_law_X8_area (by decide +kernel) rfl (by decide) (by decide) rfl rfl (Nat.le_of_ble_eq_true rfl) dL_law_902 (fun ρ' I2 J2 hq => ?_)
  obtain ⟨e, hR2⟩ := hE ρ' I2 J2 hq
  exact x_icmp_eq (pc := 905) (tgt := 1114) K dL_law_905 (by decide) (fun _ => kk I2 J2 hR2) (fun w => absurd e w)
set_option maxHeartbeats 1000000 in
set_option maxRecDepth 100000 in
theorem lc_19 (K : h_C Γ G l 4 cL_law wsL_law RL 9 380) (S : lw_S Γ b L xs) {i : Nat} (hi : i + 6 ≤ L) (hR : Rel I) (kk : ∀ I' J', Rel I' → h_WW Γ G 1114 (lw_lo G b i) [] I' J') : h_WW Γ G 910 (lw_lo G b i) [] I J := by
  obtain ⟨P, hP, hQ⟩ := op_thing (l := l) (G := G) (J := J) hR (xs (i + 1)) (xs (i + 2)) (xs (i + 3)) (xs (i + 4))
  refine x_aload_n (pc := 910) (x := G.2.2 0) K 2 dL_law_910 rfl rfl ?_
  refine x_arg (pc := 911) K S 1 dL_law_911 dL_law_912 dL_law_913 dL_law_914 dL_law_915 (by decide) (by omega) ?_
  refine x_arg (pc := 916) K S 2 dL_law_916 dL_law_917 dL_law_918 dL_law_919 dL_law_920 (by decide) (by omega) ?_
  refine x_arg (pc := 921) K S 3 dL_law_921 dL_law_922 dL_law_923 dL_law_924 dL_law_925 (by decide) (by omega) ?_
  refine x_arg (pc := 926) K S 4 dL_law_926 dL_law_927 dL_law_928 dL_law_929 dL_law_930 (by decide) (by omega) ?_
  refine x_calliV (pc := 931) (st := []) (n := 4) K (by decide) sh_0 rfl hP gL_law_X7_thing (by decide +kernel) rfl (by decide) (by decide) rfl rfl (Nat.le_of_ble_eq_true rfl) dL_law_931 (fun ρ I1 J1 hp => ?_)
  obtain ⟨Q, hQ1, hE⟩ := hQ ρ I1 J1 hp
  refine x_aload_n (pc := 934) (x := G.2.2 76) K 1 dL_law_934 rfl rfl ?_
  refine x_arg (pc := 935) K S 1 dL_law_935 dL_law_936 dL_law_937 dL_law_938 dL_law_939 (by decide) (by omega) ?_
  refine x_arg (pc := 940) K S 2 dL_law_940 dL_law_941 dL_law_942 dL_law_943 dL_law_944 (by decide) (by omega) ?_
  refine x_arg (pc := 945) K S 3 dL_law_945 dL_law_946 dL_law_947 dL_law_948 dL_law_949 (by decide) (by omega) ?_
  refine x_arg (pc := 950) K S 4 dL_law_950 dL_law_951 dL_law_952 dL_law_953 dL_law_954 (by decide) (by omega) ?_
  refine x_calliV (pc := 955) (st := [.int ρ]) (n := 4) K (by decide) sh_76 rfl hQ1 gL_law_X8_thing (by decide +kernel) rfl (by decide) (by decide) rfl rfl (Nat.le_of_ble_eq_true rfl) dL_law_955 (fun ρ' I2 J2 hq => ?_)
  obtain ⟨e, hR2⟩ := hE ρ' I2 J2 hq
  exact x_icmp_eq (pc := 958) (tgt := 1114) K dL_law_958 (by decide) (fun _ => kk I2 J2 hR2) (fun w => absurd e w)
set_option maxHeartbeats 1000000 in
set_option maxRecDepth 100000 in
theorem lc_20 (K : h_C Γ G l 4 cL_law wsL_law RL 9 380) (S : lw_S Γ b L xs) {i : Nat} (hi : i + 6 ≤ L) (hR : Rel I) (kk : ∀ I' J', Rel I' → h_WW Γ G 1114 (lw_lo G b i) [] I' J') : h_WW Γ G 963 (lw_lo G b i) [] I J := by
  obtain ⟨P, hP, hQ⟩ := op_sweep (l := l) (G := G) (J := J) hR (xs (i + 1))
  refine x_aload_n (pc := 963) (x := G.2.2 0) K 2 dL_law_963 rfl rfl ?_
  refine x_arg (pc := 964) K S 1 dL_law_964 dL_law_965 dL_law_966 dL_law_967 dL_law_968 (by decide) (by omega) ?_
  refine x_calliV (pc := 969) (st := []) (n := 1) K (by decide) sh_0 rfl hP gL_law_X7_sweep (by decide +kernel) rfl (by decide) (by decide) rfl rfl (Nat.le_of_ble_eq_true rfl) dL_law_969 (fun ρ I1 J1 hp => ?_)
  obtain ⟨Q, hQ1, hE⟩ := hQ ρ I1 J1 hp
  refine x_aload_n (pc := 972) (x := G.2.2 76) K 1 dL_law_972 rfl rfl ?_
  refine x_arg (pc := 973) K S 1 dL_law_973 dL_law_974 dL_law_975 dL_law_976 dL_law_977 (by decide) (by omega) ?_
  refine x_calliV (pc := 978) (st := [.int ρ]) (n := 1) K (by decide) sh_76 rfl hQ1 gL_law_X8_sweep (by decide +kernel) rfl (by decide) (by decide) rfl rfl (Nat.le_of_ble_eq_true rfl) dL_law_978 (fun ρ' I2 J2 hq => ?_)
  obtain ⟨e, hR2⟩ := hE ρ' I2 J2 hq
  exact x_icmp_eq (pc := 981) (tgt := 1114) K dL_law_981 (by decide) (fun _ => kk I2 J2 hR2) (fun w => absurd e w)
set_option maxHeartbeats 1000000 in
set_option maxRecDepth 100000 in
theorem lc_21 (K : h_C Γ G l 4 cL_law wsL_law RL 9 380) (S : lw_S Γ b L xs) {i : Nat} (hi : i + 6 ≤ L) (hR : Rel I) (kk : ∀ I' J', Rel I' → h_WW Γ G 1114 (lw_lo G b i) [] I' J') : h_WW Γ G 986 (lw_lo G b i) [] I J := by
  obtain ⟨P, hP, hQ⟩ := op_match (l := l) (G := G) (J := J) hR (xs (i + 1)) (xs (i + 2))
  refine x_aload_n (pc := 986) (x := G.2.2 0) K 2 dL_law_986 rfl rfl ?_
  refine x_arg (pc := 987) K S 1 dL_law_987 dL_law_988 dL_law_989 dL_law_990 dL_law_991 (by decide) (by omega) ?_
  refine x_arg (pc := 992) K S 2 dL_law_992 dL_law_993 dL_law_994 dL_law_995 dL_law_996 (by decide) (by omega) ?_
  refine x_calliV (pc := 997) (st := []) (n := 2) K (by decide) sh_0 rfl hP gL_law_X7_match (by decide +kernel) rfl (by decide) (by decide) rfl rfl (Nat.le_of_ble_eq_true rfl) dL_law_997 (fun ρ I1 J1 hp => ?_)
  obtain ⟨Q, hQ1, hE⟩ := hQ ρ I1 J1 hp
  refine x_aload_n (pc := 1000) (x := G.2.2 76) K 1 dL_law_1000 rfl rfl ?_
  refine x_arg (pc := 1001) K S 1 dL_law_1001 dL_law_1002 dL_law_1003 dL_law_1004 dL_law_1005 (by decide) (by omega) ?_
  refine x_arg (pc := 1006) K S 2 dL_law_1006 dL_law_1007 dL_law_1008 dL_law_1009 dL_law_1010 (by decide) (by omega) ?_
  refine x_calliV (pc := 1011) (st := [.int ρ]) (n := 2) K (by decide) sh_76 rfl hQ1 gL_law_X8_match (by decide +kernel) rfl (by decide) (by decide) rfl rfl (Nat.le_of_ble_eq_true rfl) dL_law_1011 (fun ρ' I2 J2 hq => ?_)
  obtain ⟨e, hR2⟩ := hE ρ' I2 J2 hq
  exact x_icmp_eq (pc := 1014) (tgt := 1114) K dL_law_1014 (by decide) (fun _ => kk I2 J2 hR2) (fun w => absurd e w)
set_option maxHeartbeats 1000000 in
set_option maxRecDepth 100000 in
theorem lc_22 (K : h_C Γ G l 4 cL_law wsL_law RL 9 380) (S : lw_S Γ b L xs) {i : Nat} (hi : i + 6 ≤ L) (hR : Rel I) (kk : ∀ I' J', Rel I' → h_WW Γ G 1114 (lw_lo G b i) [] I' J') : h_WW Γ G 1019 (lw_lo G b i) [] I J := by
  obtain ⟨P, hP, hQ⟩ := op_cost (l := l) (G := G) (J := J) hR (xs (i + 1))
  refine x_aload_n (pc := 1019) (x := G.2.2 0) K 2 dL_law_1019 rfl rfl ?_
  refine x_arg (pc := 1020) K S 1 dL_law_1020 dL_law_1021 dL_law_1022 dL_law_1023 dL_law_1024 (by decide) (by omega) ?_
  refine x_calliV (pc := 1025) (st := []) (n := 1) K (by decide) sh_0 rfl hP gL_law_X7_cost (by decide +kernel) rfl (by decide) (by decide) rfl rfl (Nat.le_of_ble_eq_true rfl) dL_law_1025 (fun ρ I1 J1 hp => ?_)
  obtain ⟨Q, hQ1, hE⟩ := hQ ρ I1 J1 hp
  refine x_aload_n (pc := 1028) (x := G.2.2 76) K 1 dL_law_1028 rfl rfl ?_
  refine x_arg (pc := 1029) K S 1 dL_law_1029 dL_law_1030 dL_law_1031 dL_law_1032 dL_law_1033 (by decide) (by omega) ?_
  refine x_calliV (pc := 1034) (st := [.int ρ]) (n := 1) K (by decide) sh_76 rfl hQ1 gL_law_X8_cost (by decide +kernel) rfl (by decide) (by decide) rfl rfl (Nat.le_of_ble_eq_true rfl) dL_law_1034 (fun ρ' I2 J2 hq => ?_)
  obtain ⟨e, hR2⟩ := hE ρ' I2 J2 hq
  exact x_icmp_eq (pc := 1037) (tgt := 1114) K dL_law_1037 (by decide) (fun _ => kk I2 J2 hR2) (fun w => absurd e w)
set_option maxHeartbeats 1000000 in
set_option maxRecDepth 100000 in
theorem lc_23 (K : h_C Γ G l 4 cL_law wsL_law RL 9 380) (S : lw_S Γ b L xs) {i : Nat} (hi : i + 6 ≤ L) (hR : Rel I) (kk : ∀ I' J', Rel I' → h_WW Γ G 1114 (lw_lo G b i) [] I' J') : h_WW Γ G 1042 (lw_lo G b i) [] I J := by
  obtain ⟨P, hP, hQ⟩ := op_left (l := l) (G := G) (J := J) hR (xs (i + 1))
  refine x_aload_n (pc := 1042) (x := G.2.2 0) K 2 dL_law_1042 rfl rfl ?_
  refine x_arg (pc := 1043) K S 1 dL_law_1043 dL_law_1044 dL_law_1045 dL_law_1046 dL_law_1047 (by decide) (by omega) ?_
  refine x_calliV (pc := 1048) (st := []) (n := 1) K (by decide) sh_0 rfl hP gL_law_X7_left (by decide +kernel) rfl (by decide) (by decide) rfl rfl (Nat.le_of_ble_eq_true rfl) dL_law_1048 (fun ρ I1 J1 hp => ?_)
  obtain ⟨Q, hQ1, hE⟩ := hQ ρ I1 J1 hp
  refine x_aload_n (pc := 1051) (x := G.2.2 76) K 1 dL_law_1051 rfl rfl ?_
  refine x_arg (pc := 1052) K S 1 dL_law_1052 dL_law_1053 dL_law_1054 dL_law_1055 dL_law_1056 (by decide) (by omega) ?_
  refine x_calliV (pc := 1057) (st := [.int ρ]) (n := 1) K (by decide) sh_76 rfl hQ1 gL_law_X8_left (by decide +kernel) rfl (by decide) (by decide) rfl rfl (Nat.le_of_ble_eq_true rfl) dL_law_1057 (fun ρ' I2 J2 hq => ?_)
  obtain ⟨e, hR2⟩ := hE ρ' I2 J2 hq
  exact x_icmp_eq (pc := 1060) (tgt := 1114) K dL_law_1060 (by decide) (fun _ => kk I2 J2 hR2) (fun w => absurd e w)
set_option maxHeartbeats 1000000 in
set_option maxRecDepth 100000 in
theorem lc_24 (K : h_C Γ G l 4 cL_law wsL_law RL 9 380) (S : lw_S Γ b L xs) {i : Nat} (hi : i + 6 ≤ L) (hR : Rel I) (kk : ∀ I' J', Rel I' → h_WW Γ G 1114 (lw_lo G b i) [] I' J') : h_WW Γ G 1065 (lw_lo G b i) [] I J := by
  obtain ⟨P, hP, hQ⟩ := op_many (l := l) (G := G) (J := J) hR (xs (i + 1))
  refine x_aload_n (pc := 1065) (x := G.2.2 0) K 2 dL_law_1065 rfl rfl ?_
  refine x_arg (pc := 1066) K S 1 dL_law_1066 dL_law_1067 dL_law_1068 dL_law_1069 dL_law_1070 (by decide) (by omega) ?_
  refine x_calliV (pc := 1071) (st := []) (n := 1) K (by decide) sh_0 rfl hP gL_law_X7_many (by decide +kernel) rfl (by decide) (by decide) rfl rfl (Nat.le_of_ble_eq_true rfl) dL_law_1071 (fun ρ I1 J1 hp => ?_)
  obtain ⟨Q, hQ1, hE⟩ := hQ ρ I1 J1 hp
  refine x_aload_n (pc := 1074) (x := G.2.2 76) K 1 dL_law_1074 rfl rfl ?_
  refine x_arg (pc := 1075) K S 1 dL_law_1075 dL_law_1076 dL_law_1077 dL_law_1078 dL_law_1079 (by decide) (by omega) ?_
  refine x_calliV (pc := 1080) (st := [.int ρ]) (n := 1) K (by decide) sh_76 rfl hQ1 gL_law_X8_many (by decide +kernel) rfl (by decide) (by decide) rfl rfl (Nat.le_of_ble_eq_true rfl) dL_law_1080 (fun ρ' I2 J2 hq => ?_)
  obtain ⟨e, hR2⟩ := hE ρ' I2 J2 hq
  exact x_icmp_eq (pc := 1083) (tgt := 1114) K dL_law_1083 (by decide) (fun _ => kk I2 J2 hR2) (fun w => absurd e w)
set_option maxHeartbeats 1000000 in
set_option maxRecDepth 100000 in
theorem lc_25 (K : h_C Γ G l 4 cL_law wsL_law RL 9 380) (S : lw_S Γ b L xs) {i : Nat} (hi : i + 6 ≤ L) (hR : Rel I) (kk : ∀ I' J', Rel I' → h_WW Γ G 1114 (lw_lo G b i) [] I' J') : h_WW Γ G 1088 (lw_lo G b i) [] I J := by
  obtain ⟨P, hP, hQ⟩ := op_keep (l := l) (G := G) (J := J) hR 
  refine x_aload_n (pc := 1088) (x := G.2.2 0) K 2 dL_law_1088 rfl rfl ?_
  refine x_calliV (pc := 1089) (st := []) (n := 0) K (by decide) sh_0 rfl hP gL_law_X7_keep (by decide +kernel) rfl (by decide) (by decide) rfl rfl (Nat.le_of_ble_eq_true rfl) dL_law_1089 (fun ρ I1 J1 hp => ?_)
  obtain ⟨Q, hQ1, hE⟩ := hQ ρ I1 J1 hp
  refine x_aload_n (pc := 1092) (x := G.2.2 76) K 1 dL_law_1092 rfl rfl ?_
  refine x_calliV (pc := 1093) (st := [.int ρ]) (n := 0) K (by decide) sh_76 rfl hQ1 gL_law_X8_keep (by decide +kernel) rfl (by decide) (by decide) rfl rfl (Nat.le_of_ble_eq_true rfl) dL_law_1093 (fun ρ' I2 J2 hq => ?_)
  obtain ⟨e, hR2⟩ := hE ρ' I2 J2 hq
  exact x_icmp_eq (pc := 1096) (tgt := 1114) K dL_law_1096 (by decide) (fun _ => kk I2 J2 hR2) (fun w => absurd e w)
set_option maxHeartbeats 1000000 in
set_option maxRecDepth 100000 in
theorem lc_26 (K : h_C Γ G l 4 cL_law wsL_law RL 9 380) (S : lw_S Γ b L xs) {i : Nat} (hi : i + 6 ≤ L) (hR : Rel I) (kk : ∀ I' J', Rel I' → h_WW Γ G 1114 (lw_lo G b i) [] I' J') : h_WW Γ G 1101 (lw_lo G b i) [] I J := by
  obtain ⟨P, hP, hQ⟩ := op_back (l := l) (G := G) (J := J) hR 
  refine x_aload_n (pc := 1101) (x := G.2.2 0) K 2 dL_law_1101 rfl rfl ?_
  refine x_calliV (pc := 1102) (st := []) (n := 0) K (by decide) sh_0 rfl hP gL_law_X7_back (by decide +kernel) rfl (by decide) (by decide) rfl rfl (Nat.le_of_ble_eq_true rfl) dL_law_1102 (fun ρ I1 J1 hp => ?_)
  obtain ⟨Q, hQ1, hE⟩ := hQ ρ I1 J1 hp
  refine x_aload_n (pc := 1105) (x := G.2.2 76) K 1 dL_law_1105 rfl rfl ?_
  refine x_calliV (pc := 1106) (st := [.int ρ]) (n := 0) K (by decide) sh_76 rfl hQ1 gL_law_X8_back (by decide +kernel) rfl (by decide) (by decide) rfl rfl (Nat.le_of_ble_eq_true rfl) dL_law_1106 (fun ρ' I2 J2 hq => ?_)
  obtain ⟨e, hR2⟩ := hE ρ' I2 J2 hq
  exact x_icmp_eq (pc := 1109) (tgt := 1114) K dL_law_1109 (by decide) (fun _ => kk I2 J2 hR2) (fun w => absurd e w)
end LC
