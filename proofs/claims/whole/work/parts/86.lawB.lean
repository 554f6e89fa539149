theorem lc_change {S : XSt} {I : XI} {F : XF} {P : XP} {L i : Nat} {xs : Nat → Int32} (hL : L ≤ 3072) (hi : i + 6 ≤ L) (hO : OKS S) (hC : CI I F S) (hI : MI I F S) (kk : ∀ (S2 : XSt) (I2 : XI) (F2 : XF), OKS S2 → CI I2 F2 S2 → MI I2 F2 S2 → XJ (some (L, xs)) m_LA_law 1344 [some (.ref 44), some (.ref 24), some (.ref 36), some (.int (nI i))] [] I2 F2 P) : XJ (some (L, xs)) m_LA_law 743 [some (.ref 44), some (.ref 24), some (.ref 36), some (.int (nI i))] [] I F P := by
  refine xj_aload_n (pc := 743) d_LA_law_743 rfl rfl ?_
  refine xj_aload_n (pc := 744) d_LA_law_744 rfl rfl ?_
  refine xj_iload_n (pc := 745) d_LA_law_745 rfl rfl ?_
  refine xj_iconst (pc := 746) (v := 1) d_LA_law_746 (by decide) ?_
  refine xj_iadd (pc := 747) d_LA_law_747 ?_
  refine xj_sld (pc := 748) (j := i + 1) d_LA_law_748 (n_addN i 1) (by omega) (by omega) ?_
  refine xj_aload_n (pc := 749) d_LA_law_749 rfl rfl ?_
  refine xj_iload_n (pc := 750) d_LA_law_750 rfl rfl ?_
  refine xj_iconst (pc := 751) (v := 2) d_LA_law_751 (by decide) ?_
  refine xj_iadd (pc := 752) d_LA_law_752 ?_
  refine xj_sld (pc := 753) (j := i + 2) d_LA_law_753 (n_addN i 2) (by omega) (by omega) ?_
  refine xj_aload_n (pc := 754) d_LA_law_754 rfl rfl ?_
  refine xj_iload_n (pc := 755) d_LA_law_755 rfl rfl ?_
  refine xj_iconst (pc := 756) (v := 3) d_LA_law_756 (by decide) ?_
  refine xj_iadd (pc := 757) d_LA_law_757 ?_
  refine xj_sld (pc := 758) (j := i + 3) d_LA_law_758 (n_addN i 3) (by omega) (by omega) ?_
  refine xj_aload_n (pc := 759) d_LA_law_759 rfl rfl ?_
  refine xj_iload_n (pc := 760) d_LA_law_760 rfl rfl ?_
  refine xj_iconst (pc := 761) (v := 4) d_LA_law_761 (by decide) ?_
  refine xj_iadd (pc := 762) d_LA_law_762 ?_
  refine xj_sld (pc := 763) (j := i + 4) d_LA_law_763 (n_addN i 4) (by omega) (by omega) ?_
  refine xj_callV (pc := 764) d_LA_law_764 ml_LA_72 ok_RD_change (t_RD_change hO hC) rfl rfl rfl rfl rfl (Nat.le_of_ble_eq_true rfl) (by decide) ?_
  rintro rv I1 F1 ⟨rfl, gC, gM⟩
  have hI1 := cm_mi gM hI
  dsimp only [Option.toList, List.cons_append, List.nil_append]
  refine xj_aload_n (pc := 767) d_LA_law_767 rfl rfl ?_
  refine xj_aload_n (pc := 768) d_LA_law_768 rfl rfl ?_
  refine xj_iload_n (pc := 769) d_LA_law_769 rfl rfl ?_
  refine xj_iconst (pc := 770) (v := 1) d_LA_law_770 (by decide) ?_
  refine xj_iadd (pc := 771) d_LA_law_771 ?_
  refine xj_sld (pc := 772) (j := i + 1) d_LA_law_772 (n_addN i 1) (by omega) (by omega) ?_
  refine xj_aload_n (pc := 773) d_LA_law_773 rfl rfl ?_
  refine xj_iload_n (pc := 774) d_LA_law_774 rfl rfl ?_
  refine xj_iconst (pc := 775) (v := 2) d_LA_law_775 (by decide) ?_
  refine xj_iadd (pc := 776) d_LA_law_776 ?_
  refine xj_sld (pc := 777) (j := i + 2) d_LA_law_777 (n_addN i 2) (by omega) (by omega) ?_
  refine xj_aload_n (pc := 778) d_LA_law_778 rfl rfl ?_
  refine xj_iload_n (pc := 779) d_LA_law_779 rfl rfl ?_
  refine xj_iconst (pc := 780) (v := 3) d_LA_law_780 (by decide) ?_
  refine xj_iadd (pc := 781) d_LA_law_781 ?_
  refine xj_sld (pc := 782) (j := i + 3) d_LA_law_782 (n_addN i 3) (by omega) (by omega) ?_
  refine xj_aload_n (pc := 783) d_LA_law_783 rfl rfl ?_
  refine xj_iload_n (pc := 784) d_LA_law_784 rfl rfl ?_
  refine xj_iconst (pc := 785) (v := 4) d_LA_law_785 (by decide) ?_
  refine xj_iadd (pc := 786) d_LA_law_786 ?_
  refine xj_sld (pc := 787) (j := i + 4) d_LA_law_787 (n_addN i 4) (by omega) (by omega) ?_
  refine xj_callV (pc := 788) d_LA_law_788 ml_LA_75 ok_MO_change (t_MO_change hI1) rfl rfl rfl rfl rfl (Nat.le_of_ble_eq_true rfl) (by decide) ?_
  rintro rv I2 F2 ⟨rfl, gI, gN⟩
  dsimp only [Option.toList, List.cons_append, List.nil_append]
  refine xj_icmp_eq (pc := 791) (tgt := 1344) d_LA_law_791 (by decide) (fun h791 => ?_) (fun h791 => absurd (rfl) h791)
  exact kk _ I2 F2 (oks_change hO) (nm_ci gN gC) gI
theorem lc_often {S : XSt} {I : XI} {F : XF} {P : XP} {L i : Nat} {xs : Nat → Int32} (hL : L ≤ 3072) (hi : i + 6 ≤ L) (hO : OKS S) (hC : CI I F S) (hI : MI I F S) (kk : ∀ (S2 : XSt) (I2 : XI) (F2 : XF), OKS S2 → CI I2 F2 S2 → MI I2 F2 S2 → XJ (some (L, xs)) m_LA_law 1344 [some (.ref 44), some (.ref 24), some (.ref 36), some (.int (nI i))] [] I2 F2 P) : XJ (some (L, xs)) m_LA_law 796 [some (.ref 44), some (.ref 24), some (.ref 36), some (.int (nI i))] [] I F P := by
  refine xj_aload_n (pc := 796) d_LA_law_796 rfl rfl ?_
  refine xj_aload_n (pc := 797) d_LA_law_797 rfl rfl ?_
  refine xj_iload_n (pc := 798) d_LA_law_798 rfl rfl ?_
  refine xj_iconst (pc := 799) (v := 1) d_LA_law_799 (by decide) ?_
  refine xj_iadd (pc := 800) d_LA_law_800 ?_
  refine xj_sld (pc := 801) (j := i + 1) d_LA_law_801 (n_addN i 1) (by omega) (by omega) ?_
  refine xj_aload_n (pc := 802) d_LA_law_802 rfl rfl ?_
  refine xj_iload_n (pc := 803) d_LA_law_803 rfl rfl ?_
  refine xj_iconst (pc := 804) (v := 2) d_LA_law_804 (by decide) ?_
  refine xj_iadd (pc := 805) d_LA_law_805 ?_
  refine xj_sld (pc := 806) (j := i + 2) d_LA_law_806 (n_addN i 2) (by omega) (by omega) ?_
  refine xj_callV (pc := 807) d_LA_law_807 ml_LA_76 ok_RD_often (t_RD_often hC) rfl rfl rfl rfl rfl (Nat.le_of_ble_eq_true rfl) (by decide) ?_
  rintro rv I1 F1 ⟨rfl, gC, gM⟩
  have hI1 := cm_mi gM hI
  dsimp only [Option.toList, List.cons_append, List.nil_append]
  refine xj_aload_n (pc := 810) d_LA_law_810 rfl rfl ?_
  refine xj_aload_n (pc := 811) d_LA_law_811 rfl rfl ?_
  refine xj_iload_n (pc := 812) d_LA_law_812 rfl rfl ?_
  refine xj_iconst (pc := 813) (v := 1) d_LA_law_813 (by decide) ?_
  refine xj_iadd (pc := 814) d_LA_law_814 ?_
  refine xj_sld (pc := 815) (j := i + 1) d_LA_law_815 (n_addN i 1) (by omega) (by omega) ?_
  refine xj_aload_n (pc := 816) d_LA_law_816 rfl rfl ?_
  refine xj_iload_n (pc := 817) d_LA_law_817 rfl rfl ?_
  refine xj_iconst (pc := 818) (v := 2) d_LA_law_818 (by decide) ?_
  refine xj_iadd (pc := 819) d_LA_law_819 ?_
  refine xj_sld (pc := 820) (j := i + 2) d_LA_law_820 (n_addN i 2) (by omega) (by omega) ?_
  refine xj_callV (pc := 821) d_LA_law_821 ml_LA_79 ok_MO_often (t_MO_often hI1) rfl rfl rfl rfl rfl (Nat.le_of_ble_eq_true rfl) (by decide) ?_
  rintro rv I2 F2 ⟨rfl, gI, gN⟩
  dsimp only [Option.toList, List.cons_append, List.nil_append]
  refine xj_icmp_eq (pc := 824) (tgt := 1344) d_LA_law_824 (by decide) (fun h824 => ?_) (fun h824 => absurd (rfl) h824)
  exact kk _ I2 F2 hO (nm_ci gN gC) gI
theorem lc_unlike {S : XSt} {I : XI} {F : XF} {P : XP} {L i : Nat} {xs : Nat → Int32} (hL : L ≤ 3072) (hi : i + 6 ≤ L) (hO : OKS S) (hC : CI I F S) (hI : MI I F S) (kk : ∀ (S2 : XSt) (I2 : XI) (F2 : XF), OKS S2 → CI I2 F2 S2 → MI I2 F2 S2 → XJ (some (L, xs)) m_LA_law 1344 [some (.ref 44), some (.ref 24), some (.ref 36), some (.int (nI i))] [] I2 F2 P) : XJ (some (L, xs)) m_LA_law 829 [some (.ref 44), some (.ref 24), some (.ref 36), some (.int (nI i))] [] I F P := by
  refine xj_aload_n (pc := 829) d_LA_law_829 rfl rfl ?_
  refine xj_aload_n (pc := 830) d_LA_law_830 rfl rfl ?_
  refine xj_iload_n (pc := 831) d_LA_law_831 rfl rfl ?_
  refine xj_iconst (pc := 832) (v := 1) d_LA_law_832 (by decide) ?_
  refine xj_iadd (pc := 833) d_LA_law_833 ?_
  refine xj_sld (pc := 834) (j := i + 1) d_LA_law_834 (n_addN i 1) (by omega) (by omega) ?_
  refine xj_aload_n (pc := 835) d_LA_law_835 rfl rfl ?_
  refine xj_iload_n (pc := 836) d_LA_law_836 rfl rfl ?_
  refine xj_iconst (pc := 837) (v := 2) d_LA_law_837 (by decide) ?_
  refine xj_iadd (pc := 838) d_LA_law_838 ?_
  refine xj_sld (pc := 839) (j := i + 2) d_LA_law_839 (n_addN i 2) (by omega) (by omega) ?_
  refine xj_callV (pc := 840) d_LA_law_840 ml_LA_80 ok_RD_unlike (t_RD_unlike hC) rfl rfl rfl rfl rfl (Nat.le_of_ble_eq_true rfl) (by decide) ?_
  rintro rv I1 F1 ⟨rfl, gC, gM⟩
  have hI1 := cm_mi gM hI
  dsimp only [Option.toList, List.cons_append, List.nil_append]
  refine xj_aload_n (pc := 843) d_LA_law_843 rfl rfl ?_
  refine xj_aload_n (pc := 844) d_LA_law_844 rfl rfl ?_
  refine xj_iload_n (pc := 845) d_LA_law_845 rfl rfl ?_
  refine xj_iconst (pc := 846) (v := 1) d_LA_law_846 (by decide) ?_
  refine xj_iadd (pc := 847) d_LA_law_847 ?_
  refine xj_sld (pc := 848) (j := i + 1) d_LA_law_848 (n_addN i 1) (by omega) (by omega) ?_
  refine xj_aload_n (pc := 849) d_LA_law_849 rfl rfl ?_
  refine xj_iload_n (pc := 850) d_LA_law_850 rfl rfl ?_
  refine xj_iconst (pc := 851) (v := 2) d_LA_law_851 (by decide) ?_
  refine xj_iadd (pc := 852) d_LA_law_852 ?_
  refine xj_sld (pc := 853) (j := i + 2) d_LA_law_853 (n_addN i 2) (by omega) (by omega) ?_
  refine xj_callV (pc := 854) d_LA_law_854 ml_LA_83 ok_MO_unlike (t_MO_unlike hI1) rfl rfl rfl rfl rfl (Nat.le_of_ble_eq_true rfl) (by decide) ?_
  rintro rv I2 F2 ⟨rfl, gI, gN⟩
  dsimp only [Option.toList, List.cons_append, List.nil_append]
  refine xj_icmp_eq (pc := 857) (tgt := 1344) d_LA_law_857 (by decide) (fun h857 => ?_) (fun h857 => absurd (rfl) h857)
  exact kk _ I2 F2 hO (nm_ci gN gC) gI
theorem lc_strip {S : XSt} {I : XI} {F : XF} {P : XP} {L i : Nat} {xs : Nat → Int32} (hL : L ≤ 3072) (hi : i + 6 ≤ L) (hO : OKS S) (hC : CI I F S) (hI : MI I F S) (kk : ∀ (S2 : XSt) (I2 : XI) (F2 : XF), OKS S2 → CI I2 F2 S2 → MI I2 F2 S2 → XJ (some (L, xs)) m_LA_law 1344 [some (.ref 44), some (.ref 24), some (.ref 36), some (.int (nI i))] [] I2 F2 P) : XJ (some (L, xs)) m_LA_law 862 [some (.ref 44), some (.ref 24), some (.ref 36), some (.int (nI i))] [] I F P := by
  refine xj_aload_n (pc := 862) d_LA_law_862 rfl rfl ?_
  refine xj_aload_n (pc := 863) d_LA_law_863 rfl rfl ?_
  refine xj_iload_n (pc := 864) d_LA_law_864 rfl rfl ?_
  refine xj_iconst (pc := 865) (v := 1) d_LA_law_865 (by decide) ?_
  refine xj_iadd (pc := 866) d_LA_law_866 ?_
  refine xj_sld (pc := 867) (j := i + 1) d_LA_law_867 (n_addN i 1) (by omega) (by omega) ?_
  refine xj_aload_n (pc := 868) d_LA_law_868 rfl rfl ?_
  refine xj_iload_n (pc := 869) d_LA_law_869 rfl rfl ?_
  refine xj_iconst (pc := 870) (v := 2) d_LA_law_870 (by decide) ?_
  refine xj_iadd (pc := 871) d_LA_law_871 ?_
  refine xj_sld (pc := 872) (j := i + 2) d_LA_law_872 (n_addN i 2) (by omega) (by omega) ?_
  refine xj_aload_n (pc := 873) d_LA_law_873 rfl rfl ?_
  refine xj_iload_n (pc := 874) d_LA_law_874 rfl rfl ?_
  refine xj_iconst (pc := 875) (v := 3) d_LA_law_875 (by decide) ?_
  refine xj_iadd (pc := 876) d_LA_law_876 ?_
  refine xj_sld (pc := 877) (j := i + 3) d_LA_law_877 (n_addN i 3) (by omega) (by omega) ?_
  refine xj_callV (pc := 878) d_LA_law_878 ml_LA_84 ok_RD_strip (t_RD_strip hO hC) rfl rfl rfl rfl rfl (Nat.le_of_ble_eq_true rfl) (by decide) ?_
  rintro rv I1 F1 ⟨rfl, gC, gM⟩
  have hI1 := cm_mi gM hI
  dsimp only [Option.toList, List.cons_append, List.nil_append]
  refine xj_aload_n (pc := 881) d_LA_law_881 rfl rfl ?_
  refine xj_aload_n (pc := 882) d_LA_law_882 rfl rfl ?_
  refine xj_iload_n (pc := 883) d_LA_law_883 rfl rfl ?_
  refine xj_iconst (pc := 884) (v := 1) d_LA_law_884 (by decide) ?_
  refine xj_iadd (pc := 885) d_LA_law_885 ?_
  refine xj_sld (pc := 886) (j := i + 1) d_LA_law_886 (n_addN i 1) (by omega) (by omega) ?_
  refine xj_aload_n (pc := 887) d_LA_law_887 rfl rfl ?_
  refine xj_iload_n (pc := 888) d_LA_law_888 rfl rfl ?_
  refine xj_iconst (pc := 889) (v := 2) d_LA_law_889 (by decide) ?_
  refine xj_iadd (pc := 890) d_LA_law_890 ?_
  refine xj_sld (pc := 891) (j := i + 2) d_LA_law_891 (n_addN i 2) (by omega) (by omega) ?_
  refine xj_aload_n (pc := 892) d_LA_law_892 rfl rfl ?_
  refine xj_iload_n (pc := 893) d_LA_law_893 rfl rfl ?_
  refine xj_iconst (pc := 894) (v := 3) d_LA_law_894 (by decide) ?_
  refine xj_iadd (pc := 895) d_LA_law_895 ?_
  refine xj_sld (pc := 896) (j := i + 3) d_LA_law_896 (n_addN i 3) (by omega) (by omega) ?_
  refine xj_callV (pc := 897) d_LA_law_897 ml_LA_87 ok_MO_strip (t_MO_strip hI1) rfl rfl rfl rfl rfl (Nat.le_of_ble_eq_true rfl) (by decide) ?_
  rintro rv I2 F2 ⟨rfl, gI, gN⟩
  dsimp only [Option.toList, List.cons_append, List.nil_append]
  refine xj_icmp_eq (pc := 900) (tgt := 1344) d_LA_law_900 (by decide) (fun h900 => ?_) (fun h900 => absurd (rfl) h900)
  exact kk _ I2 F2 (oks_strip hO) (nm_ci gN gC) gI
theorem lc_turn {S : XSt} {I : XI} {F : XF} {P : XP} {L i : Nat} {xs : Nat → Int32} (hL : L ≤ 3072) (hi : i + 6 ≤ L) (hO : OKS S) (hC : CI I F S) (hI : MI I F S) (kk : ∀ (S2 : XSt) (I2 : XI) (F2 : XF), OKS S2 → CI I2 F2 S2 → MI I2 F2 S2 → XJ (some (L, xs)) m_LA_law 1344 [some (.ref 44), some (.ref 24), some (.ref 36), some (.int (nI i))] [] I2 F2 P) : XJ (some (L, xs)) m_LA_law 905 [some (.ref 44), some (.ref 24), some (.ref 36), some (.int (nI i))] [] I F P := by
  refine xj_aload_n (pc := 905) d_LA_law_905 rfl rfl ?_
  refine xj_aload_n (pc := 906) d_LA_law_906 rfl rfl ?_
  refine xj_iload_n (pc := 907) d_LA_law_907 rfl rfl ?_
  refine xj_iconst (pc := 908) (v := 1) d_LA_law_908 (by decide) ?_
  refine xj_iadd (pc := 909) d_LA_law_909 ?_
  refine xj_sld (pc := 910) (j := i + 1) d_LA_law_910 (n_addN i 1) (by omega) (by omega) ?_
  refine xj_aload_n (pc := 911) d_LA_law_911 rfl rfl ?_
  refine xj_iload_n (pc := 912) d_LA_law_912 rfl rfl ?_
  refine xj_iconst (pc := 913) (v := 2) d_LA_law_913 (by decide) ?_
  refine xj_iadd (pc := 914) d_LA_law_914 ?_
  refine xj_sld (pc := 915) (j := i + 2) d_LA_law_915 (n_addN i 2) (by omega) (by omega) ?_
  refine xj_aload_n (pc := 916) d_LA_law_916 rfl rfl ?_
  refine xj_iload_n (pc := 917) d_LA_law_917 rfl rfl ?_
  refine xj_iconst (pc := 918) (v := 3) d_LA_law_918 (by decide) ?_
  refine xj_iadd (pc := 919) d_LA_law_919 ?_
  refine xj_sld (pc := 920) (j := i + 3) d_LA_law_920 (n_addN i 3) (by omega) (by omega) ?_
  refine xj_callV (pc := 921) d_LA_law_921 ml_LA_88 ok_RD_turn (t_RD_turn hO hC) rfl rfl rfl rfl rfl (Nat.le_of_ble_eq_true rfl) (by decide) ?_
  rintro rv I1 F1 ⟨rfl, gC, gM⟩
  have hI1 := cm_mi gM hI
  dsimp only [Option.toList, List.cons_append, List.nil_append]
  refine xj_aload_n (pc := 924) d_LA_law_924 rfl rfl ?_
  refine xj_aload_n (pc := 925) d_LA_law_925 rfl rfl ?_
  refine xj_iload_n (pc := 926) d_LA_law_926 rfl rfl ?_
  refine xj_iconst (pc := 927) (v := 1) d_LA_law_927 (by decide) ?_
  refine xj_iadd (pc := 928) d_LA_law_928 ?_
  refine xj_sld (pc := 929) (j := i + 1) d_LA_law_929 (n_addN i 1) (by omega) (by omega) ?_
  refine xj_aload_n (pc := 930) d_LA_law_930 rfl rfl ?_
  refine xj_iload_n (pc := 931) d_LA_law_931 rfl rfl ?_
  refine xj_iconst (pc := 932) (v := 2) d_LA_law_932 (by decide) ?_
  refine xj_iadd (pc := 933) d_LA_law_933 ?_
  refine xj_sld (pc := 934) (j := i + 2) d_LA_law_934 (n_addN i 2) (by omega) (by omega) ?_
  refine xj_aload_n (pc := 935) d_LA_law_935 rfl rfl ?_
  refine xj_iload_n (pc := 936) d_LA_law_936 rfl rfl ?_
  refine xj_iconst (pc := 937) (v := 3) d_LA_law_937 (by decide) ?_
  refine xj_iadd (pc := 938) d_LA_law_938 ?_
  refine xj_sld (pc := 939) (j := i + 3) d_LA_law_939 (n_addN i 3) (by omega) (by omega) ?_
  refine xj_callV (pc := 940) d_LA_law_940 ml_LA_91 ok_MO_turn (t_MO_turn hO hI1) rfl rfl rfl rfl rfl (Nat.le_of_ble_eq_true rfl) (by decide) ?_
  rintro rv I2 F2 ⟨rfl, gI, gN⟩
  dsimp only [Option.toList, List.cons_append, List.nil_append]
  refine xj_icmp_eq (pc := 943) (tgt := 1344) d_LA_law_943 (by decide) (fun h943 => ?_) (fun h943 => absurd (rfl) h943)
  exact kk _ I2 F2 (oks_turn hO) (nm_ci gN gC) gI
theorem lc_translate {S : XSt} {I : XI} {F : XF} {P : XP} {L i : Nat} {xs : Nat → Int32} (hL : L ≤ 3072) (hi : i + 6 ≤ L) (hO : OKS S) (hC : CI I F S) (hI : MI I F S) (kk : ∀ (S2 : XSt) (I2 : XI) (F2 : XF), OKS S2 → CI I2 F2 S2 → MI I2 F2 S2 → XJ (some (L, xs)) m_LA_law 1344 [some (.ref 44), some (.ref 24), some (.ref 36), some (.int (nI i))] [] I2 F2 P) : XJ (some (L, xs)) m_LA_law 948 [some (.ref 44), some (.ref 24), some (.ref 36), some (.int (nI i))] [] I F P := by
  refine xj_aload_n (pc := 948) d_LA_law_948 rfl rfl ?_
  refine xj_aload_n (pc := 949) d_LA_law_949 rfl rfl ?_
  refine xj_iload_n (pc := 950) d_LA_law_950 rfl rfl ?_
  refine xj_iconst (pc := 951) (v := 1) d_LA_law_951 (by decide) ?_
  refine xj_iadd (pc := 952) d_LA_law_952 ?_
  refine xj_sld (pc := 953) (j := i + 1) d_LA_law_953 (n_addN i 1) (by omega) (by omega) ?_
  refine xj_aload_n (pc := 954) d_LA_law_954 rfl rfl ?_
  refine xj_iload_n (pc := 955) d_LA_law_955 rfl rfl ?_
  refine xj_iconst (pc := 956) (v := 2) d_LA_law_956 (by decide) ?_
  refine xj_iadd (pc := 957) d_LA_law_957 ?_
  refine xj_sld (pc := 958) (j := i + 2) d_LA_law_958 (n_addN i 2) (by omega) (by omega) ?_
  refine xj_aload_n (pc := 959) d_LA_law_959 rfl rfl ?_
  refine xj_iload_n (pc := 960) d_LA_law_960 rfl rfl ?_
  refine xj_iconst (pc := 961) (v := 3) d_LA_law_961 (by decide) ?_
  refine xj_iadd (pc := 962) d_LA_law_962 ?_
  refine xj_sld (pc := 963) (j := i + 3) d_LA_law_963 (n_addN i 3) (by omega) (by omega) ?_
  refine xj_aload_n (pc := 964) d_LA_law_964 rfl rfl ?_
  refine xj_iload_n (pc := 965) d_LA_law_965 rfl rfl ?_
  refine xj_iconst (pc := 966) (v := 4) d_LA_law_966 (by decide) ?_
  refine xj_iadd (pc := 967) d_LA_law_967 ?_
  refine xj_sld (pc := 968) (j := i + 4) d_LA_law_968 (n_addN i 4) (by omega) (by omega) ?_
  refine xj_callV (pc := 969) d_LA_law_969 ml_LA_92 ok_RD_translate (t_RD_translate hO hC) rfl rfl rfl rfl rfl (Nat.le_of_ble_eq_true rfl) (by decide) ?_
  rintro rv I1 F1 ⟨rfl, gC, gM⟩
  have hI1 := cm_mi gM hI
  dsimp only [Option.toList, List.cons_append, List.nil_append]
  refine xj_aload_n (pc := 972) d_LA_law_972 rfl rfl ?_
  refine xj_aload_n (pc := 973) d_LA_law_973 rfl rfl ?_
  refine xj_iload_n (pc := 974) d_LA_law_974 rfl rfl ?_
  refine xj_iconst (pc := 975) (v := 1) d_LA_law_975 (by decide) ?_
  refine xj_iadd (pc := 976) d_LA_law_976 ?_
  refine xj_sld (pc := 977) (j := i + 1) d_LA_law_977 (n_addN i 1) (by omega) (by omega) ?_
  refine xj_aload_n (pc := 978) d_LA_law_978 rfl rfl ?_
  refine xj_iload_n (pc := 979) d_LA_law_979 rfl rfl ?_
  refine xj_iconst (pc := 980) (v := 2) d_LA_law_980 (by decide) ?_
  refine xj_iadd (pc := 981) d_LA_law_981 ?_
  refine xj_sld (pc := 982) (j := i + 2) d_LA_law_982 (n_addN i 2) (by omega) (by omega) ?_
  refine xj_aload_n (pc := 983) d_LA_law_983 rfl rfl ?_
  refine xj_iload_n (pc := 984) d_LA_law_984 rfl rfl ?_
  refine xj_iconst (pc := 985) (v := 3) d_LA_law_985 (by decide) ?_
  refine xj_iadd (pc := 986) d_LA_law_986 ?_
  refine xj_sld (pc := 987) (j := i + 3) d_LA_law_987 (n_addN i 3) (by omega) (by omega) ?_
  refine xj_aload_n (pc := 988) d_LA_law_988 rfl rfl ?_
  refine xj_iload_n (pc := 989) d_LA_law_989 rfl rfl ?_
  refine xj_iconst (pc := 990) (v := 4) d_LA_law_990 (by decide) ?_
  refine xj_iadd (pc := 991) d_LA_law_991 ?_
  refine xj_sld (pc := 992) (j := i + 4) d_LA_law_992 (n_addN i 4) (by omega) (by omega) ?_
  refine xj_callV (pc := 993) d_LA_law_993 ml_LA_95 ok_MO_translate (t_MO_translate hI1) rfl rfl rfl rfl rfl (Nat.le_of_ble_eq_true rfl) (by decide) ?_
  rintro rv I2 F2 ⟨rfl, gI, gN⟩
  dsimp only [Option.toList, List.cons_append, List.nil_append]
  refine xj_icmp_eq (pc := 996) (tgt := 1344) d_LA_law_996 (by decide) (fun h996 => ?_) (fun h996 => absurd (rfl) h996)
  exact kk _ I2 F2 (oks_translate hO) (nm_ci gN gC) gI
theorem lc_verify {S : XSt} {I : XI} {F : XF} {P : XP} {L i : Nat} {xs : Nat → Int32} (hL : L ≤ 3072) (hi : i + 6 ≤ L) (hO : OKS S) (hC : CI I F S) (hI : MI I F S) (kk : ∀ (S2 : XSt) (I2 : XI) (F2 : XF), OKS S2 → CI I2 F2 S2 → MI I2 F2 S2 → XJ (some (L, xs)) m_LA_law 1344 [some (.ref 44), some (.ref 24), some (.ref 36), some (.int (nI i))] [] I2 F2 P) : XJ (some (L, xs)) m_LA_law 1001 [some (.ref 44), some (.ref 24), some (.ref 36), some (.int (nI i))] [] I F P := by
  by_cases hb : xs (i + 4) = 0
  · refine xj_aload_n (pc := 1001) d_LA_law_1001 rfl rfl ?_
    refine xj_aload_n (pc := 1002) d_LA_law_1002 rfl rfl ?_
    refine xj_iload_n (pc := 1003) d_LA_law_1003 rfl rfl ?_
    refine xj_iconst (pc := 1004) (v := 1) d_LA_law_1004 (by decide) ?_
    refine xj_iadd (pc := 1005) d_LA_law_1005 ?_
    refine xj_sld (pc := 1006) (j := i + 1) d_LA_law_1006 (n_addN i 1) (by omega) (by omega) ?_
    refine xj_aload_n (pc := 1007) d_LA_law_1007 rfl rfl ?_
    refine xj_iload_n (pc := 1008) d_LA_law_1008 rfl rfl ?_
    refine xj_iconst (pc := 1009) (v := 2) d_LA_law_1009 (by decide) ?_
    refine xj_iadd (pc := 1010) d_LA_law_1010 ?_
    refine xj_sld (pc := 1011) (j := i + 2) d_LA_law_1011 (n_addN i 2) (by omega) (by omega) ?_
    refine xj_aload_n (pc := 1012) d_LA_law_1012 rfl rfl ?_
    refine xj_iload_n (pc := 1013) d_LA_law_1013 rfl rfl ?_
    refine xj_iconst (pc := 1014) (v := 3) d_LA_law_1014 (by decide) ?_
    refine xj_iadd (pc := 1015) d_LA_law_1015 ?_
    refine xj_sld (pc := 1016) (j := i + 3) d_LA_law_1016 (n_addN i 3) (by omega) (by omega) ?_
    refine xj_aload_n (pc := 1017) d_LA_law_1017 rfl rfl ?_
    refine xj_iload_n (pc := 1018) d_LA_law_1018 rfl rfl ?_
    refine xj_iconst (pc := 1019) (v := 4) d_LA_law_1019 (by decide) ?_
    refine xj_iadd (pc := 1020) d_LA_law_1020 ?_
    refine xj_sld (pc := 1021) (j := i + 4) d_LA_law_1021 (n_addN i 4) (by omega) (by omega) ?_
    refine xj_if_eq (pc := 1022) (tgt := 1029) d_LA_law_1022 (by decide) (fun h1022 => ?_) (fun h1022 => absurd (hb) h1022)
    refine xj_iconst (pc := 1029) (v := 0) d_LA_law_1029 (by decide) ?_
    refine xj_callV (pc := 1030) d_LA_law_1030 ml_LA_96 ok_RD_verify (t_RD_verify hO hC) rfl rfl rfl rfl rfl (Nat.le_of_ble_eq_true rfl) (by decide) ?_
    rintro rv I1 F1 ⟨rfl, gC, gM⟩
    have hI1 := cm_mi gM hI
    dsimp only [Option.toList, List.cons_append, List.nil_append]
    refine xj_aload_n (pc := 1033) d_LA_law_1033 rfl rfl ?_
    refine xj_aload_n (pc := 1034) d_LA_law_1034 rfl rfl ?_
    refine xj_iload_n (pc := 1035) d_LA_law_1035 rfl rfl ?_
    refine xj_iconst (pc := 1036) (v := 1) d_LA_law_1036 (by decide) ?_
    refine xj_iadd (pc := 1037) d_LA_law_1037 ?_
    refine xj_sld (pc := 1038) (j := i + 1) d_LA_law_1038 (n_addN i 1) (by omega) (by omega) ?_
    refine xj_aload_n (pc := 1039) d_LA_law_1039 rfl rfl ?_
    refine xj_iload_n (pc := 1040) d_LA_law_1040 rfl rfl ?_
    refine xj_iconst (pc := 1041) (v := 2) d_LA_law_1041 (by decide) ?_
    refine xj_iadd (pc := 1042) d_LA_law_1042 ?_
    refine xj_sld (pc := 1043) (j := i + 2) d_LA_law_1043 (n_addN i 2) (by omega) (by omega) ?_
    refine xj_aload_n (pc := 1044) d_LA_law_1044 rfl rfl ?_
    refine xj_iload_n (pc := 1045) d_LA_law_1045 rfl rfl ?_
    refine xj_iconst (pc := 1046) (v := 3) d_LA_law_1046 (by decide) ?_
    refine xj_iadd (pc := 1047) d_LA_law_1047 ?_
    refine xj_sld (pc := 1048) (j := i + 3) d_LA_law_1048 (n_addN i 3) (by omega) (by omega) ?_
    refine xj_aload_n (pc := 1049) d_LA_law_1049 rfl rfl ?_
    refine xj_iload_n (pc := 1050) d_LA_law_1050 rfl rfl ?_
    refine xj_iconst (pc := 1051) (v := 4) d_LA_law_1051 (by decide) ?_
    refine xj_iadd (pc := 1052) d_LA_law_1052 ?_
    refine xj_sld (pc := 1053) (j := i + 4) d_LA_law_1053 (n_addN i 4) (by omega) (by omega) ?_
    refine xj_if_eq (pc := 1054) (tgt := 1061) d_LA_law_1054 (by decide) (fun h1054 => ?_) (fun h1054 => absurd (hb) h1054)
    refine xj_iconst (pc := 1061) (v := 0) d_LA_law_1061 (by decide) ?_
    refine xj_callV (pc := 1062) d_LA_law_1062 ml_LA_99 ok_MO_verify (t_MO_verify hI1 (by first | exact Or.inl rfl | exact Or.inr rfl)) rfl rfl rfl rfl rfl (Nat.le_of_ble_eq_true rfl) (by decide) ?_
    rintro rv I2 F2 ⟨rfl, gI, gN⟩
    dsimp only [Option.toList, List.cons_append, List.nil_append]
    refine xj_icmp_eq (pc := 1065) (tgt := 1344) d_LA_law_1065 (by decide) (fun h1065 => ?_) (fun h1065 => absurd (rfl) h1065)
    exact kk _ I2 F2 hO (nm_ci gN gC) gI
  · refine xj_aload_n (pc := 1001) d_LA_law_1001 rfl rfl ?_
    refine xj_aload_n (pc := 1002) d_LA_law_1002 rfl rfl ?_
    refine xj_iload_n (pc := 1003) d_LA_law_1003 rfl rfl ?_
    refine xj_iconst (pc := 1004) (v := 1) d_LA_law_1004 (by decide) ?_
    refine xj_iadd (pc := 1005) d_LA_law_1005 ?_
    refine xj_sld (pc := 1006) (j := i + 1) d_LA_law_1006 (n_addN i 1) (by omega) (by omega) ?_
    refine xj_aload_n (pc := 1007) d_LA_law_1007 rfl rfl ?_
    refine xj_iload_n (pc := 1008) d_LA_law_1008 rfl rfl ?_
    refine xj_iconst (pc := 1009) (v := 2) d_LA_law_1009 (by decide) ?_
    refine xj_iadd (pc := 1010) d_LA_law_1010 ?_
    refine xj_sld (pc := 1011) (j := i + 2) d_LA_law_1011 (n_addN i 2) (by omega) (by omega) ?_
    refine xj_aload_n (pc := 1012) d_LA_law_1012 rfl rfl ?_
    refine xj_iload_n (pc := 1013) d_LA_law_1013 rfl rfl ?_
    refine xj_iconst (pc := 1014) (v := 3) d_LA_law_1014 (by decide) ?_
    refine xj_iadd (pc := 1015) d_LA_law_1015 ?_
    refine xj_sld (pc := 1016) (j := i + 3) d_LA_law_1016 (n_addN i 3) (by omega) (by omega) ?_
    refine xj_aload_n (pc := 1017) d_LA_law_1017 rfl rfl ?_
    refine xj_iload_n (pc := 1018) d_LA_law_1018 rfl rfl ?_
    refine xj_iconst (pc := 1019) (v := 4) d_LA_law_1019 (by decide) ?_
    refine xj_iadd (pc := 1020) d_LA_law_1020 ?_
    refine xj_sld (pc := 1021) (j := i + 4) d_LA_law_1021 (n_addN i 4) (by omega) (by omega) ?_
    refine xj_if_eq (pc := 1022) (tgt := 1029) d_LA_law_1022 (by decide) (fun h1022 => absurd h1022 (hb)) (fun h1022 => ?_)
    refine xj_iconst (pc := 1025) (v := 1) d_LA_law_1025 (by decide) ?_
    refine xj_goto (pc := 1026) (tgt := 1030) d_LA_law_1026 (by decide) ?_
    refine xj_callV (pc := 1030) d_LA_law_1030 ml_LA_96 ok_RD_verify (t_RD_verify hO hC) rfl rfl rfl rfl rfl (Nat.le_of_ble_eq_true rfl) (by decide) ?_
    rintro rv I1 F1 ⟨rfl, gC, gM⟩
    have hI1 := cm_mi gM hI
    dsimp only [Option.toList, List.cons_append, List.nil_append]
    refine xj_aload_n (pc := 1033) d_LA_law_1033 rfl rfl ?_
    refine xj_aload_n (pc := 1034) d_LA_law_1034 rfl rfl ?_
    refine xj_iload_n (pc := 1035) d_LA_law_1035 rfl rfl ?_
    refine xj_iconst (pc := 1036) (v := 1) d_LA_law_1036 (by decide) ?_
    refine xj_iadd (pc := 1037) d_LA_law_1037 ?_
    refine xj_sld (pc := 1038) (j := i + 1) d_LA_law_1038 (n_addN i 1) (by omega) (by omega) ?_
    refine xj_aload_n (pc := 1039) d_LA_law_1039 rfl rfl ?_
    refine xj_iload_n (pc := 1040) d_LA_law_1040 rfl rfl ?_
    refine xj_iconst (pc := 1041) (v := 2) d_LA_law_1041 (by decide) ?_
    refine xj_iadd (pc := 1042) d_LA_law_1042 ?_
    refine xj_sld (pc := 1043) (j := i + 2) d_LA_law_1043 (n_addN i 2) (by omega) (by omega) ?_
    refine xj_aload_n (pc := 1044) d_LA_law_1044 rfl rfl ?_
    refine xj_iload_n (pc := 1045) d_LA_law_1045 rfl rfl ?_
    refine xj_iconst (pc := 1046) (v := 3) d_LA_law_1046 (by decide) ?_
    refine xj_iadd (pc := 1047) d_LA_law_1047 ?_
    refine xj_sld (pc := 1048) (j := i + 3) d_LA_law_1048 (n_addN i 3) (by omega) (by omega) ?_
    refine xj_aload_n (pc := 1049) d_LA_law_1049 rfl rfl ?_
    refine xj_iload_n (pc := 1050) d_LA_law_1050 rfl rfl ?_
    refine xj_iconst (pc := 1051) (v := 4) d_LA_law_1051 (by decide) ?_
    refine xj_iadd (pc := 1052) d_LA_law_1052 ?_
    refine xj_sld (pc := 1053) (j := i + 4) d_LA_law_1053 (n_addN i 4) (by omega) (by omega) ?_
    refine xj_if_eq (pc := 1054) (tgt := 1061) d_LA_law_1054 (by decide) (fun h1054 => absurd h1054 (hb)) (fun h1054 => ?_)
    refine xj_iconst (pc := 1057) (v := 1) d_LA_law_1057 (by decide) ?_
    refine xj_goto (pc := 1058) (tgt := 1062) d_LA_law_1058 (by decide) ?_
    refine xj_callV (pc := 1062) d_LA_law_1062 ml_LA_99 ok_MO_verify (t_MO_verify hI1 (by first | exact Or.inl rfl | exact Or.inr rfl)) rfl rfl rfl rfl rfl (Nat.le_of_ble_eq_true rfl) (by decide) ?_
    rintro rv I2 F2 ⟨rfl, gI, gN⟩
    dsimp only [Option.toList, List.cons_append, List.nil_append]
    refine xj_icmp_eq (pc := 1065) (tgt := 1344) d_LA_law_1065 (by decide) (fun h1065 => ?_) (fun h1065 => absurd (rfl) h1065)
    exact kk _ I2 F2 hO (nm_ci gN gC) gI
theorem lc_space {S : XSt} {I : XI} {F : XF} {P : XP} {L i : Nat} {xs : Nat → Int32} (hL : L ≤ 3072) (hi : i + 6 ≤ L) (hO : OKS S) (hC : CI I F S) (hI : MI I F S) (kk : ∀ (S2 : XSt) (I2 : XI) (F2 : XF), OKS S2 → CI I2 F2 S2 → MI I2 F2 S2 → XJ (some (L, xs)) m_LA_law 1344 [some (.ref 44), some (.ref 24), some (.ref 36), some (.int (nI i))] [] I2 F2 P) : XJ (some (L, xs)) m_LA_law 1070 [some (.ref 44), some (.ref 24), some (.ref 36), some (.int (nI i))] [] I F P := by
  refine xj_aload_n (pc := 1070) d_LA_law_1070 rfl rfl ?_
  refine xj_aload_n (pc := 1071) d_LA_law_1071 rfl rfl ?_
  refine xj_iload_n (pc := 1072) d_LA_law_1072 rfl rfl ?_
  refine xj_iconst (pc := 1073) (v := 1) d_LA_law_1073 (by decide) ?_
  refine xj_iadd (pc := 1074) d_LA_law_1074 ?_
  refine xj_sld (pc := 1075) (j := i + 1) d_LA_law_1075 (n_addN i 1) (by omega) (by omega) ?_
  refine xj_aload_n (pc := 1076) d_LA_law_1076 rfl rfl ?_
  refine xj_iload_n (pc := 1077) d_LA_law_1077 rfl rfl ?_
  refine xj_iconst (pc := 1078) (v := 2) d_LA_law_1078 (by decide) ?_
  refine xj_iadd (pc := 1079) d_LA_law_1079 ?_
  refine xj_sld (pc := 1080) (j := i + 2) d_LA_law_1080 (n_addN i 2) (by omega) (by omega) ?_
  refine xj_aload_n (pc := 1081) d_LA_law_1081 rfl rfl ?_
  refine xj_iload_n (pc := 1082) d_LA_law_1082 rfl rfl ?_
  refine xj_iconst (pc := 1083) (v := 3) d_LA_law_1083 (by decide) ?_
  refine xj_iadd (pc := 1084) d_LA_law_1084 ?_
  refine xj_sld (pc := 1085) (j := i + 3) d_LA_law_1085 (n_addN i 3) (by omega) (by omega) ?_
  refine xj_callV (pc := 1086) d_LA_law_1086 ml_LA_100 ok_RD_space (t_RD_space hO hC) rfl rfl rfl rfl rfl (Nat.le_of_ble_eq_true rfl) (by decide) ?_
  rintro rv I1 F1 ⟨rfl, gC, gM⟩
  have hI1 := cm_mi gM hI
  dsimp only [Option.toList, List.cons_append, List.nil_append]
  refine xj_aload_n (pc := 1089) d_LA_law_1089 rfl rfl ?_
  refine xj_aload_n (pc := 1090) d_LA_law_1090 rfl rfl ?_
  refine xj_iload_n (pc := 1091) d_LA_law_1091 rfl rfl ?_
  refine xj_iconst (pc := 1092) (v := 1) d_LA_law_1092 (by decide) ?_
  refine xj_iadd (pc := 1093) d_LA_law_1093 ?_
  refine xj_sld (pc := 1094) (j := i + 1) d_LA_law_1094 (n_addN i 1) (by omega) (by omega) ?_
  refine xj_aload_n (pc := 1095) d_LA_law_1095 rfl rfl ?_
  refine xj_iload_n (pc := 1096) d_LA_law_1096 rfl rfl ?_
  refine xj_iconst (pc := 1097) (v := 2) d_LA_law_1097 (by decide) ?_
  refine xj_iadd (pc := 1098) d_LA_law_1098 ?_
  refine xj_sld (pc := 1099) (j := i + 2) d_LA_law_1099 (n_addN i 2) (by omega) (by omega) ?_
  refine xj_aload_n (pc := 1100) d_LA_law_1100 rfl rfl ?_
  refine xj_iload_n (pc := 1101) d_LA_law_1101 rfl rfl ?_
  refine xj_iconst (pc := 1102) (v := 3) d_LA_law_1102 (by decide) ?_
  refine xj_iadd (pc := 1103) d_LA_law_1103 ?_
  refine xj_sld (pc := 1104) (j := i + 3) d_LA_law_1104 (n_addN i 3) (by omega) (by omega) ?_
  refine xj_callV (pc := 1105) d_LA_law_1105 ml_LA_103 ok_MO_space (t_MO_space hI1) rfl rfl rfl rfl rfl (Nat.le_of_ble_eq_true rfl) (by decide) ?_
  rintro rv I2 F2 ⟨rfl, gI, gN⟩
  dsimp only [Option.toList, List.cons_append, List.nil_append]
  refine xj_icmp_eq (pc := 1108) (tgt := 1344) d_LA_law_1108 (by decide) (fun h1108 => ?_) (fun h1108 => absurd (rfl) h1108)
  exact kk _ I2 F2 (oks_space hO) (nm_ci gN gC) gI
theorem lc_words {S : XSt} {I : XI} {F : XF} {P : XP} {L i : Nat} {xs : Nat → Int32} (hL : L ≤ 3072) (hi : i + 6 ≤ L) (hO : OKS S) (hC : CI I F S) (hI : MI I F S) (kk : ∀ (S2 : XSt) (I2 : XI) (F2 : XF), OKS S2 → CI I2 F2 S2 → MI I2 F2 S2 → XJ (some (L, xs)) m_LA_law 1344 [some (.ref 44), some (.ref 24), some (.ref 36), some (.int (nI i))] [] I2 F2 P) : XJ (some (L, xs)) m_LA_law 1113 [some (.ref 44), some (.ref 24), some (.ref 36), some (.int (nI i))] [] I F P := by
  refine xj_aload_n (pc := 1113) d_LA_law_1113 rfl rfl ?_
  refine xj_aload_n (pc := 1114) d_LA_law_1114 rfl rfl ?_
  refine xj_iload_n (pc := 1115) d_LA_law_1115 rfl rfl ?_
  refine xj_iconst (pc := 1116) (v := 1) d_LA_law_1116 (by decide) ?_
  refine xj_iadd (pc := 1117) d_LA_law_1117 ?_
  refine xj_sld (pc := 1118) (j := i + 1) d_LA_law_1118 (n_addN i 1) (by omega) (by omega) ?_
  refine xj_callV (pc := 1119) d_LA_law_1119 ml_LA_104 ok_RD_words (t_RD_words hO hC) rfl rfl rfl rfl rfl (Nat.le_of_ble_eq_true rfl) (by decide) ?_
  rintro rv I1 F1 ⟨rfl, gC, gM⟩
  have hI1 := cm_mi gM hI
  dsimp only [Option.toList, List.cons_append, List.nil_append]
  refine xj_aload_n (pc := 1122) d_LA_law_1122 rfl rfl ?_
  refine xj_aload_n (pc := 1123) d_LA_law_1123 rfl rfl ?_
  refine xj_iload_n (pc := 1124) d_LA_law_1124 rfl rfl ?_
  refine xj_iconst (pc := 1125) (v := 1) d_LA_law_1125 (by decide) ?_
  refine xj_iadd (pc := 1126) d_LA_law_1126 ?_
  refine xj_sld (pc := 1127) (j := i + 1) d_LA_law_1127 (n_addN i 1) (by omega) (by omega) ?_
  refine xj_callV (pc := 1128) d_LA_law_1128 ml_LA_107 ok_MO_words (t_MO_words hI1) rfl rfl rfl rfl rfl (Nat.le_of_ble_eq_true rfl) (by decide) ?_
  rintro rv I2 F2 ⟨rfl, gI, gN⟩
  dsimp only [Option.toList, List.cons_append, List.nil_append]
  refine xj_icmp_eq (pc := 1131) (tgt := 1344) d_LA_law_1131 (by decide) (fun h1131 => ?_) (fun h1131 => absurd (rfl) h1131)
  exact kk _ I2 F2 hO (nm_ci gN gC) gI
theorem lc_word {S : XSt} {I : XI} {F : XF} {P : XP} {L i : Nat} {xs : Nat → Int32} (hL : L ≤ 3072) (hi : i + 6 ≤ L) (hO : OKS S) (hC : CI I F S) (hI : MI I F S) (kk : ∀ (S2 : XSt) (I2 : XI) (F2 : XF), OKS S2 → CI I2 F2 S2 → MI I2 F2 S2 → XJ (some (L, xs)) m_LA_law 1344 [some (.ref 44), some (.ref 24), some (.ref 36), some (.int (nI i))] [] I2 F2 P) : XJ (some (L, xs)) m_LA_law 1136 [some (.ref 44), some (.ref 24), some (.ref 36), some (.int (nI i))] [] I F P := by
  refine xj_aload_n (pc := 1136) d_LA_law_1136 rfl rfl ?_
  refine xj_aload_n (pc := 1137) d_LA_law_1137 rfl rfl ?_
  refine xj_iload_n (pc := 1138) d_LA_law_1138 rfl rfl ?_
  refine xj_iconst (pc := 1139) (v := 1) d_LA_law_1139 (by decide) ?_
  refine xj_iadd (pc := 1140) d_LA_law_1140 ?_
  refine xj_sld (pc := 1141) (j := i + 1) d_LA_law_1141 (n_addN i 1) (by omega) (by omega) ?_
  refine xj_aload_n (pc := 1142) d_LA_law_1142 rfl rfl ?_
  refine xj_iload_n (pc := 1143) d_LA_law_1143 rfl rfl ?_
  refine xj_iconst (pc := 1144) (v := 2) d_LA_law_1144 (by decide) ?_
  refine xj_iadd (pc := 1145) d_LA_law_1145 ?_
  refine xj_sld (pc := 1146) (j := i + 2) d_LA_law_1146 (n_addN i 2) (by omega) (by omega) ?_
  refine xj_aload_n (pc := 1147) d_LA_law_1147 rfl rfl ?_
  refine xj_iload_n (pc := 1148) d_LA_law_1148 rfl rfl ?_
  refine xj_iconst (pc := 1149) (v := 3) d_LA_law_1149 (by decide) ?_
  refine xj_iadd (pc := 1150) d_LA_law_1150 ?_
  refine xj_sld (pc := 1151) (j := i + 3) d_LA_law_1151 (n_addN i 3) (by omega) (by omega) ?_
  refine xj_callV (pc := 1152) d_LA_law_1152 ml_LA_108 ok_RD_word (t_RD_word hO hC) rfl rfl rfl rfl rfl (Nat.le_of_ble_eq_true rfl) (by decide) ?_
  rintro rv I1 F1 ⟨rfl, gC, gM⟩
  have hI1 := cm_mi gM hI
  dsimp only [Option.toList, List.cons_append, List.nil_append]
  refine xj_aload_n (pc := 1155) d_LA_law_1155 rfl rfl ?_
  refine xj_aload_n (pc := 1156) d_LA_law_1156 rfl rfl ?_
  refine xj_iload_n (pc := 1157) d_LA_law_1157 rfl rfl ?_
  refine xj_iconst (pc := 1158) (v := 1) d_LA_law_1158 (by decide) ?_
  refine xj_iadd (pc := 1159) d_LA_law_1159 ?_
  refine xj_sld (pc := 1160) (j := i + 1) d_LA_law_1160 (n_addN i 1) (by omega) (by omega) ?_
  refine xj_aload_n (pc := 1161) d_LA_law_1161 rfl rfl ?_
  refine xj_iload_n (pc := 1162) d_LA_law_1162 rfl rfl ?_
  refine xj_iconst (pc := 1163) (v := 2) d_LA_law_1163 (by decide) ?_
  refine xj_iadd (pc := 1164) d_LA_law_1164 ?_
  refine xj_sld (pc := 1165) (j := i + 2) d_LA_law_1165 (n_addN i 2) (by omega) (by omega) ?_
  refine xj_aload_n (pc := 1166) d_LA_law_1166 rfl rfl ?_
  refine xj_iload_n (pc := 1167) d_LA_law_1167 rfl rfl ?_
  refine xj_iconst (pc := 1168) (v := 3) d_LA_law_1168 (by decide) ?_
  refine xj_iadd (pc := 1169) d_LA_law_1169 ?_
  refine xj_sld (pc := 1170) (j := i + 3) d_LA_law_1170 (n_addN i 3) (by omega) (by omega) ?_
  refine xj_callV (pc := 1171) d_LA_law_1171 ml_LA_111 ok_MO_word (t_MO_word hI1) rfl rfl rfl rfl rfl (Nat.le_of_ble_eq_true rfl) (by decide) ?_
  rintro rv I2 F2 ⟨rfl, gI, gN⟩
  dsimp only [Option.toList, List.cons_append, List.nil_append]
  refine xj_icmp_eq (pc := 1174) (tgt := 1344) d_LA_law_1174 (by decide) (fun h1174 => ?_) (fun h1174 => absurd (rfl) h1174)
  exact kk _ I2 F2 hO (nm_ci gN gC) gI
theorem lc_some {S : XSt} {I : XI} {F : XF} {P : XP} {L i : Nat} {xs : Nat → Int32} (hL : L ≤ 3072) (hi : i + 6 ≤ L) (hO : OKS S) (hC : CI I F S) (hI : MI I F S) (kk : ∀ (S2 : XSt) (I2 : XI) (F2 : XF), OKS S2 → CI I2 F2 S2 → MI I2 F2 S2 → XJ (some (L, xs)) m_LA_law 1344 [some (.ref 44), some (.ref 24), some (.ref 36), some (.int (nI i))] [] I2 F2 P) : XJ (some (L, xs)) m_LA_law 1179 [some (.ref 44), some (.ref 24), some (.ref 36), some (.int (nI i))] [] I F P := by
  by_cases hb : xs (i + 4) = 0
  · refine xj_aload_n (pc := 1179) d_LA_law_1179 rfl rfl ?_
    refine xj_aload_n (pc := 1180) d_LA_law_1180 rfl rfl ?_
    refine xj_iload_n (pc := 1181) d_LA_law_1181 rfl rfl ?_
    refine xj_iconst (pc := 1182) (v := 1) d_LA_law_1182 (by decide) ?_
    refine xj_iadd (pc := 1183) d_LA_law_1183 ?_
    refine xj_sld (pc := 1184) (j := i + 1) d_LA_law_1184 (n_addN i 1) (by omega) (by omega) ?_
    refine xj_aload_n (pc := 1185) d_LA_law_1185 rfl rfl ?_
    refine xj_iload_n (pc := 1186) d_LA_law_1186 rfl rfl ?_
    refine xj_iconst (pc := 1187) (v := 2) d_LA_law_1187 (by decide) ?_
    refine xj_iadd (pc := 1188) d_LA_law_1188 ?_
    refine xj_sld (pc := 1189) (j := i + 2) d_LA_law_1189 (n_addN i 2) (by omega) (by omega) ?_
    refine xj_aload_n (pc := 1190) d_LA_law_1190 rfl rfl ?_
    refine xj_iload_n (pc := 1191) d_LA_law_1191 rfl rfl ?_
    refine xj_iconst (pc := 1192) (v := 3) d_LA_law_1192 (by decide) ?_
    refine xj_iadd (pc := 1193) d_LA_law_1193 ?_
    refine xj_sld (pc := 1194) (j := i + 3) d_LA_law_1194 (n_addN i 3) (by omega) (by omega) ?_
    refine xj_aload_n (pc := 1195) d_LA_law_1195 rfl rfl ?_
    refine xj_iload_n (pc := 1196) d_LA_law_1196 rfl rfl ?_
    refine xj_iconst (pc := 1197) (v := 4) d_LA_law_1197 (by decide) ?_
    refine xj_iadd (pc := 1198) d_LA_law_1198 ?_
    refine xj_sld (pc := 1199) (j := i + 4) d_LA_law_1199 (n_addN i 4) (by omega) (by omega) ?_
    refine xj_if_eq (pc := 1200) (tgt := 1207) d_LA_law_1200 (by decide) (fun h1200 => ?_) (fun h1200 => absurd (hb) h1200)
    refine xj_iconst (pc := 1207) (v := 0) d_LA_law_1207 (by decide) ?_
    refine xj_aload_n (pc := 1208) d_LA_law_1208 rfl rfl ?_
    refine xj_iload_n (pc := 1209) d_LA_law_1209 rfl rfl ?_
    refine xj_iconst (pc := 1210) (v := 5) d_LA_law_1210 (by decide) ?_
    refine xj_iadd (pc := 1211) d_LA_law_1211 ?_
    refine xj_sld (pc := 1212) (j := i + 5) d_LA_law_1212 (n_addN i 5) (by omega) (by omega) ?_
    refine xj_callV (pc := 1213) d_LA_law_1213 ml_LA_112 ok_RD_some (t_RD_some hO hC) rfl rfl rfl rfl rfl (Nat.le_of_ble_eq_true rfl) (by decide) ?_
    rintro rv I1 F1 ⟨rfl, gC, gM⟩
    have hI1 := cm_mi gM hI
    dsimp only [Option.toList, List.cons_append, List.nil_append]
    refine xj_aload_n (pc := 1216) d_LA_law_1216 rfl rfl ?_
    refine xj_aload_n (pc := 1217) d_LA_law_1217 rfl rfl ?_
    refine xj_iload_n (pc := 1218) d_LA_law_1218 rfl rfl ?_
    refine xj_iconst (pc := 1219) (v := 1) d_LA_law_1219 (by decide) ?_
    refine xj_iadd (pc := 1220) d_LA_law_1220 ?_
    refine xj_sld (pc := 1221) (j := i + 1) d_LA_law_1221 (n_addN i 1) (by omega) (by omega) ?_
    refine xj_aload_n (pc := 1222) d_LA_law_1222 rfl rfl ?_
    refine xj_iload_n (pc := 1223) d_LA_law_1223 rfl rfl ?_
    refine xj_iconst (pc := 1224) (v := 2) d_LA_law_1224 (by decide) ?_
    refine xj_iadd (pc := 1225) d_LA_law_1225 ?_
    refine xj_sld (pc := 1226) (j := i + 2) d_LA_law_1226 (n_addN i 2) (by omega) (by omega) ?_
    refine xj_aload_n (pc := 1227) d_LA_law_1227 rfl rfl ?_
    refine xj_iload_n (pc := 1228) d_LA_law_1228 rfl rfl ?_
    refine xj_iconst (pc := 1229) (v := 3) d_LA_law_1229 (by decide) ?_
    refine xj_iadd (pc := 1230) d_LA_law_1230 ?_
    refine xj_sld (pc := 1231) (j := i + 3) d_LA_law_1231 (n_addN i 3) (by omega) (by omega) ?_
    refine xj_aload_n (pc := 1232) d_LA_law_1232 rfl rfl ?_
    refine xj_iload_n (pc := 1233) d_LA_law_1233 rfl rfl ?_
    refine xj_iconst (pc := 1234) (v := 4) d_LA_law_1234 (by decide) ?_
    refine xj_iadd (pc := 1235) d_LA_law_1235 ?_
    refine xj_sld (pc := 1236) (j := i + 4) d_LA_law_1236 (n_addN i 4) (by omega) (by omega) ?_
    refine xj_if_eq (pc := 1237) (tgt := 1244) d_LA_law_1237 (by decide) (fun h1237 => ?_) (fun h1237 => absurd (hb) h1237)
    refine xj_iconst (pc := 1244) (v := 0) d_LA_law_1244 (by decide) ?_
    refine xj_aload_n (pc := 1245) d_LA_law_1245 rfl rfl ?_
    refine xj_iload_n (pc := 1246) d_LA_law_1246 rfl rfl ?_
    refine xj_iconst (pc := 1247) (v := 5) d_LA_law_1247 (by decide) ?_
    refine xj_iadd (pc := 1248) d_LA_law_1248 ?_
    refine xj_sld (pc := 1249) (j := i + 5) d_LA_law_1249 (n_addN i 5) (by omega) (by omega) ?_
    refine xj_callV (pc := 1250) d_LA_law_1250 ml_LA_115 ok_MO_some (t_MO_some hI1) rfl rfl rfl rfl rfl (Nat.le_of_ble_eq_true rfl) (by decide) ?_
    rintro rv I2 F2 ⟨rfl, gI, gN⟩
    dsimp only [Option.toList, List.cons_append, List.nil_append]
    refine xj_icmp_eq (pc := 1253) (tgt := 1344) d_LA_law_1253 (by decide) (fun h1253 => ?_) (fun h1253 => absurd (rfl) h1253)
    exact kk _ I2 F2 (oks_some hO) (nm_ci gN gC) gI
  · refine xj_aload_n (pc := 1179) d_LA_law_1179 rfl rfl ?_
    refine xj_aload_n (pc := 1180) d_LA_law_1180 rfl rfl ?_
    refine xj_iload_n (pc := 1181) d_LA_law_1181 rfl rfl ?_
    refine xj_iconst (pc := 1182) (v := 1) d_LA_law_1182 (by decide) ?_
    refine xj_iadd (pc := 1183) d_LA_law_1183 ?_
    refine xj_sld (pc := 1184) (j := i + 1) d_LA_law_1184 (n_addN i 1) (by omega) (by omega) ?_
    refine xj_aload_n (pc := 1185) d_LA_law_1185 rfl rfl ?_
    refine xj_iload_n (pc := 1186) d_LA_law_1186 rfl rfl ?_
    refine xj_iconst (pc := 1187) (v := 2) d_LA_law_1187 (by decide) ?_
    refine xj_iadd (pc := 1188) d_LA_law_1188 ?_
    refine xj_sld (pc := 1189) (j := i + 2) d_LA_law_1189 (n_addN i 2) (by omega) (by omega) ?_
    refine xj_aload_n (pc := 1190) d_LA_law_1190 rfl rfl ?_
    refine xj_iload_n (pc := 1191) d_LA_law_1191 rfl rfl ?_
    refine xj_iconst (pc := 1192) (v := 3) d_LA_law_1192 (by decide) ?_
    refine xj_iadd (pc := 1193) d_LA_law_1193 ?_
    refine xj_sld (pc := 1194) (j := i + 3) d_LA_law_1194 (n_addN i 3) (by omega) (by omega) ?_
    refine xj_aload_n (pc := 1195) d_LA_law_1195 rfl rfl ?_
    refine xj_iload_n (pc := 1196) d_LA_law_1196 rfl rfl ?_
    refine xj_iconst (pc := 1197) (v := 4) d_LA_law_1197 (by decide) ?_
    refine xj_iadd (pc := 1198) d_LA_law_1198 ?_
    refine xj_sld (pc := 1199) (j := i + 4) d_LA_law_1199 (n_addN i 4) (by omega) (by omega) ?_
    refine xj_if_eq (pc := 1200) (tgt := 1207) d_LA_law_1200 (by decide) (fun h1200 => absurd h1200 (hb)) (fun h1200 => ?_)
    refine xj_iconst (pc := 1203) (v := 1) d_LA_law_1203 (by decide) ?_
    refine xj_goto (pc := 1204) (tgt := 1208) d_LA_law_1204 (by decide) ?_
    refine xj_aload_n (pc := 1208) d_LA_law_1208 rfl rfl ?_
    refine xj_iload_n (pc := 1209) d_LA_law_1209 rfl rfl ?_
    refine xj_iconst (pc := 1210) (v := 5) d_LA_law_1210 (by decide) ?_
    refine xj_iadd (pc := 1211) d_LA_law_1211 ?_
    refine xj_sld (pc := 1212) (j := i + 5) d_LA_law_1212 (n_addN i 5) (by omega) (by omega) ?_
    refine xj_callV (pc := 1213) d_LA_law_1213 ml_LA_112 ok_RD_some (t_RD_some hO hC) rfl rfl rfl rfl rfl (Nat.le_of_ble_eq_true rfl) (by decide) ?_
    rintro rv I1 F1 ⟨rfl, gC, gM⟩
    have hI1 := cm_mi gM hI
    dsimp only [Option.toList, List.cons_append, List.nil_append]
    refine xj_aload_n (pc := 1216) d_LA_law_1216 rfl rfl ?_
    refine xj_aload_n (pc := 1217) d_LA_law_1217 rfl rfl ?_
    refine xj_iload_n (pc := 1218) d_LA_law_1218 rfl rfl ?_
    refine xj_iconst (pc := 1219) (v := 1) d_LA_law_1219 (by decide) ?_
    refine xj_iadd (pc := 1220) d_LA_law_1220 ?_
    refine xj_sld (pc := 1221) (j := i + 1) d_LA_law_1221 (n_addN i 1) (by omega) (by omega) ?_
    refine xj_aload_n (pc := 1222) d_LA_law_1222 rfl rfl ?_
    refine xj_iload_n (pc := 1223) d_LA_law_1223 rfl rfl ?_
    refine xj_iconst (pc := 1224) (v := 2) d_LA_law_1224 (by decide) ?_
    refine xj_iadd (pc := 1225) d_LA_law_1225 ?_
    refine xj_sld (pc := 1226) (j := i + 2) d_LA_law_1226 (n_addN i 2) (by omega) (by omega) ?_
    refine xj_aload_n (pc := 1227) d_LA_law_1227 rfl rfl ?_
    refine xj_iload_n (pc := 1228) d_LA_law_1228 rfl rfl ?_
    refine xj_iconst (pc := 1229) (v := 3) d_LA_law_1229 (by decide) ?_
    refine xj_iadd (pc := 1230) d_LA_law_1230 ?_
    refine xj_sld (pc := 1231) (j := i + 3) d_LA_law_1231 (n_addN i 3) (by omega) (by omega) ?_
    refine xj_aload_n (pc := 1232) d_LA_law_1232 rfl rfl ?_
    refine xj_iload_n (pc := 1233) d_LA_law_1233 rfl rfl ?_
    refine xj_iconst (pc := 1234) (v := 4) d_LA_law_1234 (by decide) ?_
    refine xj_iadd (pc := 1235) d_LA_law_1235 ?_
    refine xj_sld (pc := 1236) (j := i + 4) d_LA_law_1236 (n_addN i 4) (by omega) (by omega) ?_
    refine xj_if_eq (pc := 1237) (tgt := 1244) d_LA_law_1237 (by decide) (fun h1237 => absurd h1237 (hb)) (fun h1237 => ?_)
    refine xj_iconst (pc := 1240) (v := 1) d_LA_law_1240 (by decide) ?_
    refine xj_goto (pc := 1241) (tgt := 1245) d_LA_law_1241 (by decide) ?_
    refine xj_aload_n (pc := 1245) d_LA_law_1245 rfl rfl ?_
    refine xj_iload_n (pc := 1246) d_LA_law_1246 rfl rfl ?_
    refine xj_iconst (pc := 1247) (v := 5) d_LA_law_1247 (by decide) ?_
    refine xj_iadd (pc := 1248) d_LA_law_1248 ?_
    refine xj_sld (pc := 1249) (j := i + 5) d_LA_law_1249 (n_addN i 5) (by omega) (by omega) ?_
    refine xj_callV (pc := 1250) d_LA_law_1250 ml_LA_115 ok_MO_some (t_MO_some hI1) rfl rfl rfl rfl rfl (Nat.le_of_ble_eq_true rfl) (by decide) ?_
    rintro rv I2 F2 ⟨rfl, gI, gN⟩
    dsimp only [Option.toList, List.cons_append, List.nil_append]
    refine xj_icmp_eq (pc := 1253) (tgt := 1344) d_LA_law_1253 (by decide) (fun h1253 => ?_) (fun h1253 => absurd (rfl) h1253)
    exact kk _ I2 F2 (oks_some hO) (nm_ci gN gC) gI
theorem lc_place {S : XSt} {I : XI} {F : XF} {P : XP} {L i : Nat} {xs : Nat → Int32} (hL : L ≤ 3072) (hi : i + 6 ≤ L) (hO : OKS S) (hC : CI I F S) (hI : MI I F S) (kk : ∀ (S2 : XSt) (I2 : XI) (F2 : XF), OKS S2 → CI I2 F2 S2 → MI I2 F2 S2 → XJ (some (L, xs)) m_LA_law 1344 [some (.ref 44), some (.ref 24), some (.ref 36), some (.int (nI i))] [] I2 F2 P) : XJ (some (L, xs)) m_LA_law 1301 [some (.ref 44), some (.ref 24), some (.ref 36), some (.int (nI i))] [] I F P := by
  refine xj_aload_n (pc := 1301) d_LA_law_1301 rfl rfl ?_
  refine xj_aload_n (pc := 1302) d_LA_law_1302 rfl rfl ?_
  refine xj_iload_n (pc := 1303) d_LA_law_1303 rfl rfl ?_
  refine xj_iconst (pc := 1304) (v := 1) d_LA_law_1304 (by decide) ?_
  refine xj_iadd (pc := 1305) d_LA_law_1305 ?_
  refine xj_sld (pc := 1306) (j := i + 1) d_LA_law_1306 (n_addN i 1) (by omega) (by omega) ?_
  refine xj_aload_n (pc := 1307) d_LA_law_1307 rfl rfl ?_
  refine xj_iload_n (pc := 1308) d_LA_law_1308 rfl rfl ?_
  refine xj_iconst (pc := 1309) (v := 2) d_LA_law_1309 (by decide) ?_
  refine xj_iadd (pc := 1310) d_LA_law_1310 ?_
  refine xj_sld (pc := 1311) (j := i + 2) d_LA_law_1311 (n_addN i 2) (by omega) (by omega) ?_
  refine xj_aload_n (pc := 1312) d_LA_law_1312 rfl rfl ?_
  refine xj_iload_n (pc := 1313) d_LA_law_1313 rfl rfl ?_
  refine xj_iconst (pc := 1314) (v := 3) d_LA_law_1314 (by decide) ?_
  refine xj_iadd (pc := 1315) d_LA_law_1315 ?_
  refine xj_sld (pc := 1316) (j := i + 3) d_LA_law_1316 (n_addN i 3) (by omega) (by omega) ?_
  refine xj_callV (pc := 1317) d_LA_law_1317 ml_LA_120 ok_RD_place (t_RD_place hO hC) rfl rfl rfl rfl rfl (Nat.le_of_ble_eq_true rfl) (by decide) ?_
  rintro rv I1 F1 ⟨rfl, gC, gM⟩
  have hI1 := cm_mi gM hI
  dsimp only [Option.toList, List.cons_append, List.nil_append]
  refine xj_aload_n (pc := 1320) d_LA_law_1320 rfl rfl ?_
  refine xj_aload_n (pc := 1321) d_LA_law_1321 rfl rfl ?_
  refine xj_iload_n (pc := 1322) d_LA_law_1322 rfl rfl ?_
  refine xj_iconst (pc := 1323) (v := 1) d_LA_law_1323 (by decide) ?_
  refine xj_iadd (pc := 1324) d_LA_law_1324 ?_
  refine xj_sld (pc := 1325) (j := i + 1) d_LA_law_1325 (n_addN i 1) (by omega) (by omega) ?_
  refine xj_aload_n (pc := 1326) d_LA_law_1326 rfl rfl ?_
  refine xj_iload_n (pc := 1327) d_LA_law_1327 rfl rfl ?_
  refine xj_iconst (pc := 1328) (v := 2) d_LA_law_1328 (by decide) ?_
  refine xj_iadd (pc := 1329) d_LA_law_1329 ?_
  refine xj_sld (pc := 1330) (j := i + 2) d_LA_law_1330 (n_addN i 2) (by omega) (by omega) ?_
  refine xj_aload_n (pc := 1331) d_LA_law_1331 rfl rfl ?_
  refine xj_iload_n (pc := 1332) d_LA_law_1332 rfl rfl ?_
  refine xj_iconst (pc := 1333) (v := 3) d_LA_law_1333 (by decide) ?_
  refine xj_iadd (pc := 1334) d_LA_law_1334 ?_
  refine xj_sld (pc := 1335) (j := i + 3) d_LA_law_1335 (n_addN i 3) (by omega) (by omega) ?_
  refine xj_callV (pc := 1336) d_LA_law_1336 ml_LA_123 ok_MO_place (t_MO_place hI1) rfl rfl rfl rfl rfl (Nat.le_of_ble_eq_true rfl) (by decide) ?_
  rintro rv I2 F2 ⟨rfl, gI, gN⟩
  dsimp only [Option.toList, List.cons_append, List.nil_append]
  refine xj_icmp_eq (pc := 1339) (tgt := 1344) d_LA_law_1339 (by decide) (fun h1339 => ?_) (fun h1339 => absurd (rfl) h1339)
  exact kk _ I2 F2 hO (nm_ci gN gC) gI
