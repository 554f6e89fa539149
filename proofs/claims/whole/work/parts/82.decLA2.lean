theorem d_LA_law_738 : decode (xcode m_LA_law) 738 = .ok (.if_icmp .eq 606, 3) := by decide +kernel
theorem d_LA_law_741 : decode (xcode m_LA_law) 741 = .ok (.iconst 0, 1) := by decide +kernel
theorem d_LA_law_742 : decode (xcode m_LA_law) 742 = .ok (.ireturn, 1) := by decide +kernel
theorem d_LA_law_743 : decode (xcode m_LA_law) 743 = .ok (.aload_n 1, 1) := by decide +kernel
theorem d_LA_law_744 : decode (xcode m_LA_law) 744 = .ok (.aload_n 0, 1) := by decide +kernel
theorem d_LA_law_745 : decode (xcode m_LA_law) 745 = .ok (.iload_n 3, 1) := by decide +kernel
theorem d_LA_law_746 : decode (xcode m_LA_law) 746 = .ok (.iconst 1, 1) := by decide +kernel
theorem d_LA_law_747 : decode (xcode m_LA_law) 747 = .ok (.iadd, 1) := by decide +kernel
theorem d_LA_law_748 : decode (xcode m_LA_law) 748 = .ok (.iaload, 1) := by decide +kernel
theorem d_LA_law_749 : decode (xcode m_LA_law) 749 = .ok (.aload_n 0, 1) := by decide +kernel
theorem d_LA_law_750 : decode (xcode m_LA_law) 750 = .ok (.iload_n 3, 1) := by decide +kernel
theorem d_LA_law_751 : decode (xcode m_LA_law) 751 = .ok (.iconst 2, 1) := by decide +kernel
theorem d_LA_law_752 : decode (xcode m_LA_law) 752 = .ok (.iadd, 1) := by decide +kernel
theorem d_LA_law_753 : decode (xcode m_LA_law) 753 = .ok (.iaload, 1) := by decide +kernel
theorem d_LA_law_754 : decode (xcode m_LA_law) 754 = .ok (.aload_n 0, 1) := by decide +kernel
theorem d_LA_law_755 : decode (xcode m_LA_law) 755 = .ok (.iload_n 3, 1) := by decide +kernel
theorem d_LA_law_756 : decode (xcode m_LA_law) 756 = .ok (.iconst 3, 1) := by decide +kernel
theorem d_LA_law_757 : decode (xcode m_LA_law) 757 = .ok (.iadd, 1) := by decide +kernel
theorem d_LA_law_758 : decode (xcode m_LA_law) 758 = .ok (.iaload, 1) := by decide +kernel
theorem d_LA_law_759 : decode (xcode m_LA_law) 759 = .ok (.aload_n 0, 1) := by decide +kernel
theorem d_LA_law_760 : decode (xcode m_LA_law) 760 = .ok (.iload_n 3, 1) := by decide +kernel
theorem d_LA_law_761 : decode (xcode m_LA_law) 761 = .ok (.iconst 4, 1) := by decide +kernel
theorem d_LA_law_762 : decode (xcode m_LA_law) 762 = .ok (.iadd, 1) := by decide +kernel
theorem d_LA_law_763 : decode (xcode m_LA_law) 763 = .ok (.iaload, 1) := by decide +kernel
theorem d_LA_law_764 : decode (xcode m_LA_law) 764 = .ok (.invokevirtual 72, 3) := by decide +kernel
theorem d_LA_law_767 : decode (xcode m_LA_law) 767 = .ok (.aload_n 2, 1) := by decide +kernel
theorem d_LA_law_768 : decode (xcode m_LA_law) 768 = .ok (.aload_n 0, 1) := by decide +kernel
theorem d_LA_law_769 : decode (xcode m_LA_law) 769 = .ok (.iload_n 3, 1) := by decide +kernel
theorem d_LA_law_770 : decode (xcode m_LA_law) 770 = .ok (.iconst 1, 1) := by decide +kernel
theorem d_LA_law_771 : decode (xcode m_LA_law) 771 = .ok (.iadd, 1) := by decide +kernel
theorem d_LA_law_772 : decode (xcode m_LA_law) 772 = .ok (.iaload, 1) := by decide +kernel
theorem d_LA_law_773 : decode (xcode m_LA_law) 773 = .ok (.aload_n 0, 1) := by decide +kernel
theorem d_LA_law_774 : decode (xcode m_LA_law) 774 = .ok (.iload_n 3, 1) := by decide +kernel
theorem d_LA_law_775 : decode (xcode m_LA_law) 775 = .ok (.iconst 2, 1) := by decide +kernel
theorem d_LA_law_776 : decode (xcode m_LA_law) 776 = .ok (.iadd, 1) := by decide +kernel
theorem d_LA_law_777 : decode (xcode m_LA_law) 777 = .ok (.iaload, 1) := by decide +kernel
theorem d_LA_law_778 : decode (xcode m_LA_law) 778 = .ok (.aload_n 0, 1) := by decide +kernel
theorem d_LA_law_779 : decode (xcode m_LA_law) 779 = .ok (.iload_n 3, 1) := by decide +kernel
theorem d_LA_law_780 : decode (xcode m_LA_law) 780 = .ok (.iconst 3, 1) := by decide +kernel
theorem d_LA_law_781 : decode (xcode m_LA_law) 781 = .ok (.iadd, 1) := by decide +kernel
theorem d_LA_law_782 : decode (xcode m_LA_law) 782 = .ok (.iaload, 1) := by decide +kernel
theorem d_LA_law_783 : decode (xcode m_LA_law) 783 = .ok (.aload_n 0, 1) := by decide +kernel
theorem d_LA_law_784 : decode (xcode m_LA_law) 784 = .ok (.iload_n 3, 1) := by decide +kernel
theorem d_LA_law_785 : decode (xcode m_LA_law) 785 = .ok (.iconst 4, 1) := by decide +kernel
theorem d_LA_law_786 : decode (xcode m_LA_law) 786 = .ok (.iadd, 1) := by decide +kernel
theorem d_LA_law_787 : decode (xcode m_LA_law) 787 = .ok (.iaload, 1) := by decide +kernel
theorem d_LA_law_788 : decode (xcode m_LA_law) 788 = .ok (.invokevirtual 75, 3) := by decide +kernel
theorem d_LA_law_791 : decode (xcode m_LA_law) 791 = .ok (.if_icmp .eq 553, 3) := by decide +kernel
theorem d_LA_law_794 : decode (xcode m_LA_law) 794 = .ok (.iconst 0, 1) := by decide +kernel
theorem d_LA_law_795 : decode (xcode m_LA_law) 795 = .ok (.ireturn, 1) := by decide +kernel
theorem d_LA_law_796 : decode (xcode m_LA_law) 796 = .ok (.aload_n 1, 1) := by decide +kernel
theorem d_LA_law_797 : decode (xcode m_LA_law) 797 = .ok (.aload_n 0, 1) := by decide +kernel
theorem d_LA_law_798 : decode (xcode m_LA_law) 798 = .ok (.iload_n 3, 1) := by decide +kernel
theorem d_LA_law_799 : decode (xcode m_LA_law) 799 = .ok (.iconst 1, 1) := by decide +kernel
theorem d_LA_law_800 : decode (xcode m_LA_law) 800 = .ok (.iadd, 1) := by decide +kernel
theorem d_LA_law_801 : decode (xcode m_LA_law) 801 = .ok (.iaload, 1) := by decide +kernel
theorem d_LA_law_802 : decode (xcode m_LA_law) 802 = .ok (.aload_n 0, 1) := by decide +kernel
theorem d_LA_law_803 : decode (xcode m_LA_law) 803 = .ok (.iload_n 3, 1) := by decide +kernel
theorem d_LA_law_804 : decode (xcode m_LA_law) 804 = .ok (.iconst 2, 1) := by decide +kernel
theorem d_LA_law_805 : decode (xcode m_LA_law) 805 = .ok (.iadd, 1) := by decide +kernel
theorem d_LA_law_806 : decode (xcode m_LA_law) 806 = .ok (.iaload, 1) := by decide +kernel
theorem d_LA_law_807 : decode (xcode m_LA_law) 807 = .ok (.invokevirtual 76, 3) := by decide +kernel
theorem d_LA_law_810 : decode (xcode m_LA_law) 810 = .ok (.aload_n 2, 1) := by decide +kernel
theorem d_LA_law_811 : decode (xcode m_LA_law) 811 = .ok (.aload_n 0, 1) := by decide +kernel
theorem d_LA_law_812 : decode (xcode m_LA_law) 812 = .ok (.iload_n 3, 1) := by decide +kernel
theorem d_LA_law_813 : decode (xcode m_LA_law) 813 = .ok (.iconst 1, 1) := by decide +kernel
theorem d_LA_law_814 : decode (xcode m_LA_law) 814 = .ok (.iadd, 1) := by decide +kernel
theorem d_LA_law_815 : decode (xcode m_LA_law) 815 = .ok (.iaload, 1) := by decide +kernel
theorem d_LA_law_816 : decode (xcode m_LA_law) 816 = .ok (.aload_n 0, 1) := by decide +kernel
theorem d_LA_law_817 : decode (xcode m_LA_law) 817 = .ok (.iload_n 3, 1) := by decide +kernel
theorem d_LA_law_818 : decode (xcode m_LA_law) 818 = .ok (.iconst 2, 1) := by decide +kernel
theorem d_LA_law_819 : decode (xcode m_LA_law) 819 = .ok (.iadd, 1) := by decide +kernel
theorem d_LA_law_820 : decode (xcode m_LA_law) 820 = .ok (.iaload, 1) := by decide +kernel
theorem d_LA_law_821 : decode (xcode m_LA_law) 821 = .ok (.invokevirtual 79, 3) := by decide +kernel
theorem d_LA_law_824 : decode (xcode m_LA_law) 824 = .ok (.if_icmp .eq 520, 3) := by decide +kernel
theorem d_LA_law_827 : decode (xcode m_LA_law) 827 = .ok (.iconst 0, 1) := by decide +kernel
theorem d_LA_law_828 : decode (xcode m_LA_law) 828 = .ok (.ireturn, 1) := by decide +kernel
theorem d_LA_law_829 : decode (xcode m_LA_law) 829 = .ok (.aload_n 1, 1) := by decide +kernel
theorem d_LA_law_830 : decode (xcode m_LA_law) 830 = .ok (.aload_n 0, 1) := by decide +kernel
theorem d_LA_law_831 : decode (xcode m_LA_law) 831 = .ok (.iload_n 3, 1) := by decide +kernel
theorem d_LA_law_832 : decode (xcode m_LA_law) 832 = .ok (.iconst 1, 1) := by decide +kernel
theorem d_LA_law_833 : decode (xcode m_LA_law) 833 = .ok (.iadd, 1) := by decide +kernel
theorem d_LA_law_834 : decode (xcode m_LA_law) 834 = .ok (.iaload, 1) := by decide +kernel
theorem d_LA_law_835 : decode (xcode m_LA_law) 835 = .ok (.aload_n 0, 1) := by decide +kernel
theorem d_LA_law_836 : decode (xcode m_LA_law) 836 = .ok (.iload_n 3, 1) := by decide +kernel
theorem d_LA_law_837 : decode (xcode m_LA_law) 837 = .ok (.iconst 2, 1) := by decide +kernel
theorem d_LA_law_838 : decode (xcode m_LA_law) 838 = .ok (.iadd, 1) := by decide +kernel
theorem d_LA_law_839 : decode (xcode m_LA_law) 839 = .ok (.iaload, 1) := by decide +kernel
theorem d_LA_law_840 : decode (xcode m_LA_law) 840 = .ok (.invokevirtual 80, 3) := by decide +kernel
theorem d_LA_law_843 : decode (xcode m_LA_law) 843 = .ok (.aload_n 2, 1) := by decide +kernel
theorem d_LA_law_844 : decode (xcode m_LA_law) 844 = .ok (.aload_n 0, 1) := by decide +kernel
theorem d_LA_law_845 : decode (xcode m_LA_law) 845 = .ok (.iload_n 3, 1) := by decide +kernel
theorem d_LA_law_846 : decode (xcode m_LA_law) 846 = .ok (.iconst 1, 1) := by decide +kernel
theorem d_LA_law_847 : decode (xcode m_LA_law) 847 = .ok (.iadd, 1) := by decide +kernel
theorem d_LA_law_848 : decode (xcode m_LA_law) 848 = .ok (.iaload, 1) := by decide +kernel
theorem d_LA_law_849 : decode (xcode m_LA_law) 849 = .ok (.aload_n 0, 1) := by decide +kernel
theorem d_LA_law_850 : decode (xcode m_LA_law) 850 = .ok (.iload_n 3, 1) := by decide +kernel
theorem d_LA_law_851 : decode (xcode m_LA_law) 851 = .ok (.iconst 2, 1) := by decide +kernel
theorem d_LA_law_852 : decode (xcode m_LA_law) 852 = .ok (.iadd, 1) := by decide +kernel
theorem d_LA_law_853 : decode (xcode m_LA_law) 853 = .ok (.iaload, 1) := by decide +kernel
theorem d_LA_law_854 : decode (xcode m_LA_law) 854 = .ok (.invokevirtual 83, 3) := by decide +kernel
theorem d_LA_law_857 : decode (xcode m_LA_law) 857 = .ok (.if_icmp .eq 487, 3) := by decide +kernel
theorem d_LA_law_860 : decode (xcode m_LA_law) 860 = .ok (.iconst 0, 1) := by decide +kernel
theorem d_LA_law_861 : decode (xcode m_LA_law) 861 = .ok (.ireturn, 1) := by decide +kernel
theorem d_LA_law_862 : decode (xcode m_LA_law) 862 = .ok (.aload_n 1, 1) := by decide +kernel
theorem d_LA_law_863 : decode (xcode m_LA_law) 863 = .ok (.aload_n 0, 1) := by decide +kernel
theorem d_LA_law_864 : decode (xcode m_LA_law) 864 = .ok (.iload_n 3, 1) := by decide +kernel
theorem d_LA_law_865 : decode (xcode m_LA_law) 865 = .ok (.iconst 1, 1) := by decide +kernel
theorem d_LA_law_866 : decode (xcode m_LA_law) 866 = .ok (.iadd, 1) := by decide +kernel
theorem d_LA_law_867 : decode (xcode m_LA_law) 867 = .ok (.iaload, 1) := by decide +kernel
theorem d_LA_law_868 : decode (xcode m_LA_law) 868 = .ok (.aload_n 0, 1) := by decide +kernel
theorem d_LA_law_869 : decode (xcode m_LA_law) 869 = .ok (.iload_n 3, 1) := by decide +kernel
theorem d_LA_law_870 : decode (xcode m_LA_law) 870 = .ok (.iconst 2, 1) := by decide +kernel
theorem d_LA_law_871 : decode (xcode m_LA_law) 871 = .ok (.iadd, 1) := by decide +kernel
theorem d_LA_law_872 : decode (xcode m_LA_law) 872 = .ok (.iaload, 1) := by decide +kernel
theorem d_LA_law_873 : decode (xcode m_LA_law) 873 = .ok (.aload_n 0, 1) := by decide +kernel
theorem d_LA_law_874 : decode (xcode m_LA_law) 874 = .ok (.iload_n 3, 1) := by decide +kernel
theorem d_LA_law_875 : decode (xcode m_LA_law) 875 = .ok (.iconst 3, 1) := by decide +kernel
theorem d_LA_law_876 : decode (xcode m_LA_law) 876 = .ok (.iadd, 1) := by decide +kernel
theorem d_LA_law_877 : decode (xcode m_LA_law) 877 = .ok (.iaload, 1) := by decide +kernel
theorem d_LA_law_878 : decode (xcode m_LA_law) 878 = .ok (.invokevirtual 84, 3) := by decide +kernel
theorem d_LA_law_881 : decode (xcode m_LA_law) 881 = .ok (.aload_n 2, 1) := by decide +kernel
theorem d_LA_law_882 : decode (xcode m_LA_law) 882 = .ok (.aload_n 0, 1) := by decide +kernel
theorem d_LA_law_883 : decode (xcode m_LA_law) 883 = .ok (.iload_n 3, 1) := by decide +kernel
theorem d_LA_law_884 : decode (xcode m_LA_law) 884 = .ok (.iconst 1, 1) := by decide +kernel
theorem d_LA_law_885 : decode (xcode m_LA_law) 885 = .ok (.iadd, 1) := by decide +kernel
theorem d_LA_law_886 : decode (xcode m_LA_law) 886 = .ok (.iaload, 1) := by decide +kernel
theorem d_LA_law_887 : decode (xcode m_LA_law) 887 = .ok (.aload_n 0, 1) := by decide +kernel
theorem d_LA_law_888 : decode (xcode m_LA_law) 888 = .ok (.iload_n 3, 1) := by decide +kernel
theorem d_LA_law_889 : decode (xcode m_LA_law) 889 = .ok (.iconst 2, 1) := by decide +kernel
theorem d_LA_law_890 : decode (xcode m_LA_law) 890 = .ok (.iadd, 1) := by decide +kernel
theorem d_LA_law_891 : decode (xcode m_LA_law) 891 = .ok (.iaload, 1) := by decide +kernel
theorem d_LA_law_892 : decode (xcode m_LA_law) 892 = .ok (.aload_n 0, 1) := by decide +kernel
theorem d_LA_law_893 : decode (xcode m_LA_law) 893 = .ok (.iload_n 3, 1) := by decide +kernel
theorem d_LA_law_894 : decode (xcode m_LA_law) 894 = .ok (.iconst 3, 1) := by decide +kernel
theorem d_LA_law_895 : decode (xcode m_LA_law) 895 = .ok (.iadd, 1) := by decide +kernel
theorem d_LA_law_896 : decode (xcode m_LA_law) 896 = .ok (.iaload, 1) := by decide +kernel
theorem d_LA_law_897 : decode (xcode m_LA_law) 897 = .ok (.invokevirtual 87, 3) := by decide +kernel
theorem d_LA_law_900 : decode (xcode m_LA_law) 900 = .ok (.if_icmp .eq 444, 3) := by decide +kernel
theorem d_LA_law_903 : decode (xcode m_LA_law) 903 = .ok (.iconst 0, 1) := by decide +kernel
theorem d_LA_law_904 : decode (xcode m_LA_law) 904 = .ok (.ireturn, 1) := by decide +kernel
theorem d_LA_law_905 : decode (xcode m_LA_law) 905 = .ok (.aload_n 1, 1) := by decide +kernel
theorem d_LA_law_906 : decode (xcode m_LA_law) 906 = .ok (.aload_n 0, 1) := by decide +kernel
theorem d_LA_law_907 : decode (xcode m_LA_law) 907 = .ok (.iload_n 3, 1) := by decide +kernel
theorem d_LA_law_908 : decode (xcode m_LA_law) 908 = .ok (.iconst 1, 1) := by decide +kernel
theorem d_LA_law_909 : decode (xcode m_LA_law) 909 = .ok (.iadd, 1) := by decide +kernel
theorem d_LA_law_910 : decode (xcode m_LA_law) 910 = .ok (.iaload, 1) := by decide +kernel
theorem d_LA_law_911 : decode (xcode m_LA_law) 911 = .ok (.aload_n 0, 1) := by decide +kernel
theorem d_LA_law_912 : decode (xcode m_LA_law) 912 = .ok (.iload_n 3, 1) := by decide +kernel
theorem d_LA_law_913 : decode (xcode m_LA_law) 913 = .ok (.iconst 2, 1) := by decide +kernel
theorem d_LA_law_914 : decode (xcode m_LA_law) 914 = .ok (.iadd, 1) := by decide +kernel
theorem d_LA_law_915 : decode (xcode m_LA_law) 915 = .ok (.iaload, 1) := by decide +kernel
theorem d_LA_law_916 : decode (xcode m_LA_law) 916 = .ok (.aload_n 0, 1) := by decide +kernel
theorem d_LA_law_917 : decode (xcode m_LA_law) 917 = .ok (.iload_n 3, 1) := by decide +kernel
theorem d_LA_law_918 : decode (xcode m_LA_law) 918 = .ok (.iconst 3, 1) := by decide +kernel
theorem d_LA_law_919 : decode (xcode m_LA_law) 919 = .ok (.iadd, 1) := by decide +kernel
theorem d_LA_law_920 : decode (xcode m_LA_law) 920 = .ok (.iaload, 1) := by decide +kernel
theorem d_LA_law_921 : decode (xcode m_LA_law) 921 = .ok (.invokevirtual 88, 3) := by decide +kernel
theorem d_LA_law_924 : decode (xcode m_LA_law) 924 = .ok (.aload_n 2, 1) := by decide +kernel
theorem d_LA_law_925 : decode (xcode m_LA_law) 925 = .ok (.aload_n 0, 1) := by decide +kernel
theorem d_LA_law_926 : decode (xcode m_LA_law) 926 = .ok (.iload_n 3, 1) := by decide +kernel
theorem d_LA_law_927 : decode (xcode m_LA_law) 927 = .ok (.iconst 1, 1) := by decide +kernel
theorem d_LA_law_928 : decode (xcode m_LA_law) 928 = .ok (.iadd, 1) := by decide +kernel
theorem d_LA_law_929 : decode (xcode m_LA_law) 929 = .ok (.iaload, 1) := by decide +kernel
theorem d_LA_law_930 : decode (xcode m_LA_law) 930 = .ok (.aload_n 0, 1) := by decide +kernel
theorem d_LA_law_931 : decode (xcode m_LA_law) 931 = .ok (.iload_n 3, 1) := by decide +kernel
theorem d_LA_law_932 : decode (xcode m_LA_law) 932 = .ok (.iconst 2, 1) := by decide +kernel
theorem d_LA_law_933 : decode (xcode m_LA_law) 933 = .ok (.iadd, 1) := by decide +kernel
theorem d_LA_law_934 : decode (xcode m_LA_law) 934 = .ok (.iaload, 1) := by decide +kernel
theorem d_LA_law_935 : decode (xcode m_LA_law) 935 = .ok (.aload_n 0, 1) := by decide +kernel
theorem d_LA_law_936 : decode (xcode m_LA_law) 936 = .ok (.iload_n 3, 1) := by decide +kernel
theorem d_LA_law_937 : decode (xcode m_LA_law) 937 = .ok (.iconst 3, 1) := by decide +kernel
theorem d_LA_law_938 : decode (xcode m_LA_law) 938 = .ok (.iadd, 1) := by decide +kernel
theorem d_LA_law_939 : decode (xcode m_LA_law) 939 = .ok (.iaload, 1) := by decide +kernel
theorem d_LA_law_940 : decode (xcode m_LA_law) 940 = .ok (.invokevirtual 91, 3) := by decide +kernel
theorem d_LA_law_943 : decode (xcode m_LA_law) 943 = .ok (.if_icmp .eq 401, 3) := by decide +kernel
theorem d_LA_law_946 : decode (xcode m_LA_law) 946 = .ok (.iconst 0, 1) := by decide +kernel
theorem d_LA_law_947 : decode (xcode m_LA_law) 947 = .ok (.ireturn, 1) := by decide +kernel
theorem d_LA_law_948 : decode (xcode m_LA_law) 948 = .ok (.aload_n 1, 1) := by decide +kernel
theorem d_LA_law_949 : decode (xcode m_LA_law) 949 = .ok (.aload_n 0, 1) := by decide +kernel
theorem d_LA_law_950 : decode (xcode m_LA_law) 950 = .ok (.iload_n 3, 1) := by decide +kernel
theorem d_LA_law_951 : decode (xcode m_LA_law) 951 = .ok (.iconst 1, 1) := by decide +kernel
theorem d_LA_law_952 : decode (xcode m_LA_law) 952 = .ok (.iadd, 1) := by decide +kernel
theorem d_LA_law_953 : decode (xcode m_LA_law) 953 = .ok (.iaload, 1) := by decide +kernel
theorem d_LA_law_954 : decode (xcode m_LA_law) 954 = .ok (.aload_n 0, 1) := by decide +kernel
theorem d_LA_law_955 : decode (xcode m_LA_law) 955 = .ok (.iload_n 3, 1) := by decide +kernel
theorem d_LA_law_956 : decode (xcode m_LA_law) 956 = .ok (.iconst 2, 1) := by decide +kernel
theorem d_LA_law_957 : decode (xcode m_LA_law) 957 = .ok (.iadd, 1) := by decide +kernel
theorem d_LA_law_958 : decode (xcode m_LA_law) 958 = .ok (.iaload, 1) := by decide +kernel
theorem d_LA_law_959 : decode (xcode m_LA_law) 959 = .ok (.aload_n 0, 1) := by decide +kernel
theorem d_LA_law_960 : decode (xcode m_LA_law) 960 = .ok (.iload_n 3, 1) := by decide +kernel
theorem d_LA_law_961 : decode (xcode m_LA_law) 961 = .ok (.iconst 3, 1) := by decide +kernel
theorem d_LA_law_962 : decode (xcode m_LA_law) 962 = .ok (.iadd, 1) := by decide +kernel
theorem d_LA_law_963 : decode (xcode m_LA_law) 963 = .ok (.iaload, 1) := by decide +kernel
theorem d_LA_law_964 : decode (xcode m_LA_law) 964 = .ok (.aload_n 0, 1) := by decide +kernel
theorem d_LA_law_965 : decode (xcode m_LA_law) 965 = .ok (.iload_n 3, 1) := by decide +kernel
theorem d_LA_law_966 : decode (xcode m_LA_law) 966 = .ok (.iconst 4, 1) := by decide +kernel
theorem d_LA_law_967 : decode (xcode m_LA_law) 967 = .ok (.iadd, 1) := by decide +kernel
theorem d_LA_law_968 : decode (xcode m_LA_law) 968 = .ok (.iaload, 1) := by decide +kernel
theorem d_LA_law_969 : decode (xcode m_LA_law) 969 = .ok (.invokevirtual 92, 3) := by decide +kernel
theorem d_LA_law_972 : decode (xcode m_LA_law) 972 = .ok (.aload_n 2, 1) := by decide +kernel
theorem d_LA_law_973 : decode (xcode m_LA_law) 973 = .ok (.aload_n 0, 1) := by decide +kernel
theorem d_LA_law_974 : decode (xcode m_LA_law) 974 = .ok (.iload_n 3, 1) := by decide +kernel
theorem d_LA_law_975 : decode (xcode m_LA_law) 975 = .ok (.iconst 1, 1) := by decide +kernel
theorem d_LA_law_976 : decode (xcode m_LA_law) 976 = .ok (.iadd, 1) := by decide +kernel
theorem d_LA_law_977 : decode (xcode m_LA_law) 977 = .ok (.iaload, 1) := by decide +kernel
theorem d_LA_law_978 : decode (xcode m_LA_law) 978 = .ok (.aload_n 0, 1) := by decide +kernel
theorem d_LA_law_979 : decode (xcode m_LA_law) 979 = .ok (.iload_n 3, 1) := by decide +kernel
theorem d_LA_law_980 : decode (xcode m_LA_law) 980 = .ok (.iconst 2, 1) := by decide +kernel
theorem d_LA_law_981 : decode (xcode m_LA_law) 981 = .ok (.iadd, 1) := by decide +kernel
theorem d_LA_law_982 : decode (xcode m_LA_law) 982 = .ok (.iaload, 1) := by decide +kernel
theorem d_LA_law_983 : decode (xcode m_LA_law) 983 = .ok (.aload_n 0, 1) := by decide +kernel
theorem d_LA_law_984 : decode (xcode m_LA_law) 984 = .ok (.iload_n 3, 1) := by decide +kernel
theorem d_LA_law_985 : decode (xcode m_LA_law) 985 = .ok (.iconst 3, 1) := by decide +kernel
theorem d_LA_law_986 : decode (xcode m_LA_law) 986 = .ok (.iadd, 1) := by decide +kernel
theorem d_LA_law_987 : decode (xcode m_LA_law) 987 = .ok (.iaload, 1) := by decide +kernel
theorem d_LA_law_988 : decode (xcode m_LA_law) 988 = .ok (.aload_n 0, 1) := by decide +kernel
theorem d_LA_law_989 : decode (xcode m_LA_law) 989 = .ok (.iload_n 3, 1) := by decide +kernel
theorem d_LA_law_990 : decode (xcode m_LA_law) 990 = .ok (.iconst 4, 1) := by decide +kernel
theorem d_LA_law_991 : decode (xcode m_LA_law) 991 = .ok (.iadd, 1) := by decide +kernel
theorem d_LA_law_992 : decode (xcode m_LA_law) 992 = .ok (.iaload, 1) := by decide +kernel
theorem d_LA_law_993 : decode (xcode m_LA_law) 993 = .ok (.invokevirtual 95, 3) := by decide +kernel
theorem d_LA_law_996 : decode (xcode m_LA_law) 996 = .ok (.if_icmp .eq 348, 3) := by decide +kernel
theorem d_LA_law_999 : decode (xcode m_LA_law) 999 = .ok (.iconst 0, 1) := by decide +kernel
theorem d_LA_law_1000 : decode (xcode m_LA_law) 1000 = .ok (.ireturn, 1) := by decide +kernel
theorem d_LA_law_1001 : decode (xcode m_LA_law) 1001 = .ok (.aload_n 1, 1) := by decide +kernel
theorem d_LA_law_1002 : decode (xcode m_LA_law) 1002 = .ok (.aload_n 0, 1) := by decide +kernel
theorem d_LA_law_1003 : decode (xcode m_LA_law) 1003 = .ok (.iload_n 3, 1) := by decide +kernel
theorem d_LA_law_1004 : decode (xcode m_LA_law) 1004 = .ok (.iconst 1, 1) := by decide +kernel
theorem d_LA_law_1005 : decode (xcode m_LA_law) 1005 = .ok (.iadd, 1) := by decide +kernel
theorem d_LA_law_1006 : decode (xcode m_LA_law) 1006 = .ok (.iaload, 1) := by decide +kernel
theorem d_LA_law_1007 : decode (xcode m_LA_law) 1007 = .ok (.aload_n 0, 1) := by decide +kernel
theorem d_LA_law_1008 : decode (xcode m_LA_law) 1008 = .ok (.iload_n 3, 1) := by decide +kernel
theorem d_LA_law_1009 : decode (xcode m_LA_law) 1009 = .ok (.iconst 2, 1) := by decide +kernel
theorem d_LA_law_1010 : decode (xcode m_LA_law) 1010 = .ok (.iadd, 1) := by decide +kernel
theorem d_LA_law_1011 : decode (xcode m_LA_law) 1011 = .ok (.iaload, 1) := by decide +kernel
theorem d_LA_law_1012 : decode (xcode m_LA_law) 1012 = .ok (.aload_n 0, 1) := by decide +kernel
theorem d_LA_law_1013 : decode (xcode m_LA_law) 1013 = .ok (.iload_n 3, 1) := by decide +kernel
theorem d_LA_law_1014 : decode (xcode m_LA_law) 1014 = .ok (.iconst 3, 1) := by decide +kernel
theorem d_LA_law_1015 : decode (xcode m_LA_law) 1015 = .ok (.iadd, 1) := by decide +kernel
theorem d_LA_law_1016 : decode (xcode m_LA_law) 1016 = .ok (.iaload, 1) := by decide +kernel
theorem d_LA_law_1017 : decode (xcode m_LA_law) 1017 = .ok (.aload_n 0, 1) := by decide +kernel
theorem d_LA_law_1018 : decode (xcode m_LA_law) 1018 = .ok (.iload_n 3, 1) := by decide +kernel
theorem d_LA_law_1019 : decode (xcode m_LA_law) 1019 = .ok (.iconst 4, 1) := by decide +kernel
theorem d_LA_law_1020 : decode (xcode m_LA_law) 1020 = .ok (.iadd, 1) := by decide +kernel
theorem d_LA_law_1021 : decode (xcode m_LA_law) 1021 = .ok (.iaload, 1) := by decide +kernel
theorem d_LA_law_1022 : decode (xcode m_LA_law) 1022 = .ok (.ifCond .eq 7, 3) := by decide +kernel
theorem d_LA_law_1025 : decode (xcode m_LA_law) 1025 = .ok (.iconst 1, 1) := by decide +kernel
theorem d_LA_law_1026 : decode (xcode m_LA_law) 1026 = .ok (.goto 4, 3) := by decide +kernel
theorem d_LA_law_1029 : decode (xcode m_LA_law) 1029 = .ok (.iconst 0, 1) := by decide +kernel
theorem d_LA_law_1030 : decode (xcode m_LA_law) 1030 = .ok (.invokevirtual 96, 3) := by decide +kernel
theorem d_LA_law_1033 : decode (xcode m_LA_law) 1033 = .ok (.aload_n 2, 1) := by decide +kernel
theorem d_LA_law_1034 : decode (xcode m_LA_law) 1034 = .ok (.aload_n 0, 1) := by decide +kernel
theorem d_LA_law_1035 : decode (xcode m_LA_law) 1035 = .ok (.iload_n 3, 1) := by decide +kernel
theorem d_LA_law_1036 : decode (xcode m_LA_law) 1036 = .ok (.iconst 1, 1) := by decide +kernel
theorem d_LA_law_1037 : decode (xcode m_LA_law) 1037 = .ok (.iadd, 1) := by decide +kernel
theorem d_LA_law_1038 : decode (xcode m_LA_law) 1038 = .ok (.iaload, 1) := by decide +kernel
theorem d_LA_law_1039 : decode (xcode m_LA_law) 1039 = .ok (.aload_n 0, 1) := by decide +kernel
