theorem d_Law_law_791 : decode m_Law_law.2.1 791 = .ok (.iadd, 1) := by decide +kernel
theorem d_Law_law_792 : decode m_Law_law.2.1 792 = .ok (.iaload, 1) := by decide +kernel
theorem d_Law_law_793 : decode m_Law_law.2.1 793 = .ok (.aload_n 3, 1) := by decide +kernel
theorem d_Law_law_794 : decode m_Law_law.2.1 794 = .ok (.invokestatic 102, 3) := by decide +kernel
theorem d_Law_law_797 : decode m_Law_law.2.1 797 = .ok (.istore 5, 2) := by decide +kernel
theorem d_Law_law_799 : decode m_Law_law.2.1 799 = .ok (.aload_n 2, 1) := by decide +kernel
theorem d_Law_law_800 : decode m_Law_law.2.1 800 = .ok (.aload_n 0, 1) := by decide +kernel
theorem d_Law_law_801 : decode m_Law_law.2.1 801 = .ok (.iload 4, 2) := by decide +kernel
theorem d_Law_law_803 : decode m_Law_law.2.1 803 = .ok (.iconst 1, 1) := by decide +kernel
theorem d_Law_law_804 : decode m_Law_law.2.1 804 = .ok (.iadd, 1) := by decide +kernel
theorem d_Law_law_805 : decode m_Law_law.2.1 805 = .ok (.iaload, 1) := by decide +kernel
theorem d_Law_law_806 : decode m_Law_law.2.1 806 = .ok (.aload_n 0, 1) := by decide +kernel
theorem d_Law_law_807 : decode m_Law_law.2.1 807 = .ok (.iload 4, 2) := by decide +kernel
theorem d_Law_law_809 : decode m_Law_law.2.1 809 = .ok (.iconst 2, 1) := by decide +kernel
theorem d_Law_law_810 : decode m_Law_law.2.1 810 = .ok (.iadd, 1) := by decide +kernel
theorem d_Law_law_811 : decode m_Law_law.2.1 811 = .ok (.iaload, 1) := by decide +kernel
theorem d_Law_law_812 : decode m_Law_law.2.1 812 = .ok (.i2l, 1) := by decide +kernel
theorem d_Law_law_813 : decode m_Law_law.2.1 813 = .ok (.bipush 32, 2) := by decide +kernel
theorem d_Law_law_815 : decode m_Law_law.2.1 815 = .ok (.lshl, 1) := by decide +kernel
theorem d_Law_law_816 : decode m_Law_law.2.1 816 = .ok (.aload_n 0, 1) := by decide +kernel
theorem d_Law_law_817 : decode m_Law_law.2.1 817 = .ok (.iload 4, 2) := by decide +kernel
theorem d_Law_law_819 : decode m_Law_law.2.1 819 = .ok (.iconst 3, 1) := by decide +kernel
theorem d_Law_law_820 : decode m_Law_law.2.1 820 = .ok (.iadd, 1) := by decide +kernel
theorem d_Law_law_821 : decode m_Law_law.2.1 821 = .ok (.iaload, 1) := by decide +kernel
theorem d_Law_law_822 : decode m_Law_law.2.1 822 = .ok (.i2l, 1) := by decide +kernel
theorem d_Law_law_823 : decode m_Law_law.2.1 823 = .ok (.ldc2_w 76, 3) := by decide +kernel
theorem d_Law_law_826 : decode m_Law_law.2.1 826 = .ok (.land, 1) := by decide +kernel
theorem d_Law_law_827 : decode m_Law_law.2.1 827 = .ok (.lor, 1) := by decide +kernel
theorem d_Law_law_828 : decode m_Law_law.2.1 828 = .ok (.aload_n 0, 1) := by decide +kernel
theorem d_Law_law_829 : decode m_Law_law.2.1 829 = .ok (.iload 4, 2) := by decide +kernel
theorem d_Law_law_831 : decode m_Law_law.2.1 831 = .ok (.iconst 4, 1) := by decide +kernel
theorem d_Law_law_832 : decode m_Law_law.2.1 832 = .ok (.iadd, 1) := by decide +kernel
theorem d_Law_law_833 : decode m_Law_law.2.1 833 = .ok (.iaload, 1) := by decide +kernel
theorem d_Law_law_834 : decode m_Law_law.2.1 834 = .ok (.invokevirtual 104, 3) := by decide +kernel
theorem d_Law_law_837 : decode m_Law_law.2.1 837 = .ok (.istore 6, 2) := by decide +kernel
theorem d_Law_law_839 : decode m_Law_law.2.1 839 = .ok (.aload_n 2, 1) := by decide +kernel
theorem d_Law_law_840 : decode m_Law_law.2.1 840 = .ok (.invokevirtual 73, 3) := by decide +kernel
theorem d_Law_law_843 : decode m_Law_law.2.1 843 = .ok (.iload 5, 2) := by decide +kernel
theorem d_Law_law_845 : decode m_Law_law.2.1 845 = .ok (.if_icmp .eq 5, 3) := by decide +kernel
theorem d_Law_law_848 : decode m_Law_law.2.1 848 = .ok (.iconst 0, 1) := by decide +kernel
theorem d_Law_law_849 : decode m_Law_law.2.1 849 = .ok (.ireturn, 1) := by decide +kernel
theorem d_Law_law_850 : decode m_Law_law.2.1 850 = .ok (.iload 5, 2) := by decide +kernel
theorem d_Law_law_852 : decode m_Law_law.2.1 852 = .ok (.ifCond .ne 22, 3) := by decide +kernel
theorem d_Law_law_855 : decode m_Law_law.2.1 855 = .ok (.aload_n 3, 1) := by decide +kernel
theorem d_Law_law_856 : decode m_Law_law.2.1 856 = .ok (.iconst 0, 1) := by decide +kernel
theorem d_Law_law_857 : decode m_Law_law.2.1 857 = .ok (.laload, 1) := by decide +kernel
theorem d_Law_law_858 : decode m_Law_law.2.1 858 = .ok (.iload 6, 2) := by decide +kernel
theorem d_Law_law_860 : decode m_Law_law.2.1 860 = .ok (.ifCond .eq 7, 3) := by decide +kernel
theorem d_Law_law_863 : decode m_Law_law.2.1 863 = .ok (.lconst 1, 1) := by decide +kernel
theorem d_Law_law_864 : decode m_Law_law.2.1 864 = .ok (.goto 4, 3) := by decide +kernel
theorem d_Law_law_867 : decode m_Law_law.2.1 867 = .ok (.lconst 0, 1) := by decide +kernel
theorem d_Law_law_868 : decode m_Law_law.2.1 868 = .ok (.lcmp, 1) := by decide +kernel
theorem d_Law_law_869 : decode m_Law_law.2.1 869 = .ok (.ifCond .eq 5, 3) := by decide +kernel
theorem d_Law_law_872 : decode m_Law_law.2.1 872 = .ok (.iconst 0, 1) := by decide +kernel
theorem d_Law_law_873 : decode m_Law_law.2.1 873 = .ok (.ireturn, 1) := by decide +kernel
theorem d_Law_law_874 : decode m_Law_law.2.1 874 = .ok (.goto 588, 3) := by decide +kernel
theorem d_Law_law_877 : decode m_Law_law.2.1 877 = .ok (.aload_n 1, 1) := by decide +kernel
theorem d_Law_law_878 : decode m_Law_law.2.1 878 = .ok (.aload_n 0, 1) := by decide +kernel
theorem d_Law_law_879 : decode m_Law_law.2.1 879 = .ok (.iload 4, 2) := by decide +kernel
theorem d_Law_law_881 : decode m_Law_law.2.1 881 = .ok (.iconst 1, 1) := by decide +kernel
theorem d_Law_law_882 : decode m_Law_law.2.1 882 = .ok (.iadd, 1) := by decide +kernel
theorem d_Law_law_883 : decode m_Law_law.2.1 883 = .ok (.iaload, 1) := by decide +kernel
theorem d_Law_law_884 : decode m_Law_law.2.1 884 = .ok (.aload_n 0, 1) := by decide +kernel
theorem d_Law_law_885 : decode m_Law_law.2.1 885 = .ok (.iload 4, 2) := by decide +kernel
theorem d_Law_law_887 : decode m_Law_law.2.1 887 = .ok (.iconst 2, 1) := by decide +kernel
theorem d_Law_law_888 : decode m_Law_law.2.1 888 = .ok (.iadd, 1) := by decide +kernel
theorem d_Law_law_889 : decode m_Law_law.2.1 889 = .ok (.iaload, 1) := by decide +kernel
theorem d_Law_law_890 : decode m_Law_law.2.1 890 = .ok (.aload_n 0, 1) := by decide +kernel
theorem d_Law_law_891 : decode m_Law_law.2.1 891 = .ok (.iload 4, 2) := by decide +kernel
theorem d_Law_law_893 : decode m_Law_law.2.1 893 = .ok (.iconst 3, 1) := by decide +kernel
theorem d_Law_law_894 : decode m_Law_law.2.1 894 = .ok (.iadd, 1) := by decide +kernel
theorem d_Law_law_895 : decode m_Law_law.2.1 895 = .ok (.iaload, 1) := by decide +kernel
theorem d_Law_law_896 : decode m_Law_law.2.1 896 = .ok (.aload_n 0, 1) := by decide +kernel
theorem d_Law_law_897 : decode m_Law_law.2.1 897 = .ok (.iload 4, 2) := by decide +kernel
theorem d_Law_law_899 : decode m_Law_law.2.1 899 = .ok (.iconst 4, 1) := by decide +kernel
theorem d_Law_law_900 : decode m_Law_law.2.1 900 = .ok (.iadd, 1) := by decide +kernel
theorem d_Law_law_901 : decode m_Law_law.2.1 901 = .ok (.iaload, 1) := by decide +kernel
theorem d_Law_law_902 : decode m_Law_law.2.1 902 = .ok (.aload_n 3, 1) := by decide +kernel
theorem d_Law_law_903 : decode m_Law_law.2.1 903 = .ok (.invokestatic 105, 3) := by decide +kernel
theorem d_Law_law_906 : decode m_Law_law.2.1 906 = .ok (.istore 5, 2) := by decide +kernel
theorem d_Law_law_908 : decode m_Law_law.2.1 908 = .ok (.aload_n 2, 1) := by decide +kernel
theorem d_Law_law_909 : decode m_Law_law.2.1 909 = .ok (.aload_n 0, 1) := by decide +kernel
theorem d_Law_law_910 : decode m_Law_law.2.1 910 = .ok (.iload 4, 2) := by decide +kernel
theorem d_Law_law_912 : decode m_Law_law.2.1 912 = .ok (.iconst 1, 1) := by decide +kernel
theorem d_Law_law_913 : decode m_Law_law.2.1 913 = .ok (.iadd, 1) := by decide +kernel
theorem d_Law_law_914 : decode m_Law_law.2.1 914 = .ok (.iaload, 1) := by decide +kernel
theorem d_Law_law_915 : decode m_Law_law.2.1 915 = .ok (.aload_n 0, 1) := by decide +kernel
theorem d_Law_law_916 : decode m_Law_law.2.1 916 = .ok (.iload 4, 2) := by decide +kernel
theorem d_Law_law_918 : decode m_Law_law.2.1 918 = .ok (.iconst 2, 1) := by decide +kernel
theorem d_Law_law_919 : decode m_Law_law.2.1 919 = .ok (.iadd, 1) := by decide +kernel
theorem d_Law_law_920 : decode m_Law_law.2.1 920 = .ok (.iaload, 1) := by decide +kernel
theorem d_Law_law_921 : decode m_Law_law.2.1 921 = .ok (.aload_n 0, 1) := by decide +kernel
theorem d_Law_law_922 : decode m_Law_law.2.1 922 = .ok (.iload 4, 2) := by decide +kernel
theorem d_Law_law_924 : decode m_Law_law.2.1 924 = .ok (.iconst 3, 1) := by decide +kernel
theorem d_Law_law_925 : decode m_Law_law.2.1 925 = .ok (.iadd, 1) := by decide +kernel
theorem d_Law_law_926 : decode m_Law_law.2.1 926 = .ok (.iaload, 1) := by decide +kernel
theorem d_Law_law_927 : decode m_Law_law.2.1 927 = .ok (.aload_n 0, 1) := by decide +kernel
theorem d_Law_law_928 : decode m_Law_law.2.1 928 = .ok (.iload 4, 2) := by decide +kernel
theorem d_Law_law_930 : decode m_Law_law.2.1 930 = .ok (.iconst 4, 1) := by decide +kernel
theorem d_Law_law_931 : decode m_Law_law.2.1 931 = .ok (.iadd, 1) := by decide +kernel
theorem d_Law_law_932 : decode m_Law_law.2.1 932 = .ok (.iaload, 1) := by decide +kernel
theorem d_Law_law_933 : decode m_Law_law.2.1 933 = .ok (.invokevirtual 108, 3) := by decide +kernel
theorem d_Law_law_936 : decode m_Law_law.2.1 936 = .ok (.istore 6, 2) := by decide +kernel
theorem d_Law_law_938 : decode m_Law_law.2.1 938 = .ok (.aload_n 2, 1) := by decide +kernel
theorem d_Law_law_939 : decode m_Law_law.2.1 939 = .ok (.invokevirtual 73, 3) := by decide +kernel
theorem d_Law_law_942 : decode m_Law_law.2.1 942 = .ok (.iload 5, 2) := by decide +kernel
theorem d_Law_law_944 : decode m_Law_law.2.1 944 = .ok (.if_icmp .eq 5, 3) := by decide +kernel
theorem d_Law_law_947 : decode m_Law_law.2.1 947 = .ok (.iconst 0, 1) := by decide +kernel
theorem d_Law_law_948 : decode m_Law_law.2.1 948 = .ok (.ireturn, 1) := by decide +kernel
theorem d_Law_law_949 : decode m_Law_law.2.1 949 = .ok (.iload 5, 2) := by decide +kernel
theorem d_Law_law_951 : decode m_Law_law.2.1 951 = .ok (.ifCond .ne 15, 3) := by decide +kernel
theorem d_Law_law_954 : decode m_Law_law.2.1 954 = .ok (.aload_n 3, 1) := by decide +kernel
theorem d_Law_law_955 : decode m_Law_law.2.1 955 = .ok (.iconst 0, 1) := by decide +kernel
theorem d_Law_law_956 : decode m_Law_law.2.1 956 = .ok (.laload, 1) := by decide +kernel
theorem d_Law_law_957 : decode m_Law_law.2.1 957 = .ok (.iload 6, 2) := by decide +kernel
theorem d_Law_law_959 : decode m_Law_law.2.1 959 = .ok (.i2l, 1) := by decide +kernel
theorem d_Law_law_960 : decode m_Law_law.2.1 960 = .ok (.lcmp, 1) := by decide +kernel
theorem d_Law_law_961 : decode m_Law_law.2.1 961 = .ok (.ifCond .eq 5, 3) := by decide +kernel
theorem d_Law_law_964 : decode m_Law_law.2.1 964 = .ok (.iconst 0, 1) := by decide +kernel
theorem d_Law_law_965 : decode m_Law_law.2.1 965 = .ok (.ireturn, 1) := by decide +kernel
