theorem d_L_law_836 : decode mb_L_law 836 = .ok (.iadd, 1) := by decide +kernel
theorem d_L_law_837 : decode mb_L_law 837 = .ok (.iaload, 1) := by decide +kernel
theorem d_L_law_838 : decode mb_L_law 838 = .ok (.aload_n 3, 1) := by decide +kernel
theorem d_L_law_839 : decode mb_L_law 839 = .ok (.invokestatic 95, 3) := by decide +kernel
theorem d_L_law_842 : decode mb_L_law 842 = .ok (.istore 5, 2) := by decide +kernel
theorem d_L_law_844 : decode mb_L_law 844 = .ok (.aload_n 2, 1) := by decide +kernel
theorem d_L_law_845 : decode mb_L_law 845 = .ok (.aload_n 0, 1) := by decide +kernel
theorem d_L_law_846 : decode mb_L_law 846 = .ok (.iload 4, 2) := by decide +kernel
theorem d_L_law_848 : decode mb_L_law 848 = .ok (.iconst 1, 1) := by decide +kernel
theorem d_L_law_849 : decode mb_L_law 849 = .ok (.iadd, 1) := by decide +kernel
theorem d_L_law_850 : decode mb_L_law 850 = .ok (.iaload, 1) := by decide +kernel
theorem d_L_law_851 : decode mb_L_law 851 = .ok (.invokevirtual 98, 3) := by decide +kernel
theorem d_L_law_854 : decode mb_L_law 854 = .ok (.lstore 6, 2) := by decide +kernel
theorem d_L_law_856 : decode mb_L_law 856 = .ok (.aload_n 2, 1) := by decide +kernel
theorem d_L_law_857 : decode mb_L_law 857 = .ok (.invokevirtual 76, 3) := by decide +kernel
theorem d_L_law_860 : decode mb_L_law 860 = .ok (.iload 5, 2) := by decide +kernel
theorem d_L_law_862 : decode mb_L_law 862 = .ok (.if_icmp .eq 5, 3) := by decide +kernel
theorem d_L_law_865 : decode mb_L_law 865 = .ok (.iconst 0, 1) := by decide +kernel
theorem d_L_law_866 : decode mb_L_law 866 = .ok (.ireturn, 1) := by decide +kernel
theorem d_L_law_867 : decode mb_L_law 867 = .ok (.iload 5, 2) := by decide +kernel
theorem d_L_law_869 : decode mb_L_law 869 = .ok (.ifCond .ne 14, 3) := by decide +kernel
theorem d_L_law_872 : decode mb_L_law 872 = .ok (.aload_n 3, 1) := by decide +kernel
theorem d_L_law_873 : decode mb_L_law 873 = .ok (.iconst 0, 1) := by decide +kernel
theorem d_L_law_874 : decode mb_L_law 874 = .ok (.laload, 1) := by decide +kernel
theorem d_L_law_875 : decode mb_L_law 875 = .ok (.lload 6, 2) := by decide +kernel
theorem d_L_law_877 : decode mb_L_law 877 = .ok (.lcmp, 1) := by decide +kernel
theorem d_L_law_878 : decode mb_L_law 878 = .ok (.ifCond .eq 5, 3) := by decide +kernel
theorem d_L_law_881 : decode mb_L_law 881 = .ok (.iconst 0, 1) := by decide +kernel
theorem d_L_law_882 : decode mb_L_law 882 = .ok (.ireturn, 1) := by decide +kernel
theorem d_L_law_883 : decode mb_L_law 883 = .ok (.goto 122, 3) := by decide +kernel
theorem d_L_law_886 : decode mb_L_law 886 = .ok (.aload_n 1, 1) := by decide +kernel
theorem d_L_law_887 : decode mb_L_law 887 = .ok (.aload_n 0, 1) := by decide +kernel
theorem d_L_law_888 : decode mb_L_law 888 = .ok (.iload 4, 2) := by decide +kernel
theorem d_L_law_890 : decode mb_L_law 890 = .ok (.iconst 1, 1) := by decide +kernel
theorem d_L_law_891 : decode mb_L_law 891 = .ok (.iadd, 1) := by decide +kernel
theorem d_L_law_892 : decode mb_L_law 892 = .ok (.iaload, 1) := by decide +kernel
theorem d_L_law_893 : decode mb_L_law 893 = .ok (.invokevirtual 99, 3) := by decide +kernel
theorem d_L_law_896 : decode mb_L_law 896 = .ok (.aload_n 2, 1) := by decide +kernel
theorem d_L_law_897 : decode mb_L_law 897 = .ok (.aload_n 0, 1) := by decide +kernel
theorem d_L_law_898 : decode mb_L_law 898 = .ok (.iload 4, 2) := by decide +kernel
theorem d_L_law_900 : decode mb_L_law 900 = .ok (.iconst 1, 1) := by decide +kernel
theorem d_L_law_901 : decode mb_L_law 901 = .ok (.iadd, 1) := by decide +kernel
theorem d_L_law_902 : decode mb_L_law 902 = .ok (.iaload, 1) := by decide +kernel
theorem d_L_law_903 : decode mb_L_law 903 = .ok (.invokevirtual 102, 3) := by decide +kernel
theorem d_L_law_906 : decode mb_L_law 906 = .ok (.if_icmp .eq 99, 3) := by decide +kernel
theorem d_L_law_909 : decode mb_L_law 909 = .ok (.iconst 0, 1) := by decide +kernel
theorem d_L_law_910 : decode mb_L_law 910 = .ok (.ireturn, 1) := by decide +kernel
theorem d_L_law_911 : decode mb_L_law 911 = .ok (.aload_n 1, 1) := by decide +kernel
theorem d_L_law_912 : decode mb_L_law 912 = .ok (.aload_n 0, 1) := by decide +kernel
theorem d_L_law_913 : decode mb_L_law 913 = .ok (.iload 4, 2) := by decide +kernel
theorem d_L_law_915 : decode mb_L_law 915 = .ok (.iconst 1, 1) := by decide +kernel
theorem d_L_law_916 : decode mb_L_law 916 = .ok (.iadd, 1) := by decide +kernel
theorem d_L_law_917 : decode mb_L_law 917 = .ok (.iaload, 1) := by decide +kernel
theorem d_L_law_918 : decode mb_L_law 918 = .ok (.invokevirtual 103, 3) := by decide +kernel
theorem d_L_law_921 : decode mb_L_law 921 = .ok (.aload_n 2, 1) := by decide +kernel
theorem d_L_law_922 : decode mb_L_law 922 = .ok (.aload_n 0, 1) := by decide +kernel
theorem d_L_law_923 : decode mb_L_law 923 = .ok (.iload 4, 2) := by decide +kernel
theorem d_L_law_925 : decode mb_L_law 925 = .ok (.iconst 1, 1) := by decide +kernel
theorem d_L_law_926 : decode mb_L_law 926 = .ok (.iadd, 1) := by decide +kernel
theorem d_L_law_927 : decode mb_L_law 927 = .ok (.iaload, 1) := by decide +kernel
theorem d_L_law_928 : decode mb_L_law 928 = .ok (.invokevirtual 106, 3) := by decide +kernel
theorem d_L_law_931 : decode mb_L_law 931 = .ok (.if_icmp .eq 74, 3) := by decide +kernel
theorem d_L_law_934 : decode mb_L_law 934 = .ok (.iconst 0, 1) := by decide +kernel
theorem d_L_law_935 : decode mb_L_law 935 = .ok (.ireturn, 1) := by decide +kernel
theorem d_L_law_936 : decode mb_L_law 936 = .ok (.aload_n 1, 1) := by decide +kernel
theorem d_L_law_937 : decode mb_L_law 937 = .ok (.aload_n 0, 1) := by decide +kernel
theorem d_L_law_938 : decode mb_L_law 938 = .ok (.iload 4, 2) := by decide +kernel
theorem d_L_law_940 : decode mb_L_law 940 = .ok (.iconst 1, 1) := by decide +kernel
theorem d_L_law_941 : decode mb_L_law 941 = .ok (.iadd, 1) := by decide +kernel
theorem d_L_law_942 : decode mb_L_law 942 = .ok (.iaload, 1) := by decide +kernel
theorem d_L_law_943 : decode mb_L_law 943 = .ok (.aload_n 3, 1) := by decide +kernel
theorem d_L_law_944 : decode mb_L_law 944 = .ok (.invokestatic 107, 3) := by decide +kernel
theorem d_L_law_947 : decode mb_L_law 947 = .ok (.istore 5, 2) := by decide +kernel
theorem d_L_law_949 : decode mb_L_law 949 = .ok (.aload_n 2, 1) := by decide +kernel
theorem d_L_law_950 : decode mb_L_law 950 = .ok (.aload_n 0, 1) := by decide +kernel
theorem d_L_law_951 : decode mb_L_law 951 = .ok (.iload 4, 2) := by decide +kernel
theorem d_L_law_953 : decode mb_L_law 953 = .ok (.iconst 1, 1) := by decide +kernel
theorem d_L_law_954 : decode mb_L_law 954 = .ok (.iadd, 1) := by decide +kernel
theorem d_L_law_955 : decode mb_L_law 955 = .ok (.iaload, 1) := by decide +kernel
theorem d_L_law_956 : decode mb_L_law 956 = .ok (.invokevirtual 109, 3) := by decide +kernel
theorem d_L_law_959 : decode mb_L_law 959 = .ok (.istore 6, 2) := by decide +kernel
theorem d_L_law_961 : decode mb_L_law 961 = .ok (.aload_n 2, 1) := by decide +kernel
theorem d_L_law_962 : decode mb_L_law 962 = .ok (.invokevirtual 76, 3) := by decide +kernel
theorem d_L_law_965 : decode mb_L_law 965 = .ok (.iload 5, 2) := by decide +kernel
theorem d_L_law_967 : decode mb_L_law 967 = .ok (.if_icmp .eq 5, 3) := by decide +kernel
theorem d_L_law_970 : decode mb_L_law 970 = .ok (.iconst 0, 1) := by decide +kernel
theorem d_L_law_971 : decode mb_L_law 971 = .ok (.ireturn, 1) := by decide +kernel
theorem d_L_law_972 : decode mb_L_law 972 = .ok (.iload 5, 2) := by decide +kernel
theorem d_L_law_974 : decode mb_L_law 974 = .ok (.ifCond .ne 15, 3) := by decide +kernel
theorem d_L_law_977 : decode mb_L_law 977 = .ok (.aload_n 3, 1) := by decide +kernel
