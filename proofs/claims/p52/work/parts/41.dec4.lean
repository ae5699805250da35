theorem dL_law_816 : decode code 816 = .ok (.iconst 4, 1) := by decide +kernel
theorem dL_law_817 : decode code 817 = .ok (.if_icmp .ne 23, 3) := by decide +kernel
theorem dL_law_820 : decode code 820 = .ok (.aload_n 1, 1) := by decide +kernel
theorem dL_law_821 : decode code 821 = .ok (.iconst 0, 1) := by decide +kernel
theorem dL_law_822 : decode code 822 = .ok (.invokevirtual 76, 3) := by decide +kernel
theorem dL_law_825 : decode code 825 = .ok (.bipush (-3), 2) := by decide +kernel
theorem dL_law_827 : decode code 827 = .ok (.if_icmp .ne 13, 3) := by decide +kernel
theorem dL_law_830 : decode code 830 = .ok (.aload_n 1, 1) := by decide +kernel
theorem dL_law_831 : decode code 831 = .ok (.iconst 3, 1) := by decide +kernel
theorem dL_law_832 : decode code 832 = .ok (.iconst 0, 1) := by decide +kernel
theorem dL_law_833 : decode code 833 = .ok (.invokevirtual 73, 3) := by decide +kernel
theorem dL_law_836 : decode code 836 = .ok (.iconst 1, 1) := by decide +kernel
theorem dL_law_837 : decode code 837 = .ok (.if_icmp .eq 5, 3) := by decide +kernel
theorem dL_law_840 : decode code 840 = .ok (.iconst 0, 1) := by decide +kernel
theorem dL_law_841 : decode code 841 = .ok (.ireturn, 1) := by decide +kernel
theorem dL_law_842 : decode code 842 = .ok (.aload_n 1, 1) := by decide +kernel
theorem dL_law_843 : decode code 843 = .ok (.iconst 3, 1) := by decide +kernel
theorem dL_law_844 : decode code 844 = .ok (.iconst 3, 1) := by decide +kernel
theorem dL_law_845 : decode code 845 = .ok (.invokevirtual 20, 3) := by decide +kernel
theorem dL_law_848 : decode code 848 = .ok (.istore 16, 2) := by decide +kernel
theorem dL_law_850 : decode code 850 = .ok (.aload_n 1, 1) := by decide +kernel
theorem dL_law_851 : decode code 851 = .ok (.iconst 3, 1) := by decide +kernel
theorem dL_law_852 : decode code 852 = .ok (.invokevirtual 70, 3) := by decide +kernel
theorem dL_law_855 : decode code 855 = .ok (.istore 17, 2) := by decide +kernel
theorem dL_law_857 : decode code 857 = .ok (.iload 17, 2) := by decide +kernel
theorem dL_law_859 : decode code 859 = .ok (.aload_n 1, 1) := by decide +kernel
theorem dL_law_860 : decode code 860 = .ok (.iconst 2, 1) := by decide +kernel
theorem dL_law_861 : decode code 861 = .ok (.iconst 4, 1) := by decide +kernel
theorem dL_law_862 : decode code 862 = .ok (.invokevirtual 20, 3) := by decide +kernel
theorem dL_law_865 : decode code 865 = .ok (.iload 16, 2) := by decide +kernel
theorem dL_law_867 : decode code 867 = .ok (.isub, 1) := by decide +kernel
theorem dL_law_868 : decode code 868 = .ok (.if_icmp .ne 30, 3) := by decide +kernel
theorem dL_law_871 : decode code 871 = .ok (.aload_n 1, 1) := by decide +kernel
theorem dL_law_872 : decode code 872 = .ok (.iconst 3, 1) := by decide +kernel
theorem dL_law_873 : decode code 873 = .ok (.iconst 3, 1) := by decide +kernel
theorem dL_law_874 : decode code 874 = .ok (.invokevirtual 20, 3) := by decide +kernel
theorem dL_law_877 : decode code 877 = .ok (.aload_n 1, 1) := by decide +kernel
theorem dL_law_878 : decode code 878 = .ok (.iconst 2, 1) := by decide +kernel
theorem dL_law_879 : decode code 879 = .ok (.iconst 4, 1) := by decide +kernel
theorem dL_law_880 : decode code 880 = .ok (.invokevirtual 20, 3) := by decide +kernel
theorem dL_law_883 : decode code 883 = .ok (.if_icmp .ne 15, 3) := by decide +kernel
theorem dL_law_886 : decode code 886 = .ok (.aload_n 1, 1) := by decide +kernel
theorem dL_law_887 : decode code 887 = .ok (.iconst 3, 1) := by decide +kernel
theorem dL_law_888 : decode code 888 = .ok (.invokevirtual 70, 3) := by decide +kernel
theorem dL_law_891 : decode code 891 = .ok (.ifCond .ne 7, 3) := by decide +kernel
theorem dL_law_894 : decode code 894 = .ok (.iconst 1, 1) := by decide +kernel
theorem dL_law_895 : decode code 895 = .ok (.goto 4, 3) := by decide +kernel
theorem dL_law_898 : decode code 898 = .ok (.iconst 0, 1) := by decide +kernel
theorem dL_law_899 : decode code 899 = .ok (.ireturn, 1) := by decide +kernel
theorem dL_law_900 : decode code 900 = .ok (.aload_n 1, 1) := by decide +kernel
theorem dL_law_901 : decode code 901 = .ok (.iconst 0, 1) := by decide +kernel
theorem dL_law_902 : decode code 902 = .ok (.invokevirtual 76, 3) := by decide +kernel
theorem dL_law_905 : decode code 905 = .ok (.iconst 1, 1) := by decide +kernel
theorem dL_law_906 : decode code 906 = .ok (.if_icmp .ne 99, 3) := by decide +kernel
theorem dL_law_909 : decode code 909 = .ok (.aload_n 1, 1) := by decide +kernel
theorem dL_law_910 : decode code 910 = .ok (.iconst 1, 1) := by decide +kernel
theorem dL_law_911 : decode code 911 = .ok (.iconst 5, 1) := by decide +kernel
theorem dL_law_912 : decode code 912 = .ok (.invokevirtual 20, 3) := by decide +kernel
theorem dL_law_915 : decode code 915 = .ok (.iconst 5, 1) := by decide +kernel
theorem dL_law_916 : decode code 916 = .ok (.if_icmp .ne 89, 3) := by decide +kernel
theorem dL_law_919 : decode code 919 = .ok (.aload_n 1, 1) := by decide +kernel
theorem dL_law_920 : decode code 920 = .ok (.iconst 2, 1) := by decide +kernel
theorem dL_law_921 : decode code 921 = .ok (.iconst 5, 1) := by decide +kernel
theorem dL_law_922 : decode code 922 = .ok (.invokevirtual 20, 3) := by decide +kernel
theorem dL_law_925 : decode code 925 = .ok (.iconst 3, 1) := by decide +kernel
theorem dL_law_926 : decode code 926 = .ok (.if_icmp .ne 79, 3) := by decide +kernel
theorem dL_law_929 : decode code 929 = .ok (.aload_n 1, 1) := by decide +kernel
theorem dL_law_930 : decode code 930 = .ok (.iconst 0, 1) := by decide +kernel
theorem dL_law_931 : decode code 931 = .ok (.bipush 6, 2) := by decide +kernel
theorem dL_law_933 : decode code 933 = .ok (.invokevirtual 20, 3) := by decide +kernel
theorem dL_law_936 : decode code 936 = .ok (.iconst 2, 1) := by decide +kernel
theorem dL_law_937 : decode code 937 = .ok (.if_icmp .ne 68, 3) := by decide +kernel
theorem dL_law_940 : decode code 940 = .ok (.aload_n 1, 1) := by decide +kernel
theorem dL_law_941 : decode code 941 = .ok (.iconst 0, 1) := by decide +kernel
theorem dL_law_942 : decode code 942 = .ok (.bipush 7, 2) := by decide +kernel
theorem dL_law_944 : decode code 944 = .ok (.invokevirtual 20, 3) := by decide +kernel
theorem dL_law_947 : decode code 947 = .ok (.iload 12, 2) := by decide +kernel
theorem dL_law_949 : decode code 949 = .ok (.if_icmp .ne 56, 3) := by decide +kernel
theorem dL_law_952 : decode code 952 = .ok (.aload_n 1, 1) := by decide +kernel
theorem dL_law_953 : decode code 953 = .ok (.iconst 3, 1) := by decide +kernel
theorem dL_law_954 : decode code 954 = .ok (.iconst 0, 1) := by decide +kernel
theorem dL_law_955 : decode code 955 = .ok (.invokevirtual 20, 3) := by decide +kernel
theorem dL_law_958 : decode code 958 = .ok (.ifCond .ne 47, 3) := by decide +kernel
theorem dL_law_961 : decode code 961 = .ok (.aload_n 1, 1) := by decide +kernel
theorem dL_law_962 : decode code 962 = .ok (.iconst 3, 1) := by decide +kernel
theorem dL_law_963 : decode code 963 = .ok (.iconst 4, 1) := by decide +kernel
theorem dL_law_964 : decode code 964 = .ok (.invokevirtual 20, 3) := by decide +kernel
theorem dL_law_967 : decode code 967 = .ok (.iload 4, 2) := by decide +kernel
theorem dL_law_969 : decode code 969 = .ok (.if_icmp .ne 36, 3) := by decide +kernel
theorem dL_law_972 : decode code 972 = .ok (.aload_n 1, 1) := by decide +kernel
theorem dL_law_973 : decode code 973 = .ok (.iconst 0, 1) := by decide +kernel
theorem dL_law_974 : decode code 974 = .ok (.iconst (-1), 1) := by decide +kernel
theorem dL_law_975 : decode code 975 = .ok (.invokevirtual 67, 3) := by decide +kernel
theorem dL_law_978 : decode code 978 = .ok (.iconst 2, 1) := by decide +kernel
theorem dL_law_979 : decode code 979 = .ok (.if_icmp .ne 26, 3) := by decide +kernel
theorem dL_law_982 : decode code 982 = .ok (.aload_n 1, 1) := by decide +kernel
theorem dL_law_983 : decode code 983 = .ok (.iconst 1, 1) := by decide +kernel
theorem dL_law_984 : decode code 984 = .ok (.iconst (-1), 1) := by decide +kernel
theorem dL_law_985 : decode code 985 = .ok (.invokevirtual 67, 3) := by decide +kernel
theorem dL_law_988 : decode code 988 = .ok (.iconst 1, 1) := by decide +kernel
theorem dL_law_989 : decode code 989 = .ok (.if_icmp .ne 16, 3) := by decide +kernel
theorem dL_law_992 : decode code 992 = .ok (.aload_n 1, 1) := by decide +kernel
theorem dL_law_993 : decode code 993 = .ok (.iconst 2, 1) := by decide +kernel
theorem dL_law_994 : decode code 994 = .ok (.iconst 0, 1) := by decide +kernel
theorem dL_law_995 : decode code 995 = .ok (.invokevirtual 87, 3) := by decide +kernel
theorem dL_law_998 : decode code 998 = .ok (.ldc2_w 91, 3) := by decide +kernel
theorem dL_law_1001 : decode code 1001 = .ok (.lcmp, 1) := by decide +kernel
theorem dL_law_1002 : decode code 1002 = .ok (.ifCond .eq 5, 3) := by decide +kernel
theorem dL_law_1005 : decode code 1005 = .ok (.iconst 0, 1) := by decide +kernel
theorem dL_law_1006 : decode code 1006 = .ok (.ireturn, 1) := by decide +kernel
