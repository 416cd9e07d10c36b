theorem d_L_law_837 : decode code 837 = .ok (.dcmp .l, 1) := by decide +kernel
theorem d_L_law_838 : decode code 838 = .ok (.ifCond .ne 5, 3) := by decide +kernel
theorem d_L_law_841 : decode code 841 = .ok (.iconst 0, 1) := by decide +kernel
theorem d_L_law_842 : decode code 842 = .ok (.ireturn, 1) := by decide +kernel
theorem d_L_law_843 : decode code 843 = .ok (.goto 168, 3) := by decide +kernel
theorem d_L_law_846 : decode code 846 = .ok (.aload_n 1, 1) := by decide +kernel
theorem d_L_law_847 : decode code 847 = .ok (.invokevirtual 117, 3) := by decide +kernel
theorem d_L_law_850 : decode code 850 = .ok (.dstore 6, 2) := by decide +kernel
theorem d_L_law_852 : decode code 852 = .ok (.aload_n 2, 1) := by decide +kernel
theorem d_L_law_853 : decode code 853 = .ok (.invokevirtual 121, 3) := by decide +kernel
theorem d_L_law_856 : decode code 856 = .ok (.dstore 8, 2) := by decide +kernel
theorem d_L_law_858 : decode code 858 = .ok (.dload 6, 2) := by decide +kernel
theorem d_L_law_860 : decode code 860 = .ok (.dload 8, 2) := by decide +kernel
theorem d_L_law_862 : decode code 862 = .ok (.dcmp .l, 1) := by decide +kernel
theorem d_L_law_863 : decode code 863 = .ok (.ifCond .eq 21, 3) := by decide +kernel
theorem d_L_law_866 : decode code 866 = .ok (.dload 6, 2) := by decide +kernel
theorem d_L_law_868 : decode code 868 = .ok (.dload 6, 2) := by decide +kernel
theorem d_L_law_870 : decode code 870 = .ok (.dcmp .l, 1) := by decide +kernel
theorem d_L_law_871 : decode code 871 = .ok (.ifCond .eq 11, 3) := by decide +kernel
theorem d_L_law_874 : decode code 874 = .ok (.dload 8, 2) := by decide +kernel
theorem d_L_law_876 : decode code 876 = .ok (.dload 8, 2) := by decide +kernel
theorem d_L_law_878 : decode code 878 = .ok (.dcmp .l, 1) := by decide +kernel
theorem d_L_law_879 : decode code 879 = .ok (.ifCond .ne 5, 3) := by decide +kernel
theorem d_L_law_882 : decode code 882 = .ok (.iconst 0, 1) := by decide +kernel
theorem d_L_law_883 : decode code 883 = .ok (.ireturn, 1) := by decide +kernel
theorem d_L_law_884 : decode code 884 = .ok (.goto 127, 3) := by decide +kernel
theorem d_L_law_887 : decode code 887 = .ok (.aload_n 1, 1) := by decide +kernel
theorem d_L_law_888 : decode code 888 = .ok (.aload_n 0, 1) := by decide +kernel
theorem d_L_law_889 : decode code 889 = .ok (.iload 5, 2) := by decide +kernel
theorem d_L_law_891 : decode code 891 = .ok (.iconst 1, 1) := by decide +kernel
theorem d_L_law_892 : decode code 892 = .ok (.iadd, 1) := by decide +kernel
theorem d_L_law_893 : decode code 893 = .ok (.iaload, 1) := by decide +kernel
theorem d_L_law_894 : decode code 894 = .ok (.aload_n 0, 1) := by decide +kernel
theorem d_L_law_895 : decode code 895 = .ok (.iload 5, 2) := by decide +kernel
theorem d_L_law_897 : decode code 897 = .ok (.iconst 2, 1) := by decide +kernel
theorem d_L_law_898 : decode code 898 = .ok (.iadd, 1) := by decide +kernel
theorem d_L_law_899 : decode code 899 = .ok (.iaload, 1) := by decide +kernel
theorem d_L_law_900 : decode code 900 = .ok (.aload_n 3, 1) := by decide +kernel
theorem d_L_law_901 : decode code 901 = .ok (.invokestatic 122, 3) := by decide +kernel
theorem d_L_law_904 : decode code 904 = .ok (.istore 6, 2) := by decide +kernel
theorem d_L_law_906 : decode code 906 = .ok (.aload_n 2, 1) := by decide +kernel
theorem d_L_law_907 : decode code 907 = .ok (.aload_n 0, 1) := by decide +kernel
theorem d_L_law_908 : decode code 908 = .ok (.iload 5, 2) := by decide +kernel
theorem d_L_law_910 : decode code 910 = .ok (.iconst 1, 1) := by decide +kernel
theorem d_L_law_911 : decode code 911 = .ok (.iadd, 1) := by decide +kernel
theorem d_L_law_912 : decode code 912 = .ok (.iaload, 1) := by decide +kernel
theorem d_L_law_913 : decode code 913 = .ok (.aload_n 0, 1) := by decide +kernel
theorem d_L_law_914 : decode code 914 = .ok (.iload 5, 2) := by decide +kernel
theorem d_L_law_916 : decode code 916 = .ok (.iconst 2, 1) := by decide +kernel
theorem d_L_law_917 : decode code 917 = .ok (.iadd, 1) := by decide +kernel
theorem d_L_law_918 : decode code 918 = .ok (.iaload, 1) := by decide +kernel
theorem d_L_law_919 : decode code 919 = .ok (.invokevirtual 125, 3) := by decide +kernel
theorem d_L_law_922 : decode code 922 = .ok (.istore 7, 2) := by decide +kernel
theorem d_L_law_924 : decode code 924 = .ok (.aload_n 2, 1) := by decide +kernel
theorem d_L_law_925 : decode code 925 = .ok (.invokevirtual 78, 3) := by decide +kernel
theorem d_L_law_928 : decode code 928 = .ok (.iload 6, 2) := by decide +kernel
theorem d_L_law_930 : decode code 930 = .ok (.if_icmp .eq 5, 3) := by decide +kernel
theorem d_L_law_933 : decode code 933 = .ok (.iconst 0, 1) := by decide +kernel
theorem d_L_law_934 : decode code 934 = .ok (.ireturn, 1) := by decide +kernel
theorem d_L_law_935 : decode code 935 = .ok (.iload 6, 2) := by decide +kernel
theorem d_L_law_937 : decode code 937 = .ok (.ifCond .ne 15, 3) := by decide +kernel
theorem d_L_law_940 : decode code 940 = .ok (.aload_n 3, 1) := by decide +kernel
theorem d_L_law_941 : decode code 941 = .ok (.iconst 0, 1) := by decide +kernel
theorem d_L_law_942 : decode code 942 = .ok (.laload, 1) := by decide +kernel
theorem d_L_law_943 : decode code 943 = .ok (.iload 7, 2) := by decide +kernel
theorem d_L_law_945 : decode code 945 = .ok (.i2l, 1) := by decide +kernel
theorem d_L_law_946 : decode code 946 = .ok (.lcmp, 1) := by decide +kernel
theorem d_L_law_947 : decode code 947 = .ok (.ifCond .eq 5, 3) := by decide +kernel
theorem d_L_law_950 : decode code 950 = .ok (.iconst 0, 1) := by decide +kernel
theorem d_L_law_951 : decode code 951 = .ok (.ireturn, 1) := by decide +kernel
theorem d_L_law_952 : decode code 952 = .ok (.goto 59, 3) := by decide +kernel
theorem d_L_law_955 : decode code 955 = .ok (.aload_n 1, 1) := by decide +kernel
theorem d_L_law_956 : decode code 956 = .ok (.aload_n 0, 1) := by decide +kernel
theorem d_L_law_957 : decode code 957 = .ok (.iload 5, 2) := by decide +kernel
theorem d_L_law_959 : decode code 959 = .ok (.iconst 1, 1) := by decide +kernel
theorem d_L_law_960 : decode code 960 = .ok (.iadd, 1) := by decide +kernel
theorem d_L_law_961 : decode code 961 = .ok (.iaload, 1) := by decide +kernel
theorem d_L_law_962 : decode code 962 = .ok (.aload_n 3, 1) := by decide +kernel
theorem d_L_law_963 : decode code 963 = .ok (.invokestatic 126, 3) := by decide +kernel
theorem d_L_law_966 : decode code 966 = .ok (.istore 6, 2) := by decide +kernel
theorem d_L_law_968 : decode code 968 = .ok (.aload_n 2, 1) := by decide +kernel
theorem d_L_law_969 : decode code 969 = .ok (.aload_n 0, 1) := by decide +kernel
theorem d_L_law_970 : decode code 970 = .ok (.iload 5, 2) := by decide +kernel
theorem d_L_law_972 : decode code 972 = .ok (.iconst 1, 1) := by decide +kernel
theorem d_L_law_973 : decode code 973 = .ok (.iadd, 1) := by decide +kernel
theorem d_L_law_974 : decode code 974 = .ok (.iaload, 1) := by decide +kernel
theorem d_L_law_975 : decode code 975 = .ok (.invokevirtual 128, 3) := by decide +kernel
theorem d_L_law_978 : decode code 978 = .ok (.istore 7, 2) := by decide +kernel
theorem d_L_law_980 : decode code 980 = .ok (.aload_n 2, 1) := by decide +kernel
theorem d_L_law_981 : decode code 981 = .ok (.invokevirtual 78, 3) := by decide +kernel
theorem d_L_law_984 : decode code 984 = .ok (.iload 6, 2) := by decide +kernel
theorem d_L_law_986 : decode code 986 = .ok (.if_icmp .eq 5, 3) := by decide +kernel
theorem d_L_law_989 : decode code 989 = .ok (.iconst 0, 1) := by decide +kernel
theorem d_L_law_990 : decode code 990 = .ok (.ireturn, 1) := by decide +kernel
theorem d_L_law_991 : decode code 991 = .ok (.iload 6, 2) := by decide +kernel
theorem d_L_law_993 : decode code 993 = .ok (.ifCond .ne 15, 3) := by decide +kernel
theorem d_L_law_996 : decode code 996 = .ok (.aload_n 3, 1) := by decide +kernel
theorem d_L_law_997 : decode code 997 = .ok (.iconst 0, 1) := by decide +kernel
theorem d_L_law_998 : decode code 998 = .ok (.laload, 1) := by decide +kernel
theorem d_L_law_999 : decode code 999 = .ok (.iload 7, 2) := by decide +kernel
theorem d_L_law_1001 : decode code 1001 = .ok (.i2l, 1) := by decide +kernel
theorem d_L_law_1002 : decode code 1002 = .ok (.lcmp, 1) := by decide +kernel
theorem d_L_law_1003 : decode code 1003 = .ok (.ifCond .eq 5, 3) := by decide +kernel
theorem d_L_law_1006 : decode code 1006 = .ok (.iconst 0, 1) := by decide +kernel
theorem d_L_law_1007 : decode code 1007 = .ok (.ireturn, 1) := by decide +kernel
theorem d_L_law_1008 : decode code 1008 = .ok (.goto 3, 3) := by decide +kernel
theorem d_L_law_1011 : decode code 1011 = .ok (.iinc 5 4, 3) := by decide +kernel
theorem d_L_law_1014 : decode code 1014 = .ok (.goto (-986), 3) := by decide +kernel
theorem d_L_law_1017 : decode code 1017 = .ok (.iconst 1, 1) := by decide +kernel
theorem d_L_law_1018 : decode code 1018 = .ok (.ireturn, 1) := by decide +kernel
