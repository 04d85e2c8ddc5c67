theorem d_law_831 : decode code 831 = .ok (.goto 4, 3) := by decide +kernel
theorem d_law_834 : decode code 834 = .ok (.lconst 0, 1) := by decide +kernel
theorem d_law_835 : decode code 835 = .ok (.lcmp, 1) := by decide +kernel
theorem d_law_836 : decode code 836 = .ok (.ifCond .eq 5, 3) := by decide +kernel
theorem d_law_839 : decode code 839 = .ok (.iconst 0, 1) := by decide +kernel
theorem d_law_840 : decode code 840 = .ok (.ireturn, 1) := by decide +kernel
theorem d_law_841 : decode code 841 = .ok (.goto 217, 3) := by decide +kernel
theorem d_law_844 : decode code 844 = .ok (.aload_n 1, 1) := by decide +kernel
theorem d_law_845 : decode code 845 = .ok (.aload_n 3, 1) := by decide +kernel
theorem d_law_846 : decode code 846 = .ok (.invokestatic 113, 3) := by decide +kernel
theorem d_law_849 : decode code 849 = .ok (.istore 5, 2) := by decide +kernel
theorem d_law_851 : decode code 851 = .ok (.aload_n 2, 1) := by decide +kernel
theorem d_law_852 : decode code 852 = .ok (.invokevirtual 115, 3) := by decide +kernel
theorem d_law_855 : decode code 855 = .ok (.istore 6, 2) := by decide +kernel
theorem d_law_857 : decode code 857 = .ok (.aload_n 2, 1) := by decide +kernel
theorem d_law_858 : decode code 858 = .ok (.invokevirtual 78, 3) := by decide +kernel
theorem d_law_861 : decode code 861 = .ok (.iload 5, 2) := by decide +kernel
theorem d_law_863 : decode code 863 = .ok (.if_icmp .eq 5, 3) := by decide +kernel
theorem d_law_866 : decode code 866 = .ok (.iconst 0, 1) := by decide +kernel
theorem d_law_867 : decode code 867 = .ok (.ireturn, 1) := by decide +kernel
theorem d_law_868 : decode code 868 = .ok (.iload 5, 2) := by decide +kernel
theorem d_law_870 : decode code 870 = .ok (.ifCond .ne 15, 3) := by decide +kernel
theorem d_law_873 : decode code 873 = .ok (.aload_n 3, 1) := by decide +kernel
theorem d_law_874 : decode code 874 = .ok (.iconst 0, 1) := by decide +kernel
theorem d_law_875 : decode code 875 = .ok (.laload, 1) := by decide +kernel
theorem d_law_876 : decode code 876 = .ok (.iload 6, 2) := by decide +kernel
theorem d_law_878 : decode code 878 = .ok (.i2l, 1) := by decide +kernel
theorem d_law_879 : decode code 879 = .ok (.lcmp, 1) := by decide +kernel
theorem d_law_880 : decode code 880 = .ok (.ifCond .eq 5, 3) := by decide +kernel
theorem d_law_883 : decode code 883 = .ok (.iconst 0, 1) := by decide +kernel
theorem d_law_884 : decode code 884 = .ok (.ireturn, 1) := by decide +kernel
theorem d_law_885 : decode code 885 = .ok (.goto 173, 3) := by decide +kernel
theorem d_law_888 : decode code 888 = .ok (.aload_n 1, 1) := by decide +kernel
theorem d_law_889 : decode code 889 = .ok (.aload_n 3, 1) := by decide +kernel
theorem d_law_890 : decode code 890 = .ok (.invokestatic 116, 3) := by decide +kernel
theorem d_law_893 : decode code 893 = .ok (.istore 5, 2) := by decide +kernel
theorem d_law_895 : decode code 895 = .ok (.aload_n 2, 1) := by decide +kernel
theorem d_law_896 : decode code 896 = .ok (.invokevirtual 118, 3) := by decide +kernel
theorem d_law_899 : decode code 899 = .ok (.istore 6, 2) := by decide +kernel
theorem d_law_901 : decode code 901 = .ok (.aload_n 2, 1) := by decide +kernel
theorem d_law_902 : decode code 902 = .ok (.invokevirtual 78, 3) := by decide +kernel
theorem d_law_905 : decode code 905 = .ok (.iload 5, 2) := by decide +kernel
theorem d_law_907 : decode code 907 = .ok (.if_icmp .eq 5, 3) := by decide +kernel
theorem d_law_910 : decode code 910 = .ok (.iconst 0, 1) := by decide +kernel
theorem d_law_911 : decode code 911 = .ok (.ireturn, 1) := by decide +kernel
theorem d_law_912 : decode code 912 = .ok (.iload 5, 2) := by decide +kernel
theorem d_law_914 : decode code 914 = .ok (.ifCond .ne 15, 3) := by decide +kernel
theorem d_law_917 : decode code 917 = .ok (.aload_n 3, 1) := by decide +kernel
theorem d_law_918 : decode code 918 = .ok (.iconst 0, 1) := by decide +kernel
theorem d_law_919 : decode code 919 = .ok (.laload, 1) := by decide +kernel
theorem d_law_920 : decode code 920 = .ok (.iload 6, 2) := by decide +kernel
theorem d_law_922 : decode code 922 = .ok (.i2l, 1) := by decide +kernel
theorem d_law_923 : decode code 923 = .ok (.lcmp, 1) := by decide +kernel
theorem d_law_924 : decode code 924 = .ok (.ifCond .eq 5, 3) := by decide +kernel
theorem d_law_927 : decode code 927 = .ok (.iconst 0, 1) := by decide +kernel
theorem d_law_928 : decode code 928 = .ok (.ireturn, 1) := by decide +kernel
theorem d_law_929 : decode code 929 = .ok (.goto 129, 3) := by decide +kernel
theorem d_law_932 : decode code 932 = .ok (.aload_n 1, 1) := by decide +kernel
theorem d_law_933 : decode code 933 = .ok (.invokevirtual 119, 3) := by decide +kernel
theorem d_law_936 : decode code 936 = .ok (.aload_n 2, 1) := by decide +kernel
theorem d_law_937 : decode code 937 = .ok (.invokevirtual 122, 3) := by decide +kernel
theorem d_law_940 : decode code 940 = .ok (.if_icmp .eq 118, 3) := by decide +kernel
theorem d_law_943 : decode code 943 = .ok (.iconst 0, 1) := by decide +kernel
theorem d_law_944 : decode code 944 = .ok (.ireturn, 1) := by decide +kernel
theorem d_law_945 : decode code 945 = .ok (.aload_n 1, 1) := by decide +kernel
theorem d_law_946 : decode code 946 = .ok (.aload_n 0, 1) := by decide +kernel
theorem d_law_947 : decode code 947 = .ok (.iload 4, 2) := by decide +kernel
theorem d_law_949 : decode code 949 = .ok (.iconst 1, 1) := by decide +kernel
theorem d_law_950 : decode code 950 = .ok (.iadd, 1) := by decide +kernel
theorem d_law_951 : decode code 951 = .ok (.iaload, 1) := by decide +kernel
theorem d_law_952 : decode code 952 = .ok (.invokevirtual 123, 3) := by decide +kernel
theorem d_law_955 : decode code 955 = .ok (.aload_n 2, 1) := by decide +kernel
theorem d_law_956 : decode code 956 = .ok (.aload_n 0, 1) := by decide +kernel
theorem d_law_957 : decode code 957 = .ok (.iload 4, 2) := by decide +kernel
theorem d_law_959 : decode code 959 = .ok (.iconst 1, 1) := by decide +kernel
theorem d_law_960 : decode code 960 = .ok (.iadd, 1) := by decide +kernel
theorem d_law_961 : decode code 961 = .ok (.iaload, 1) := by decide +kernel
theorem d_law_962 : decode code 962 = .ok (.invokevirtual 126, 3) := by decide +kernel
theorem d_law_965 : decode code 965 = .ok (.if_icmp .eq 93, 3) := by decide +kernel
theorem d_law_968 : decode code 968 = .ok (.iconst 0, 1) := by decide +kernel
theorem d_law_969 : decode code 969 = .ok (.ireturn, 1) := by decide +kernel
theorem d_law_970 : decode code 970 = .ok (.aload_n 1, 1) := by decide +kernel
theorem d_law_971 : decode code 971 = .ok (.aload_n 0, 1) := by decide +kernel
theorem d_law_972 : decode code 972 = .ok (.iload 4, 2) := by decide +kernel
theorem d_law_974 : decode code 974 = .ok (.iconst 1, 1) := by decide +kernel
theorem d_law_975 : decode code 975 = .ok (.iadd, 1) := by decide +kernel
theorem d_law_976 : decode code 976 = .ok (.iaload, 1) := by decide +kernel
theorem d_law_977 : decode code 977 = .ok (.aload_n 0, 1) := by decide +kernel
theorem d_law_978 : decode code 978 = .ok (.iload 4, 2) := by decide +kernel
theorem d_law_980 : decode code 980 = .ok (.iconst 2, 1) := by decide +kernel
theorem d_law_981 : decode code 981 = .ok (.iadd, 1) := by decide +kernel
theorem d_law_982 : decode code 982 = .ok (.iaload, 1) := by decide +kernel
theorem d_law_983 : decode code 983 = .ok (.invokevirtual 127, 3) := by decide +kernel
theorem d_law_986 : decode code 986 = .ok (.aload_n 2, 1) := by decide +kernel
theorem d_law_987 : decode code 987 = .ok (.aload_n 0, 1) := by decide +kernel
theorem d_law_988 : decode code 988 = .ok (.iload 4, 2) := by decide +kernel
theorem d_law_990 : decode code 990 = .ok (.iconst 1, 1) := by decide +kernel
theorem d_law_991 : decode code 991 = .ok (.iadd, 1) := by decide +kernel
theorem d_law_992 : decode code 992 = .ok (.iaload, 1) := by decide +kernel
theorem d_law_993 : decode code 993 = .ok (.aload_n 0, 1) := by decide +kernel
theorem d_law_994 : decode code 994 = .ok (.iload 4, 2) := by decide +kernel
theorem d_law_996 : decode code 996 = .ok (.iconst 2, 1) := by decide +kernel
theorem d_law_997 : decode code 997 = .ok (.iadd, 1) := by decide +kernel
theorem d_law_998 : decode code 998 = .ok (.iaload, 1) := by decide +kernel
theorem d_law_999 : decode code 999 = .ok (.invokevirtual 131, 3) := by decide +kernel
theorem d_law_1002 : decode code 1002 = .ok (.if_icmp .eq 56, 3) := by decide +kernel
theorem d_law_1005 : decode code 1005 = .ok (.iconst 0, 1) := by decide +kernel
theorem d_law_1006 : decode code 1006 = .ok (.ireturn, 1) := by decide +kernel
theorem d_law_1007 : decode code 1007 = .ok (.aload_n 1, 1) := by decide +kernel
theorem d_law_1008 : decode code 1008 = .ok (.aload_n 0, 1) := by decide +kernel
theorem d_law_1009 : decode code 1009 = .ok (.iload 4, 2) := by decide +kernel
theorem d_law_1011 : decode code 1011 = .ok (.iconst 1, 1) := by decide +kernel
theorem d_law_1012 : decode code 1012 = .ok (.iadd, 1) := by decide +kernel
theorem d_law_1013 : decode code 1013 = .ok (.iaload, 1) := by decide +kernel
theorem d_law_1014 : decode code 1014 = .ok (.invokevirtual 132, 3) := by decide +kernel
theorem d_law_1017 : decode code 1017 = .ok (.aload_n 2, 1) := by decide +kernel
theorem d_law_1018 : decode code 1018 = .ok (.aload_n 0, 1) := by decide +kernel
theorem d_law_1019 : decode code 1019 = .ok (.iload 4, 2) := by decide +kernel
theorem d_law_1021 : decode code 1021 = .ok (.iconst 1, 1) := by decide +kernel
theorem d_law_1022 : decode code 1022 = .ok (.iadd, 1) := by decide +kernel
theorem d_law_1023 : decode code 1023 = .ok (.iaload, 1) := by decide +kernel
theorem d_law_1024 : decode code 1024 = .ok (.invokevirtual 135, 3) := by decide +kernel
theorem d_law_1027 : decode code 1027 = .ok (.if_icmp .eq 31, 3) := by decide +kernel
theorem d_law_1030 : decode code 1030 = .ok (.iconst 0, 1) := by decide +kernel
theorem d_law_1031 : decode code 1031 = .ok (.ireturn, 1) := by decide +kernel
theorem d_law_1032 : decode code 1032 = .ok (.aload_n 1, 1) := by decide +kernel
theorem d_law_1033 : decode code 1033 = .ok (.invokevirtual 136, 3) := by decide +kernel
theorem d_law_1036 : decode code 1036 = .ok (.aload_n 2, 1) := by decide +kernel
theorem d_law_1037 : decode code 1037 = .ok (.invokevirtual 139, 3) := by decide +kernel
theorem d_law_1040 : decode code 1040 = .ok (.if_icmp .eq 18, 3) := by decide +kernel
theorem d_law_1043 : decode code 1043 = .ok (.iconst 0, 1) := by decide +kernel
theorem d_law_1044 : decode code 1044 = .ok (.ireturn, 1) := by decide +kernel
theorem d_law_1045 : decode code 1045 = .ok (.aload_n 1, 1) := by decide +kernel
theorem d_law_1046 : decode code 1046 = .ok (.invokevirtual 140, 3) := by decide +kernel
theorem d_law_1049 : decode code 1049 = .ok (.aload_n 2, 1) := by decide +kernel
theorem d_law_1050 : decode code 1050 = .ok (.invokevirtual 143, 3) := by decide +kernel
theorem d_law_1053 : decode code 1053 = .ok (.if_icmp .eq 5, 3) := by decide +kernel
theorem d_law_1056 : decode code 1056 = .ok (.iconst 0, 1) := by decide +kernel
theorem d_law_1057 : decode code 1057 = .ok (.ireturn, 1) := by decide +kernel
theorem d_law_1058 : decode code 1058 = .ok (.iinc 4 4, 3) := by decide +kernel
theorem d_law_1061 : decode code 1061 = .ok (.goto (-998), 3) := by decide +kernel
theorem d_law_1064 : decode code 1064 = .ok (.iconst 1, 1) := by decide +kernel
theorem d_law_1065 : decode code 1065 = .ok (.ireturn, 1) := by decide +kernel
