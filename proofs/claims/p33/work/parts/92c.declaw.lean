theorem db_La_600 : (decode code 902 = .ok (.aload_n 0, 1)) ∧ (decode code 903 = .ok (.iload_n 3, 1)) ∧ (decode code 904 = .ok (.iconst 5, 1)) ∧ (decode code 905 = .ok (.iadd, 1)) ∧ (decode code 906 = .ok (.iaload, 1)) ∧ (decode code 907 = .ok (.invokevirtual 117, 3)) ∧ (decode code 910 = .ok (.pop, 1)) ∧ (decode code 911 = .ok (.goto 273, 3)) ∧ (decode code 914 = .ok (.aload_n 1, 1)) ∧ (decode code 915 = .ok (.aload_n 0, 1)) ∧ (decode code 916 = .ok (.iload_n 3, 1)) ∧ (decode code 917 = .ok (.iconst 1, 1)) := by decide +kernel
theorem de_La_902 : decode code 902 = .ok (.aload_n 0, 1) := db_La_600.1
theorem de_La_903 : decode code 903 = .ok (.iload_n 3, 1) := db_La_600.2.1
theorem de_La_904 : decode code 904 = .ok (.iconst 5, 1) := db_La_600.2.2.1
theorem de_La_905 : decode code 905 = .ok (.iadd, 1) := db_La_600.2.2.2.1
theorem de_La_906 : decode code 906 = .ok (.iaload, 1) := db_La_600.2.2.2.2.1
theorem de_La_907 : decode code 907 = .ok (.invokevirtual 117, 3) := db_La_600.2.2.2.2.2.1
theorem de_La_910 : decode code 910 = .ok (.pop, 1) := db_La_600.2.2.2.2.2.2.1
theorem de_La_911 : decode code 911 = .ok (.goto 273, 3) := db_La_600.2.2.2.2.2.2.2.1
theorem de_La_914 : decode code 914 = .ok (.aload_n 1, 1) := db_La_600.2.2.2.2.2.2.2.2.1
theorem de_La_915 : decode code 915 = .ok (.aload_n 0, 1) := db_La_600.2.2.2.2.2.2.2.2.2.1
theorem de_La_916 : decode code 916 = .ok (.iload_n 3, 1) := db_La_600.2.2.2.2.2.2.2.2.2.2.1
theorem de_La_917 : decode code 917 = .ok (.iconst 1, 1) := db_La_600.2.2.2.2.2.2.2.2.2.2.2
theorem db_La_612 : (decode code 918 = .ok (.iadd, 1)) ∧ (decode code 919 = .ok (.iaload, 1)) ∧ (decode code 920 = .ok (.aload_n 0, 1)) ∧ (decode code 921 = .ok (.iload_n 3, 1)) ∧ (decode code 922 = .ok (.iconst 2, 1)) ∧ (decode code 923 = .ok (.iadd, 1)) ∧ (decode code 924 = .ok (.iaload, 1)) ∧ (decode code 925 = .ok (.aload_n 0, 1)) ∧ (decode code 926 = .ok (.iload_n 3, 1)) ∧ (decode code 927 = .ok (.iconst 3, 1)) ∧ (decode code 928 = .ok (.iadd, 1)) ∧ (decode code 929 = .ok (.iaload, 1)) := by decide +kernel
theorem de_La_918 : decode code 918 = .ok (.iadd, 1) := db_La_612.1
theorem de_La_919 : decode code 919 = .ok (.iaload, 1) := db_La_612.2.1
theorem de_La_920 : decode code 920 = .ok (.aload_n 0, 1) := db_La_612.2.2.1
theorem de_La_921 : decode code 921 = .ok (.iload_n 3, 1) := db_La_612.2.2.2.1
theorem de_La_922 : decode code 922 = .ok (.iconst 2, 1) := db_La_612.2.2.2.2.1
theorem de_La_923 : decode code 923 = .ok (.iadd, 1) := db_La_612.2.2.2.2.2.1
theorem de_La_924 : decode code 924 = .ok (.iaload, 1) := db_La_612.2.2.2.2.2.2.1
theorem de_La_925 : decode code 925 = .ok (.aload_n 0, 1) := db_La_612.2.2.2.2.2.2.2.1
theorem de_La_926 : decode code 926 = .ok (.iload_n 3, 1) := db_La_612.2.2.2.2.2.2.2.2.1
theorem de_La_927 : decode code 927 = .ok (.iconst 3, 1) := db_La_612.2.2.2.2.2.2.2.2.2.1
theorem de_La_928 : decode code 928 = .ok (.iadd, 1) := db_La_612.2.2.2.2.2.2.2.2.2.2.1
theorem de_La_929 : decode code 929 = .ok (.iaload, 1) := db_La_612.2.2.2.2.2.2.2.2.2.2.2
theorem db_La_624 : (decode code 930 = .ok (.aload_n 0, 1)) ∧ (decode code 931 = .ok (.iload_n 3, 1)) ∧ (decode code 932 = .ok (.iconst 4, 1)) ∧ (decode code 933 = .ok (.iadd, 1)) ∧ (decode code 934 = .ok (.iaload, 1)) ∧ (decode code 935 = .ok (.ifCond .eq 7, 3)) ∧ (decode code 938 = .ok (.iconst 1, 1)) ∧ (decode code 939 = .ok (.goto 4, 3)) ∧ (decode code 942 = .ok (.iconst 0, 1)) ∧ (decode code 943 = .ok (.invokevirtual 118, 3)) ∧ (decode code 946 = .ok (.pop, 1)) ∧ (decode code 947 = .ok (.aload_n 2, 1)) := by decide +kernel
theorem de_La_930 : decode code 930 = .ok (.aload_n 0, 1) := db_La_624.1
theorem de_La_931 : decode code 931 = .ok (.iload_n 3, 1) := db_La_624.2.1
theorem de_La_932 : decode code 932 = .ok (.iconst 4, 1) := db_La_624.2.2.1
theorem de_La_933 : decode code 933 = .ok (.iadd, 1) := db_La_624.2.2.2.1
theorem de_La_934 : decode code 934 = .ok (.iaload, 1) := db_La_624.2.2.2.2.1
theorem de_La_935 : decode code 935 = .ok (.ifCond .eq 7, 3) := db_La_624.2.2.2.2.2.1
theorem de_La_938 : decode code 938 = .ok (.iconst 1, 1) := db_La_624.2.2.2.2.2.2.1
theorem de_La_939 : decode code 939 = .ok (.goto 4, 3) := db_La_624.2.2.2.2.2.2.2.1
theorem de_La_942 : decode code 942 = .ok (.iconst 0, 1) := db_La_624.2.2.2.2.2.2.2.2.1
theorem de_La_943 : decode code 943 = .ok (.invokevirtual 118, 3) := db_La_624.2.2.2.2.2.2.2.2.2.1
theorem de_La_946 : decode code 946 = .ok (.pop, 1) := db_La_624.2.2.2.2.2.2.2.2.2.2.1
theorem de_La_947 : decode code 947 = .ok (.aload_n 2, 1) := db_La_624.2.2.2.2.2.2.2.2.2.2.2
theorem db_La_636 : (decode code 948 = .ok (.aload_n 0, 1)) ∧ (decode code 949 = .ok (.iload_n 3, 1)) ∧ (decode code 950 = .ok (.iconst 1, 1)) ∧ (decode code 951 = .ok (.iadd, 1)) ∧ (decode code 952 = .ok (.iaload, 1)) ∧ (decode code 953 = .ok (.aload_n 0, 1)) ∧ (decode code 954 = .ok (.iload_n 3, 1)) ∧ (decode code 955 = .ok (.iconst 2, 1)) ∧ (decode code 956 = .ok (.iadd, 1)) ∧ (decode code 957 = .ok (.iaload, 1)) ∧ (decode code 958 = .ok (.aload_n 0, 1)) ∧ (decode code 959 = .ok (.iload_n 3, 1)) := by decide +kernel
theorem de_La_948 : decode code 948 = .ok (.aload_n 0, 1) := db_La_636.1
theorem de_La_949 : decode code 949 = .ok (.iload_n 3, 1) := db_La_636.2.1
theorem de_La_950 : decode code 950 = .ok (.iconst 1, 1) := db_La_636.2.2.1
theorem de_La_951 : decode code 951 = .ok (.iadd, 1) := db_La_636.2.2.2.1
theorem de_La_952 : decode code 952 = .ok (.iaload, 1) := db_La_636.2.2.2.2.1
theorem de_La_953 : decode code 953 = .ok (.aload_n 0, 1) := db_La_636.2.2.2.2.2.1
theorem de_La_954 : decode code 954 = .ok (.iload_n 3, 1) := db_La_636.2.2.2.2.2.2.1
theorem de_La_955 : decode code 955 = .ok (.iconst 2, 1) := db_La_636.2.2.2.2.2.2.2.1
theorem de_La_956 : decode code 956 = .ok (.iadd, 1) := db_La_636.2.2.2.2.2.2.2.2.1
theorem de_La_957 : decode code 957 = .ok (.iaload, 1) := db_La_636.2.2.2.2.2.2.2.2.2.1
theorem de_La_958 : decode code 958 = .ok (.aload_n 0, 1) := db_La_636.2.2.2.2.2.2.2.2.2.2.1
theorem de_La_959 : decode code 959 = .ok (.iload_n 3, 1) := db_La_636.2.2.2.2.2.2.2.2.2.2.2
theorem db_La_648 : (decode code 960 = .ok (.iconst 3, 1)) ∧ (decode code 961 = .ok (.iadd, 1)) ∧ (decode code 962 = .ok (.iaload, 1)) ∧ (decode code 963 = .ok (.aload_n 0, 1)) ∧ (decode code 964 = .ok (.iload_n 3, 1)) ∧ (decode code 965 = .ok (.iconst 4, 1)) ∧ (decode code 966 = .ok (.iadd, 1)) ∧ (decode code 967 = .ok (.iaload, 1)) ∧ (decode code 968 = .ok (.ifCond .eq 7, 3)) ∧ (decode code 971 = .ok (.iconst 1, 1)) ∧ (decode code 972 = .ok (.goto 4, 3)) ∧ (decode code 975 = .ok (.iconst 0, 1)) := by decide +kernel
theorem de_La_960 : decode code 960 = .ok (.iconst 3, 1) := db_La_648.1
theorem de_La_961 : decode code 961 = .ok (.iadd, 1) := db_La_648.2.1
theorem de_La_962 : decode code 962 = .ok (.iaload, 1) := db_La_648.2.2.1
theorem de_La_963 : decode code 963 = .ok (.aload_n 0, 1) := db_La_648.2.2.2.1
theorem de_La_964 : decode code 964 = .ok (.iload_n 3, 1) := db_La_648.2.2.2.2.1
theorem de_La_965 : decode code 965 = .ok (.iconst 4, 1) := db_La_648.2.2.2.2.2.1
theorem de_La_966 : decode code 966 = .ok (.iadd, 1) := db_La_648.2.2.2.2.2.2.1
theorem de_La_967 : decode code 967 = .ok (.iaload, 1) := db_La_648.2.2.2.2.2.2.2.1
theorem de_La_968 : decode code 968 = .ok (.ifCond .eq 7, 3) := db_La_648.2.2.2.2.2.2.2.2.1
theorem de_La_971 : decode code 971 = .ok (.iconst 1, 1) := db_La_648.2.2.2.2.2.2.2.2.2.1
theorem de_La_972 : decode code 972 = .ok (.goto 4, 3) := db_La_648.2.2.2.2.2.2.2.2.2.2.1
theorem de_La_975 : decode code 975 = .ok (.iconst 0, 1) := db_La_648.2.2.2.2.2.2.2.2.2.2.2
theorem db_La_660 : (decode code 976 = .ok (.invokevirtual 122, 3)) ∧ (decode code 979 = .ok (.pop, 1)) ∧ (decode code 980 = .ok (.goto 204, 3)) ∧ (decode code 983 = .ok (.aload_n 1, 1)) ∧ (decode code 984 = .ok (.aload_n 0, 1)) ∧ (decode code 985 = .ok (.iload_n 3, 1)) ∧ (decode code 986 = .ok (.iconst 1, 1)) ∧ (decode code 987 = .ok (.iadd, 1)) ∧ (decode code 988 = .ok (.iaload, 1)) ∧ (decode code 989 = .ok (.invokevirtual 123, 3)) ∧ (decode code 992 = .ok (.pop, 1)) ∧ (decode code 993 = .ok (.aload_n 2, 1)) := by decide +kernel
theorem de_La_976 : decode code 976 = .ok (.invokevirtual 122, 3) := db_La_660.1
theorem de_La_979 : decode code 979 = .ok (.pop, 1) := db_La_660.2.1
theorem de_La_980 : decode code 980 = .ok (.goto 204, 3) := db_La_660.2.2.1
theorem de_La_983 : decode code 983 = .ok (.aload_n 1, 1) := db_La_660.2.2.2.1
theorem de_La_984 : decode code 984 = .ok (.aload_n 0, 1) := db_La_660.2.2.2.2.1
theorem de_La_985 : decode code 985 = .ok (.iload_n 3, 1) := db_La_660.2.2.2.2.2.1
theorem de_La_986 : decode code 986 = .ok (.iconst 1, 1) := db_La_660.2.2.2.2.2.2.1
theorem de_La_987 : decode code 987 = .ok (.iadd, 1) := db_La_660.2.2.2.2.2.2.2.1
theorem de_La_988 : decode code 988 = .ok (.iaload, 1) := db_La_660.2.2.2.2.2.2.2.2.1
theorem de_La_989 : decode code 989 = .ok (.invokevirtual 123, 3) := db_La_660.2.2.2.2.2.2.2.2.2.1
theorem de_La_992 : decode code 992 = .ok (.pop, 1) := db_La_660.2.2.2.2.2.2.2.2.2.2.1
theorem de_La_993 : decode code 993 = .ok (.aload_n 2, 1) := db_La_660.2.2.2.2.2.2.2.2.2.2.2
theorem db_La_672 : (decode code 994 = .ok (.aload_n 0, 1)) ∧ (decode code 995 = .ok (.iload_n 3, 1)) ∧ (decode code 996 = .ok (.iconst 1, 1)) ∧ (decode code 997 = .ok (.iadd, 1)) ∧ (decode code 998 = .ok (.iaload, 1)) ∧ (decode code 999 = .ok (.invokevirtual 126, 3)) ∧ (decode code 1002 = .ok (.pop, 1)) ∧ (decode code 1003 = .ok (.goto 181, 3)) ∧ (decode code 1006 = .ok (.aload_n 1, 1)) ∧ (decode code 1007 = .ok (.aload_n 0, 1)) ∧ (decode code 1008 = .ok (.iload_n 3, 1)) ∧ (decode code 1009 = .ok (.iconst 1, 1)) := by decide +kernel
theorem de_La_994 : decode code 994 = .ok (.aload_n 0, 1) := db_La_672.1
theorem de_La_995 : decode code 995 = .ok (.iload_n 3, 1) := db_La_672.2.1
theorem de_La_996 : decode code 996 = .ok (.iconst 1, 1) := db_La_672.2.2.1
theorem de_La_997 : decode code 997 = .ok (.iadd, 1) := db_La_672.2.2.2.1
theorem de_La_998 : decode code 998 = .ok (.iaload, 1) := db_La_672.2.2.2.2.1
theorem de_La_999 : decode code 999 = .ok (.invokevirtual 126, 3) := db_La_672.2.2.2.2.2.1
theorem de_La_1002 : decode code 1002 = .ok (.pop, 1) := db_La_672.2.2.2.2.2.2.1
theorem de_La_1003 : decode code 1003 = .ok (.goto 181, 3) := db_La_672.2.2.2.2.2.2.2.1
theorem de_La_1006 : decode code 1006 = .ok (.aload_n 1, 1) := db_La_672.2.2.2.2.2.2.2.2.1
theorem de_La_1007 : decode code 1007 = .ok (.aload_n 0, 1) := db_La_672.2.2.2.2.2.2.2.2.2.1
theorem de_La_1008 : decode code 1008 = .ok (.iload_n 3, 1) := db_La_672.2.2.2.2.2.2.2.2.2.2.1
theorem de_La_1009 : decode code 1009 = .ok (.iconst 1, 1) := db_La_672.2.2.2.2.2.2.2.2.2.2.2
theorem db_La_684 : (decode code 1010 = .ok (.iadd, 1)) ∧ (decode code 1011 = .ok (.iaload, 1)) ∧ (decode code 1012 = .ok (.aload_n 0, 1)) ∧ (decode code 1013 = .ok (.iload_n 3, 1)) ∧ (decode code 1014 = .ok (.iconst 2, 1)) ∧ (decode code 1015 = .ok (.iadd, 1)) ∧ (decode code 1016 = .ok (.iaload, 1)) ∧ (decode code 1017 = .ok (.invokevirtual 127, 3)) ∧ (decode code 1020 = .ok (.pop, 1)) ∧ (decode code 1021 = .ok (.aload_n 2, 1)) ∧ (decode code 1022 = .ok (.aload_n 0, 1)) ∧ (decode code 1023 = .ok (.iload_n 3, 1)) := by decide +kernel
theorem de_La_1010 : decode code 1010 = .ok (.iadd, 1) := db_La_684.1
theorem de_La_1011 : decode code 1011 = .ok (.iaload, 1) := db_La_684.2.1
theorem de_La_1012 : decode code 1012 = .ok (.aload_n 0, 1) := db_La_684.2.2.1
theorem de_La_1013 : decode code 1013 = .ok (.iload_n 3, 1) := db_La_684.2.2.2.1
theorem de_La_1014 : decode code 1014 = .ok (.iconst 2, 1) := db_La_684.2.2.2.2.1
theorem de_La_1015 : decode code 1015 = .ok (.iadd, 1) := db_La_684.2.2.2.2.2.1
theorem de_La_1016 : decode code 1016 = .ok (.iaload, 1) := db_La_684.2.2.2.2.2.2.1
theorem de_La_1017 : decode code 1017 = .ok (.invokevirtual 127, 3) := db_La_684.2.2.2.2.2.2.2.1
theorem de_La_1020 : decode code 1020 = .ok (.pop, 1) := db_La_684.2.2.2.2.2.2.2.2.1
theorem de_La_1021 : decode code 1021 = .ok (.aload_n 2, 1) := db_La_684.2.2.2.2.2.2.2.2.2.1
theorem de_La_1022 : decode code 1022 = .ok (.aload_n 0, 1) := db_La_684.2.2.2.2.2.2.2.2.2.2.1
theorem de_La_1023 : decode code 1023 = .ok (.iload_n 3, 1) := db_La_684.2.2.2.2.2.2.2.2.2.2.2
theorem db_La_696 : (decode code 1024 = .ok (.iconst 1, 1)) ∧ (decode code 1025 = .ok (.iadd, 1)) ∧ (decode code 1026 = .ok (.iaload, 1)) ∧ (decode code 1027 = .ok (.aload_n 0, 1)) ∧ (decode code 1028 = .ok (.iload_n 3, 1)) ∧ (decode code 1029 = .ok (.iconst 2, 1)) ∧ (decode code 1030 = .ok (.iadd, 1)) ∧ (decode code 1031 = .ok (.iaload, 1)) ∧ (decode code 1032 = .ok (.invokevirtual 130, 3)) ∧ (decode code 1035 = .ok (.pop, 1)) ∧ (decode code 1036 = .ok (.goto 148, 3)) ∧ (decode code 1039 = .ok (.aload_n 1, 1)) := by decide +kernel
theorem de_La_1024 : decode code 1024 = .ok (.iconst 1, 1) := db_La_696.1
theorem de_La_1025 : decode code 1025 = .ok (.iadd, 1) := db_La_696.2.1
theorem de_La_1026 : decode code 1026 = .ok (.iaload, 1) := db_La_696.2.2.1
theorem de_La_1027 : decode code 1027 = .ok (.aload_n 0, 1) := db_La_696.2.2.2.1
theorem de_La_1028 : decode code 1028 = .ok (.iload_n 3, 1) := db_La_696.2.2.2.2.1
theorem de_La_1029 : decode code 1029 = .ok (.iconst 2, 1) := db_La_696.2.2.2.2.2.1
theorem de_La_1030 : decode code 1030 = .ok (.iadd, 1) := db_La_696.2.2.2.2.2.2.1
theorem de_La_1031 : decode code 1031 = .ok (.iaload, 1) := db_La_696.2.2.2.2.2.2.2.1
theorem de_La_1032 : decode code 1032 = .ok (.invokevirtual 130, 3) := db_La_696.2.2.2.2.2.2.2.2.1
theorem de_La_1035 : decode code 1035 = .ok (.pop, 1) := db_La_696.2.2.2.2.2.2.2.2.2.1
theorem de_La_1036 : decode code 1036 = .ok (.goto 148, 3) := db_La_696.2.2.2.2.2.2.2.2.2.2.1
theorem de_La_1039 : decode code 1039 = .ok (.aload_n 1, 1) := db_La_696.2.2.2.2.2.2.2.2.2.2.2
theorem db_La_708 : (decode code 1040 = .ok (.aload_n 0, 1)) ∧ (decode code 1041 = .ok (.iload_n 3, 1)) ∧ (decode code 1042 = .ok (.iconst 1, 1)) ∧ (decode code 1043 = .ok (.iadd, 1)) ∧ (decode code 1044 = .ok (.iaload, 1)) ∧ (decode code 1045 = .ok (.invokevirtual 131, 3)) ∧ (decode code 1048 = .ok (.pop, 1)) ∧ (decode code 1049 = .ok (.aload_n 2, 1)) ∧ (decode code 1050 = .ok (.aload_n 0, 1)) ∧ (decode code 1051 = .ok (.iload_n 3, 1)) ∧ (decode code 1052 = .ok (.iconst 1, 1)) ∧ (decode code 1053 = .ok (.iadd, 1)) := by decide +kernel
theorem de_La_1040 : decode code 1040 = .ok (.aload_n 0, 1) := db_La_708.1
theorem de_La_1041 : decode code 1041 = .ok (.iload_n 3, 1) := db_La_708.2.1
theorem de_La_1042 : decode code 1042 = .ok (.iconst 1, 1) := db_La_708.2.2.1
theorem de_La_1043 : decode code 1043 = .ok (.iadd, 1) := db_La_708.2.2.2.1
theorem de_La_1044 : decode code 1044 = .ok (.iaload, 1) := db_La_708.2.2.2.2.1
theorem de_La_1045 : decode code 1045 = .ok (.invokevirtual 131, 3) := db_La_708.2.2.2.2.2.1
theorem de_La_1048 : decode code 1048 = .ok (.pop, 1) := db_La_708.2.2.2.2.2.2.1
theorem de_La_1049 : decode code 1049 = .ok (.aload_n 2, 1) := db_La_708.2.2.2.2.2.2.2.1
theorem de_La_1050 : decode code 1050 = .ok (.aload_n 0, 1) := db_La_708.2.2.2.2.2.2.2.2.1
theorem de_La_1051 : decode code 1051 = .ok (.iload_n 3, 1) := db_La_708.2.2.2.2.2.2.2.2.2.1
theorem de_La_1052 : decode code 1052 = .ok (.iconst 1, 1) := db_La_708.2.2.2.2.2.2.2.2.2.2.1
theorem de_La_1053 : decode code 1053 = .ok (.iadd, 1) := db_La_708.2.2.2.2.2.2.2.2.2.2.2
theorem db_La_720 : (decode code 1054 = .ok (.iaload, 1)) ∧ (decode code 1055 = .ok (.invokevirtual 134, 3)) ∧ (decode code 1058 = .ok (.pop, 1)) ∧ (decode code 1059 = .ok (.goto 125, 3)) ∧ (decode code 1062 = .ok (.aload_n 1, 1)) ∧ (decode code 1063 = .ok (.aload_n 0, 1)) ∧ (decode code 1064 = .ok (.iload_n 3, 1)) ∧ (decode code 1065 = .ok (.iconst 1, 1)) ∧ (decode code 1066 = .ok (.iadd, 1)) ∧ (decode code 1067 = .ok (.iaload, 1)) ∧ (decode code 1068 = .ok (.aload_n 0, 1)) ∧ (decode code 1069 = .ok (.iload_n 3, 1)) := by decide +kernel
theorem de_La_1054 : decode code 1054 = .ok (.iaload, 1) := db_La_720.1
theorem de_La_1055 : decode code 1055 = .ok (.invokevirtual 134, 3) := db_La_720.2.1
theorem de_La_1058 : decode code 1058 = .ok (.pop, 1) := db_La_720.2.2.1
theorem de_La_1059 : decode code 1059 = .ok (.goto 125, 3) := db_La_720.2.2.2.1
theorem de_La_1062 : decode code 1062 = .ok (.aload_n 1, 1) := db_La_720.2.2.2.2.1
theorem de_La_1063 : decode code 1063 = .ok (.aload_n 0, 1) := db_La_720.2.2.2.2.2.1
theorem de_La_1064 : decode code 1064 = .ok (.iload_n 3, 1) := db_La_720.2.2.2.2.2.2.1
theorem de_La_1065 : decode code 1065 = .ok (.iconst 1, 1) := db_La_720.2.2.2.2.2.2.2.1
theorem de_La_1066 : decode code 1066 = .ok (.iadd, 1) := db_La_720.2.2.2.2.2.2.2.2.1
theorem de_La_1067 : decode code 1067 = .ok (.iaload, 1) := db_La_720.2.2.2.2.2.2.2.2.2.1
theorem de_La_1068 : decode code 1068 = .ok (.aload_n 0, 1) := db_La_720.2.2.2.2.2.2.2.2.2.2.1
theorem de_La_1069 : decode code 1069 = .ok (.iload_n 3, 1) := db_La_720.2.2.2.2.2.2.2.2.2.2.2
theorem db_La_732 : (decode code 1070 = .ok (.iconst 2, 1)) ∧ (decode code 1071 = .ok (.iadd, 1)) ∧ (decode code 1072 = .ok (.iaload, 1)) ∧ (decode code 1073 = .ok (.aload_n 0, 1)) ∧ (decode code 1074 = .ok (.iload_n 3, 1)) ∧ (decode code 1075 = .ok (.iconst 3, 1)) ∧ (decode code 1076 = .ok (.iadd, 1)) ∧ (decode code 1077 = .ok (.iaload, 1)) ∧ (decode code 1078 = .ok (.aload_n 0, 1)) ∧ (decode code 1079 = .ok (.iload_n 3, 1)) ∧ (decode code 1080 = .ok (.iconst 4, 1)) ∧ (decode code 1081 = .ok (.iadd, 1)) := by decide +kernel
theorem de_La_1070 : decode code 1070 = .ok (.iconst 2, 1) := db_La_732.1
theorem de_La_1071 : decode code 1071 = .ok (.iadd, 1) := db_La_732.2.1
theorem de_La_1072 : decode code 1072 = .ok (.iaload, 1) := db_La_732.2.2.1
theorem de_La_1073 : decode code 1073 = .ok (.aload_n 0, 1) := db_La_732.2.2.2.1
theorem de_La_1074 : decode code 1074 = .ok (.iload_n 3, 1) := db_La_732.2.2.2.2.1
theorem de_La_1075 : decode code 1075 = .ok (.iconst 3, 1) := db_La_732.2.2.2.2.2.1
theorem de_La_1076 : decode code 1076 = .ok (.iadd, 1) := db_La_732.2.2.2.2.2.2.1
theorem de_La_1077 : decode code 1077 = .ok (.iaload, 1) := db_La_732.2.2.2.2.2.2.2.1
theorem de_La_1078 : decode code 1078 = .ok (.aload_n 0, 1) := db_La_732.2.2.2.2.2.2.2.2.1
theorem de_La_1079 : decode code 1079 = .ok (.iload_n 3, 1) := db_La_732.2.2.2.2.2.2.2.2.2.1
theorem de_La_1080 : decode code 1080 = .ok (.iconst 4, 1) := db_La_732.2.2.2.2.2.2.2.2.2.2.1
theorem de_La_1081 : decode code 1081 = .ok (.iadd, 1) := db_La_732.2.2.2.2.2.2.2.2.2.2.2
theorem db_La_744 : (decode code 1082 = .ok (.iaload, 1)) ∧ (decode code 1083 = .ok (.invokevirtual 135, 3)) ∧ (decode code 1086 = .ok (.pop, 1)) ∧ (decode code 1087 = .ok (.aload_n 2, 1)) ∧ (decode code 1088 = .ok (.aload_n 0, 1)) ∧ (decode code 1089 = .ok (.iload_n 3, 1)) ∧ (decode code 1090 = .ok (.iconst 1, 1)) ∧ (decode code 1091 = .ok (.iadd, 1)) ∧ (decode code 1092 = .ok (.iaload, 1)) ∧ (decode code 1093 = .ok (.aload_n 0, 1)) ∧ (decode code 1094 = .ok (.iload_n 3, 1)) ∧ (decode code 1095 = .ok (.iconst 2, 1)) := by decide +kernel
theorem de_La_1082 : decode code 1082 = .ok (.iaload, 1) := db_La_744.1
theorem de_La_1083 : decode code 1083 = .ok (.invokevirtual 135, 3) := db_La_744.2.1
theorem de_La_1086 : decode code 1086 = .ok (.pop, 1) := db_La_744.2.2.1
theorem de_La_1087 : decode code 1087 = .ok (.aload_n 2, 1) := db_La_744.2.2.2.1
theorem de_La_1088 : decode code 1088 = .ok (.aload_n 0, 1) := db_La_744.2.2.2.2.1
theorem de_La_1089 : decode code 1089 = .ok (.iload_n 3, 1) := db_La_744.2.2.2.2.2.1
theorem de_La_1090 : decode code 1090 = .ok (.iconst 1, 1) := db_La_744.2.2.2.2.2.2.1
theorem de_La_1091 : decode code 1091 = .ok (.iadd, 1) := db_La_744.2.2.2.2.2.2.2.1
theorem de_La_1092 : decode code 1092 = .ok (.iaload, 1) := db_La_744.2.2.2.2.2.2.2.2.1
theorem de_La_1093 : decode code 1093 = .ok (.aload_n 0, 1) := db_La_744.2.2.2.2.2.2.2.2.2.1
theorem de_La_1094 : decode code 1094 = .ok (.iload_n 3, 1) := db_La_744.2.2.2.2.2.2.2.2.2.2.1
theorem de_La_1095 : decode code 1095 = .ok (.iconst 2, 1) := db_La_744.2.2.2.2.2.2.2.2.2.2.2
theorem db_La_756 : (decode code 1096 = .ok (.iadd, 1)) ∧ (decode code 1097 = .ok (.iaload, 1)) ∧ (decode code 1098 = .ok (.aload_n 0, 1)) ∧ (decode code 1099 = .ok (.iload_n 3, 1)) ∧ (decode code 1100 = .ok (.iconst 3, 1)) ∧ (decode code 1101 = .ok (.iadd, 1)) ∧ (decode code 1102 = .ok (.iaload, 1)) ∧ (decode code 1103 = .ok (.aload_n 0, 1)) ∧ (decode code 1104 = .ok (.iload_n 3, 1)) ∧ (decode code 1105 = .ok (.iconst 4, 1)) ∧ (decode code 1106 = .ok (.iadd, 1)) ∧ (decode code 1107 = .ok (.iaload, 1)) := by decide +kernel
theorem de_La_1096 : decode code 1096 = .ok (.iadd, 1) := db_La_756.1
theorem de_La_1097 : decode code 1097 = .ok (.iaload, 1) := db_La_756.2.1
theorem de_La_1098 : decode code 1098 = .ok (.aload_n 0, 1) := db_La_756.2.2.1
theorem de_La_1099 : decode code 1099 = .ok (.iload_n 3, 1) := db_La_756.2.2.2.1
theorem de_La_1100 : decode code 1100 = .ok (.iconst 3, 1) := db_La_756.2.2.2.2.1
theorem de_La_1101 : decode code 1101 = .ok (.iadd, 1) := db_La_756.2.2.2.2.2.1
theorem de_La_1102 : decode code 1102 = .ok (.iaload, 1) := db_La_756.2.2.2.2.2.2.1
theorem de_La_1103 : decode code 1103 = .ok (.aload_n 0, 1) := db_La_756.2.2.2.2.2.2.2.1
theorem de_La_1104 : decode code 1104 = .ok (.iload_n 3, 1) := db_La_756.2.2.2.2.2.2.2.2.1
theorem de_La_1105 : decode code 1105 = .ok (.iconst 4, 1) := db_La_756.2.2.2.2.2.2.2.2.2.1
theorem de_La_1106 : decode code 1106 = .ok (.iadd, 1) := db_La_756.2.2.2.2.2.2.2.2.2.2.1
theorem de_La_1107 : decode code 1107 = .ok (.iaload, 1) := db_La_756.2.2.2.2.2.2.2.2.2.2.2
theorem db_La_768 : (decode code 1108 = .ok (.invokevirtual 138, 3)) ∧ (decode code 1111 = .ok (.pop, 1)) ∧ (decode code 1112 = .ok (.goto 72, 3)) ∧ (decode code 1115 = .ok (.aload_n 1, 1)) ∧ (decode code 1116 = .ok (.aload_n 0, 1)) ∧ (decode code 1117 = .ok (.iload_n 3, 1)) ∧ (decode code 1118 = .ok (.iconst 1, 1)) ∧ (decode code 1119 = .ok (.iadd, 1)) ∧ (decode code 1120 = .ok (.iaload, 1)) ∧ (decode code 1121 = .ok (.invokevirtual 139, 3)) ∧ (decode code 1124 = .ok (.pop, 1)) ∧ (decode code 1125 = .ok (.aload_n 2, 1)) := by decide +kernel
theorem de_La_1108 : decode code 1108 = .ok (.invokevirtual 138, 3) := db_La_768.1
theorem de_La_1111 : decode code 1111 = .ok (.pop, 1) := db_La_768.2.1
theorem de_La_1112 : decode code 1112 = .ok (.goto 72, 3) := db_La_768.2.2.1
theorem de_La_1115 : decode code 1115 = .ok (.aload_n 1, 1) := db_La_768.2.2.2.1
theorem de_La_1116 : decode code 1116 = .ok (.aload_n 0, 1) := db_La_768.2.2.2.2.1
theorem de_La_1117 : decode code 1117 = .ok (.iload_n 3, 1) := db_La_768.2.2.2.2.2.1
theorem de_La_1118 : decode code 1118 = .ok (.iconst 1, 1) := db_La_768.2.2.2.2.2.2.1
theorem de_La_1119 : decode code 1119 = .ok (.iadd, 1) := db_La_768.2.2.2.2.2.2.2.1
theorem de_La_1120 : decode code 1120 = .ok (.iaload, 1) := db_La_768.2.2.2.2.2.2.2.2.1
theorem de_La_1121 : decode code 1121 = .ok (.invokevirtual 139, 3) := db_La_768.2.2.2.2.2.2.2.2.2.1
theorem de_La_1124 : decode code 1124 = .ok (.pop, 1) := db_La_768.2.2.2.2.2.2.2.2.2.2.1
theorem de_La_1125 : decode code 1125 = .ok (.aload_n 2, 1) := db_La_768.2.2.2.2.2.2.2.2.2.2.2
theorem db_La_780 : (decode code 1126 = .ok (.aload_n 0, 1)) ∧ (decode code 1127 = .ok (.iload_n 3, 1)) ∧ (decode code 1128 = .ok (.iconst 1, 1)) ∧ (decode code 1129 = .ok (.iadd, 1)) ∧ (decode code 1130 = .ok (.iaload, 1)) ∧ (decode code 1131 = .ok (.invokevirtual 142, 3)) ∧ (decode code 1134 = .ok (.pop, 1)) ∧ (decode code 1135 = .ok (.goto 49, 3)) ∧ (decode code 1138 = .ok (.aload_n 1, 1)) ∧ (decode code 1139 = .ok (.aload_n 0, 1)) ∧ (decode code 1140 = .ok (.iload_n 3, 1)) ∧ (decode code 1141 = .ok (.iconst 1, 1)) := by decide +kernel
theorem de_La_1126 : decode code 1126 = .ok (.aload_n 0, 1) := db_La_780.1
theorem de_La_1127 : decode code 1127 = .ok (.iload_n 3, 1) := db_La_780.2.1
theorem de_La_1128 : decode code 1128 = .ok (.iconst 1, 1) := db_La_780.2.2.1
theorem de_La_1129 : decode code 1129 = .ok (.iadd, 1) := db_La_780.2.2.2.1
theorem de_La_1130 : decode code 1130 = .ok (.iaload, 1) := db_La_780.2.2.2.2.1
theorem de_La_1131 : decode code 1131 = .ok (.invokevirtual 142, 3) := db_La_780.2.2.2.2.2.1
theorem de_La_1134 : decode code 1134 = .ok (.pop, 1) := db_La_780.2.2.2.2.2.2.1
theorem de_La_1135 : decode code 1135 = .ok (.goto 49, 3) := db_La_780.2.2.2.2.2.2.2.1
theorem de_La_1138 : decode code 1138 = .ok (.aload_n 1, 1) := db_La_780.2.2.2.2.2.2.2.2.1
theorem de_La_1139 : decode code 1139 = .ok (.aload_n 0, 1) := db_La_780.2.2.2.2.2.2.2.2.2.1
theorem de_La_1140 : decode code 1140 = .ok (.iload_n 3, 1) := db_La_780.2.2.2.2.2.2.2.2.2.2.1
theorem de_La_1141 : decode code 1141 = .ok (.iconst 1, 1) := db_La_780.2.2.2.2.2.2.2.2.2.2.2
theorem db_La_792 : (decode code 1142 = .ok (.iadd, 1)) ∧ (decode code 1143 = .ok (.iaload, 1)) ∧ (decode code 1144 = .ok (.invokevirtual 143, 3)) ∧ (decode code 1147 = .ok (.pop, 1)) ∧ (decode code 1148 = .ok (.aload_n 2, 1)) ∧ (decode code 1149 = .ok (.aload_n 0, 1)) ∧ (decode code 1150 = .ok (.iload_n 3, 1)) ∧ (decode code 1151 = .ok (.iconst 1, 1)) ∧ (decode code 1152 = .ok (.iadd, 1)) ∧ (decode code 1153 = .ok (.iaload, 1)) ∧ (decode code 1154 = .ok (.invokevirtual 146, 3)) ∧ (decode code 1157 = .ok (.pop, 1)) := by decide +kernel
theorem de_La_1142 : decode code 1142 = .ok (.iadd, 1) := db_La_792.1
theorem de_La_1143 : decode code 1143 = .ok (.iaload, 1) := db_La_792.2.1
theorem de_La_1144 : decode code 1144 = .ok (.invokevirtual 143, 3) := db_La_792.2.2.1
theorem de_La_1147 : decode code 1147 = .ok (.pop, 1) := db_La_792.2.2.2.1
theorem de_La_1148 : decode code 1148 = .ok (.aload_n 2, 1) := db_La_792.2.2.2.2.1
theorem de_La_1149 : decode code 1149 = .ok (.aload_n 0, 1) := db_La_792.2.2.2.2.2.1
theorem de_La_1150 : decode code 1150 = .ok (.iload_n 3, 1) := db_La_792.2.2.2.2.2.2.1
theorem de_La_1151 : decode code 1151 = .ok (.iconst 1, 1) := db_La_792.2.2.2.2.2.2.2.1
theorem de_La_1152 : decode code 1152 = .ok (.iadd, 1) := db_La_792.2.2.2.2.2.2.2.2.1
theorem de_La_1153 : decode code 1153 = .ok (.iaload, 1) := db_La_792.2.2.2.2.2.2.2.2.2.1
theorem de_La_1154 : decode code 1154 = .ok (.invokevirtual 146, 3) := db_La_792.2.2.2.2.2.2.2.2.2.2.1
theorem de_La_1157 : decode code 1157 = .ok (.pop, 1) := db_La_792.2.2.2.2.2.2.2.2.2.2.2
theorem db_La_804 : (decode code 1158 = .ok (.goto 26, 3)) ∧ (decode code 1161 = .ok (.aload_n 1, 1)) ∧ (decode code 1162 = .ok (.aload_n 0, 1)) ∧ (decode code 1163 = .ok (.iload_n 3, 1)) ∧ (decode code 1164 = .ok (.iconst 1, 1)) ∧ (decode code 1165 = .ok (.iadd, 1)) ∧ (decode code 1166 = .ok (.iaload, 1)) ∧ (decode code 1167 = .ok (.invokevirtual 147, 3)) ∧ (decode code 1170 = .ok (.aload_n 2, 1)) ∧ (decode code 1171 = .ok (.aload_n 0, 1)) ∧ (decode code 1172 = .ok (.iload_n 3, 1)) ∧ (decode code 1173 = .ok (.iconst 1, 1)) := by decide +kernel
theorem de_La_1158 : decode code 1158 = .ok (.goto 26, 3) := db_La_804.1
theorem de_La_1161 : decode code 1161 = .ok (.aload_n 1, 1) := db_La_804.2.1
theorem de_La_1162 : decode code 1162 = .ok (.aload_n 0, 1) := db_La_804.2.2.1
theorem de_La_1163 : decode code 1163 = .ok (.iload_n 3, 1) := db_La_804.2.2.2.1
theorem de_La_1164 : decode code 1164 = .ok (.iconst 1, 1) := db_La_804.2.2.2.2.1
theorem de_La_1165 : decode code 1165 = .ok (.iadd, 1) := db_La_804.2.2.2.2.2.1
theorem de_La_1166 : decode code 1166 = .ok (.iaload, 1) := db_La_804.2.2.2.2.2.2.1
theorem de_La_1167 : decode code 1167 = .ok (.invokevirtual 147, 3) := db_La_804.2.2.2.2.2.2.2.1
theorem de_La_1170 : decode code 1170 = .ok (.aload_n 2, 1) := db_La_804.2.2.2.2.2.2.2.2.1
theorem de_La_1171 : decode code 1171 = .ok (.aload_n 0, 1) := db_La_804.2.2.2.2.2.2.2.2.2.1
theorem de_La_1172 : decode code 1172 = .ok (.iload_n 3, 1) := db_La_804.2.2.2.2.2.2.2.2.2.2.1
theorem de_La_1173 : decode code 1173 = .ok (.iconst 1, 1) := db_La_804.2.2.2.2.2.2.2.2.2.2.2
theorem db_La_816 : (decode code 1174 = .ok (.iadd, 1)) ∧ (decode code 1175 = .ok (.iaload, 1)) ∧ (decode code 1176 = .ok (.invokevirtual 150, 3)) ∧ (decode code 1179 = .ok (.if_icmp .eq 5, 3)) ∧ (decode code 1184 = .ok (.iinc 3 6, 3)) ∧ (decode code 1187 = .ok (.goto (-1169), 3)) ∧ (decode code 1190 = .ok (.iconst 1, 1)) ∧ (decode code 1191 = .ok (.ireturn, 1)) := by decide +kernel
theorem de_La_1174 : decode code 1174 = .ok (.iadd, 1) := db_La_816.1
theorem de_La_1175 : decode code 1175 = .ok (.iaload, 1) := db_La_816.2.1
theorem de_La_1176 : decode code 1176 = .ok (.invokevirtual 150, 3) := db_La_816.2.2.1
theorem de_La_1179 : decode code 1179 = .ok (.if_icmp .eq 5, 3) := db_La_816.2.2.2.1
theorem de_La_1184 : decode code 1184 = .ok (.iinc 3 6, 3) := db_La_816.2.2.2.2.1
theorem de_La_1187 : decode code 1187 = .ok (.goto (-1169), 3) := db_La_816.2.2.2.2.2.1
theorem de_La_1190 : decode code 1190 = .ok (.iconst 1, 1) := db_La_816.2.2.2.2.2.2.1
theorem de_La_1191 : decode code 1191 = .ok (.ireturn, 1) := db_La_816.2.2.2.2.2.2.2
