theorem d_L_law_842 : decode code 842 = .ok (.iconst 2, 1) := by decide +kernel
theorem d_L_law_843 : decode code 843 = .ok (.iadd, 1) := by decide +kernel
theorem d_L_law_844 : decode code 844 = .ok (.iaload, 1) := by decide +kernel
theorem d_L_law_845 : decode code 845 = .ok (.aload_n 3, 1) := by decide +kernel
theorem d_L_law_846 : decode code 846 = .ok (.invokestatic 126, 3) := by decide +kernel
theorem d_L_law_849 : decode code 849 = .ok (.istore 5, 2) := by decide +kernel
theorem d_L_law_851 : decode code 851 = .ok (.aload_n 2, 1) := by decide +kernel
theorem d_L_law_852 : decode code 852 = .ok (.aload_n 0, 1) := by decide +kernel
theorem d_L_law_853 : decode code 853 = .ok (.iload 4, 2) := by decide +kernel
theorem d_L_law_855 : decode code 855 = .ok (.iconst 1, 1) := by decide +kernel
theorem d_L_law_856 : decode code 856 = .ok (.iadd, 1) := by decide +kernel
theorem d_L_law_857 : decode code 857 = .ok (.iaload, 1) := by decide +kernel
theorem d_L_law_858 : decode code 858 = .ok (.aload_n 0, 1) := by decide +kernel
theorem d_L_law_859 : decode code 859 = .ok (.iload 4, 2) := by decide +kernel
theorem d_L_law_861 : decode code 861 = .ok (.iconst 2, 1) := by decide +kernel
theorem d_L_law_862 : decode code 862 = .ok (.iadd, 1) := by decide +kernel
theorem d_L_law_863 : decode code 863 = .ok (.iaload, 1) := by decide +kernel
theorem d_L_law_864 : decode code 864 = .ok (.invokevirtual 128, 3) := by decide +kernel
theorem d_L_law_867 : decode code 867 = .ok (.istore 6, 2) := by decide +kernel
theorem d_L_law_869 : decode code 869 = .ok (.aload_n 2, 1) := by decide +kernel
theorem d_L_law_870 : decode code 870 = .ok (.invokevirtual 89, 3) := by decide +kernel
theorem d_L_law_873 : decode code 873 = .ok (.iload 5, 2) := by decide +kernel
theorem d_L_law_875 : decode code 875 = .ok (.if_icmp .eq 5, 3) := by decide +kernel
theorem d_L_law_878 : decode code 878 = .ok (.iconst 0, 1) := by decide +kernel
theorem d_L_law_879 : decode code 879 = .ok (.ireturn, 1) := by decide +kernel
theorem d_L_law_880 : decode code 880 = .ok (.iload 5, 2) := by decide +kernel
theorem d_L_law_882 : decode code 882 = .ok (.ifCond .ne 15, 3) := by decide +kernel
theorem d_L_law_885 : decode code 885 = .ok (.aload_n 3, 1) := by decide +kernel
theorem d_L_law_886 : decode code 886 = .ok (.iconst 0, 1) := by decide +kernel
theorem d_L_law_887 : decode code 887 = .ok (.laload, 1) := by decide +kernel
theorem d_L_law_888 : decode code 888 = .ok (.iload 6, 2) := by decide +kernel
theorem d_L_law_890 : decode code 890 = .ok (.i2l, 1) := by decide +kernel
theorem d_L_law_891 : decode code 891 = .ok (.lcmp, 1) := by decide +kernel
theorem d_L_law_892 : decode code 892 = .ok (.ifCond .eq 5, 3) := by decide +kernel
theorem d_L_law_895 : decode code 895 = .ok (.iconst 0, 1) := by decide +kernel
theorem d_L_law_896 : decode code 896 = .ok (.ireturn, 1) := by decide +kernel
theorem d_L_law_897 : decode code 897 = .ok (.goto 411, 3) := by decide +kernel
theorem d_L_law_900 : decode code 900 = .ok (.aload_n 1, 1) := by decide +kernel
theorem d_L_law_901 : decode code 901 = .ok (.aload_n 0, 1) := by decide +kernel
theorem d_L_law_902 : decode code 902 = .ok (.iload 4, 2) := by decide +kernel
theorem d_L_law_904 : decode code 904 = .ok (.iconst 1, 1) := by decide +kernel
theorem d_L_law_905 : decode code 905 = .ok (.iadd, 1) := by decide +kernel
theorem d_L_law_906 : decode code 906 = .ok (.iaload, 1) := by decide +kernel
theorem d_L_law_907 : decode code 907 = .ok (.invokestatic 129, 3) := by decide +kernel
theorem d_L_law_910 : decode code 910 = .ok (.istore 5, 2) := by decide +kernel
theorem d_L_law_912 : decode code 912 = .ok (.aload_n 2, 1) := by decide +kernel
theorem d_L_law_913 : decode code 913 = .ok (.aload_n 0, 1) := by decide +kernel
theorem d_L_law_914 : decode code 914 = .ok (.iload 4, 2) := by decide +kernel
theorem d_L_law_916 : decode code 916 = .ok (.iconst 1, 1) := by decide +kernel
theorem d_L_law_917 : decode code 917 = .ok (.iadd, 1) := by decide +kernel
theorem d_L_law_918 : decode code 918 = .ok (.iaload, 1) := by decide +kernel
theorem d_L_law_919 : decode code 919 = .ok (.invokevirtual 131, 3) := by decide +kernel
theorem d_L_law_922 : decode code 922 = .ok (.aload_n 2, 1) := by decide +kernel
theorem d_L_law_923 : decode code 923 = .ok (.invokevirtual 89, 3) := by decide +kernel
theorem d_L_law_926 : decode code 926 = .ok (.iload 5, 2) := by decide +kernel
theorem d_L_law_928 : decode code 928 = .ok (.if_icmp .eq 5, 3) := by decide +kernel
theorem d_L_law_931 : decode code 931 = .ok (.iconst 0, 1) := by decide +kernel
theorem d_L_law_932 : decode code 932 = .ok (.ireturn, 1) := by decide +kernel
theorem d_L_law_933 : decode code 933 = .ok (.goto 375, 3) := by decide +kernel
theorem d_L_law_936 : decode code 936 = .ok (.aload_n 1, 1) := by decide +kernel
theorem d_L_law_937 : decode code 937 = .ok (.aload_n 0, 1) := by decide +kernel
theorem d_L_law_938 : decode code 938 = .ok (.iload 4, 2) := by decide +kernel
theorem d_L_law_940 : decode code 940 = .ok (.iconst 1, 1) := by decide +kernel
theorem d_L_law_941 : decode code 941 = .ok (.iadd, 1) := by decide +kernel
theorem d_L_law_942 : decode code 942 = .ok (.iaload, 1) := by decide +kernel
theorem d_L_law_943 : decode code 943 = .ok (.aload_n 3, 1) := by decide +kernel
theorem d_L_law_944 : decode code 944 = .ok (.invokestatic 132, 3) := by decide +kernel
theorem d_L_law_947 : decode code 947 = .ok (.istore 5, 2) := by decide +kernel
theorem d_L_law_949 : decode code 949 = .ok (.aload_n 2, 1) := by decide +kernel
theorem d_L_law_950 : decode code 950 = .ok (.aload_n 0, 1) := by decide +kernel
theorem d_L_law_951 : decode code 951 = .ok (.iload 4, 2) := by decide +kernel
theorem d_L_law_953 : decode code 953 = .ok (.iconst 1, 1) := by decide +kernel
theorem d_L_law_954 : decode code 954 = .ok (.iadd, 1) := by decide +kernel
theorem d_L_law_955 : decode code 955 = .ok (.iaload, 1) := by decide +kernel
theorem d_L_law_956 : decode code 956 = .ok (.invokevirtual 135, 3) := by decide +kernel
theorem d_L_law_959 : decode code 959 = .ok (.istore 6, 2) := by decide +kernel
theorem d_L_law_961 : decode code 961 = .ok (.aload_n 2, 1) := by decide +kernel
theorem d_L_law_962 : decode code 962 = .ok (.invokevirtual 89, 3) := by decide +kernel
theorem d_L_law_965 : decode code 965 = .ok (.iload 5, 2) := by decide +kernel
theorem d_L_law_967 : decode code 967 = .ok (.if_icmp .eq 5, 3) := by decide +kernel
theorem d_L_law_970 : decode code 970 = .ok (.iconst 0, 1) := by decide +kernel
theorem d_L_law_971 : decode code 971 = .ok (.ireturn, 1) := by decide +kernel
theorem d_L_law_972 : decode code 972 = .ok (.iload 5, 2) := by decide +kernel
theorem d_L_law_974 : decode code 974 = .ok (.ifCond .ne 15, 3) := by decide +kernel
theorem d_L_law_977 : decode code 977 = .ok (.aload_n 3, 1) := by decide +kernel
theorem d_L_law_978 : decode code 978 = .ok (.iconst 0, 1) := by decide +kernel
theorem d_L_law_979 : decode code 979 = .ok (.laload, 1) := by decide +kernel
theorem d_L_law_980 : decode code 980 = .ok (.iload 6, 2) := by decide +kernel
theorem d_L_law_982 : decode code 982 = .ok (.i2l, 1) := by decide +kernel
theorem d_L_law_983 : decode code 983 = .ok (.lcmp, 1) := by decide +kernel
theorem d_L_law_984 : decode code 984 = .ok (.ifCond .eq 5, 3) := by decide +kernel
theorem d_L_law_987 : decode code 987 = .ok (.iconst 0, 1) := by decide +kernel
theorem d_L_law_988 : decode code 988 = .ok (.ireturn, 1) := by decide +kernel
theorem d_L_law_989 : decode code 989 = .ok (.goto 319, 3) := by decide +kernel
theorem d_L_law_992 : decode code 992 = .ok (.aload_n 1, 1) := by decide +kernel
theorem d_L_law_993 : decode code 993 = .ok (.aload_n 0, 1) := by decide +kernel
theorem d_L_law_994 : decode code 994 = .ok (.iload 4, 2) := by decide +kernel
theorem d_L_law_996 : decode code 996 = .ok (.iconst 1, 1) := by decide +kernel
theorem d_L_law_997 : decode code 997 = .ok (.iadd, 1) := by decide +kernel
theorem d_L_law_998 : decode code 998 = .ok (.iaload, 1) := by decide +kernel
theorem d_L_law_999 : decode code 999 = .ok (.aload_n 0, 1) := by decide +kernel
theorem d_L_law_1000 : decode code 1000 = .ok (.iload 4, 2) := by decide +kernel
theorem d_L_law_1002 : decode code 1002 = .ok (.iconst 2, 1) := by decide +kernel
theorem d_L_law_1003 : decode code 1003 = .ok (.iadd, 1) := by decide +kernel
theorem d_L_law_1004 : decode code 1004 = .ok (.iaload, 1) := by decide +kernel
theorem d_L_law_1005 : decode code 1005 = .ok (.aload_n 3, 1) := by decide +kernel
theorem d_L_law_1006 : decode code 1006 = .ok (.invokestatic 136, 3) := by decide +kernel
theorem d_L_law_1009 : decode code 1009 = .ok (.istore 5, 2) := by decide +kernel
theorem d_L_law_1011 : decode code 1011 = .ok (.aload_n 2, 1) := by decide +kernel
theorem d_L_law_1012 : decode code 1012 = .ok (.aload_n 0, 1) := by decide +kernel
theorem d_L_law_1013 : decode code 1013 = .ok (.iload 4, 2) := by decide +kernel
theorem d_L_law_1015 : decode code 1015 = .ok (.iconst 1, 1) := by decide +kernel
theorem d_L_law_1016 : decode code 1016 = .ok (.iadd, 1) := by decide +kernel
theorem d_L_law_1017 : decode code 1017 = .ok (.iaload, 1) := by decide +kernel
theorem d_L_law_1018 : decode code 1018 = .ok (.aload_n 0, 1) := by decide +kernel
theorem d_L_law_1019 : decode code 1019 = .ok (.iload 4, 2) := by decide +kernel
theorem d_L_law_1021 : decode code 1021 = .ok (.iconst 2, 1) := by decide +kernel
theorem d_L_law_1022 : decode code 1022 = .ok (.iadd, 1) := by decide +kernel
theorem d_L_law_1023 : decode code 1023 = .ok (.iaload, 1) := by decide +kernel
theorem d_L_law_1024 : decode code 1024 = .ok (.invokevirtual 138, 3) := by decide +kernel
theorem d_L_law_1027 : decode code 1027 = .ok (.istore 6, 2) := by decide +kernel
theorem d_L_law_1029 : decode code 1029 = .ok (.aload_n 2, 1) := by decide +kernel
theorem d_L_law_1030 : decode code 1030 = .ok (.invokevirtual 89, 3) := by decide +kernel
theorem d_L_law_1033 : decode code 1033 = .ok (.iload 5, 2) := by decide +kernel
theorem d_L_law_1035 : decode code 1035 = .ok (.if_icmp .eq 5, 3) := by decide +kernel
theorem d_L_law_1038 : decode code 1038 = .ok (.iconst 0, 1) := by decide +kernel
theorem d_L_law_1039 : decode code 1039 = .ok (.ireturn, 1) := by decide +kernel
theorem d_L_law_1040 : decode code 1040 = .ok (.iload 5, 2) := by decide +kernel
theorem d_L_law_1042 : decode code 1042 = .ok (.ifCond .ne 15, 3) := by decide +kernel
theorem d_L_law_1045 : decode code 1045 = .ok (.aload_n 3, 1) := by decide +kernel
theorem d_L_law_1046 : decode code 1046 = .ok (.iconst 0, 1) := by decide +kernel
theorem d_L_law_1047 : decode code 1047 = .ok (.laload, 1) := by decide +kernel
theorem d_L_law_1048 : decode code 1048 = .ok (.iload 6, 2) := by decide +kernel
theorem d_L_law_1050 : decode code 1050 = .ok (.i2l, 1) := by decide +kernel
theorem d_L_law_1051 : decode code 1051 = .ok (.lcmp, 1) := by decide +kernel
theorem d_L_law_1052 : decode code 1052 = .ok (.ifCond .eq 5, 3) := by decide +kernel
theorem d_L_law_1055 : decode code 1055 = .ok (.iconst 0, 1) := by decide +kernel
theorem d_L_law_1056 : decode code 1056 = .ok (.ireturn, 1) := by decide +kernel
theorem d_L_law_1057 : decode code 1057 = .ok (.goto 251, 3) := by decide +kernel
theorem d_L_law_1060 : decode code 1060 = .ok (.aload_n 1, 1) := by decide +kernel
theorem d_L_law_1061 : decode code 1061 = .ok (.aload_n 0, 1) := by decide +kernel
theorem d_L_law_1062 : decode code 1062 = .ok (.iload 4, 2) := by decide +kernel
theorem d_L_law_1064 : decode code 1064 = .ok (.iconst 1, 1) := by decide +kernel
theorem d_L_law_1065 : decode code 1065 = .ok (.iadd, 1) := by decide +kernel
theorem d_L_law_1066 : decode code 1066 = .ok (.iaload, 1) := by decide +kernel
theorem d_L_law_1067 : decode code 1067 = .ok (.aload_n 3, 1) := by decide +kernel
theorem d_L_law_1068 : decode code 1068 = .ok (.invokestatic 139, 3) := by decide +kernel
theorem d_L_law_1071 : decode code 1071 = .ok (.istore 5, 2) := by decide +kernel
theorem d_L_law_1073 : decode code 1073 = .ok (.aload_n 2, 1) := by decide +kernel
theorem d_L_law_1074 : decode code 1074 = .ok (.aload_n 0, 1) := by decide +kernel
theorem d_L_law_1075 : decode code 1075 = .ok (.iload 4, 2) := by decide +kernel
theorem d_L_law_1077 : decode code 1077 = .ok (.iconst 1, 1) := by decide +kernel
theorem d_L_law_1078 : decode code 1078 = .ok (.iadd, 1) := by decide +kernel
theorem d_L_law_1079 : decode code 1079 = .ok (.iaload, 1) := by decide +kernel
theorem d_L_law_1080 : decode code 1080 = .ok (.invokevirtual 141, 3) := by decide +kernel
theorem d_L_law_1083 : decode code 1083 = .ok (.istore 6, 2) := by decide +kernel
theorem d_L_law_1085 : decode code 1085 = .ok (.aload_n 2, 1) := by decide +kernel
theorem d_L_law_1086 : decode code 1086 = .ok (.invokevirtual 89, 3) := by decide +kernel
theorem d_L_law_1089 : decode code 1089 = .ok (.iload 5, 2) := by decide +kernel
theorem d_L_law_1091 : decode code 1091 = .ok (.if_icmp .eq 5, 3) := by decide +kernel
theorem d_L_law_1094 : decode code 1094 = .ok (.iconst 0, 1) := by decide +kernel
theorem d_L_law_1095 : decode code 1095 = .ok (.ireturn, 1) := by decide +kernel
theorem d_L_law_1096 : decode code 1096 = .ok (.iload 5, 2) := by decide +kernel
theorem d_L_law_1098 : decode code 1098 = .ok (.ifCond .ne 15, 3) := by decide +kernel
theorem d_L_law_1101 : decode code 1101 = .ok (.aload_n 3, 1) := by decide +kernel
theorem d_L_law_1102 : decode code 1102 = .ok (.iconst 0, 1) := by decide +kernel
theorem d_L_law_1103 : decode code 1103 = .ok (.laload, 1) := by decide +kernel
theorem d_L_law_1104 : decode code 1104 = .ok (.iload 6, 2) := by decide +kernel
theorem d_L_law_1106 : decode code 1106 = .ok (.i2l, 1) := by decide +kernel
theorem d_L_law_1107 : decode code 1107 = .ok (.lcmp, 1) := by decide +kernel
theorem d_L_law_1108 : decode code 1108 = .ok (.ifCond .eq 5, 3) := by decide +kernel
theorem d_L_law_1111 : decode code 1111 = .ok (.iconst 0, 1) := by decide +kernel
theorem d_L_law_1112 : decode code 1112 = .ok (.ireturn, 1) := by decide +kernel
theorem d_L_law_1113 : decode code 1113 = .ok (.goto 195, 3) := by decide +kernel
theorem d_L_law_1116 : decode code 1116 = .ok (.aload_n 1, 1) := by decide +kernel
theorem d_L_law_1117 : decode code 1117 = .ok (.aload_n 0, 1) := by decide +kernel
theorem d_L_law_1118 : decode code 1118 = .ok (.iload 4, 2) := by decide +kernel
theorem d_L_law_1120 : decode code 1120 = .ok (.iconst 1, 1) := by decide +kernel
theorem d_L_law_1121 : decode code 1121 = .ok (.iadd, 1) := by decide +kernel
theorem d_L_law_1122 : decode code 1122 = .ok (.iaload, 1) := by decide +kernel
theorem d_L_law_1123 : decode code 1123 = .ok (.aload_n 0, 1) := by decide +kernel
theorem d_L_law_1124 : decode code 1124 = .ok (.iload 4, 2) := by decide +kernel
theorem d_L_law_1126 : decode code 1126 = .ok (.iconst 2, 1) := by decide +kernel
theorem d_L_law_1127 : decode code 1127 = .ok (.iadd, 1) := by decide +kernel
theorem d_L_law_1128 : decode code 1128 = .ok (.iaload, 1) := by decide +kernel
theorem d_L_law_1129 : decode code 1129 = .ok (.aload_n 3, 1) := by decide +kernel
theorem d_L_law_1130 : decode code 1130 = .ok (.invokestatic 142, 3) := by decide +kernel
theorem d_L_law_1133 : decode code 1133 = .ok (.istore 5, 2) := by decide +kernel
theorem d_L_law_1135 : decode code 1135 = .ok (.aload_n 2, 1) := by decide +kernel
theorem d_L_law_1136 : decode code 1136 = .ok (.aload_n 0, 1) := by decide +kernel
theorem d_L_law_1137 : decode code 1137 = .ok (.iload 4, 2) := by decide +kernel
theorem d_L_law_1139 : decode code 1139 = .ok (.iconst 1, 1) := by decide +kernel
theorem d_L_law_1140 : decode code 1140 = .ok (.iadd, 1) := by decide +kernel
theorem d_L_law_1141 : decode code 1141 = .ok (.iaload, 1) := by decide +kernel
theorem d_L_law_1142 : decode code 1142 = .ok (.aload_n 0, 1) := by decide +kernel
theorem d_L_law_1143 : decode code 1143 = .ok (.iload 4, 2) := by decide +kernel
theorem d_L_law_1145 : decode code 1145 = .ok (.iconst 2, 1) := by decide +kernel
theorem d_L_law_1146 : decode code 1146 = .ok (.iadd, 1) := by decide +kernel
theorem d_L_law_1147 : decode code 1147 = .ok (.iaload, 1) := by decide +kernel
theorem d_L_law_1148 : decode code 1148 = .ok (.invokevirtual 144, 3) := by decide +kernel
theorem d_L_law_1151 : decode code 1151 = .ok (.istore 6, 2) := by decide +kernel
theorem d_L_law_1153 : decode code 1153 = .ok (.aload_n 2, 1) := by decide +kernel
theorem d_L_law_1154 : decode code 1154 = .ok (.invokevirtual 89, 3) := by decide +kernel
theorem d_L_law_1157 : decode code 1157 = .ok (.iload 5, 2) := by decide +kernel
theorem d_L_law_1159 : decode code 1159 = .ok (.if_icmp .eq 5, 3) := by decide +kernel
theorem d_L_law_1162 : decode code 1162 = .ok (.iconst 0, 1) := by decide +kernel
theorem d_L_law_1163 : decode code 1163 = .ok (.ireturn, 1) := by decide +kernel
theorem d_L_law_1164 : decode code 1164 = .ok (.iload 5, 2) := by decide +kernel
theorem d_L_law_1166 : decode code 1166 = .ok (.ifCond .ne 15, 3) := by decide +kernel
theorem d_L_law_1169 : decode code 1169 = .ok (.aload_n 3, 1) := by decide +kernel
theorem d_L_law_1170 : decode code 1170 = .ok (.iconst 0, 1) := by decide +kernel
theorem d_L_law_1171 : decode code 1171 = .ok (.laload, 1) := by decide +kernel
theorem d_L_law_1172 : decode code 1172 = .ok (.iload 6, 2) := by decide +kernel
theorem d_L_law_1174 : decode code 1174 = .ok (.i2l, 1) := by decide +kernel
theorem d_L_law_1175 : decode code 1175 = .ok (.lcmp, 1) := by decide +kernel
theorem d_L_law_1176 : decode code 1176 = .ok (.ifCond .eq 5, 3) := by decide +kernel
theorem d_L_law_1179 : decode code 1179 = .ok (.iconst 0, 1) := by decide +kernel
theorem d_L_law_1180 : decode code 1180 = .ok (.ireturn, 1) := by decide +kernel
theorem d_L_law_1181 : decode code 1181 = .ok (.goto 127, 3) := by decide +kernel
theorem d_L_law_1184 : decode code 1184 = .ok (.aload_n 1, 1) := by decide +kernel
theorem d_L_law_1185 : decode code 1185 = .ok (.aload_n 0, 1) := by decide +kernel
theorem d_L_law_1186 : decode code 1186 = .ok (.iload 4, 2) := by decide +kernel
theorem d_L_law_1188 : decode code 1188 = .ok (.iconst 1, 1) := by decide +kernel
theorem d_L_law_1189 : decode code 1189 = .ok (.iadd, 1) := by decide +kernel
theorem d_L_law_1190 : decode code 1190 = .ok (.iaload, 1) := by decide +kernel
theorem d_L_law_1191 : decode code 1191 = .ok (.aload_n 0, 1) := by decide +kernel
theorem d_L_law_1192 : decode code 1192 = .ok (.iload 4, 2) := by decide +kernel
theorem d_L_law_1194 : decode code 1194 = .ok (.iconst 2, 1) := by decide +kernel
theorem d_L_law_1195 : decode code 1195 = .ok (.iadd, 1) := by decide +kernel
theorem d_L_law_1196 : decode code 1196 = .ok (.iaload, 1) := by decide +kernel
theorem d_L_law_1197 : decode code 1197 = .ok (.aload_n 3, 1) := by decide +kernel
theorem d_L_law_1198 : decode code 1198 = .ok (.invokestatic 145, 3) := by decide +kernel
theorem d_L_law_1201 : decode code 1201 = .ok (.istore 5, 2) := by decide +kernel
theorem d_L_law_1203 : decode code 1203 = .ok (.aload_n 2, 1) := by decide +kernel
theorem d_L_law_1204 : decode code 1204 = .ok (.aload_n 0, 1) := by decide +kernel
theorem d_L_law_1205 : decode code 1205 = .ok (.iload 4, 2) := by decide +kernel
theorem d_L_law_1207 : decode code 1207 = .ok (.iconst 1, 1) := by decide +kernel
theorem d_L_law_1208 : decode code 1208 = .ok (.iadd, 1) := by decide +kernel
theorem d_L_law_1209 : decode code 1209 = .ok (.iaload, 1) := by decide +kernel
theorem d_L_law_1210 : decode code 1210 = .ok (.aload_n 0, 1) := by decide +kernel
theorem d_L_law_1211 : decode code 1211 = .ok (.iload 4, 2) := by decide +kernel
theorem d_L_law_1213 : decode code 1213 = .ok (.iconst 2, 1) := by decide +kernel
theorem d_L_law_1214 : decode code 1214 = .ok (.iadd, 1) := by decide +kernel
theorem d_L_law_1215 : decode code 1215 = .ok (.iaload, 1) := by decide +kernel
theorem d_L_law_1216 : decode code 1216 = .ok (.invokevirtual 147, 3) := by decide +kernel
theorem d_L_law_1219 : decode code 1219 = .ok (.istore 6, 2) := by decide +kernel
theorem d_L_law_1221 : decode code 1221 = .ok (.aload_n 2, 1) := by decide +kernel
theorem d_L_law_1222 : decode code 1222 = .ok (.invokevirtual 89, 3) := by decide +kernel
theorem d_L_law_1225 : decode code 1225 = .ok (.iload 5, 2) := by decide +kernel
theorem d_L_law_1227 : decode code 1227 = .ok (.if_icmp .eq 5, 3) := by decide +kernel
