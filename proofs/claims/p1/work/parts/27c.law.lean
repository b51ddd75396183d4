theorem dL_law_992 : decode cL_law 992 = .ok (.aload_n 1, 1) := by decide +kernel
theorem dL_law_993 : decode cL_law 993 = .ok (.aload_n 0, 1) := by decide +kernel
theorem dL_law_994 : decode cL_law 994 = .ok (.iload_n 3, 1) := by decide +kernel
theorem dL_law_995 : decode cL_law 995 = .ok (.iconst 1, 1) := by decide +kernel
theorem dL_law_996 : decode cL_law 996 = .ok (.iadd, 1) := by decide +kernel
theorem dL_law_997 : decode cL_law 997 = .ok (.iaload, 1) := by decide +kernel
theorem dL_law_998 : decode cL_law 998 = .ok (.aload_n 0, 1) := by decide +kernel
theorem dL_law_999 : decode cL_law 999 = .ok (.iload_n 3, 1) := by decide +kernel
theorem dL_law_1000 : decode cL_law 1000 = .ok (.iconst 2, 1) := by decide +kernel
theorem dL_law_1001 : decode cL_law 1001 = .ok (.iadd, 1) := by decide +kernel
theorem dL_law_1002 : decode cL_law 1002 = .ok (.iaload, 1) := by decide +kernel
theorem dL_law_1003 : decode cL_law 1003 = .ok (.aload_n 0, 1) := by decide +kernel
theorem dL_law_1004 : decode cL_law 1004 = .ok (.iload_n 3, 1) := by decide +kernel
theorem dL_law_1005 : decode cL_law 1005 = .ok (.iconst 3, 1) := by decide +kernel
theorem dL_law_1006 : decode cL_law 1006 = .ok (.iadd, 1) := by decide +kernel
theorem dL_law_1007 : decode cL_law 1007 = .ok (.iaload, 1) := by decide +kernel
theorem dL_law_1008 : decode cL_law 1008 = .ok (.invokevirtual 116, 3) := by decide +kernel
theorem mw_1127 : Cond.methodLink RL 116 yX11_remembered ∈ wsL_law := inr_47 _ (List.mem_of_getElem? (i := 23) rfl)
theorem mw_1130 : Cond.code yX11_remembered cX11_remembered 5 (some .long) ∈ wsL_law := inr_48 _ (List.mem_of_getElem? (i := 2) rfl)
theorem yk_X11_remembered : xY yX11_remembered RX11 cX11_remembered 5 (some .long) 3 := ⟨⟨rfl, by decide +kernel, by decide +kernel, by decide +kernel⟩, mw_2, mw_1130⟩
theorem mw_1128 : Cond.instanceMethod yX11_remembered ∈ wsL_law := inr_48 _ (List.mem_of_getElem? (i := 0) rfl)
theorem mw_1129 : Cond.selects RX11 yX11_remembered yX11_remembered ∈ wsL_law := inr_48 _ (List.mem_of_getElem? (i := 1) rfl)
theorem dL_law_1011 : decode cL_law 1011 = .ok (.aload_n 2, 1) := by decide +kernel
theorem dL_law_1012 : decode cL_law 1012 = .ok (.aload_n 0, 1) := by decide +kernel
theorem dL_law_1013 : decode cL_law 1013 = .ok (.iload_n 3, 1) := by decide +kernel
theorem dL_law_1014 : decode cL_law 1014 = .ok (.iconst 1, 1) := by decide +kernel
theorem dL_law_1015 : decode cL_law 1015 = .ok (.iadd, 1) := by decide +kernel
theorem dL_law_1016 : decode cL_law 1016 = .ok (.iaload, 1) := by decide +kernel
theorem dL_law_1017 : decode cL_law 1017 = .ok (.aload_n 0, 1) := by decide +kernel
theorem dL_law_1018 : decode cL_law 1018 = .ok (.iload_n 3, 1) := by decide +kernel
theorem dL_law_1019 : decode cL_law 1019 = .ok (.iconst 2, 1) := by decide +kernel
theorem dL_law_1020 : decode cL_law 1020 = .ok (.iadd, 1) := by decide +kernel
theorem dL_law_1021 : decode cL_law 1021 = .ok (.iaload, 1) := by decide +kernel
theorem dL_law_1022 : decode cL_law 1022 = .ok (.aload_n 0, 1) := by decide +kernel
theorem dL_law_1023 : decode cL_law 1023 = .ok (.iload_n 3, 1) := by decide +kernel
theorem dL_law_1024 : decode cL_law 1024 = .ok (.iconst 3, 1) := by decide +kernel
theorem dL_law_1025 : decode cL_law 1025 = .ok (.iadd, 1) := by decide +kernel
theorem dL_law_1026 : decode cL_law 1026 = .ok (.iaload, 1) := by decide +kernel
theorem dL_law_1027 : decode cL_law 1027 = .ok (.invokevirtual 120, 3) := by decide +kernel
theorem mw_1132 : Cond.methodLink RL 120 yX12_remembered ∈ wsL_law := inr_48 _ (List.mem_of_getElem? (i := 4) rfl)
theorem mw_1135 : Cond.code yX12_remembered cX12_remembered 6 (some .long) ∈ wsL_law := inr_48 _ (List.mem_of_getElem? (i := 7) rfl)
theorem yk_X12_remembered : xY yX12_remembered RX12 cX12_remembered 6 (some .long) 3 := ⟨⟨rfl, by decide +kernel, by decide +kernel, by decide +kernel⟩, mw_5, mw_1135⟩
theorem mw_1133 : Cond.instanceMethod yX12_remembered ∈ wsL_law := inr_48 _ (List.mem_of_getElem? (i := 5) rfl)
theorem mw_1134 : Cond.selects RX12 yX12_remembered yX12_remembered ∈ wsL_law := inr_48 _ (List.mem_of_getElem? (i := 6) rfl)
theorem dL_law_1030 : decode cL_law 1030 = .ok (.lcmp, 1) := by decide +kernel
theorem dL_law_1031 : decode cL_law 1031 = .ok (.ifCond .eq 732, 3) := by decide +kernel
theorem dL_law_1036 : decode cL_law 1036 = .ok (.aload_n 1, 1) := by decide +kernel
theorem dL_law_1037 : decode cL_law 1037 = .ok (.aload_n 0, 1) := by decide +kernel
theorem dL_law_1038 : decode cL_law 1038 = .ok (.iload_n 3, 1) := by decide +kernel
theorem dL_law_1039 : decode cL_law 1039 = .ok (.iconst 1, 1) := by decide +kernel
theorem dL_law_1040 : decode cL_law 1040 = .ok (.iadd, 1) := by decide +kernel
theorem dL_law_1041 : decode cL_law 1041 = .ok (.iaload, 1) := by decide +kernel
theorem dL_law_1042 : decode cL_law 1042 = .ok (.aload_n 0, 1) := by decide +kernel
theorem dL_law_1043 : decode cL_law 1043 = .ok (.iload_n 3, 1) := by decide +kernel
theorem dL_law_1044 : decode cL_law 1044 = .ok (.iconst 2, 1) := by decide +kernel
theorem dL_law_1045 : decode cL_law 1045 = .ok (.iadd, 1) := by decide +kernel
theorem dL_law_1046 : decode cL_law 1046 = .ok (.iaload, 1) := by decide +kernel
theorem dL_law_1047 : decode cL_law 1047 = .ok (.aload_n 0, 1) := by decide +kernel
theorem dL_law_1048 : decode cL_law 1048 = .ok (.iload_n 3, 1) := by decide +kernel
theorem dL_law_1049 : decode cL_law 1049 = .ok (.iconst 3, 1) := by decide +kernel
theorem dL_law_1050 : decode cL_law 1050 = .ok (.iadd, 1) := by decide +kernel
theorem dL_law_1051 : decode cL_law 1051 = .ok (.iaload, 1) := by decide +kernel
theorem dL_law_1052 : decode cL_law 1052 = .ok (.invokevirtual 121, 3) := by decide +kernel
theorem mw_1136 : Cond.methodLink RL 121 yX11_talk ∈ wsL_law := inr_48 _ (List.mem_of_getElem? (i := 8) rfl)
theorem mw_1139 : Cond.code yX11_talk cX11_talk 5 (some .int) ∈ wsL_law := inr_48 _ (List.mem_of_getElem? (i := 11) rfl)
theorem yk_X11_talk : xY yX11_talk RX11 cX11_talk 5 (some .int) 3 := ⟨⟨rfl, by decide +kernel, by decide +kernel, by decide +kernel⟩, mw_2, mw_1139⟩
theorem mw_1137 : Cond.instanceMethod yX11_talk ∈ wsL_law := inr_48 _ (List.mem_of_getElem? (i := 9) rfl)
theorem mw_1138 : Cond.selects RX11 yX11_talk yX11_talk ∈ wsL_law := inr_48 _ (List.mem_of_getElem? (i := 10) rfl)
theorem dL_law_1055 : decode cL_law 1055 = .ok (.aload_n 2, 1) := by decide +kernel
theorem dL_law_1056 : decode cL_law 1056 = .ok (.aload_n 0, 1) := by decide +kernel
theorem dL_law_1057 : decode cL_law 1057 = .ok (.iload_n 3, 1) := by decide +kernel
theorem dL_law_1058 : decode cL_law 1058 = .ok (.iconst 1, 1) := by decide +kernel
theorem dL_law_1059 : decode cL_law 1059 = .ok (.iadd, 1) := by decide +kernel
theorem dL_law_1060 : decode cL_law 1060 = .ok (.iaload, 1) := by decide +kernel
theorem dL_law_1061 : decode cL_law 1061 = .ok (.aload_n 0, 1) := by decide +kernel
theorem dL_law_1062 : decode cL_law 1062 = .ok (.iload_n 3, 1) := by decide +kernel
theorem dL_law_1063 : decode cL_law 1063 = .ok (.iconst 2, 1) := by decide +kernel
theorem dL_law_1064 : decode cL_law 1064 = .ok (.iadd, 1) := by decide +kernel
theorem dL_law_1065 : decode cL_law 1065 = .ok (.iaload, 1) := by decide +kernel
theorem dL_law_1066 : decode cL_law 1066 = .ok (.aload_n 0, 1) := by decide +kernel
theorem dL_law_1067 : decode cL_law 1067 = .ok (.iload_n 3, 1) := by decide +kernel
theorem dL_law_1068 : decode cL_law 1068 = .ok (.iconst 3, 1) := by decide +kernel
theorem dL_law_1069 : decode cL_law 1069 = .ok (.iadd, 1) := by decide +kernel
theorem dL_law_1070 : decode cL_law 1070 = .ok (.iaload, 1) := by decide +kernel
theorem dL_law_1071 : decode cL_law 1071 = .ok (.invokevirtual 124, 3) := by decide +kernel
theorem mw_1179 : Cond.methodLink RL 124 yX12_talk ∈ wsL_law := inr_50 _ (List.mem_of_getElem? (i := 3) rfl)
theorem mw_1182 : Cond.code yX12_talk cX12_talk 9 (some .int) ∈ wsL_law := inr_50 _ (List.mem_of_getElem? (i := 6) rfl)
theorem yk_X12_talk : xY yX12_talk RX12 cX12_talk 9 (some .int) 3 := ⟨⟨rfl, by decide +kernel, by decide +kernel, by decide +kernel⟩, mw_5, mw_1182⟩
theorem mw_1180 : Cond.instanceMethod yX12_talk ∈ wsL_law := inr_50 _ (List.mem_of_getElem? (i := 4) rfl)
theorem mw_1181 : Cond.selects RX12 yX12_talk yX12_talk ∈ wsL_law := inr_50 _ (List.mem_of_getElem? (i := 5) rfl)
theorem dL_law_1074 : decode cL_law 1074 = .ok (.if_icmp .eq 689, 3) := by decide +kernel
theorem dL_law_1079 : decode cL_law 1079 = .ok (.aload_n 1, 1) := by decide +kernel
theorem dL_law_1080 : decode cL_law 1080 = .ok (.aload_n 0, 1) := by decide +kernel
theorem dL_law_1081 : decode cL_law 1081 = .ok (.iload_n 3, 1) := by decide +kernel
theorem dL_law_1082 : decode cL_law 1082 = .ok (.iconst 1, 1) := by decide +kernel
theorem dL_law_1083 : decode cL_law 1083 = .ok (.iadd, 1) := by decide +kernel
theorem dL_law_1084 : decode cL_law 1084 = .ok (.iaload, 1) := by decide +kernel
theorem dL_law_1085 : decode cL_law 1085 = .ok (.aload_n 0, 1) := by decide +kernel
theorem dL_law_1086 : decode cL_law 1086 = .ok (.iload_n 3, 1) := by decide +kernel
theorem dL_law_1087 : decode cL_law 1087 = .ok (.iconst 2, 1) := by decide +kernel
theorem dL_law_1088 : decode cL_law 1088 = .ok (.iadd, 1) := by decide +kernel
theorem dL_law_1089 : decode cL_law 1089 = .ok (.iaload, 1) := by decide +kernel
theorem dL_law_1090 : decode cL_law 1090 = .ok (.invokevirtual 125, 3) := by decide +kernel
theorem mw_1195 : Cond.methodLink RL 125 yX11_spoken ∈ wsL_law := inr_50 _ (List.mem_of_getElem? (i := 19) rfl)
theorem mw_1198 : Cond.code yX11_spoken cX11_spoken 3 (some .long) ∈ wsL_law := inr_50 _ (List.mem_of_getElem? (i := 22) rfl)
theorem yk_X11_spoken : xY yX11_spoken RX11 cX11_spoken 3 (some .long) 2 := ⟨⟨rfl, by decide +kernel, by decide +kernel, by decide +kernel⟩, mw_2, mw_1198⟩
theorem mw_1196 : Cond.instanceMethod yX11_spoken ∈ wsL_law := inr_50 _ (List.mem_of_getElem? (i := 20) rfl)
theorem mw_1197 : Cond.selects RX11 yX11_spoken yX11_spoken ∈ wsL_law := inr_50 _ (List.mem_of_getElem? (i := 21) rfl)
theorem dL_law_1093 : decode cL_law 1093 = .ok (.aload_n 2, 1) := by decide +kernel
theorem dL_law_1094 : decode cL_law 1094 = .ok (.aload_n 0, 1) := by decide +kernel
theorem dL_law_1095 : decode cL_law 1095 = .ok (.iload_n 3, 1) := by decide +kernel
theorem dL_law_1096 : decode cL_law 1096 = .ok (.iconst 1, 1) := by decide +kernel
theorem dL_law_1097 : decode cL_law 1097 = .ok (.iadd, 1) := by decide +kernel
theorem dL_law_1098 : decode cL_law 1098 = .ok (.iaload, 1) := by decide +kernel
theorem dL_law_1099 : decode cL_law 1099 = .ok (.aload_n 0, 1) := by decide +kernel
theorem dL_law_1100 : decode cL_law 1100 = .ok (.iload_n 3, 1) := by decide +kernel
theorem dL_law_1101 : decode cL_law 1101 = .ok (.iconst 2, 1) := by decide +kernel
theorem dL_law_1102 : decode cL_law 1102 = .ok (.iadd, 1) := by decide +kernel
theorem dL_law_1103 : decode cL_law 1103 = .ok (.iaload, 1) := by decide +kernel
theorem dL_law_1104 : decode cL_law 1104 = .ok (.invokevirtual 128, 3) := by decide +kernel
theorem mw_1200 : Cond.methodLink RL 128 yX12_spoken ∈ wsL_law := inr_51 _ (List.mem_of_getElem? (i := 0) rfl)
theorem mw_1203 : Cond.code yX12_spoken cX12_spoken 3 (some .long) ∈ wsL_law := inr_51 _ (List.mem_of_getElem? (i := 3) rfl)
theorem yk_X12_spoken : xY yX12_spoken RX12 cX12_spoken 3 (some .long) 2 := ⟨⟨rfl, by decide +kernel, by decide +kernel, by decide +kernel⟩, mw_5, mw_1203⟩
theorem mw_1201 : Cond.instanceMethod yX12_spoken ∈ wsL_law := inr_51 _ (List.mem_of_getElem? (i := 1) rfl)
theorem mw_1202 : Cond.selects RX12 yX12_spoken yX12_spoken ∈ wsL_law := inr_51 _ (List.mem_of_getElem? (i := 2) rfl)
theorem dL_law_1107 : decode cL_law 1107 = .ok (.lcmp, 1) := by decide +kernel
theorem dL_law_1108 : decode cL_law 1108 = .ok (.ifCond .eq 655, 3) := by decide +kernel
theorem dL_law_1113 : decode cL_law 1113 = .ok (.aload_n 1, 1) := by decide +kernel
theorem dL_law_1114 : decode cL_law 1114 = .ok (.aload_n 0, 1) := by decide +kernel
theorem dL_law_1115 : decode cL_law 1115 = .ok (.iload_n 3, 1) := by decide +kernel
theorem dL_law_1116 : decode cL_law 1116 = .ok (.iconst 1, 1) := by decide +kernel
theorem dL_law_1117 : decode cL_law 1117 = .ok (.iadd, 1) := by decide +kernel
theorem dL_law_1118 : decode cL_law 1118 = .ok (.iaload, 1) := by decide +kernel
theorem dL_law_1119 : decode cL_law 1119 = .ok (.aload_n 0, 1) := by decide +kernel
theorem dL_law_1120 : decode cL_law 1120 = .ok (.iload_n 3, 1) := by decide +kernel
theorem dL_law_1121 : decode cL_law 1121 = .ok (.iconst 2, 1) := by decide +kernel
theorem dL_law_1122 : decode cL_law 1122 = .ok (.iadd, 1) := by decide +kernel
theorem dL_law_1123 : decode cL_law 1123 = .ok (.iaload, 1) := by decide +kernel
theorem dL_law_1124 : decode cL_law 1124 = .ok (.aload_n 0, 1) := by decide +kernel
theorem dL_law_1125 : decode cL_law 1125 = .ok (.iload_n 3, 1) := by decide +kernel
theorem dL_law_1126 : decode cL_law 1126 = .ok (.iconst 3, 1) := by decide +kernel
theorem dL_law_1127 : decode cL_law 1127 = .ok (.iadd, 1) := by decide +kernel
theorem dL_law_1128 : decode cL_law 1128 = .ok (.iaload, 1) := by decide +kernel
theorem dL_law_1129 : decode cL_law 1129 = .ok (.aload_n 0, 1) := by decide +kernel
theorem dL_law_1130 : decode cL_law 1130 = .ok (.iload_n 3, 1) := by decide +kernel
theorem dL_law_1131 : decode cL_law 1131 = .ok (.iconst 4, 1) := by decide +kernel
theorem dL_law_1132 : decode cL_law 1132 = .ok (.iadd, 1) := by decide +kernel
theorem dL_law_1133 : decode cL_law 1133 = .ok (.iaload, 1) := by decide +kernel
theorem dL_law_1134 : decode cL_law 1134 = .ok (.invokevirtual 129, 3) := by decide +kernel
theorem mw_1204 : Cond.methodLink RL 129 yX11_lead ∈ wsL_law := inr_51 _ (List.mem_of_getElem? (i := 4) rfl)
theorem mw_1207 : Cond.code yX11_lead cX11_lead 8 (some .int) ∈ wsL_law := inr_51 _ (List.mem_of_getElem? (i := 7) rfl)
theorem yk_X11_lead : xY yX11_lead RX11 cX11_lead 8 (some .int) 4 := ⟨⟨rfl, by decide +kernel, by decide +kernel, by decide +kernel⟩, mw_2, mw_1207⟩
theorem mw_1205 : Cond.instanceMethod yX11_lead ∈ wsL_law := inr_51 _ (List.mem_of_getElem? (i := 5) rfl)
theorem mw_1206 : Cond.selects RX11 yX11_lead yX11_lead ∈ wsL_law := inr_51 _ (List.mem_of_getElem? (i := 6) rfl)
theorem dL_law_1137 : decode cL_law 1137 = .ok (.aload_n 2, 1) := by decide +kernel
theorem dL_law_1138 : decode cL_law 1138 = .ok (.aload_n 0, 1) := by decide +kernel
theorem dL_law_1139 : decode cL_law 1139 = .ok (.iload_n 3, 1) := by decide +kernel
theorem dL_law_1140 : decode cL_law 1140 = .ok (.iconst 1, 1) := by decide +kernel
theorem dL_law_1141 : decode cL_law 1141 = .ok (.iadd, 1) := by decide +kernel
theorem dL_law_1142 : decode cL_law 1142 = .ok (.iaload, 1) := by decide +kernel
theorem dL_law_1143 : decode cL_law 1143 = .ok (.aload_n 0, 1) := by decide +kernel
theorem dL_law_1144 : decode cL_law 1144 = .ok (.iload_n 3, 1) := by decide +kernel
theorem dL_law_1145 : decode cL_law 1145 = .ok (.iconst 2, 1) := by decide +kernel
theorem dL_law_1146 : decode cL_law 1146 = .ok (.iadd, 1) := by decide +kernel
theorem dL_law_1147 : decode cL_law 1147 = .ok (.iaload, 1) := by decide +kernel
theorem dL_law_1148 : decode cL_law 1148 = .ok (.aload_n 0, 1) := by decide +kernel
theorem dL_law_1149 : decode cL_law 1149 = .ok (.iload_n 3, 1) := by decide +kernel
theorem dL_law_1150 : decode cL_law 1150 = .ok (.iconst 3, 1) := by decide +kernel
theorem dL_law_1151 : decode cL_law 1151 = .ok (.iadd, 1) := by decide +kernel
theorem dL_law_1152 : decode cL_law 1152 = .ok (.iaload, 1) := by decide +kernel
theorem dL_law_1153 : decode cL_law 1153 = .ok (.aload_n 0, 1) := by decide +kernel
theorem dL_law_1154 : decode cL_law 1154 = .ok (.iload_n 3, 1) := by decide +kernel
theorem dL_law_1155 : decode cL_law 1155 = .ok (.iconst 4, 1) := by decide +kernel
theorem dL_law_1156 : decode cL_law 1156 = .ok (.iadd, 1) := by decide +kernel
theorem dL_law_1157 : decode cL_law 1157 = .ok (.iaload, 1) := by decide +kernel
theorem dL_law_1158 : decode cL_law 1158 = .ok (.invokevirtual 133, 3) := by decide +kernel
theorem mw_1227 : Cond.methodLink RL 133 yX12_lead ∈ wsL_law := inr_52 _ (List.mem_of_getElem? (i := 3) rfl)
theorem mw_1230 : Cond.code yX12_lead cX12_lead 11 (some .int) ∈ wsL_law := inr_52 _ (List.mem_of_getElem? (i := 6) rfl)
theorem yk_X12_lead : xY yX12_lead RX12 cX12_lead 11 (some .int) 4 := ⟨⟨rfl, by decide +kernel, by decide +kernel, by decide +kernel⟩, mw_5, mw_1230⟩
theorem mw_1228 : Cond.instanceMethod yX12_lead ∈ wsL_law := inr_52 _ (List.mem_of_getElem? (i := 4) rfl)
theorem mw_1229 : Cond.selects RX12 yX12_lead yX12_lead ∈ wsL_law := inr_52 _ (List.mem_of_getElem? (i := 5) rfl)
theorem dL_law_1161 : decode cL_law 1161 = .ok (.if_icmp .eq 602, 3) := by decide +kernel
theorem dL_law_1166 : decode cL_law 1166 = .ok (.aload_n 1, 1) := by decide +kernel
theorem dL_law_1167 : decode cL_law 1167 = .ok (.aload_n 0, 1) := by decide +kernel
theorem dL_law_1168 : decode cL_law 1168 = .ok (.iload_n 3, 1) := by decide +kernel
theorem dL_law_1169 : decode cL_law 1169 = .ok (.iconst 1, 1) := by decide +kernel
theorem dL_law_1170 : decode cL_law 1170 = .ok (.iadd, 1) := by decide +kernel
theorem dL_law_1171 : decode cL_law 1171 = .ok (.iaload, 1) := by decide +kernel
theorem dL_law_1172 : decode cL_law 1172 = .ok (.invokevirtual 134, 3) := by decide +kernel
theorem mw_1236 : Cond.methodLink RL 134 yX11_led ∈ wsL_law := inr_52 _ (List.mem_of_getElem? (i := 12) rfl)
theorem mw_1239 : Cond.code yX11_led cX11_led 2 (some .int) ∈ wsL_law := inr_52 _ (List.mem_of_getElem? (i := 15) rfl)
theorem yk_X11_led : xY yX11_led RX11 cX11_led 2 (some .int) 1 := ⟨⟨rfl, by decide +kernel, by decide +kernel, by decide +kernel⟩, mw_2, mw_1239⟩
theorem mw_1237 : Cond.instanceMethod yX11_led ∈ wsL_law := inr_52 _ (List.mem_of_getElem? (i := 13) rfl)
theorem mw_1238 : Cond.selects RX11 yX11_led yX11_led ∈ wsL_law := inr_52 _ (List.mem_of_getElem? (i := 14) rfl)
theorem dL_law_1175 : decode cL_law 1175 = .ok (.aload_n 2, 1) := by decide +kernel
theorem dL_law_1176 : decode cL_law 1176 = .ok (.aload_n 0, 1) := by decide +kernel
theorem dL_law_1177 : decode cL_law 1177 = .ok (.iload_n 3, 1) := by decide +kernel
theorem dL_law_1178 : decode cL_law 1178 = .ok (.iconst 1, 1) := by decide +kernel
theorem dL_law_1179 : decode cL_law 1179 = .ok (.iadd, 1) := by decide +kernel
theorem dL_law_1180 : decode cL_law 1180 = .ok (.iaload, 1) := by decide +kernel
theorem dL_law_1181 : decode cL_law 1181 = .ok (.invokevirtual 137, 3) := by decide +kernel
theorem mw_1240 : Cond.methodLink RL 137 yX12_led ∈ wsL_law := inr_52 _ (List.mem_of_getElem? (i := 16) rfl)
theorem mw_1243 : Cond.code yX12_led cX12_led 2 (some .int) ∈ wsL_law := inr_52 _ (List.mem_of_getElem? (i := 19) rfl)
theorem yk_X12_led : xY yX12_led RX12 cX12_led 2 (some .int) 1 := ⟨⟨rfl, by decide +kernel, by decide +kernel, by decide +kernel⟩, mw_5, mw_1243⟩
theorem mw_1241 : Cond.instanceMethod yX12_led ∈ wsL_law := inr_52 _ (List.mem_of_getElem? (i := 17) rfl)
theorem mw_1242 : Cond.selects RX12 yX12_led yX12_led ∈ wsL_law := inr_52 _ (List.mem_of_getElem? (i := 18) rfl)
theorem dL_law_1184 : decode cL_law 1184 = .ok (.if_icmp .eq 579, 3) := by decide +kernel
theorem dL_law_1189 : decode cL_law 1189 = .ok (.aload_n 1, 1) := by decide +kernel
theorem dL_law_1190 : decode cL_law 1190 = .ok (.aload_n 0, 1) := by decide +kernel
theorem dL_law_1191 : decode cL_law 1191 = .ok (.iload_n 3, 1) := by decide +kernel
theorem dL_law_1192 : decode cL_law 1192 = .ok (.iconst 1, 1) := by decide +kernel
theorem dL_law_1193 : decode cL_law 1193 = .ok (.iadd, 1) := by decide +kernel
theorem dL_law_1194 : decode cL_law 1194 = .ok (.iaload, 1) := by decide +kernel
theorem dL_law_1195 : decode cL_law 1195 = .ok (.aload_n 0, 1) := by decide +kernel
theorem dL_law_1196 : decode cL_law 1196 = .ok (.iload_n 3, 1) := by decide +kernel
theorem dL_law_1197 : decode cL_law 1197 = .ok (.iconst 2, 1) := by decide +kernel
theorem dL_law_1198 : decode cL_law 1198 = .ok (.iadd, 1) := by decide +kernel
theorem dL_law_1199 : decode cL_law 1199 = .ok (.iaload, 1) := by decide +kernel
theorem dL_law_1200 : decode cL_law 1200 = .ok (.aload_n 0, 1) := by decide +kernel
theorem dL_law_1201 : decode cL_law 1201 = .ok (.iload_n 3, 1) := by decide +kernel
theorem dL_law_1202 : decode cL_law 1202 = .ok (.iconst 3, 1) := by decide +kernel
theorem dL_law_1203 : decode cL_law 1203 = .ok (.iadd, 1) := by decide +kernel
theorem dL_law_1204 : decode cL_law 1204 = .ok (.iaload, 1) := by decide +kernel
theorem dL_law_1205 : decode cL_law 1205 = .ok (.aload_n 0, 1) := by decide +kernel
theorem dL_law_1206 : decode cL_law 1206 = .ok (.iload_n 3, 1) := by decide +kernel
theorem dL_law_1207 : decode cL_law 1207 = .ok (.iconst 4, 1) := by decide +kernel
theorem dL_law_1208 : decode cL_law 1208 = .ok (.iadd, 1) := by decide +kernel
theorem dL_law_1209 : decode cL_law 1209 = .ok (.iaload, 1) := by decide +kernel
theorem dL_law_1210 : decode cL_law 1210 = .ok (.invokevirtual 138, 3) := by decide +kernel
theorem mw_1244 : Cond.methodLink RL 138 yX11_face ∈ wsL_law := inr_52 _ (List.mem_of_getElem? (i := 20) rfl)
theorem mw_1247 : Cond.code yX11_face cX11_face 5 (some .int) ∈ wsL_law := inr_52 _ (List.mem_of_getElem? (i := 23) rfl)
theorem yk_X11_face : xY yX11_face RX11 cX11_face 5 (some .int) 4 := ⟨⟨rfl, by decide +kernel, by decide +kernel, by decide +kernel⟩, mw_2, mw_1247⟩
theorem mw_1245 : Cond.instanceMethod yX11_face ∈ wsL_law := inr_52 _ (List.mem_of_getElem? (i := 21) rfl)
theorem mw_1246 : Cond.selects RX11 yX11_face yX11_face ∈ wsL_law := inr_52 _ (List.mem_of_getElem? (i := 22) rfl)
theorem dL_law_1213 : decode cL_law 1213 = .ok (.aload_n 2, 1) := by decide +kernel
theorem dL_law_1214 : decode cL_law 1214 = .ok (.aload_n 0, 1) := by decide +kernel
theorem dL_law_1215 : decode cL_law 1215 = .ok (.iload_n 3, 1) := by decide +kernel
theorem dL_law_1216 : decode cL_law 1216 = .ok (.iconst 1, 1) := by decide +kernel
theorem dL_law_1217 : decode cL_law 1217 = .ok (.iadd, 1) := by decide +kernel
theorem dL_law_1218 : decode cL_law 1218 = .ok (.iaload, 1) := by decide +kernel
theorem dL_law_1219 : decode cL_law 1219 = .ok (.aload_n 0, 1) := by decide +kernel
theorem dL_law_1220 : decode cL_law 1220 = .ok (.iload_n 3, 1) := by decide +kernel
theorem dL_law_1221 : decode cL_law 1221 = .ok (.iconst 2, 1) := by decide +kernel
theorem dL_law_1222 : decode cL_law 1222 = .ok (.iadd, 1) := by decide +kernel
theorem dL_law_1223 : decode cL_law 1223 = .ok (.iaload, 1) := by decide +kernel
theorem dL_law_1224 : decode cL_law 1224 = .ok (.aload_n 0, 1) := by decide +kernel
theorem dL_law_1225 : decode cL_law 1225 = .ok (.iload_n 3, 1) := by decide +kernel
theorem dL_law_1226 : decode cL_law 1226 = .ok (.iconst 3, 1) := by decide +kernel
theorem dL_law_1227 : decode cL_law 1227 = .ok (.iadd, 1) := by decide +kernel
theorem dL_law_1228 : decode cL_law 1228 = .ok (.iaload, 1) := by decide +kernel
theorem dL_law_1229 : decode cL_law 1229 = .ok (.aload_n 0, 1) := by decide +kernel
theorem dL_law_1230 : decode cL_law 1230 = .ok (.iload_n 3, 1) := by decide +kernel
theorem dL_law_1231 : decode cL_law 1231 = .ok (.iconst 4, 1) := by decide +kernel
theorem dL_law_1232 : decode cL_law 1232 = .ok (.iadd, 1) := by decide +kernel
theorem dL_law_1233 : decode cL_law 1233 = .ok (.iaload, 1) := by decide +kernel
theorem dL_law_1234 : decode cL_law 1234 = .ok (.invokevirtual 141, 3) := by decide +kernel
theorem mw_1302 : Cond.methodLink RL 141 yX12_face ∈ wsL_law := inr_55 _ (List.mem_of_getElem? (i := 6) rfl)
theorem mw_1305 : Cond.code yX12_face cX12_face 8 (some .int) ∈ wsL_law := inr_55 _ (List.mem_of_getElem? (i := 9) rfl)
theorem yk_X12_face : xY yX12_face RX12 cX12_face 8 (some .int) 4 := ⟨⟨rfl, by decide +kernel, by decide +kernel, by decide +kernel⟩, mw_5, mw_1305⟩
theorem mw_1303 : Cond.instanceMethod yX12_face ∈ wsL_law := inr_55 _ (List.mem_of_getElem? (i := 7) rfl)
theorem mw_1304 : Cond.selects RX12 yX12_face yX12_face ∈ wsL_law := inr_55 _ (List.mem_of_getElem? (i := 8) rfl)
theorem dL_law_1237 : decode cL_law 1237 = .ok (.if_icmp .eq 526, 3) := by decide +kernel
theorem dL_law_1242 : decode cL_law 1242 = .ok (.aload_n 1, 1) := by decide +kernel
theorem dL_law_1243 : decode cL_law 1243 = .ok (.aload_n 0, 1) := by decide +kernel
theorem dL_law_1244 : decode cL_law 1244 = .ok (.iload_n 3, 1) := by decide +kernel
theorem dL_law_1245 : decode cL_law 1245 = .ok (.iconst 1, 1) := by decide +kernel
theorem dL_law_1246 : decode cL_law 1246 = .ok (.iadd, 1) := by decide +kernel
theorem dL_law_1247 : decode cL_law 1247 = .ok (.iaload, 1) := by decide +kernel
theorem dL_law_1248 : decode cL_law 1248 = .ok (.invokevirtual 142, 3) := by decide +kernel
theorem mw_1315 : Cond.methodLink RL 142 yX11_ring ∈ wsL_law := inr_55 _ (List.mem_of_getElem? (i := 19) rfl)
theorem mw_1318 : Cond.code yX11_ring cX11_ring 2 (some .int) ∈ wsL_law := inr_55 _ (List.mem_of_getElem? (i := 22) rfl)
theorem yk_X11_ring : xY yX11_ring RX11 cX11_ring 2 (some .int) 1 := ⟨⟨rfl, by decide +kernel, by decide +kernel, by decide +kernel⟩, mw_2, mw_1318⟩
theorem mw_1316 : Cond.instanceMethod yX11_ring ∈ wsL_law := inr_55 _ (List.mem_of_getElem? (i := 20) rfl)
theorem mw_1317 : Cond.selects RX11 yX11_ring yX11_ring ∈ wsL_law := inr_55 _ (List.mem_of_getElem? (i := 21) rfl)
theorem dL_law_1251 : decode cL_law 1251 = .ok (.aload_n 2, 1) := by decide +kernel
theorem dL_law_1252 : decode cL_law 1252 = .ok (.aload_n 0, 1) := by decide +kernel
theorem dL_law_1253 : decode cL_law 1253 = .ok (.iload_n 3, 1) := by decide +kernel
theorem dL_law_1254 : decode cL_law 1254 = .ok (.iconst 1, 1) := by decide +kernel
theorem dL_law_1255 : decode cL_law 1255 = .ok (.iadd, 1) := by decide +kernel
theorem dL_law_1256 : decode cL_law 1256 = .ok (.iaload, 1) := by decide +kernel
theorem dL_law_1257 : decode cL_law 1257 = .ok (.invokevirtual 145, 3) := by decide +kernel
theorem mw_1321 : Cond.methodLink RL 145 yX12_ring ∈ wsL_law := inr_56 _ (List.mem_of_getElem? (i := 1) rfl)
theorem mw_1324 : Cond.code yX12_ring cX12_ring 2 (some .int) ∈ wsL_law := inr_56 _ (List.mem_of_getElem? (i := 4) rfl)
theorem yk_X12_ring : xY yX12_ring RX12 cX12_ring 2 (some .int) 1 := ⟨⟨rfl, by decide +kernel, by decide +kernel, by decide +kernel⟩, mw_5, mw_1324⟩
theorem mw_1322 : Cond.instanceMethod yX12_ring ∈ wsL_law := inr_56 _ (List.mem_of_getElem? (i := 2) rfl)
theorem mw_1323 : Cond.selects RX12 yX12_ring yX12_ring ∈ wsL_law := inr_56 _ (List.mem_of_getElem? (i := 3) rfl)
theorem dL_law_1260 : decode cL_law 1260 = .ok (.if_icmp .eq 503, 3) := by decide +kernel
theorem dL_law_1265 : decode cL_law 1265 = .ok (.aload_n 1, 1) := by decide +kernel
theorem dL_law_1266 : decode cL_law 1266 = .ok (.aload_n 0, 1) := by decide +kernel
theorem dL_law_1267 : decode cL_law 1267 = .ok (.iload_n 3, 1) := by decide +kernel
theorem dL_law_1268 : decode cL_law 1268 = .ok (.iconst 1, 1) := by decide +kernel
theorem dL_law_1269 : decode cL_law 1269 = .ok (.iadd, 1) := by decide +kernel
theorem dL_law_1270 : decode cL_law 1270 = .ok (.iaload, 1) := by decide +kernel
theorem dL_law_1271 : decode cL_law 1271 = .ok (.i2l, 1) := by decide +kernel
theorem dL_law_1272 : decode cL_law 1272 = .ok (.bipush 32, 2) := by decide +kernel
theorem dL_law_1274 : decode cL_law 1274 = .ok (.lshl, 1) := by decide +kernel
theorem dL_law_1275 : decode cL_law 1275 = .ok (.aload_n 0, 1) := by decide +kernel
theorem dL_law_1276 : decode cL_law 1276 = .ok (.iload_n 3, 1) := by decide +kernel
theorem dL_law_1277 : decode cL_law 1277 = .ok (.iconst 2, 1) := by decide +kernel
theorem dL_law_1278 : decode cL_law 1278 = .ok (.iadd, 1) := by decide +kernel
theorem dL_law_1279 : decode cL_law 1279 = .ok (.iaload, 1) := by decide +kernel
theorem dL_law_1280 : decode cL_law 1280 = .ok (.i2l, 1) := by decide +kernel
theorem dL_law_1281 : decode cL_law 1281 = .ok (.ldc2_w 32, 3) := by decide +kernel
theorem dL_law_1284 : decode cL_law 1284 = .ok (.land, 1) := by decide +kernel
theorem dL_law_1285 : decode cL_law 1285 = .ok (.lor, 1) := by decide +kernel
theorem dL_law_1286 : decode cL_law 1286 = .ok (.aload_n 0, 1) := by decide +kernel
theorem dL_law_1287 : decode cL_law 1287 = .ok (.iload_n 3, 1) := by decide +kernel
theorem dL_law_1288 : decode cL_law 1288 = .ok (.iconst 3, 1) := by decide +kernel
theorem dL_law_1289 : decode cL_law 1289 = .ok (.iadd, 1) := by decide +kernel
theorem dL_law_1290 : decode cL_law 1290 = .ok (.iaload, 1) := by decide +kernel
theorem dL_law_1291 : decode cL_law 1291 = .ok (.i2l, 1) := by decide +kernel
theorem dL_law_1292 : decode cL_law 1292 = .ok (.bipush 32, 2) := by decide +kernel
theorem dL_law_1294 : decode cL_law 1294 = .ok (.lshl, 1) := by decide +kernel
theorem dL_law_1295 : decode cL_law 1295 = .ok (.aload_n 0, 1) := by decide +kernel
theorem dL_law_1296 : decode cL_law 1296 = .ok (.iload_n 3, 1) := by decide +kernel
theorem dL_law_1297 : decode cL_law 1297 = .ok (.iconst 4, 1) := by decide +kernel
theorem dL_law_1298 : decode cL_law 1298 = .ok (.iadd, 1) := by decide +kernel
theorem dL_law_1299 : decode cL_law 1299 = .ok (.iaload, 1) := by decide +kernel
theorem dL_law_1300 : decode cL_law 1300 = .ok (.i2l, 1) := by decide +kernel
theorem dL_law_1301 : decode cL_law 1301 = .ok (.ldc2_w 32, 3) := by decide +kernel
theorem dL_law_1304 : decode cL_law 1304 = .ok (.land, 1) := by decide +kernel
theorem dL_law_1305 : decode cL_law 1305 = .ok (.lor, 1) := by decide +kernel
theorem dL_law_1306 : decode cL_law 1306 = .ok (.invokevirtual 146, 3) := by decide +kernel
theorem mw_1325 : Cond.methodLink RL 146 yX11_broken ∈ wsL_law := inr_56 _ (List.mem_of_getElem? (i := 5) rfl)
theorem mw_1328 : Cond.code yX11_broken cX11_broken 5 (some .int) ∈ wsL_law := inr_56 _ (List.mem_of_getElem? (i := 8) rfl)
theorem yk_X11_broken : xY yX11_broken RX11 cX11_broken 5 (some .int) 2 := ⟨⟨rfl, by decide +kernel, by decide +kernel, by decide +kernel⟩, mw_2, mw_1328⟩
theorem mw_1326 : Cond.instanceMethod yX11_broken ∈ wsL_law := inr_56 _ (List.mem_of_getElem? (i := 6) rfl)
theorem mw_1327 : Cond.selects RX11 yX11_broken yX11_broken ∈ wsL_law := inr_56 _ (List.mem_of_getElem? (i := 7) rfl)
theorem dL_law_1309 : decode cL_law 1309 = .ok (.aload_n 2, 1) := by decide +kernel
theorem dL_law_1310 : decode cL_law 1310 = .ok (.aload_n 0, 1) := by decide +kernel
theorem dL_law_1311 : decode cL_law 1311 = .ok (.iload_n 3, 1) := by decide +kernel
theorem dL_law_1312 : decode cL_law 1312 = .ok (.iconst 1, 1) := by decide +kernel
theorem dL_law_1313 : decode cL_law 1313 = .ok (.iadd, 1) := by decide +kernel
theorem dL_law_1314 : decode cL_law 1314 = .ok (.iaload, 1) := by decide +kernel
theorem dL_law_1315 : decode cL_law 1315 = .ok (.i2l, 1) := by decide +kernel
theorem dL_law_1316 : decode cL_law 1316 = .ok (.bipush 32, 2) := by decide +kernel
theorem dL_law_1318 : decode cL_law 1318 = .ok (.lshl, 1) := by decide +kernel
theorem dL_law_1319 : decode cL_law 1319 = .ok (.aload_n 0, 1) := by decide +kernel
theorem dL_law_1320 : decode cL_law 1320 = .ok (.iload_n 3, 1) := by decide +kernel
theorem dL_law_1321 : decode cL_law 1321 = .ok (.iconst 2, 1) := by decide +kernel
theorem dL_law_1322 : decode cL_law 1322 = .ok (.iadd, 1) := by decide +kernel
theorem dL_law_1323 : decode cL_law 1323 = .ok (.iaload, 1) := by decide +kernel
theorem dL_law_1324 : decode cL_law 1324 = .ok (.i2l, 1) := by decide +kernel
theorem dL_law_1325 : decode cL_law 1325 = .ok (.ldc2_w 32, 3) := by decide +kernel
theorem dL_law_1328 : decode cL_law 1328 = .ok (.land, 1) := by decide +kernel
theorem dL_law_1329 : decode cL_law 1329 = .ok (.lor, 1) := by decide +kernel
theorem dL_law_1330 : decode cL_law 1330 = .ok (.aload_n 0, 1) := by decide +kernel
theorem dL_law_1331 : decode cL_law 1331 = .ok (.iload_n 3, 1) := by decide +kernel
theorem dL_law_1332 : decode cL_law 1332 = .ok (.iconst 3, 1) := by decide +kernel
theorem dL_law_1333 : decode cL_law 1333 = .ok (.iadd, 1) := by decide +kernel
theorem dL_law_1334 : decode cL_law 1334 = .ok (.iaload, 1) := by decide +kernel
theorem dL_law_1335 : decode cL_law 1335 = .ok (.i2l, 1) := by decide +kernel
theorem dL_law_1336 : decode cL_law 1336 = .ok (.bipush 32, 2) := by decide +kernel
theorem dL_law_1338 : decode cL_law 1338 = .ok (.lshl, 1) := by decide +kernel
theorem dL_law_1339 : decode cL_law 1339 = .ok (.aload_n 0, 1) := by decide +kernel
theorem dL_law_1340 : decode cL_law 1340 = .ok (.iload_n 3, 1) := by decide +kernel
theorem dL_law_1341 : decode cL_law 1341 = .ok (.iconst 4, 1) := by decide +kernel
theorem dL_law_1342 : decode cL_law 1342 = .ok (.iadd, 1) := by decide +kernel
theorem dL_law_1343 : decode cL_law 1343 = .ok (.iaload, 1) := by decide +kernel
theorem dL_law_1344 : decode cL_law 1344 = .ok (.i2l, 1) := by decide +kernel
theorem dL_law_1345 : decode cL_law 1345 = .ok (.ldc2_w 32, 3) := by decide +kernel
theorem dL_law_1348 : decode cL_law 1348 = .ok (.land, 1) := by decide +kernel
theorem dL_law_1349 : decode cL_law 1349 = .ok (.lor, 1) := by decide +kernel
theorem dL_law_1350 : decode cL_law 1350 = .ok (.invokevirtual 150, 3) := by decide +kernel
theorem mw_1333 : Cond.methodLink RL 150 yX12_broken ∈ wsL_law := inr_56 _ (List.mem_of_getElem? (i := 13) rfl)
theorem mw_1336 : Cond.code yX12_broken cX12_broken 6 (some .int) ∈ wsL_law := inr_56 _ (List.mem_of_getElem? (i := 16) rfl)
theorem yk_X12_broken : xY yX12_broken RX12 cX12_broken 6 (some .int) 2 := ⟨⟨rfl, by decide +kernel, by decide +kernel, by decide +kernel⟩, mw_5, mw_1336⟩
theorem mw_1334 : Cond.instanceMethod yX12_broken ∈ wsL_law := inr_56 _ (List.mem_of_getElem? (i := 14) rfl)
theorem mw_1335 : Cond.selects RX12 yX12_broken yX12_broken ∈ wsL_law := inr_56 _ (List.mem_of_getElem? (i := 15) rfl)
theorem dL_law_1353 : decode cL_law 1353 = .ok (.if_icmp .eq 410, 3) := by decide +kernel
theorem dL_law_1358 : decode cL_law 1358 = .ok (.aload_n 1, 1) := by decide +kernel
theorem dL_law_1359 : decode cL_law 1359 = .ok (.aload_n 0, 1) := by decide +kernel
theorem dL_law_1360 : decode cL_law 1360 = .ok (.iload_n 3, 1) := by decide +kernel
theorem dL_law_1361 : decode cL_law 1361 = .ok (.iconst 1, 1) := by decide +kernel
theorem dL_law_1362 : decode cL_law 1362 = .ok (.iadd, 1) := by decide +kernel
theorem dL_law_1363 : decode cL_law 1363 = .ok (.iaload, 1) := by decide +kernel
theorem dL_law_1364 : decode cL_law 1364 = .ok (.aload_n 0, 1) := by decide +kernel
theorem dL_law_1365 : decode cL_law 1365 = .ok (.iload_n 3, 1) := by decide +kernel
theorem dL_law_1366 : decode cL_law 1366 = .ok (.iconst 2, 1) := by decide +kernel
theorem dL_law_1367 : decode cL_law 1367 = .ok (.iadd, 1) := by decide +kernel
theorem dL_law_1368 : decode cL_law 1368 = .ok (.iaload, 1) := by decide +kernel
theorem dL_law_1369 : decode cL_law 1369 = .ok (.aload_n 0, 1) := by decide +kernel
theorem dL_law_1370 : decode cL_law 1370 = .ok (.iload_n 3, 1) := by decide +kernel
theorem dL_law_1371 : decode cL_law 1371 = .ok (.iconst 3, 1) := by decide +kernel
theorem dL_law_1372 : decode cL_law 1372 = .ok (.iadd, 1) := by decide +kernel
theorem dL_law_1373 : decode cL_law 1373 = .ok (.iaload, 1) := by decide +kernel
theorem dL_law_1374 : decode cL_law 1374 = .ok (.invokevirtual 151, 3) := by decide +kernel
theorem mw_1337 : Cond.methodLink RL 151 yX11_broke ∈ wsL_law := inr_56 _ (List.mem_of_getElem? (i := 17) rfl)
theorem mw_1340 : Cond.code yX11_broke cX11_broke 5 (some .int) ∈ wsL_law := inr_56 _ (List.mem_of_getElem? (i := 20) rfl)
theorem yk_X11_broke : xY yX11_broke RX11 cX11_broke 5 (some .int) 3 := ⟨⟨rfl, by decide +kernel, by decide +kernel, by decide +kernel⟩, mw_2, mw_1340⟩
theorem mw_1338 : Cond.instanceMethod yX11_broke ∈ wsL_law := inr_56 _ (List.mem_of_getElem? (i := 18) rfl)
theorem mw_1339 : Cond.selects RX11 yX11_broke yX11_broke ∈ wsL_law := inr_56 _ (List.mem_of_getElem? (i := 19) rfl)
theorem dL_law_1377 : decode cL_law 1377 = .ok (.aload_n 2, 1) := by decide +kernel
theorem dL_law_1378 : decode cL_law 1378 = .ok (.aload_n 0, 1) := by decide +kernel
theorem dL_law_1379 : decode cL_law 1379 = .ok (.iload_n 3, 1) := by decide +kernel
theorem dL_law_1380 : decode cL_law 1380 = .ok (.iconst 1, 1) := by decide +kernel
theorem dL_law_1381 : decode cL_law 1381 = .ok (.iadd, 1) := by decide +kernel
theorem dL_law_1382 : decode cL_law 1382 = .ok (.iaload, 1) := by decide +kernel
theorem dL_law_1383 : decode cL_law 1383 = .ok (.aload_n 0, 1) := by decide +kernel
theorem dL_law_1384 : decode cL_law 1384 = .ok (.iload_n 3, 1) := by decide +kernel
theorem dL_law_1385 : decode cL_law 1385 = .ok (.iconst 2, 1) := by decide +kernel
theorem dL_law_1386 : decode cL_law 1386 = .ok (.iadd, 1) := by decide +kernel
theorem dL_law_1387 : decode cL_law 1387 = .ok (.iaload, 1) := by decide +kernel
theorem dL_law_1388 : decode cL_law 1388 = .ok (.aload_n 0, 1) := by decide +kernel
theorem dL_law_1389 : decode cL_law 1389 = .ok (.iload_n 3, 1) := by decide +kernel
theorem dL_law_1390 : decode cL_law 1390 = .ok (.iconst 3, 1) := by decide +kernel
theorem dL_law_1391 : decode cL_law 1391 = .ok (.iadd, 1) := by decide +kernel
theorem dL_law_1392 : decode cL_law 1392 = .ok (.iaload, 1) := by decide +kernel
theorem dL_law_1393 : decode cL_law 1393 = .ok (.invokevirtual 154, 3) := by decide +kernel
theorem mw_1351 : Cond.methodLink RL 154 yX12_broke ∈ wsL_law := inr_57 _ (List.mem_of_getElem? (i := 7) rfl)
theorem mw_1354 : Cond.code yX12_broke cX12_broke 5 (some .int) ∈ wsL_law := inr_57 _ (List.mem_of_getElem? (i := 10) rfl)
theorem yk_X12_broke : xY yX12_broke RX12 cX12_broke 5 (some .int) 3 := ⟨⟨rfl, by decide +kernel, by decide +kernel, by decide +kernel⟩, mw_5, mw_1354⟩
theorem mw_1352 : Cond.instanceMethod yX12_broke ∈ wsL_law := inr_57 _ (List.mem_of_getElem? (i := 8) rfl)
theorem mw_1353 : Cond.selects RX12 yX12_broke yX12_broke ∈ wsL_law := inr_57 _ (List.mem_of_getElem? (i := 9) rfl)
theorem dL_law_1396 : decode cL_law 1396 = .ok (.if_icmp .eq 367, 3) := by decide +kernel
theorem dL_law_1401 : decode cL_law 1401 = .ok (.aload_n 1, 1) := by decide +kernel
theorem dL_law_1402 : decode cL_law 1402 = .ok (.aload_n 0, 1) := by decide +kernel
theorem dL_law_1403 : decode cL_law 1403 = .ok (.iload_n 3, 1) := by decide +kernel
theorem dL_law_1404 : decode cL_law 1404 = .ok (.iconst 1, 1) := by decide +kernel
theorem dL_law_1405 : decode cL_law 1405 = .ok (.iadd, 1) := by decide +kernel
theorem dL_law_1406 : decode cL_law 1406 = .ok (.iaload, 1) := by decide +kernel
theorem dL_law_1407 : decode cL_law 1407 = .ok (.aload_n 0, 1) := by decide +kernel
theorem dL_law_1408 : decode cL_law 1408 = .ok (.iload_n 3, 1) := by decide +kernel
theorem dL_law_1409 : decode cL_law 1409 = .ok (.iconst 2, 1) := by decide +kernel
theorem dL_law_1410 : decode cL_law 1410 = .ok (.iadd, 1) := by decide +kernel
theorem dL_law_1411 : decode cL_law 1411 = .ok (.iaload, 1) := by decide +kernel
theorem dL_law_1412 : decode cL_law 1412 = .ok (.aload_n 0, 1) := by decide +kernel
theorem dL_law_1413 : decode cL_law 1413 = .ok (.iload_n 3, 1) := by decide +kernel
theorem dL_law_1414 : decode cL_law 1414 = .ok (.iconst 3, 1) := by decide +kernel
theorem dL_law_1415 : decode cL_law 1415 = .ok (.iadd, 1) := by decide +kernel
theorem dL_law_1416 : decode cL_law 1416 = .ok (.iaload, 1) := by decide +kernel
theorem dL_law_1417 : decode cL_law 1417 = .ok (.aload_n 0, 1) := by decide +kernel
theorem dL_law_1418 : decode cL_law 1418 = .ok (.iload_n 3, 1) := by decide +kernel
theorem dL_law_1419 : decode cL_law 1419 = .ok (.iconst 4, 1) := by decide +kernel
theorem dL_law_1420 : decode cL_law 1420 = .ok (.iadd, 1) := by decide +kernel
theorem dL_law_1421 : decode cL_law 1421 = .ok (.iaload, 1) := by decide +kernel
theorem dL_law_1422 : decode cL_law 1422 = .ok (.invokevirtual 155, 3) := by decide +kernel
theorem mw_1363 : Cond.methodLink RL 155 yX11_mend ∈ wsL_law := inr_57 _ (List.mem_of_getElem? (i := 19) rfl)
theorem mw_1366 : Cond.code yX11_mend cX11_mend 6 (some .int) ∈ wsL_law := inr_57 _ (List.mem_of_getElem? (i := 22) rfl)
theorem yk_X11_mend : xY yX11_mend RX11 cX11_mend 6 (some .int) 4 := ⟨⟨rfl, by decide +kernel, by decide +kernel, by decide +kernel⟩, mw_2, mw_1366⟩
theorem mw_1364 : Cond.instanceMethod yX11_mend ∈ wsL_law := inr_57 _ (List.mem_of_getElem? (i := 20) rfl)
theorem mw_1365 : Cond.selects RX11 yX11_mend yX11_mend ∈ wsL_law := inr_57 _ (List.mem_of_getElem? (i := 21) rfl)
theorem dL_law_1425 : decode cL_law 1425 = .ok (.aload_n 2, 1) := by decide +kernel
theorem dL_law_1426 : decode cL_law 1426 = .ok (.aload_n 0, 1) := by decide +kernel
theorem dL_law_1427 : decode cL_law 1427 = .ok (.iload_n 3, 1) := by decide +kernel
theorem dL_law_1428 : decode cL_law 1428 = .ok (.iconst 1, 1) := by decide +kernel
theorem dL_law_1429 : decode cL_law 1429 = .ok (.iadd, 1) := by decide +kernel
theorem dL_law_1430 : decode cL_law 1430 = .ok (.iaload, 1) := by decide +kernel
theorem dL_law_1431 : decode cL_law 1431 = .ok (.aload_n 0, 1) := by decide +kernel
theorem dL_law_1432 : decode cL_law 1432 = .ok (.iload_n 3, 1) := by decide +kernel
theorem dL_law_1433 : decode cL_law 1433 = .ok (.iconst 2, 1) := by decide +kernel
theorem dL_law_1434 : decode cL_law 1434 = .ok (.iadd, 1) := by decide +kernel
theorem dL_law_1435 : decode cL_law 1435 = .ok (.iaload, 1) := by decide +kernel
theorem dL_law_1436 : decode cL_law 1436 = .ok (.aload_n 0, 1) := by decide +kernel
theorem dL_law_1437 : decode cL_law 1437 = .ok (.iload_n 3, 1) := by decide +kernel
theorem dL_law_1438 : decode cL_law 1438 = .ok (.iconst 3, 1) := by decide +kernel
theorem dL_law_1439 : decode cL_law 1439 = .ok (.iadd, 1) := by decide +kernel
theorem dL_law_1440 : decode cL_law 1440 = .ok (.iaload, 1) := by decide +kernel
theorem dL_law_1441 : decode cL_law 1441 = .ok (.aload_n 0, 1) := by decide +kernel
theorem dL_law_1442 : decode cL_law 1442 = .ok (.iload_n 3, 1) := by decide +kernel
theorem dL_law_1443 : decode cL_law 1443 = .ok (.iconst 4, 1) := by decide +kernel
theorem dL_law_1444 : decode cL_law 1444 = .ok (.iadd, 1) := by decide +kernel
theorem dL_law_1445 : decode cL_law 1445 = .ok (.iaload, 1) := by decide +kernel
theorem dL_law_1446 : decode cL_law 1446 = .ok (.invokevirtual 158, 3) := by decide +kernel
theorem mw_1384 : Cond.methodLink RL 158 yX12_mend ∈ wsL_law := inr_58 _ (List.mem_of_getElem? (i := 16) rfl)
theorem mw_1387 : Cond.code yX12_mend cX12_mend 10 (some .int) ∈ wsL_law := inr_58 _ (List.mem_of_getElem? (i := 19) rfl)
theorem yk_X12_mend : xY yX12_mend RX12 cX12_mend 10 (some .int) 4 := ⟨⟨rfl, by decide +kernel, by decide +kernel, by decide +kernel⟩, mw_5, mw_1387⟩
theorem mw_1385 : Cond.instanceMethod yX12_mend ∈ wsL_law := inr_58 _ (List.mem_of_getElem? (i := 17) rfl)
theorem mw_1386 : Cond.selects RX12 yX12_mend yX12_mend ∈ wsL_law := inr_58 _ (List.mem_of_getElem? (i := 18) rfl)
theorem dL_law_1449 : decode cL_law 1449 = .ok (.if_icmp .eq 314, 3) := by decide +kernel
theorem dL_law_1454 : decode cL_law 1454 = .ok (.aload_n 1, 1) := by decide +kernel
theorem dL_law_1455 : decode cL_law 1455 = .ok (.aload_n 0, 1) := by decide +kernel
theorem dL_law_1456 : decode cL_law 1456 = .ok (.iload_n 3, 1) := by decide +kernel
theorem dL_law_1457 : decode cL_law 1457 = .ok (.iconst 1, 1) := by decide +kernel
theorem dL_law_1458 : decode cL_law 1458 = .ok (.iadd, 1) := by decide +kernel
theorem dL_law_1459 : decode cL_law 1459 = .ok (.iaload, 1) := by decide +kernel
theorem dL_law_1460 : decode cL_law 1460 = .ok (.invokevirtual 159, 3) := by decide +kernel
theorem mw_1388 : Cond.methodLink RL 159 yX11_doubt ∈ wsL_law := inr_58 _ (List.mem_of_getElem? (i := 20) rfl)
theorem mw_1391 : Cond.code yX11_doubt cX11_doubt 2 (some .int) ∈ wsL_law := inr_58 _ (List.mem_of_getElem? (i := 23) rfl)
theorem yk_X11_doubt : xY yX11_doubt RX11 cX11_doubt 2 (some .int) 1 := ⟨⟨rfl, by decide +kernel, by decide +kernel, by decide +kernel⟩, mw_2, mw_1391⟩
theorem mw_1389 : Cond.instanceMethod yX11_doubt ∈ wsL_law := inr_58 _ (List.mem_of_getElem? (i := 21) rfl)
theorem mw_1390 : Cond.selects RX11 yX11_doubt yX11_doubt ∈ wsL_law := inr_58 _ (List.mem_of_getElem? (i := 22) rfl)
theorem dL_law_1463 : decode cL_law 1463 = .ok (.aload_n 2, 1) := by decide +kernel
theorem dL_law_1464 : decode cL_law 1464 = .ok (.aload_n 0, 1) := by decide +kernel
theorem dL_law_1465 : decode cL_law 1465 = .ok (.iload_n 3, 1) := by decide +kernel
theorem dL_law_1466 : decode cL_law 1466 = .ok (.iconst 1, 1) := by decide +kernel
theorem dL_law_1467 : decode cL_law 1467 = .ok (.iadd, 1) := by decide +kernel
theorem dL_law_1468 : decode cL_law 1468 = .ok (.iaload, 1) := by decide +kernel
theorem dL_law_1469 : decode cL_law 1469 = .ok (.invokevirtual 162, 3) := by decide +kernel
theorem mw_1401 : Cond.methodLink RL 162 yX12_doubt ∈ wsL_law := inr_59 _ (List.mem_of_getElem? (i := 9) rfl)
theorem mw_1404 : Cond.code yX12_doubt cX12_doubt 3 (some .int) ∈ wsL_law := inr_59 _ (List.mem_of_getElem? (i := 12) rfl)
theorem yk_X12_doubt : xY yX12_doubt RX12 cX12_doubt 3 (some .int) 1 := ⟨⟨rfl, by decide +kernel, by decide +kernel, by decide +kernel⟩, mw_5, mw_1404⟩
theorem mw_1402 : Cond.instanceMethod yX12_doubt ∈ wsL_law := inr_59 _ (List.mem_of_getElem? (i := 10) rfl)
theorem mw_1403 : Cond.selects RX12 yX12_doubt yX12_doubt ∈ wsL_law := inr_59 _ (List.mem_of_getElem? (i := 11) rfl)
theorem dL_law_1472 : decode cL_law 1472 = .ok (.if_icmp .eq 291, 3) := by decide +kernel
set_option maxHeartbeats 4000000 in
set_option maxRecDepth 100000 in
theorem law_c22 {p : Program} {l : Launch} {e : Env} {s : State} {m : MethodId} {below : List Frame} {meth : Method} {c : Code} {b : Nat} {xs : Nat → Int32} {D : va_G} {cy : Nat → ClassId} {A : Nat → Prop} {H : Heap} {locs : List Loc} {ls : Array Slot} {q r : Nat} {u v : Nat → Nat} (F : CallFix p m c cL_law 4 s #[Value.ref b] wsL_law RL) (hr : meth.sig.returnType = ret) (hlocks : meth.locks = false) (hX : va_X b 6 xs s s.heap) (hbl : b < s.heap.size) (hAs : ∀ q, A q → s.heap.size ≤ q) (h : xS D cy A s.heap (askW cy q u ++ modW cy r v) s H locs) (hl : lv_has ls 4 [(3, .int 0), (2, .ref r), (1, .ref q), (0, .ref b)]) : W p l e room_1 s m #[Value.ref b] below meth c H locs 857 99087 (lw_Z below #[Value.ref b] s) (F0 m 992 ls []) := by
  have hbA : ¬ A b := fun ha => absurd (hAs b ha) (Nat.not_le.mpr hbl)
  have h : xS D cy A s.heap ([(q, .inr (11, [.ref ((u 0)), .ref ((u 1)), .ref ((u 2)), .ref ((u 3)), .ref ((u 4)), .ref ((u 5)), .ref ((u 6)), .ref ((u 7)), .ref ((u 8)), .ref ((u 9)), .int 0, .int 0, .int (-1), .int 0, .int 0, .long 0, .long 1])), (((u 3)), .inr (0, [.ref ((u 57)), .ref ((u 58)), .ref ((u 59)), .ref ((u 60)), .ref ((u 61)), .int 0, .int 0])), (((u 58)), .inl (cy 8, 3, .inr (.inr (.inr (.inr (va_up (va_up (va_up (fun _ => none) 0 (some ((u 65)))) 1 (some ((u 66)))) 2 (some ((u 67))))))))), (((u 65)), .inr (8, [.ref ((u 68)), .int 0, .long 0])), (((u 66)), .inr (8, [.ref ((u 69)), .int 0, .long 0])), (((u 67)), .inr (8, [.ref ((u 70)), .int 0, .long 0])), (r, .inr (12, (.ref ((v 0)) :: .int 0 :: .long 0 :: .long 1 :: .ref ((v 1)) :: .ref ((v 2)) :: .ref ((v 3)) :: .ref ((v 4)) :: .ref ((v 5)) :: .int 0 :: .int 0 :: .int 0 :: .int 0 :: .int 0 :: .int 0 :: .int (-1) :: .int (-1) :: .int 0 :: .ref ((v 6)) :: .int 0 :: .int 0 :: .ref ((v 7)) :: .ref ((v 8)) :: .ref ((v 9)) :: .ref ((v 10)) :: .ref ((v 11)) :: .ref ((v 12)) :: .ref ((v 13)) :: .int 0 :: .int 0 :: .int (-1) :: .int 0 :: .int (-1) :: .int 0 :: .ref ((v 14)) :: .int 0 :: .int 0 :: .int 0 :: .int 0 :: .int 0 :: .ref ((v 15)) :: .ref ((v 16)) :: .int 0 :: .int (-1) :: .int 0 :: .int 0 :: .int 0 :: .int 0 :: .ref ((v 17)) :: .ref ((v 18)) :: .ref ((v 19)) :: .int 0 :: .ref ((v 20)) :: .ref ((v 21)) :: .int 0 :: .ref ((v 22)) :: .int (-1) :: .int 0 :: .ref ((v 23)) :: .int (-1) :: .int (-1) :: .int 0 :: .ref ((v 24)) :: .ref ((v 25)) :: .int 0 :: []))), (((v 0)), .inl (cy 2, 25710, .inr (.inl (fun _ => 0))))]) s H locs := h.sub [0, 34, 36, 85, 86, 87, 146, 147] (by decide +kernel) rfl
  refine lv_aload_n F.1 F.2.1 dL_law_992 rfl (lv_at hl 2 rfl) ?_
  refine lv_aload_n F.1 F.2.1 dL_law_993 rfl (lv_at hl 3 rfl) ?_
  refine lv_iload_n F.1 F.2.1 dL_law_994 rfl (lv_at hl 0 rfl) ?_
  refine lv_iconst (v := 1) F.1 F.2.1 dL_law_995 (by decide) ?_
  refine lv_iadd F.1 F.2.1 dL_law_996 ?_
  refine x_topi (y := 1) (by decide +kernel) ?_
  refine va_sld F.1 F.2.1 hX hbl hbA h.2.2.2.1 (x_in (by decide +kernel)) dL_law_997 ?_
  refine x_topi (y := (xs 1)) rfl ?_
  refine lv_aload_n F.1 F.2.1 dL_law_998 rfl (lv_at hl 3 rfl) ?_
  refine lv_iload_n F.1 F.2.1 dL_law_999 rfl (lv_at hl 0 rfl) ?_
  refine lv_iconst (v := 2) F.1 F.2.1 dL_law_1000 (by decide) ?_
  refine lv_iadd F.1 F.2.1 dL_law_1001 ?_
  refine x_topi (y := 2) (by decide +kernel) ?_
  refine va_sld F.1 F.2.1 hX hbl hbA h.2.2.2.1 (x_in (by decide +kernel)) dL_law_1002 ?_
  refine x_topi (y := (xs 2)) rfl ?_
  refine lv_aload_n F.1 F.2.1 dL_law_1003 rfl (lv_at hl 3 rfl) ?_
  refine lv_iload_n F.1 F.2.1 dL_law_1004 rfl (lv_at hl 0 rfl) ?_
  refine lv_iconst (v := 3) F.1 F.2.1 dL_law_1005 (by decide) ?_
  refine lv_iadd F.1 F.2.1 dL_law_1006 ?_
  refine x_topi (y := 3) (by decide +kernel) ?_
  refine va_sld F.1 F.2.1 hX hbl hbA h.2.2.2.1 (x_in (by decide +kernel)) dL_law_1007 ?_
  refine x_topi (y := (xs 3)) rfl ?_
  refine x_Vl (wr := [(r, .inr (12, (.ref ((v 0)) :: .int 0 :: .long 0 :: .long 1 :: .ref ((v 1)) :: .ref ((v 2)) :: .ref ((v 3)) :: .ref ((v 4)) :: .ref ((v 5)) :: .int 0 :: .int 0 :: .int 0 :: .int 0 :: .int 0 :: .int 0 :: .int (-1) :: .int (-1) :: .int 0 :: .ref ((v 6)) :: .int 0 :: .int 0 :: .ref ((v 7)) :: .ref ((v 8)) :: .ref ((v 9)) :: .ref ((v 10)) :: .ref ((v 11)) :: .ref ((v 12)) :: .ref ((v 13)) :: .int 0 :: .int 0 :: .int (-1) :: .int 0 :: .int (-1) :: .int 0 :: .ref ((v 14)) :: .int 0 :: .int 0 :: .int 0 :: .int 0 :: .int 0 :: .ref ((v 15)) :: .ref ((v 16)) :: .int 0 :: .int (-1) :: .int 0 :: .int 0 :: .int 0 :: .int 0 :: .ref ((v 17)) :: .ref ((v 18)) :: .ref ((v 19)) :: .int 0 :: .ref ((v 20)) :: .ref ((v 21)) :: .int 0 :: .ref ((v 22)) :: .int (-1) :: .int 0 :: .ref ((v 23)) :: .int (-1) :: .int (-1) :: .int 0 :: .ref ((v 24)) :: .ref ((v 25)) :: .int 0 :: []))), (((v 0)), .inl (cy 2, 25710, .inr (.inl (fun _ => 0))))]) F h yk_X11_remembered mw_1127 mw_1128 mw_1129 (c_remembered l D cy q u ((xs 1)) ((xs 2)) ((xs 3))) [0, 1, 2, 3, 4, 5] [6, 7] 0 rfl rfl rfl rfl (by decide) rfl rfl hl.1 rfl (Nat.le_of_ble_eq_true rfl) ⟨Nat.le_of_ble_eq_true rfl, Nat.le_of_ble_eq_true rfl⟩ ⟨Nat.le_of_ble_eq_true rfl, Nat.le_of_ble_eq_true rfl⟩ dL_law_1008 (fun r2 u3 H locs hp1 h => ?_)
  have h : xS D cy A s.heap ([(r, .inr (12, (.ref ((v 0)) :: .int 0 :: .long 0 :: .long 1 :: .ref ((v 1)) :: .ref ((v 2)) :: .ref ((v 3)) :: .ref ((v 4)) :: .ref ((v 5)) :: .int 0 :: .int 0 :: .int 0 :: .int 0 :: .int 0 :: .int 0 :: .int (-1) :: .int (-1) :: .int 0 :: .ref ((v 6)) :: .int 0 :: .int 0 :: .ref ((v 7)) :: .ref ((v 8)) :: .ref ((v 9)) :: .ref ((v 10)) :: .ref ((v 11)) :: .ref ((v 12)) :: .ref ((v 13)) :: .int 0 :: .int 0 :: .int (-1) :: .int 0 :: .int (-1) :: .int 0 :: .ref ((v 14)) :: .int 0 :: .int 0 :: .int 0 :: .int 0 :: .int 0 :: .ref ((v 15)) :: .ref ((v 16)) :: .int 0 :: .int (-1) :: .int 0 :: .int 0 :: .int 0 :: .int 0 :: .ref ((v 17)) :: .ref ((v 18)) :: .ref ((v 19)) :: .int 0 :: .ref ((v 20)) :: .ref ((v 21)) :: .int 0 :: .ref ((v 22)) :: .int (-1) :: .int 0 :: .ref ((v 23)) :: .int (-1) :: .int (-1) :: .int 0 :: .ref ((v 24)) :: .ref ((v 25)) :: .int 0 :: []))), (((v 0)), .inl (cy 2, 25710, .inr (.inl (fun _ => 0))))]) s H locs := h
  obtain rfl : r2 = (-1) := hp1
  refine lv_aload_n F.1 F.2.1 dL_law_1011 rfl (lv_at hl 1 rfl) ?_
  refine lv_aload_n F.1 F.2.1 dL_law_1012 rfl (lv_at hl 3 rfl) ?_
  refine lv_iload_n F.1 F.2.1 dL_law_1013 rfl (lv_at hl 0 rfl) ?_
  refine lv_iconst (v := 1) F.1 F.2.1 dL_law_1014 (by decide) ?_
  refine lv_iadd F.1 F.2.1 dL_law_1015 ?_
  refine x_topi (y := 1) (by decide +kernel) ?_
  refine va_sld F.1 F.2.1 hX hbl hbA h.2.2.2.1 (x_in (by decide +kernel)) dL_law_1016 ?_
  refine x_topi (y := (xs 1)) rfl ?_
  refine lv_aload_n F.1 F.2.1 dL_law_1017 rfl (lv_at hl 3 rfl) ?_
  refine lv_iload_n F.1 F.2.1 dL_law_1018 rfl (lv_at hl 0 rfl) ?_
  refine lv_iconst (v := 2) F.1 F.2.1 dL_law_1019 (by decide) ?_
  refine lv_iadd F.1 F.2.1 dL_law_1020 ?_
  refine x_topi (y := 2) (by decide +kernel) ?_
  refine va_sld F.1 F.2.1 hX hbl hbA h.2.2.2.1 (x_in (by decide +kernel)) dL_law_1021 ?_
  refine x_topi (y := (xs 2)) rfl ?_
  refine lv_aload_n F.1 F.2.1 dL_law_1022 rfl (lv_at hl 3 rfl) ?_
  refine lv_iload_n F.1 F.2.1 dL_law_1023 rfl (lv_at hl 0 rfl) ?_
  refine lv_iconst (v := 3) F.1 F.2.1 dL_law_1024 (by decide) ?_
  refine lv_iadd F.1 F.2.1 dL_law_1025 ?_
  refine x_topi (y := 3) (by decide +kernel) ?_
  refine va_sld F.1 F.2.1 hX hbl hbA h.2.2.2.1 (x_in (by decide +kernel)) dL_law_1026 ?_
  refine x_topi (y := (xs 3)) rfl ?_
  refine x_Vl (wr := []) F h yk_X12_remembered mw_1132 mw_1133 mw_1134 (c_m_remembered l D cy r v ((xs 1)) ((xs 2)) ((xs 3))) [0, 1] [] 0 rfl rfl rfl rfl (by decide) rfl rfl hl.1 rfl (Nat.le_of_ble_eq_true rfl) ⟨Nat.le_of_ble_eq_true rfl, Nat.le_of_ble_eq_true rfl⟩ ⟨Nat.le_of_ble_eq_true rfl, Nat.le_of_ble_eq_true rfl⟩ dL_law_1027 (fun r5 u6 H locs hp4 h => ?_)
  have h : xS D cy A s.heap ([]) s H locs := h
  obtain rfl : r5 = (-1) := hp4
  refine W.lcmp F.1 F.2.1 dL_law_1030 ?_
  refine x_topi (y := 0) (by decide +kernel) ?_
  refine lv_if_eq (tgt := 1763) F.1 F.2.1 dL_law_1031 (by decide) (fun _ => ?_) (fun hc => absurd (by decide) hc)
  exact law_end F hr hlocks hX hbl hAs h (lv_sub hl [0, 3] rfl)
set_option maxHeartbeats 4000000 in
set_option maxRecDepth 100000 in
theorem law_c23 {p : Program} {l : Launch} {e : Env} {s : State} {m : MethodId} {below : List Frame} {meth : Method} {c : Code} {b : Nat} {xs : Nat → Int32} {D : va_G} {cy : Nat → ClassId} {A : Nat → Prop} {H : Heap} {locs : List Loc} {ls : Array Slot} {q r : Nat} {u v : Nat → Nat} (F : CallFix p m c cL_law 4 s #[Value.ref b] wsL_law RL) (hr : meth.sig.returnType = ret) (hlocks : meth.locks = false) (hX : va_X b 6 xs s s.heap) (hbl : b < s.heap.size) (hAs : ∀ q, A q → s.heap.size ≤ q) (h : xS D cy A s.heap (askW cy q u ++ modW cy r v) s H locs) (hl : lv_has ls 4 [(3, .int 0), (2, .ref r), (1, .ref q), (0, .ref b)]) : W p l e room_1 s m #[Value.ref b] below meth c H locs 857 99087 (lw_Z below #[Value.ref b] s) (F0 m 1036 ls []) := by
  have hbA : ¬ A b := fun ha => absurd (hAs b ha) (Nat.not_le.mpr hbl)
  have h : xS D cy A s.heap ([(q, .inr (11, [.ref ((u 0)), .ref ((u 1)), .ref ((u 2)), .ref ((u 3)), .ref ((u 4)), .ref ((u 5)), .ref ((u 6)), .ref ((u 7)), .ref ((u 8)), .ref ((u 9)), .int 0, .int 0, .int (-1), .int 0, .int 0, .long 0, .long 1])), (((u 0)), .inl (cy 9, 4, .inr (.inr (.inr (.inr (va_up (va_up (va_up (va_up (fun _ => none) 0 (some ((u 10)))) 1 (some ((u 11)))) 2 (some ((u 12)))) 3 (some ((u 13))))))))), (((u 10)), .inr (10, [.ref ((u 14)), .int (-1), .int 0])), (((u 11)), .inr (10, [.ref ((u 15)), .int (-1), .int 0])), (((u 12)), .inr (10, [.ref ((u 16)), .int (-1), .int 0])), (((u 13)), .inr (10, [.ref ((u 17)), .int (-1), .int 0])), (r, .inr (12, (.ref ((v 0)) :: .int 0 :: .long 0 :: .long 1 :: .ref ((v 1)) :: .ref ((v 2)) :: .ref ((v 3)) :: .ref ((v 4)) :: .ref ((v 5)) :: .int 0 :: .int 0 :: .int 0 :: .int 0 :: .int 0 :: .int 0 :: .int (-1) :: .int (-1) :: .int 0 :: .ref ((v 6)) :: .int 0 :: .int 0 :: .ref ((v 7)) :: .ref ((v 8)) :: .ref ((v 9)) :: .ref ((v 10)) :: .ref ((v 11)) :: .ref ((v 12)) :: .ref ((v 13)) :: .int 0 :: .int 0 :: .int (-1) :: .int 0 :: .int (-1) :: .int 0 :: .ref ((v 14)) :: .int 0 :: .int 0 :: .int 0 :: .int 0 :: .int 0 :: .ref ((v 15)) :: .ref ((v 16)) :: .int 0 :: .int (-1) :: .int 0 :: .int 0 :: .int 0 :: .int 0 :: .ref ((v 17)) :: .ref ((v 18)) :: .ref ((v 19)) :: .int 0 :: .ref ((v 20)) :: .ref ((v 21)) :: .int 0 :: .ref ((v 22)) :: .int (-1) :: .int 0 :: .ref ((v 23)) :: .int (-1) :: .int (-1) :: .int 0 :: .ref ((v 24)) :: .ref ((v 25)) :: .int 0 :: []))), (((v 2)), .inl (cy 1, 4, .inl (upd (upd (upd (upd (fun _ => 0) 0 (-1)) 1 (-1)) 2 (-1)) 3 (-1))))]) s H locs := h.sub [0, 1, 4, 6, 8, 10, 146, 149] (by decide +kernel) rfl
  refine lv_aload_n F.1 F.2.1 dL_law_1036 rfl (lv_at hl 2 rfl) ?_
  refine lv_aload_n F.1 F.2.1 dL_law_1037 rfl (lv_at hl 3 rfl) ?_
  refine lv_iload_n F.1 F.2.1 dL_law_1038 rfl (lv_at hl 0 rfl) ?_
  refine lv_iconst (v := 1) F.1 F.2.1 dL_law_1039 (by decide) ?_
  refine lv_iadd F.1 F.2.1 dL_law_1040 ?_
  refine x_topi (y := 1) (by decide +kernel) ?_
  refine va_sld F.1 F.2.1 hX hbl hbA h.2.2.2.1 (x_in (by decide +kernel)) dL_law_1041 ?_
  refine x_topi (y := (xs 1)) rfl ?_
  refine lv_aload_n F.1 F.2.1 dL_law_1042 rfl (lv_at hl 3 rfl) ?_
  refine lv_iload_n F.1 F.2.1 dL_law_1043 rfl (lv_at hl 0 rfl) ?_
  refine lv_iconst (v := 2) F.1 F.2.1 dL_law_1044 (by decide) ?_
  refine lv_iadd F.1 F.2.1 dL_law_1045 ?_
  refine x_topi (y := 2) (by decide +kernel) ?_
  refine va_sld F.1 F.2.1 hX hbl hbA h.2.2.2.1 (x_in (by decide +kernel)) dL_law_1046 ?_
  refine x_topi (y := (xs 2)) rfl ?_
  refine lv_aload_n F.1 F.2.1 dL_law_1047 rfl (lv_at hl 3 rfl) ?_
  refine lv_iload_n F.1 F.2.1 dL_law_1048 rfl (lv_at hl 0 rfl) ?_
  refine lv_iconst (v := 3) F.1 F.2.1 dL_law_1049 (by decide) ?_
  refine lv_iadd F.1 F.2.1 dL_law_1050 ?_
  refine x_topi (y := 3) (by decide +kernel) ?_
  refine va_sld F.1 F.2.1 hX hbl hbA h.2.2.2.1 (x_in (by decide +kernel)) dL_law_1051 ?_
  refine x_topi (y := (xs 3)) rfl ?_
  refine x_Vi (wr := [(r, .inr (12, (.ref ((v 0)) :: .int 0 :: .long 0 :: .long 1 :: .ref ((v 1)) :: .ref ((v 2)) :: .ref ((v 3)) :: .ref ((v 4)) :: .ref ((v 5)) :: .int 0 :: .int 0 :: .int 0 :: .int 0 :: .int 0 :: .int 0 :: .int (-1) :: .int (-1) :: .int 0 :: .ref ((v 6)) :: .int 0 :: .int 0 :: .ref ((v 7)) :: .ref ((v 8)) :: .ref ((v 9)) :: .ref ((v 10)) :: .ref ((v 11)) :: .ref ((v 12)) :: .ref ((v 13)) :: .int 0 :: .int 0 :: .int (-1) :: .int 0 :: .int (-1) :: .int 0 :: .ref ((v 14)) :: .int 0 :: .int 0 :: .int 0 :: .int 0 :: .int 0 :: .ref ((v 15)) :: .ref ((v 16)) :: .int 0 :: .int (-1) :: .int 0 :: .int 0 :: .int 0 :: .int 0 :: .ref ((v 17)) :: .ref ((v 18)) :: .ref ((v 19)) :: .int 0 :: .ref ((v 20)) :: .ref ((v 21)) :: .int 0 :: .ref ((v 22)) :: .int (-1) :: .int 0 :: .ref ((v 23)) :: .int (-1) :: .int (-1) :: .int 0 :: .ref ((v 24)) :: .ref ((v 25)) :: .int 0 :: []))), (((v 2)), .inl (cy 1, 4, .inl (upd (upd (upd (upd (fun _ => 0) 0 (-1)) 1 (-1)) 2 (-1)) 3 (-1))))]) F h yk_X11_talk mw_1136 mw_1137 mw_1138 (c_talk l D cy q u ((xs 1)) ((xs 2)) ((xs 3))) [0, 1, 2, 3, 4, 5] [6, 7] 0 rfl rfl rfl rfl (by decide) rfl rfl hl.1 rfl (Nat.le_of_ble_eq_true rfl) ⟨Nat.le_of_ble_eq_true rfl, Nat.le_of_ble_eq_true rfl⟩ ⟨Nat.le_of_ble_eq_true rfl, Nat.le_of_ble_eq_true rfl⟩ dL_law_1052 (fun r2 u3 H locs hp1 h => ?_)
  have h : xS D cy A s.heap ([(r, .inr (12, (.ref ((v 0)) :: .int 0 :: .long 0 :: .long 1 :: .ref ((v 1)) :: .ref ((v 2)) :: .ref ((v 3)) :: .ref ((v 4)) :: .ref ((v 5)) :: .int 0 :: .int 0 :: .int 0 :: .int 0 :: .int 0 :: .int 0 :: .int (-1) :: .int (-1) :: .int 0 :: .ref ((v 6)) :: .int 0 :: .int 0 :: .ref ((v 7)) :: .ref ((v 8)) :: .ref ((v 9)) :: .ref ((v 10)) :: .ref ((v 11)) :: .ref ((v 12)) :: .ref ((v 13)) :: .int 0 :: .int 0 :: .int (-1) :: .int 0 :: .int (-1) :: .int 0 :: .ref ((v 14)) :: .int 0 :: .int 0 :: .int 0 :: .int 0 :: .int 0 :: .ref ((v 15)) :: .ref ((v 16)) :: .int 0 :: .int (-1) :: .int 0 :: .int 0 :: .int 0 :: .int 0 :: .ref ((v 17)) :: .ref ((v 18)) :: .ref ((v 19)) :: .int 0 :: .ref ((v 20)) :: .ref ((v 21)) :: .int 0 :: .ref ((v 22)) :: .int (-1) :: .int 0 :: .ref ((v 23)) :: .int (-1) :: .int (-1) :: .int 0 :: .ref ((v 24)) :: .ref ((v 25)) :: .int 0 :: []))), (((v 2)), .inl (cy 1, 4, .inl (upd (upd (upd (upd (fun _ => 0) 0 (-1)) 1 (-1)) 2 (-1)) 3 (-1))))]) s H locs := h
  obtain rfl : r2 = (-1) := hp1
  refine lv_aload_n F.1 F.2.1 dL_law_1055 rfl (lv_at hl 1 rfl) ?_
  refine lv_aload_n F.1 F.2.1 dL_law_1056 rfl (lv_at hl 3 rfl) ?_
  refine lv_iload_n F.1 F.2.1 dL_law_1057 rfl (lv_at hl 0 rfl) ?_
  refine lv_iconst (v := 1) F.1 F.2.1 dL_law_1058 (by decide) ?_
  refine lv_iadd F.1 F.2.1 dL_law_1059 ?_
  refine x_topi (y := 1) (by decide +kernel) ?_
  refine va_sld F.1 F.2.1 hX hbl hbA h.2.2.2.1 (x_in (by decide +kernel)) dL_law_1060 ?_
  refine x_topi (y := (xs 1)) rfl ?_
  refine lv_aload_n F.1 F.2.1 dL_law_1061 rfl (lv_at hl 3 rfl) ?_
  refine lv_iload_n F.1 F.2.1 dL_law_1062 rfl (lv_at hl 0 rfl) ?_
  refine lv_iconst (v := 2) F.1 F.2.1 dL_law_1063 (by decide) ?_
  refine lv_iadd F.1 F.2.1 dL_law_1064 ?_
  refine x_topi (y := 2) (by decide +kernel) ?_
  refine va_sld F.1 F.2.1 hX hbl hbA h.2.2.2.1 (x_in (by decide +kernel)) dL_law_1065 ?_
  refine x_topi (y := (xs 2)) rfl ?_
  refine lv_aload_n F.1 F.2.1 dL_law_1066 rfl (lv_at hl 3 rfl) ?_
  refine lv_iload_n F.1 F.2.1 dL_law_1067 rfl (lv_at hl 0 rfl) ?_
  refine lv_iconst (v := 3) F.1 F.2.1 dL_law_1068 (by decide) ?_
  refine lv_iadd F.1 F.2.1 dL_law_1069 ?_
  refine x_topi (y := 3) (by decide +kernel) ?_
  refine va_sld F.1 F.2.1 hX hbl hbA h.2.2.2.1 (x_in (by decide +kernel)) dL_law_1070 ?_
  refine x_topi (y := (xs 3)) rfl ?_
  refine x_Vi (wr := []) F h yk_X12_talk mw_1179 mw_1180 mw_1181 (c_m_talk l D cy r v ((xs 1)) ((xs 2)) ((xs 3))) [0, 1] [] 0 rfl rfl rfl rfl (by decide) rfl rfl hl.1 rfl (Nat.le_of_ble_eq_true rfl) ⟨Nat.le_of_ble_eq_true rfl, Nat.le_of_ble_eq_true rfl⟩ ⟨Nat.le_of_ble_eq_true rfl, Nat.le_of_ble_eq_true rfl⟩ dL_law_1071 (fun r5 u6 H locs hp4 h => ?_)
  have h : xS D cy A s.heap ([]) s H locs := h
  obtain rfl : r5 = (-1) := hp4
  refine lv_icmp_eq (tgt := 1763) F.1 F.2.1 dL_law_1074 (by decide) (fun _ => ?_) (fun hc => absurd (by decide) hc)
  exact law_end F hr hlocks hX hbl hAs h (lv_sub hl [0, 3] rfl)
set_option maxHeartbeats 4000000 in
set_option maxRecDepth 100000 in
theorem law_c24 {p : Program} {l : Launch} {e : Env} {s : State} {m : MethodId} {below : List Frame} {meth : Method} {c : Code} {b : Nat} {xs : Nat → Int32} {D : va_G} {cy : Nat → ClassId} {A : Nat → Prop} {H : Heap} {locs : List Loc} {ls : Array Slot} {q r : Nat} {u v : Nat → Nat} (F : CallFix p m c cL_law 4 s #[Value.ref b] wsL_law RL) (hr : meth.sig.returnType = ret) (hlocks : meth.locks = false) (hX : va_X b 6 xs s s.heap) (hbl : b < s.heap.size) (hAs : ∀ q, A q → s.heap.size ≤ q) (h : xS D cy A s.heap (askW cy q u ++ modW cy r v) s H locs) (hl : lv_has ls 4 [(3, .int 0), (2, .ref r), (1, .ref q), (0, .ref b)]) : W p l e room_1 s m #[Value.ref b] below meth c H locs 857 99087 (lw_Z below #[Value.ref b] s) (F0 m 1079 ls []) := by
  have hbA : ¬ A b := fun ha => absurd (hAs b ha) (Nat.not_le.mpr hbl)
  have h : xS D cy A s.heap ([(q, .inr (11, [.ref ((u 0)), .ref ((u 1)), .ref ((u 2)), .ref ((u 3)), .ref ((u 4)), .ref ((u 5)), .ref ((u 6)), .ref ((u 7)), .ref ((u 8)), .ref ((u 9)), .int 0, .int 0, .int (-1), .int 0, .int 0, .long 0, .long 1])), (((u 5)), .inr (9, [.ref ((u 21)), .ref ((u 22)), .ref ((u 23)), .ref ((u 24)), .int 0])), (r, .inr (12, (.ref ((v 0)) :: .int 0 :: .long 0 :: .long 1 :: .ref ((v 1)) :: .ref ((v 2)) :: .ref ((v 3)) :: .ref ((v 4)) :: .ref ((v 5)) :: .int 0 :: .int 0 :: .int 0 :: .int 0 :: .int 0 :: .int 0 :: .int (-1) :: .int (-1) :: .int 0 :: .ref ((v 6)) :: .int 0 :: .int 0 :: .ref ((v 7)) :: .ref ((v 8)) :: .ref ((v 9)) :: .ref ((v 10)) :: .ref ((v 11)) :: .ref ((v 12)) :: .ref ((v 13)) :: .int 0 :: .int 0 :: .int (-1) :: .int 0 :: .int (-1) :: .int 0 :: .ref ((v 14)) :: .int 0 :: .int 0 :: .int 0 :: .int 0 :: .int 0 :: .ref ((v 15)) :: .ref ((v 16)) :: .int 0 :: .int (-1) :: .int 0 :: .int 0 :: .int 0 :: .int 0 :: .ref ((v 17)) :: .ref ((v 18)) :: .ref ((v 19)) :: .int 0 :: .ref ((v 20)) :: .ref ((v 21)) :: .int 0 :: .ref ((v 22)) :: .int (-1) :: .int 0 :: .ref ((v 23)) :: .int (-1) :: .int (-1) :: .int 0 :: .ref ((v 24)) :: .ref ((v 25)) :: .int 0 :: [])))]) s H locs := h.sub [0, 12, 146] (by decide +kernel) rfl
  refine lv_aload_n F.1 F.2.1 dL_law_1079 rfl (lv_at hl 2 rfl) ?_
  refine lv_aload_n F.1 F.2.1 dL_law_1080 rfl (lv_at hl 3 rfl) ?_
  refine lv_iload_n F.1 F.2.1 dL_law_1081 rfl (lv_at hl 0 rfl) ?_
  refine lv_iconst (v := 1) F.1 F.2.1 dL_law_1082 (by decide) ?_
  refine lv_iadd F.1 F.2.1 dL_law_1083 ?_
  refine x_topi (y := 1) (by decide +kernel) ?_
  refine va_sld F.1 F.2.1 hX hbl hbA h.2.2.2.1 (x_in (by decide +kernel)) dL_law_1084 ?_
  refine x_topi (y := (xs 1)) rfl ?_
  refine lv_aload_n F.1 F.2.1 dL_law_1085 rfl (lv_at hl 3 rfl) ?_
  refine lv_iload_n F.1 F.2.1 dL_law_1086 rfl (lv_at hl 0 rfl) ?_
  refine lv_iconst (v := 2) F.1 F.2.1 dL_law_1087 (by decide) ?_
  refine lv_iadd F.1 F.2.1 dL_law_1088 ?_
  refine x_topi (y := 2) (by decide +kernel) ?_
  refine va_sld F.1 F.2.1 hX hbl hbA h.2.2.2.1 (x_in (by decide +kernel)) dL_law_1089 ?_
  refine x_topi (y := (xs 2)) rfl ?_
  refine x_Vl (wr := [(r, .inr (12, (.ref ((v 0)) :: .int 0 :: .long 0 :: .long 1 :: .ref ((v 1)) :: .ref ((v 2)) :: .ref ((v 3)) :: .ref ((v 4)) :: .ref ((v 5)) :: .int 0 :: .int 0 :: .int 0 :: .int 0 :: .int 0 :: .int 0 :: .int (-1) :: .int (-1) :: .int 0 :: .ref ((v 6)) :: .int 0 :: .int 0 :: .ref ((v 7)) :: .ref ((v 8)) :: .ref ((v 9)) :: .ref ((v 10)) :: .ref ((v 11)) :: .ref ((v 12)) :: .ref ((v 13)) :: .int 0 :: .int 0 :: .int (-1) :: .int 0 :: .int (-1) :: .int 0 :: .ref ((v 14)) :: .int 0 :: .int 0 :: .int 0 :: .int 0 :: .int 0 :: .ref ((v 15)) :: .ref ((v 16)) :: .int 0 :: .int (-1) :: .int 0 :: .int 0 :: .int 0 :: .int 0 :: .ref ((v 17)) :: .ref ((v 18)) :: .ref ((v 19)) :: .int 0 :: .ref ((v 20)) :: .ref ((v 21)) :: .int 0 :: .ref ((v 22)) :: .int (-1) :: .int 0 :: .ref ((v 23)) :: .int (-1) :: .int (-1) :: .int 0 :: .ref ((v 24)) :: .ref ((v 25)) :: .int 0 :: [])))]) F h yk_X11_spoken mw_1195 mw_1196 mw_1197 (c_spoken l D cy q u ((xs 1)) ((xs 2))) [0, 1] [2] 0 rfl rfl rfl rfl (by decide) rfl rfl hl.1 rfl (Nat.le_of_ble_eq_true rfl) ⟨Nat.le_of_ble_eq_true rfl, Nat.le_of_ble_eq_true rfl⟩ ⟨Nat.le_of_ble_eq_true rfl, Nat.le_of_ble_eq_true rfl⟩ dL_law_1090 (fun r2 u3 H locs hp1 h => ?_)
  have h : xS D cy A s.heap ([(r, .inr (12, (.ref ((v 0)) :: .int 0 :: .long 0 :: .long 1 :: .ref ((v 1)) :: .ref ((v 2)) :: .ref ((v 3)) :: .ref ((v 4)) :: .ref ((v 5)) :: .int 0 :: .int 0 :: .int 0 :: .int 0 :: .int 0 :: .int 0 :: .int (-1) :: .int (-1) :: .int 0 :: .ref ((v 6)) :: .int 0 :: .int 0 :: .ref ((v 7)) :: .ref ((v 8)) :: .ref ((v 9)) :: .ref ((v 10)) :: .ref ((v 11)) :: .ref ((v 12)) :: .ref ((v 13)) :: .int 0 :: .int 0 :: .int (-1) :: .int 0 :: .int (-1) :: .int 0 :: .ref ((v 14)) :: .int 0 :: .int 0 :: .int 0 :: .int 0 :: .int 0 :: .ref ((v 15)) :: .ref ((v 16)) :: .int 0 :: .int (-1) :: .int 0 :: .int 0 :: .int 0 :: .int 0 :: .ref ((v 17)) :: .ref ((v 18)) :: .ref ((v 19)) :: .int 0 :: .ref ((v 20)) :: .ref ((v 21)) :: .int 0 :: .ref ((v 22)) :: .int (-1) :: .int 0 :: .ref ((v 23)) :: .int (-1) :: .int (-1) :: .int 0 :: .ref ((v 24)) :: .ref ((v 25)) :: .int 0 :: [])))]) s H locs := h
  obtain rfl : r2 = (-1) := hp1
  refine lv_aload_n F.1 F.2.1 dL_law_1093 rfl (lv_at hl 1 rfl) ?_
  refine lv_aload_n F.1 F.2.1 dL_law_1094 rfl (lv_at hl 3 rfl) ?_
  refine lv_iload_n F.1 F.2.1 dL_law_1095 rfl (lv_at hl 0 rfl) ?_
  refine lv_iconst (v := 1) F.1 F.2.1 dL_law_1096 (by decide) ?_
  refine lv_iadd F.1 F.2.1 dL_law_1097 ?_
  refine x_topi (y := 1) (by decide +kernel) ?_
  refine va_sld F.1 F.2.1 hX hbl hbA h.2.2.2.1 (x_in (by decide +kernel)) dL_law_1098 ?_
  refine x_topi (y := (xs 1)) rfl ?_
  refine lv_aload_n F.1 F.2.1 dL_law_1099 rfl (lv_at hl 3 rfl) ?_
  refine lv_iload_n F.1 F.2.1 dL_law_1100 rfl (lv_at hl 0 rfl) ?_
  refine lv_iconst (v := 2) F.1 F.2.1 dL_law_1101 (by decide) ?_
  refine lv_iadd F.1 F.2.1 dL_law_1102 ?_
  refine x_topi (y := 2) (by decide +kernel) ?_
  refine va_sld F.1 F.2.1 hX hbl hbA h.2.2.2.1 (x_in (by decide +kernel)) dL_law_1103 ?_
  refine x_topi (y := (xs 2)) rfl ?_
  refine x_Vl (wr := []) F h yk_X12_spoken mw_1200 mw_1201 mw_1202 (c_m_spoken l D cy r v ((xs 1)) ((xs 2))) [0] [] 0 rfl rfl rfl rfl (by decide) rfl rfl hl.1 rfl (Nat.le_of_ble_eq_true rfl) ⟨Nat.le_of_ble_eq_true rfl, Nat.le_of_ble_eq_true rfl⟩ ⟨Nat.le_of_ble_eq_true rfl, Nat.le_of_ble_eq_true rfl⟩ dL_law_1104 (fun r5 u6 H locs hp4 h => ?_)
  have h : xS D cy A s.heap ([]) s H locs := h
  obtain rfl : r5 = (-1) := hp4
  refine W.lcmp F.1 F.2.1 dL_law_1107 ?_
  refine x_topi (y := 0) (by decide +kernel) ?_
  refine lv_if_eq (tgt := 1763) F.1 F.2.1 dL_law_1108 (by decide) (fun _ => ?_) (fun hc => absurd (by decide) hc)
  exact law_end F hr hlocks hX hbl hAs h (lv_sub hl [0, 3] rfl)
set_option maxHeartbeats 4000000 in
set_option maxRecDepth 100000 in
theorem law_c25 {p : Program} {l : Launch} {e : Env} {s : State} {m : MethodId} {below : List Frame} {meth : Method} {c : Code} {b : Nat} {xs : Nat → Int32} {D : va_G} {cy : Nat → ClassId} {A : Nat → Prop} {H : Heap} {locs : List Loc} {ls : Array Slot} {q r : Nat} {u v : Nat → Nat} (F : CallFix p m c cL_law 4 s #[Value.ref b] wsL_law RL) (hr : meth.sig.returnType = ret) (hlocks : meth.locks = false) (hX : va_X b 6 xs s s.heap) (hbl : b < s.heap.size) (hAs : ∀ q, A q → s.heap.size ≤ q) (h : xS D cy A s.heap (askW cy q u ++ modW cy r v) s H locs) (hl : lv_has ls 4 [(3, .int 0), (2, .ref r), (1, .ref q), (0, .ref b)]) : W p l e room_1 s m #[Value.ref b] below meth c H locs 857 99087 (lw_Z below #[Value.ref b] s) (F0 m 1113 ls []) := by
  have hbA : ¬ A b := fun ha => absurd (hAs b ha) (Nat.not_le.mpr hbl)
  have h : xS D cy A s.heap ([(q, .inr (11, [.ref ((u 0)), .ref ((u 1)), .ref ((u 2)), .ref ((u 3)), .ref ((u 4)), .ref ((u 5)), .ref ((u 6)), .ref ((u 7)), .ref ((u 8)), .ref ((u 9)), .int 0, .int 0, .int (-1), .int 0, .int 0, .long 0, .long 1])), (((u 3)), .inr (0, [.ref ((u 57)), .ref ((u 58)), .ref ((u 59)), .ref ((u 60)), .ref ((u 61)), .int 0, .int 0])), (r, .inr (12, (.ref ((v 0)) :: .int 0 :: .long 0 :: .long 1 :: .ref ((v 1)) :: .ref ((v 2)) :: .ref ((v 3)) :: .ref ((v 4)) :: .ref ((v 5)) :: .int 0 :: .int 0 :: .int 0 :: .int 0 :: .int 0 :: .int 0 :: .int (-1) :: .int (-1) :: .int 0 :: .ref ((v 6)) :: .int 0 :: .int 0 :: .ref ((v 7)) :: .ref ((v 8)) :: .ref ((v 9)) :: .ref ((v 10)) :: .ref ((v 11)) :: .ref ((v 12)) :: .ref ((v 13)) :: .int 0 :: .int 0 :: .int (-1) :: .int 0 :: .int (-1) :: .int 0 :: .ref ((v 14)) :: .int 0 :: .int 0 :: .int 0 :: .int 0 :: .int 0 :: .ref ((v 15)) :: .ref ((v 16)) :: .int 0 :: .int (-1) :: .int 0 :: .int 0 :: .int 0 :: .int 0 :: .ref ((v 17)) :: .ref ((v 18)) :: .ref ((v 19)) :: .int 0 :: .ref ((v 20)) :: .ref ((v 21)) :: .int 0 :: .ref ((v 22)) :: .int (-1) :: .int 0 :: .ref ((v 23)) :: .int (-1) :: .int (-1) :: .int 0 :: .ref ((v 24)) :: .ref ((v 25)) :: .int 0 :: []))), (((v 0)), .inl (cy 2, 25710, .inr (.inl (fun _ => 0)))), (((v 2)), .inl (cy 1, 4, .inl (upd (upd (upd (upd (fun _ => 0) 0 (-1)) 1 (-1)) 2 (-1)) 3 (-1))))]) s H locs := h.sub [0, 34, 146, 147, 149] (by decide +kernel) rfl
  refine lv_aload_n F.1 F.2.1 dL_law_1113 rfl (lv_at hl 2 rfl) ?_
  refine lv_aload_n F.1 F.2.1 dL_law_1114 rfl (lv_at hl 3 rfl) ?_
  refine lv_iload_n F.1 F.2.1 dL_law_1115 rfl (lv_at hl 0 rfl) ?_
  refine lv_iconst (v := 1) F.1 F.2.1 dL_law_1116 (by decide) ?_
  refine lv_iadd F.1 F.2.1 dL_law_1117 ?_
  refine x_topi (y := 1) (by decide +kernel) ?_
  refine va_sld F.1 F.2.1 hX hbl hbA h.2.2.2.1 (x_in (by decide +kernel)) dL_law_1118 ?_
  refine x_topi (y := (xs 1)) rfl ?_
  refine lv_aload_n F.1 F.2.1 dL_law_1119 rfl (lv_at hl 3 rfl) ?_
  refine lv_iload_n F.1 F.2.1 dL_law_1120 rfl (lv_at hl 0 rfl) ?_
  refine lv_iconst (v := 2) F.1 F.2.1 dL_law_1121 (by decide) ?_
  refine lv_iadd F.1 F.2.1 dL_law_1122 ?_
  refine x_topi (y := 2) (by decide +kernel) ?_
  refine va_sld F.1 F.2.1 hX hbl hbA h.2.2.2.1 (x_in (by decide +kernel)) dL_law_1123 ?_
  refine x_topi (y := (xs 2)) rfl ?_
  refine lv_aload_n F.1 F.2.1 dL_law_1124 rfl (lv_at hl 3 rfl) ?_
  refine lv_iload_n F.1 F.2.1 dL_law_1125 rfl (lv_at hl 0 rfl) ?_
  refine lv_iconst (v := 3) F.1 F.2.1 dL_law_1126 (by decide) ?_
  refine lv_iadd F.1 F.2.1 dL_law_1127 ?_
  refine x_topi (y := 3) (by decide +kernel) ?_
  refine va_sld F.1 F.2.1 hX hbl hbA h.2.2.2.1 (x_in (by decide +kernel)) dL_law_1128 ?_
  refine x_topi (y := (xs 3)) rfl ?_
  refine lv_aload_n F.1 F.2.1 dL_law_1129 rfl (lv_at hl 3 rfl) ?_
  refine lv_iload_n F.1 F.2.1 dL_law_1130 rfl (lv_at hl 0 rfl) ?_
  refine lv_iconst (v := 4) F.1 F.2.1 dL_law_1131 (by decide) ?_
  refine lv_iadd F.1 F.2.1 dL_law_1132 ?_
  refine x_topi (y := 4) (by decide +kernel) ?_
  refine va_sld F.1 F.2.1 hX hbl hbA h.2.2.2.1 (x_in (by decide +kernel)) dL_law_1133 ?_
  refine x_topi (y := (xs 4)) rfl ?_
  refine x_Vi (wr := [(r, .inr (12, (.ref ((v 0)) :: .int 0 :: .long 0 :: .long 1 :: .ref ((v 1)) :: .ref ((v 2)) :: .ref ((v 3)) :: .ref ((v 4)) :: .ref ((v 5)) :: .int 0 :: .int 0 :: .int 0 :: .int 0 :: .int 0 :: .int 0 :: .int (-1) :: .int (-1) :: .int 0 :: .ref ((v 6)) :: .int 0 :: .int 0 :: .ref ((v 7)) :: .ref ((v 8)) :: .ref ((v 9)) :: .ref ((v 10)) :: .ref ((v 11)) :: .ref ((v 12)) :: .ref ((v 13)) :: .int 0 :: .int 0 :: .int (-1) :: .int 0 :: .int (-1) :: .int 0 :: .ref ((v 14)) :: .int 0 :: .int 0 :: .int 0 :: .int 0 :: .int 0 :: .ref ((v 15)) :: .ref ((v 16)) :: .int 0 :: .int (-1) :: .int 0 :: .int 0 :: .int 0 :: .int 0 :: .ref ((v 17)) :: .ref ((v 18)) :: .ref ((v 19)) :: .int 0 :: .ref ((v 20)) :: .ref ((v 21)) :: .int 0 :: .ref ((v 22)) :: .int (-1) :: .int 0 :: .ref ((v 23)) :: .int (-1) :: .int (-1) :: .int 0 :: .ref ((v 24)) :: .ref ((v 25)) :: .int 0 :: []))), (((v 0)), .inl (cy 2, 25710, .inr (.inl (fun _ => 0)))), (((v 2)), .inl (cy 1, 4, .inl (upd (upd (upd (upd (fun _ => 0) 0 (-1)) 1 (-1)) 2 (-1)) 3 (-1))))]) F h yk_X11_lead mw_1204 mw_1205 mw_1206 (c_lead l D cy q u ((xs 1)) ((xs 2)) ((xs 3)) ((xs 4))) [0, 1] [2, 3, 4] 0 rfl rfl rfl rfl (by decide) rfl rfl hl.1 rfl (Nat.le_of_ble_eq_true rfl) ⟨Nat.le_of_ble_eq_true rfl, Nat.le_of_ble_eq_true rfl⟩ ⟨Nat.le_of_ble_eq_true rfl, Nat.le_of_ble_eq_true rfl⟩ dL_law_1134 (fun r2 u3 H locs hp1 h => ?_)
  have h : xS D cy A s.heap ([(r, .inr (12, (.ref ((v 0)) :: .int 0 :: .long 0 :: .long 1 :: .ref ((v 1)) :: .ref ((v 2)) :: .ref ((v 3)) :: .ref ((v 4)) :: .ref ((v 5)) :: .int 0 :: .int 0 :: .int 0 :: .int 0 :: .int 0 :: .int 0 :: .int (-1) :: .int (-1) :: .int 0 :: .ref ((v 6)) :: .int 0 :: .int 0 :: .ref ((v 7)) :: .ref ((v 8)) :: .ref ((v 9)) :: .ref ((v 10)) :: .ref ((v 11)) :: .ref ((v 12)) :: .ref ((v 13)) :: .int 0 :: .int 0 :: .int (-1) :: .int 0 :: .int (-1) :: .int 0 :: .ref ((v 14)) :: .int 0 :: .int 0 :: .int 0 :: .int 0 :: .int 0 :: .ref ((v 15)) :: .ref ((v 16)) :: .int 0 :: .int (-1) :: .int 0 :: .int 0 :: .int 0 :: .int 0 :: .ref ((v 17)) :: .ref ((v 18)) :: .ref ((v 19)) :: .int 0 :: .ref ((v 20)) :: .ref ((v 21)) :: .int 0 :: .ref ((v 22)) :: .int (-1) :: .int 0 :: .ref ((v 23)) :: .int (-1) :: .int (-1) :: .int 0 :: .ref ((v 24)) :: .ref ((v 25)) :: .int 0 :: []))), (((v 0)), .inl (cy 2, 25710, .inr (.inl (fun _ => 0)))), (((v 2)), .inl (cy 1, 4, .inl (upd (upd (upd (upd (fun _ => 0) 0 (-1)) 1 (-1)) 2 (-1)) 3 (-1))))]) s H locs := h
  obtain rfl : r2 = (-1) := hp1
  refine lv_aload_n F.1 F.2.1 dL_law_1137 rfl (lv_at hl 1 rfl) ?_
  refine lv_aload_n F.1 F.2.1 dL_law_1138 rfl (lv_at hl 3 rfl) ?_
  refine lv_iload_n F.1 F.2.1 dL_law_1139 rfl (lv_at hl 0 rfl) ?_
  refine lv_iconst (v := 1) F.1 F.2.1 dL_law_1140 (by decide) ?_
  refine lv_iadd F.1 F.2.1 dL_law_1141 ?_
  refine x_topi (y := 1) (by decide +kernel) ?_
  refine va_sld F.1 F.2.1 hX hbl hbA h.2.2.2.1 (x_in (by decide +kernel)) dL_law_1142 ?_
  refine x_topi (y := (xs 1)) rfl ?_
  refine lv_aload_n F.1 F.2.1 dL_law_1143 rfl (lv_at hl 3 rfl) ?_
  refine lv_iload_n F.1 F.2.1 dL_law_1144 rfl (lv_at hl 0 rfl) ?_
  refine lv_iconst (v := 2) F.1 F.2.1 dL_law_1145 (by decide) ?_
  refine lv_iadd F.1 F.2.1 dL_law_1146 ?_
  refine x_topi (y := 2) (by decide +kernel) ?_
  refine va_sld F.1 F.2.1 hX hbl hbA h.2.2.2.1 (x_in (by decide +kernel)) dL_law_1147 ?_
  refine x_topi (y := (xs 2)) rfl ?_
  refine lv_aload_n F.1 F.2.1 dL_law_1148 rfl (lv_at hl 3 rfl) ?_
  refine lv_iload_n F.1 F.2.1 dL_law_1149 rfl (lv_at hl 0 rfl) ?_
  refine lv_iconst (v := 3) F.1 F.2.1 dL_law_1150 (by decide) ?_
  refine lv_iadd F.1 F.2.1 dL_law_1151 ?_
  refine x_topi (y := 3) (by decide +kernel) ?_
  refine va_sld F.1 F.2.1 hX hbl hbA h.2.2.2.1 (x_in (by decide +kernel)) dL_law_1152 ?_
  refine x_topi (y := (xs 3)) rfl ?_
  refine lv_aload_n F.1 F.2.1 dL_law_1153 rfl (lv_at hl 3 rfl) ?_
  refine lv_iload_n F.1 F.2.1 dL_law_1154 rfl (lv_at hl 0 rfl) ?_
  refine lv_iconst (v := 4) F.1 F.2.1 dL_law_1155 (by decide) ?_
  refine lv_iadd F.1 F.2.1 dL_law_1156 ?_
  refine x_topi (y := 4) (by decide +kernel) ?_
  refine va_sld F.1 F.2.1 hX hbl hbA h.2.2.2.1 (x_in (by decide +kernel)) dL_law_1157 ?_
  refine x_topi (y := (xs 4)) rfl ?_
  refine x_Vi (wr := []) F h yk_X12_lead mw_1227 mw_1228 mw_1229 (c_m_lead l D cy r v ((xs 1)) ((xs 2)) ((xs 3)) ((xs 4))) [0, 1, 2] [] 0 rfl rfl rfl rfl (by decide) rfl rfl hl.1 rfl (Nat.le_of_ble_eq_true rfl) ⟨Nat.le_of_ble_eq_true rfl, Nat.le_of_ble_eq_true rfl⟩ ⟨Nat.le_of_ble_eq_true rfl, Nat.le_of_ble_eq_true rfl⟩ dL_law_1158 (fun r5 u6 H locs hp4 h => ?_)
  have h : xS D cy A s.heap ([]) s H locs := h
  obtain rfl : r5 = (-1) := hp4
  refine lv_icmp_eq (tgt := 1763) F.1 F.2.1 dL_law_1161 (by decide) (fun _ => ?_) (fun hc => absurd (by decide) hc)
  exact law_end F hr hlocks hX hbl hAs h (lv_sub hl [0, 3] rfl)
set_option maxHeartbeats 4000000 in
set_option maxRecDepth 100000 in
theorem law_c26 {p : Program} {l : Launch} {e : Env} {s : State} {m : MethodId} {below : List Frame} {meth : Method} {c : Code} {b : Nat} {xs : Nat → Int32} {D : va_G} {cy : Nat → ClassId} {A : Nat → Prop} {H : Heap} {locs : List Loc} {ls : Array Slot} {q r : Nat} {u v : Nat → Nat} (F : CallFix p m c cL_law 4 s #[Value.ref b] wsL_law RL) (hr : meth.sig.returnType = ret) (hlocks : meth.locks = false) (hX : va_X b 6 xs s s.heap) (hbl : b < s.heap.size) (hAs : ∀ q, A q → s.heap.size ≤ q) (h : xS D cy A s.heap (askW cy q u ++ modW cy r v) s H locs) (hl : lv_has ls 4 [(3, .int 0), (2, .ref r), (1, .ref q), (0, .ref b)]) : W p l e room_1 s m #[Value.ref b] below meth c H locs 857 99087 (lw_Z below #[Value.ref b] s) (F0 m 1166 ls []) := by
  have hbA : ¬ A b := fun ha => absurd (hAs b ha) (Nat.not_le.mpr hbl)
  have h : xS D cy A s.heap ([(q, .inr (11, [.ref ((u 0)), .ref ((u 1)), .ref ((u 2)), .ref ((u 3)), .ref ((u 4)), .ref ((u 5)), .ref ((u 6)), .ref ((u 7)), .ref ((u 8)), .ref ((u 9)), .int 0, .int 0, .int (-1), .int 0, .int 0, .long 0, .long 1])), (((u 6)), .inr (7, [.ref ((u 25)), .ref ((u 26)), .ref ((u 27)), .ref ((u 28)), .int 0, .int (-1), .int (-1), .int 0, .int (-1), .int (-1), .int (-1), .ref ((u 29)), .ref ((u 30)), .ref ((u 31)), .ref ((u 32)), .ref ((u 33)), .null])), (r, .inr (12, (.ref ((v 0)) :: .int 0 :: .long 0 :: .long 1 :: .ref ((v 1)) :: .ref ((v 2)) :: .ref ((v 3)) :: .ref ((v 4)) :: .ref ((v 5)) :: .int 0 :: .int 0 :: .int 0 :: .int 0 :: .int 0 :: .int 0 :: .int (-1) :: .int (-1) :: .int 0 :: .ref ((v 6)) :: .int 0 :: .int 0 :: .ref ((v 7)) :: .ref ((v 8)) :: .ref ((v 9)) :: .ref ((v 10)) :: .ref ((v 11)) :: .ref ((v 12)) :: .ref ((v 13)) :: .int 0 :: .int 0 :: .int (-1) :: .int 0 :: .int (-1) :: .int 0 :: .ref ((v 14)) :: .int 0 :: .int 0 :: .int 0 :: .int 0 :: .int 0 :: .ref ((v 15)) :: .ref ((v 16)) :: .int 0 :: .int (-1) :: .int 0 :: .int 0 :: .int 0 :: .int 0 :: .ref ((v 17)) :: .ref ((v 18)) :: .ref ((v 19)) :: .int 0 :: .ref ((v 20)) :: .ref ((v 21)) :: .int 0 :: .ref ((v 22)) :: .int (-1) :: .int 0 :: .ref ((v 23)) :: .int (-1) :: .int (-1) :: .int 0 :: .ref ((v 24)) :: .ref ((v 25)) :: .int 0 :: [])))]) s H locs := h.sub [0, 13, 146] (by decide +kernel) rfl
  refine lv_aload_n F.1 F.2.1 dL_law_1166 rfl (lv_at hl 2 rfl) ?_
  refine lv_aload_n F.1 F.2.1 dL_law_1167 rfl (lv_at hl 3 rfl) ?_
  refine lv_iload_n F.1 F.2.1 dL_law_1168 rfl (lv_at hl 0 rfl) ?_
  refine lv_iconst (v := 1) F.1 F.2.1 dL_law_1169 (by decide) ?_
  refine lv_iadd F.1 F.2.1 dL_law_1170 ?_
  refine x_topi (y := 1) (by decide +kernel) ?_
  refine va_sld F.1 F.2.1 hX hbl hbA h.2.2.2.1 (x_in (by decide +kernel)) dL_law_1171 ?_
  refine x_topi (y := (xs 1)) rfl ?_
  refine x_Vi (wr := [(r, .inr (12, (.ref ((v 0)) :: .int 0 :: .long 0 :: .long 1 :: .ref ((v 1)) :: .ref ((v 2)) :: .ref ((v 3)) :: .ref ((v 4)) :: .ref ((v 5)) :: .int 0 :: .int 0 :: .int 0 :: .int 0 :: .int 0 :: .int 0 :: .int (-1) :: .int (-1) :: .int 0 :: .ref ((v 6)) :: .int 0 :: .int 0 :: .ref ((v 7)) :: .ref ((v 8)) :: .ref ((v 9)) :: .ref ((v 10)) :: .ref ((v 11)) :: .ref ((v 12)) :: .ref ((v 13)) :: .int 0 :: .int 0 :: .int (-1) :: .int 0 :: .int (-1) :: .int 0 :: .ref ((v 14)) :: .int 0 :: .int 0 :: .int 0 :: .int 0 :: .int 0 :: .ref ((v 15)) :: .ref ((v 16)) :: .int 0 :: .int (-1) :: .int 0 :: .int 0 :: .int 0 :: .int 0 :: .ref ((v 17)) :: .ref ((v 18)) :: .ref ((v 19)) :: .int 0 :: .ref ((v 20)) :: .ref ((v 21)) :: .int 0 :: .ref ((v 22)) :: .int (-1) :: .int 0 :: .ref ((v 23)) :: .int (-1) :: .int (-1) :: .int 0 :: .ref ((v 24)) :: .ref ((v 25)) :: .int 0 :: [])))]) F h yk_X11_led mw_1236 mw_1237 mw_1238 (c_led l D cy q u ((xs 1))) [0, 1] [2] 0 rfl rfl rfl rfl (by decide) rfl rfl hl.1 rfl (Nat.le_of_ble_eq_true rfl) ⟨Nat.le_of_ble_eq_true rfl, Nat.le_of_ble_eq_true rfl⟩ ⟨Nat.le_of_ble_eq_true rfl, Nat.le_of_ble_eq_true rfl⟩ dL_law_1172 (fun r2 u3 H locs hp1 h => ?_)
  have h : xS D cy A s.heap ([(r, .inr (12, (.ref ((v 0)) :: .int 0 :: .long 0 :: .long 1 :: .ref ((v 1)) :: .ref ((v 2)) :: .ref ((v 3)) :: .ref ((v 4)) :: .ref ((v 5)) :: .int 0 :: .int 0 :: .int 0 :: .int 0 :: .int 0 :: .int 0 :: .int (-1) :: .int (-1) :: .int 0 :: .ref ((v 6)) :: .int 0 :: .int 0 :: .ref ((v 7)) :: .ref ((v 8)) :: .ref ((v 9)) :: .ref ((v 10)) :: .ref ((v 11)) :: .ref ((v 12)) :: .ref ((v 13)) :: .int 0 :: .int 0 :: .int (-1) :: .int 0 :: .int (-1) :: .int 0 :: .ref ((v 14)) :: .int 0 :: .int 0 :: .int 0 :: .int 0 :: .int 0 :: .ref ((v 15)) :: .ref ((v 16)) :: .int 0 :: .int (-1) :: .int 0 :: .int 0 :: .int 0 :: .int 0 :: .ref ((v 17)) :: .ref ((v 18)) :: .ref ((v 19)) :: .int 0 :: .ref ((v 20)) :: .ref ((v 21)) :: .int 0 :: .ref ((v 22)) :: .int (-1) :: .int 0 :: .ref ((v 23)) :: .int (-1) :: .int (-1) :: .int 0 :: .ref ((v 24)) :: .ref ((v 25)) :: .int 0 :: [])))]) s H locs := h
  obtain rfl : r2 = (-1) := hp1
  refine lv_aload_n F.1 F.2.1 dL_law_1175 rfl (lv_at hl 1 rfl) ?_
  refine lv_aload_n F.1 F.2.1 dL_law_1176 rfl (lv_at hl 3 rfl) ?_
  refine lv_iload_n F.1 F.2.1 dL_law_1177 rfl (lv_at hl 0 rfl) ?_
  refine lv_iconst (v := 1) F.1 F.2.1 dL_law_1178 (by decide) ?_
  refine lv_iadd F.1 F.2.1 dL_law_1179 ?_
  refine x_topi (y := 1) (by decide +kernel) ?_
  refine va_sld F.1 F.2.1 hX hbl hbA h.2.2.2.1 (x_in (by decide +kernel)) dL_law_1180 ?_
  refine x_topi (y := (xs 1)) rfl ?_
  refine x_Vi (wr := []) F h yk_X12_led mw_1240 mw_1241 mw_1242 (c_m_led l D cy r v ((xs 1))) [0] [] 0 rfl rfl rfl rfl (by decide) rfl rfl hl.1 rfl (Nat.le_of_ble_eq_true rfl) ⟨Nat.le_of_ble_eq_true rfl, Nat.le_of_ble_eq_true rfl⟩ ⟨Nat.le_of_ble_eq_true rfl, Nat.le_of_ble_eq_true rfl⟩ dL_law_1181 (fun r5 u6 H locs hp4 h => ?_)
  have h : xS D cy A s.heap ([]) s H locs := h
  obtain rfl : r5 = (-1) := hp4
  refine lv_icmp_eq (tgt := 1763) F.1 F.2.1 dL_law_1184 (by decide) (fun _ => ?_) (fun hc => absurd (by decide) hc)
  exact law_end F hr hlocks hX hbl hAs h (lv_sub hl [0, 3] rfl)
set_option maxHeartbeats 4000000 in
set_option maxRecDepth 100000 in
theorem law_c27 {p : Program} {l : Launch} {e : Env} {s : State} {m : MethodId} {below : List Frame} {meth : Method} {c : Code} {b : Nat} {xs : Nat → Int32} {D : va_G} {cy : Nat → ClassId} {A : Nat → Prop} {H : Heap} {locs : List Loc} {ls : Array Slot} {q r : Nat} {u v : Nat → Nat} (F : CallFix p m c cL_law 4 s #[Value.ref b] wsL_law RL) (hr : meth.sig.returnType = ret) (hlocks : meth.locks = false) (hX : va_X b 6 xs s s.heap) (hbl : b < s.heap.size) (hAs : ∀ q, A q → s.heap.size ≤ q) (h : xS D cy A s.heap (askW cy q u ++ modW cy r v) s H locs) (hl : lv_has ls 4 [(3, .int 0), (2, .ref r), (1, .ref q), (0, .ref b)]) : W p l e room_1 s m #[Value.ref b] below meth c H locs 857 99087 (lw_Z below #[Value.ref b] s) (F0 m 1189 ls []) := by
  have hbA : ¬ A b := fun ha => absurd (hAs b ha) (Nat.not_le.mpr hbl)
  have h : xS D cy A s.heap ([(q, .inr (11, [.ref ((u 0)), .ref ((u 1)), .ref ((u 2)), .ref ((u 3)), .ref ((u 4)), .ref ((u 5)), .ref ((u 6)), .ref ((u 7)), .ref ((u 8)), .ref ((u 9)), .int 0, .int 0, .int (-1), .int 0, .int 0, .long 0, .long 1])), (((u 3)), .inr (0, [.ref ((u 57)), .ref ((u 58)), .ref ((u 59)), .ref ((u 60)), .ref ((u 61)), .int 0, .int 0])), (r, .inr (12, (.ref ((v 0)) :: .int 0 :: .long 0 :: .long 1 :: .ref ((v 1)) :: .ref ((v 2)) :: .ref ((v 3)) :: .ref ((v 4)) :: .ref ((v 5)) :: .int 0 :: .int 0 :: .int 0 :: .int 0 :: .int 0 :: .int 0 :: .int (-1) :: .int (-1) :: .int 0 :: .ref ((v 6)) :: .int 0 :: .int 0 :: .ref ((v 7)) :: .ref ((v 8)) :: .ref ((v 9)) :: .ref ((v 10)) :: .ref ((v 11)) :: .ref ((v 12)) :: .ref ((v 13)) :: .int 0 :: .int 0 :: .int (-1) :: .int 0 :: .int (-1) :: .int 0 :: .ref ((v 14)) :: .int 0 :: .int 0 :: .int 0 :: .int 0 :: .int 0 :: .ref ((v 15)) :: .ref ((v 16)) :: .int 0 :: .int (-1) :: .int 0 :: .int 0 :: .int 0 :: .int 0 :: .ref ((v 17)) :: .ref ((v 18)) :: .ref ((v 19)) :: .int 0 :: .ref ((v 20)) :: .ref ((v 21)) :: .int 0 :: .ref ((v 22)) :: .int (-1) :: .int 0 :: .ref ((v 23)) :: .int (-1) :: .int (-1) :: .int 0 :: .ref ((v 24)) :: .ref ((v 25)) :: .int 0 :: []))), (((v 0)), .inl (cy 2, 25710, .inr (.inl (fun _ => 0))))]) s H locs := h.sub [0, 34, 146, 147] (by decide +kernel) rfl
  refine lv_aload_n F.1 F.2.1 dL_law_1189 rfl (lv_at hl 2 rfl) ?_
  refine lv_aload_n F.1 F.2.1 dL_law_1190 rfl (lv_at hl 3 rfl) ?_
  refine lv_iload_n F.1 F.2.1 dL_law_1191 rfl (lv_at hl 0 rfl) ?_
  refine lv_iconst (v := 1) F.1 F.2.1 dL_law_1192 (by decide) ?_
  refine lv_iadd F.1 F.2.1 dL_law_1193 ?_
  refine x_topi (y := 1) (by decide +kernel) ?_
  refine va_sld F.1 F.2.1 hX hbl hbA h.2.2.2.1 (x_in (by decide +kernel)) dL_law_1194 ?_
  refine x_topi (y := (xs 1)) rfl ?_
  refine lv_aload_n F.1 F.2.1 dL_law_1195 rfl (lv_at hl 3 rfl) ?_
  refine lv_iload_n F.1 F.2.1 dL_law_1196 rfl (lv_at hl 0 rfl) ?_
  refine lv_iconst (v := 2) F.1 F.2.1 dL_law_1197 (by decide) ?_
  refine lv_iadd F.1 F.2.1 dL_law_1198 ?_
  refine x_topi (y := 2) (by decide +kernel) ?_
  refine va_sld F.1 F.2.1 hX hbl hbA h.2.2.2.1 (x_in (by decide +kernel)) dL_law_1199 ?_
  refine x_topi (y := (xs 2)) rfl ?_
  refine lv_aload_n F.1 F.2.1 dL_law_1200 rfl (lv_at hl 3 rfl) ?_
  refine lv_iload_n F.1 F.2.1 dL_law_1201 rfl (lv_at hl 0 rfl) ?_
  refine lv_iconst (v := 3) F.1 F.2.1 dL_law_1202 (by decide) ?_
  refine lv_iadd F.1 F.2.1 dL_law_1203 ?_
  refine x_topi (y := 3) (by decide +kernel) ?_
  refine va_sld F.1 F.2.1 hX hbl hbA h.2.2.2.1 (x_in (by decide +kernel)) dL_law_1204 ?_
  refine x_topi (y := (xs 3)) rfl ?_
  refine lv_aload_n F.1 F.2.1 dL_law_1205 rfl (lv_at hl 3 rfl) ?_
  refine lv_iload_n F.1 F.2.1 dL_law_1206 rfl (lv_at hl 0 rfl) ?_
  refine lv_iconst (v := 4) F.1 F.2.1 dL_law_1207 (by decide) ?_
  refine lv_iadd F.1 F.2.1 dL_law_1208 ?_
  refine x_topi (y := 4) (by decide +kernel) ?_
  refine va_sld F.1 F.2.1 hX hbl hbA h.2.2.2.1 (x_in (by decide +kernel)) dL_law_1209 ?_
  refine x_topi (y := (xs 4)) rfl ?_
  refine x_Vi (wr := [(r, .inr (12, (.ref ((v 0)) :: .int 0 :: .long 0 :: .long 1 :: .ref ((v 1)) :: .ref ((v 2)) :: .ref ((v 3)) :: .ref ((v 4)) :: .ref ((v 5)) :: .int 0 :: .int 0 :: .int 0 :: .int 0 :: .int 0 :: .int 0 :: .int (-1) :: .int (-1) :: .int 0 :: .ref ((v 6)) :: .int 0 :: .int 0 :: .ref ((v 7)) :: .ref ((v 8)) :: .ref ((v 9)) :: .ref ((v 10)) :: .ref ((v 11)) :: .ref ((v 12)) :: .ref ((v 13)) :: .int 0 :: .int 0 :: .int (-1) :: .int 0 :: .int (-1) :: .int 0 :: .ref ((v 14)) :: .int 0 :: .int 0 :: .int 0 :: .int 0 :: .int 0 :: .ref ((v 15)) :: .ref ((v 16)) :: .int 0 :: .int (-1) :: .int 0 :: .int 0 :: .int 0 :: .int 0 :: .ref ((v 17)) :: .ref ((v 18)) :: .ref ((v 19)) :: .int 0 :: .ref ((v 20)) :: .ref ((v 21)) :: .int 0 :: .ref ((v 22)) :: .int (-1) :: .int 0 :: .ref ((v 23)) :: .int (-1) :: .int (-1) :: .int 0 :: .ref ((v 24)) :: .ref ((v 25)) :: .int 0 :: []))), (((v 0)), .inl (cy 2, 25710, .inr (.inl (fun _ => 0))))]) F h yk_X11_face mw_1244 mw_1245 mw_1246 (c_face l D cy q u ((xs 1)) ((xs 2)) ((xs 3)) ((xs 4))) [0, 1] [2, 3] 0 rfl rfl rfl rfl (by decide) rfl rfl hl.1 rfl (Nat.le_of_ble_eq_true rfl) ⟨Nat.le_of_ble_eq_true rfl, Nat.le_of_ble_eq_true rfl⟩ ⟨Nat.le_of_ble_eq_true rfl, Nat.le_of_ble_eq_true rfl⟩ dL_law_1210 (fun r2 u3 H locs hp1 h => ?_)
  have h : xS D cy A s.heap ([(r, .inr (12, (.ref ((v 0)) :: .int 0 :: .long 0 :: .long 1 :: .ref ((v 1)) :: .ref ((v 2)) :: .ref ((v 3)) :: .ref ((v 4)) :: .ref ((v 5)) :: .int 0 :: .int 0 :: .int 0 :: .int 0 :: .int 0 :: .int 0 :: .int (-1) :: .int (-1) :: .int 0 :: .ref ((v 6)) :: .int 0 :: .int 0 :: .ref ((v 7)) :: .ref ((v 8)) :: .ref ((v 9)) :: .ref ((v 10)) :: .ref ((v 11)) :: .ref ((v 12)) :: .ref ((v 13)) :: .int 0 :: .int 0 :: .int (-1) :: .int 0 :: .int (-1) :: .int 0 :: .ref ((v 14)) :: .int 0 :: .int 0 :: .int 0 :: .int 0 :: .int 0 :: .ref ((v 15)) :: .ref ((v 16)) :: .int 0 :: .int (-1) :: .int 0 :: .int 0 :: .int 0 :: .int 0 :: .ref ((v 17)) :: .ref ((v 18)) :: .ref ((v 19)) :: .int 0 :: .ref ((v 20)) :: .ref ((v 21)) :: .int 0 :: .ref ((v 22)) :: .int (-1) :: .int 0 :: .ref ((v 23)) :: .int (-1) :: .int (-1) :: .int 0 :: .ref ((v 24)) :: .ref ((v 25)) :: .int 0 :: []))), (((v 0)), .inl (cy 2, 25710, .inr (.inl (fun _ => 0))))]) s H locs := h
  obtain rfl : r2 = (-1) := hp1
  refine lv_aload_n F.1 F.2.1 dL_law_1213 rfl (lv_at hl 1 rfl) ?_
  refine lv_aload_n F.1 F.2.1 dL_law_1214 rfl (lv_at hl 3 rfl) ?_
  refine lv_iload_n F.1 F.2.1 dL_law_1215 rfl (lv_at hl 0 rfl) ?_
  refine lv_iconst (v := 1) F.1 F.2.1 dL_law_1216 (by decide) ?_
  refine lv_iadd F.1 F.2.1 dL_law_1217 ?_
  refine x_topi (y := 1) (by decide +kernel) ?_
  refine va_sld F.1 F.2.1 hX hbl hbA h.2.2.2.1 (x_in (by decide +kernel)) dL_law_1218 ?_
  refine x_topi (y := (xs 1)) rfl ?_
  refine lv_aload_n F.1 F.2.1 dL_law_1219 rfl (lv_at hl 3 rfl) ?_
  refine lv_iload_n F.1 F.2.1 dL_law_1220 rfl (lv_at hl 0 rfl) ?_
  refine lv_iconst (v := 2) F.1 F.2.1 dL_law_1221 (by decide) ?_
  refine lv_iadd F.1 F.2.1 dL_law_1222 ?_
  refine x_topi (y := 2) (by decide +kernel) ?_
  refine va_sld F.1 F.2.1 hX hbl hbA h.2.2.2.1 (x_in (by decide +kernel)) dL_law_1223 ?_
  refine x_topi (y := (xs 2)) rfl ?_
  refine lv_aload_n F.1 F.2.1 dL_law_1224 rfl (lv_at hl 3 rfl) ?_
  refine lv_iload_n F.1 F.2.1 dL_law_1225 rfl (lv_at hl 0 rfl) ?_
  refine lv_iconst (v := 3) F.1 F.2.1 dL_law_1226 (by decide) ?_
  refine lv_iadd F.1 F.2.1 dL_law_1227 ?_
  refine x_topi (y := 3) (by decide +kernel) ?_
  refine va_sld F.1 F.2.1 hX hbl hbA h.2.2.2.1 (x_in (by decide +kernel)) dL_law_1228 ?_
  refine x_topi (y := (xs 3)) rfl ?_
  refine lv_aload_n F.1 F.2.1 dL_law_1229 rfl (lv_at hl 3 rfl) ?_
  refine lv_iload_n F.1 F.2.1 dL_law_1230 rfl (lv_at hl 0 rfl) ?_
  refine lv_iconst (v := 4) F.1 F.2.1 dL_law_1231 (by decide) ?_
  refine lv_iadd F.1 F.2.1 dL_law_1232 ?_
  refine x_topi (y := 4) (by decide +kernel) ?_
  refine va_sld F.1 F.2.1 hX hbl hbA h.2.2.2.1 (x_in (by decide +kernel)) dL_law_1233 ?_
  refine x_topi (y := (xs 4)) rfl ?_
  refine x_Vi (wr := []) F h yk_X12_face mw_1302 mw_1303 mw_1304 (c_m_face l D cy r v ((xs 1)) ((xs 2)) ((xs 3)) ((xs 4))) [0, 1] [] 0 rfl rfl rfl rfl (by decide) rfl rfl hl.1 rfl (Nat.le_of_ble_eq_true rfl) ⟨Nat.le_of_ble_eq_true rfl, Nat.le_of_ble_eq_true rfl⟩ ⟨Nat.le_of_ble_eq_true rfl, Nat.le_of_ble_eq_true rfl⟩ dL_law_1234 (fun r5 u6 H locs hp4 h => ?_)
  have h : xS D cy A s.heap ([]) s H locs := h
  obtain rfl : r5 = (-1) := hp4
  refine lv_icmp_eq (tgt := 1763) F.1 F.2.1 dL_law_1237 (by decide) (fun _ => ?_) (fun hc => absurd (by decide) hc)
  exact law_end F hr hlocks hX hbl hAs h (lv_sub hl [0, 3] rfl)
set_option maxHeartbeats 4000000 in
set_option maxRecDepth 100000 in
theorem law_c28 {p : Program} {l : Launch} {e : Env} {s : State} {m : MethodId} {below : List Frame} {meth : Method} {c : Code} {b : Nat} {xs : Nat → Int32} {D : va_G} {cy : Nat → ClassId} {A : Nat → Prop} {H : Heap} {locs : List Loc} {ls : Array Slot} {q r : Nat} {u v : Nat → Nat} (F : CallFix p m c cL_law 4 s #[Value.ref b] wsL_law RL) (hr : meth.sig.returnType = ret) (hlocks : meth.locks = false) (hX : va_X b 6 xs s s.heap) (hbl : b < s.heap.size) (hAs : ∀ q, A q → s.heap.size ≤ q) (h : xS D cy A s.heap (askW cy q u ++ modW cy r v) s H locs) (hl : lv_has ls 4 [(3, .int 0), (2, .ref r), (1, .ref q), (0, .ref b)]) : W p l e room_1 s m #[Value.ref b] below meth c H locs 857 99087 (lw_Z below #[Value.ref b] s) (F0 m 1242 ls []) := by
  have hbA : ¬ A b := fun ha => absurd (hAs b ha) (Nat.not_le.mpr hbl)
  have h : xS D cy A s.heap ([(q, .inr (11, [.ref ((u 0)), .ref ((u 1)), .ref ((u 2)), .ref ((u 3)), .ref ((u 4)), .ref ((u 5)), .ref ((u 6)), .ref ((u 7)), .ref ((u 8)), .ref ((u 9)), .int 0, .int 0, .int (-1), .int 0, .int 0, .long 0, .long 1])), (((u 6)), .inr (7, [.ref ((u 25)), .ref ((u 26)), .ref ((u 27)), .ref ((u 28)), .int 0, .int (-1), .int (-1), .int 0, .int (-1), .int (-1), .int (-1), .ref ((u 29)), .ref ((u 30)), .ref ((u 31)), .ref ((u 32)), .ref ((u 33)), .null])), (r, .inr (12, (.ref ((v 0)) :: .int 0 :: .long 0 :: .long 1 :: .ref ((v 1)) :: .ref ((v 2)) :: .ref ((v 3)) :: .ref ((v 4)) :: .ref ((v 5)) :: .int 0 :: .int 0 :: .int 0 :: .int 0 :: .int 0 :: .int 0 :: .int (-1) :: .int (-1) :: .int 0 :: .ref ((v 6)) :: .int 0 :: .int 0 :: .ref ((v 7)) :: .ref ((v 8)) :: .ref ((v 9)) :: .ref ((v 10)) :: .ref ((v 11)) :: .ref ((v 12)) :: .ref ((v 13)) :: .int 0 :: .int 0 :: .int (-1) :: .int 0 :: .int (-1) :: .int 0 :: .ref ((v 14)) :: .int 0 :: .int 0 :: .int 0 :: .int 0 :: .int 0 :: .ref ((v 15)) :: .ref ((v 16)) :: .int 0 :: .int (-1) :: .int 0 :: .int 0 :: .int 0 :: .int 0 :: .ref ((v 17)) :: .ref ((v 18)) :: .ref ((v 19)) :: .int 0 :: .ref ((v 20)) :: .ref ((v 21)) :: .int 0 :: .ref ((v 22)) :: .int (-1) :: .int 0 :: .ref ((v 23)) :: .int (-1) :: .int (-1) :: .int 0 :: .ref ((v 24)) :: .ref ((v 25)) :: .int 0 :: [])))]) s H locs := h.sub [0, 13, 146] (by decide +kernel) rfl
  refine lv_aload_n F.1 F.2.1 dL_law_1242 rfl (lv_at hl 2 rfl) ?_
  refine lv_aload_n F.1 F.2.1 dL_law_1243 rfl (lv_at hl 3 rfl) ?_
  refine lv_iload_n F.1 F.2.1 dL_law_1244 rfl (lv_at hl 0 rfl) ?_
  refine lv_iconst (v := 1) F.1 F.2.1 dL_law_1245 (by decide) ?_
  refine lv_iadd F.1 F.2.1 dL_law_1246 ?_
  refine x_topi (y := 1) (by decide +kernel) ?_
  refine va_sld F.1 F.2.1 hX hbl hbA h.2.2.2.1 (x_in (by decide +kernel)) dL_law_1247 ?_
  refine x_topi (y := (xs 1)) rfl ?_
  refine x_Vi (wr := [(r, .inr (12, (.ref ((v 0)) :: .int 0 :: .long 0 :: .long 1 :: .ref ((v 1)) :: .ref ((v 2)) :: .ref ((v 3)) :: .ref ((v 4)) :: .ref ((v 5)) :: .int 0 :: .int 0 :: .int 0 :: .int 0 :: .int 0 :: .int 0 :: .int (-1) :: .int (-1) :: .int 0 :: .ref ((v 6)) :: .int 0 :: .int 0 :: .ref ((v 7)) :: .ref ((v 8)) :: .ref ((v 9)) :: .ref ((v 10)) :: .ref ((v 11)) :: .ref ((v 12)) :: .ref ((v 13)) :: .int 0 :: .int 0 :: .int (-1) :: .int 0 :: .int (-1) :: .int 0 :: .ref ((v 14)) :: .int 0 :: .int 0 :: .int 0 :: .int 0 :: .int 0 :: .ref ((v 15)) :: .ref ((v 16)) :: .int 0 :: .int (-1) :: .int 0 :: .int 0 :: .int 0 :: .int 0 :: .ref ((v 17)) :: .ref ((v 18)) :: .ref ((v 19)) :: .int 0 :: .ref ((v 20)) :: .ref ((v 21)) :: .int 0 :: .ref ((v 22)) :: .int (-1) :: .int 0 :: .ref ((v 23)) :: .int (-1) :: .int (-1) :: .int 0 :: .ref ((v 24)) :: .ref ((v 25)) :: .int 0 :: [])))]) F h yk_X11_ring mw_1315 mw_1316 mw_1317 (c_ring l D cy q u ((xs 1))) [0, 1] [2] 0 rfl rfl rfl rfl (by decide) rfl rfl hl.1 rfl (Nat.le_of_ble_eq_true rfl) ⟨Nat.le_of_ble_eq_true rfl, Nat.le_of_ble_eq_true rfl⟩ ⟨Nat.le_of_ble_eq_true rfl, Nat.le_of_ble_eq_true rfl⟩ dL_law_1248 (fun r2 u3 H locs hp1 h => ?_)
  have h : xS D cy A s.heap ([(r, .inr (12, (.ref ((v 0)) :: .int 0 :: .long 0 :: .long 1 :: .ref ((v 1)) :: .ref ((v 2)) :: .ref ((v 3)) :: .ref ((v 4)) :: .ref ((v 5)) :: .int 0 :: .int 0 :: .int 0 :: .int 0 :: .int 0 :: .int 0 :: .int (-1) :: .int (-1) :: .int 0 :: .ref ((v 6)) :: .int 0 :: .int 0 :: .ref ((v 7)) :: .ref ((v 8)) :: .ref ((v 9)) :: .ref ((v 10)) :: .ref ((v 11)) :: .ref ((v 12)) :: .ref ((v 13)) :: .int 0 :: .int 0 :: .int (-1) :: .int 0 :: .int (-1) :: .int 0 :: .ref ((v 14)) :: .int 0 :: .int 0 :: .int 0 :: .int 0 :: .int 0 :: .ref ((v 15)) :: .ref ((v 16)) :: .int 0 :: .int (-1) :: .int 0 :: .int 0 :: .int 0 :: .int 0 :: .ref ((v 17)) :: .ref ((v 18)) :: .ref ((v 19)) :: .int 0 :: .ref ((v 20)) :: .ref ((v 21)) :: .int 0 :: .ref ((v 22)) :: .int (-1) :: .int 0 :: .ref ((v 23)) :: .int (-1) :: .int (-1) :: .int 0 :: .ref ((v 24)) :: .ref ((v 25)) :: .int 0 :: [])))]) s H locs := h
  obtain rfl : r2 = (-1) := hp1
  refine lv_aload_n F.1 F.2.1 dL_law_1251 rfl (lv_at hl 1 rfl) ?_
  refine lv_aload_n F.1 F.2.1 dL_law_1252 rfl (lv_at hl 3 rfl) ?_
  refine lv_iload_n F.1 F.2.1 dL_law_1253 rfl (lv_at hl 0 rfl) ?_
  refine lv_iconst (v := 1) F.1 F.2.1 dL_law_1254 (by decide) ?_
  refine lv_iadd F.1 F.2.1 dL_law_1255 ?_
  refine x_topi (y := 1) (by decide +kernel) ?_
  refine va_sld F.1 F.2.1 hX hbl hbA h.2.2.2.1 (x_in (by decide +kernel)) dL_law_1256 ?_
  refine x_topi (y := (xs 1)) rfl ?_
  refine x_Vi (wr := []) F h yk_X12_ring mw_1321 mw_1322 mw_1323 (c_m_ring l D cy r v ((xs 1))) [0] [] 0 rfl rfl rfl rfl (by decide) rfl rfl hl.1 rfl (Nat.le_of_ble_eq_true rfl) ⟨Nat.le_of_ble_eq_true rfl, Nat.le_of_ble_eq_true rfl⟩ ⟨Nat.le_of_ble_eq_true rfl, Nat.le_of_ble_eq_true rfl⟩ dL_law_1257 (fun r5 u6 H locs hp4 h => ?_)
  have h : xS D cy A s.heap ([]) s H locs := h
  obtain rfl : r5 = (-1) := hp4
  refine lv_icmp_eq (tgt := 1763) F.1 F.2.1 dL_law_1260 (by decide) (fun _ => ?_) (fun hc => absurd (by decide) hc)
  exact law_end F hr hlocks hX hbl hAs h (lv_sub hl [0, 3] rfl)
set_option maxHeartbeats 4000000 in
set_option maxRecDepth 100000 in
theorem law_c29 {p : Program} {l : Launch} {e : Env} {s : State} {m : MethodId} {below : List Frame} {meth : Method} {c : Code} {b : Nat} {xs : Nat → Int32} {D : va_G} {cy : Nat → ClassId} {A : Nat → Prop} {H : Heap} {locs : List Loc} {ls : Array Slot} {q r : Nat} {u v : Nat → Nat} (F : CallFix p m c cL_law 4 s #[Value.ref b] wsL_law RL) (hr : meth.sig.returnType = ret) (hlocks : meth.locks = false) (hX : va_X b 6 xs s s.heap) (hbl : b < s.heap.size) (hAs : ∀ q, A q → s.heap.size ≤ q) (h : xS D cy A s.heap (askW cy q u ++ modW cy r v) s H locs) (hl : lv_has ls 4 [(3, .int 0), (2, .ref r), (1, .ref q), (0, .ref b)]) : W p l e room_1 s m #[Value.ref b] below meth c H locs 857 99087 (lw_Z below #[Value.ref b] s) (F0 m 1265 ls []) := by
  have hbA : ¬ A b := fun ha => absurd (hAs b ha) (Nat.not_le.mpr hbl)
  have h : xS D cy A s.heap ([(q, .inr (11, [.ref ((u 0)), .ref ((u 1)), .ref ((u 2)), .ref ((u 3)), .ref ((u 4)), .ref ((u 5)), .ref ((u 6)), .ref ((u 7)), .ref ((u 8)), .ref ((u 9)), .int 0, .int 0, .int (-1), .int 0, .int 0, .long 0, .long 1])), (((u 3)), .inr (0, [.ref ((u 57)), .ref ((u 58)), .ref ((u 59)), .ref ((u 60)), .ref ((u 61)), .int 0, .int 0])), (((u 60)), .inl (cy 2, 12, .inr (.inl (fun _ => 0)))), (((u 61)), .inl (cy 2, 12, .inr (.inl (fun _ => 0)))), (r, .inr (12, (.ref ((v 0)) :: .int 0 :: .long 0 :: .long 1 :: .ref ((v 1)) :: .ref ((v 2)) :: .ref ((v 3)) :: .ref ((v 4)) :: .ref ((v 5)) :: .int 0 :: .int 0 :: .int 0 :: .int 0 :: .int 0 :: .int 0 :: .int (-1) :: .int (-1) :: .int 0 :: .ref ((v 6)) :: .int 0 :: .int 0 :: .ref ((v 7)) :: .ref ((v 8)) :: .ref ((v 9)) :: .ref ((v 10)) :: .ref ((v 11)) :: .ref ((v 12)) :: .ref ((v 13)) :: .int 0 :: .int 0 :: .int (-1) :: .int 0 :: .int (-1) :: .int 0 :: .ref ((v 14)) :: .int 0 :: .int 0 :: .int 0 :: .int 0 :: .int 0 :: .ref ((v 15)) :: .ref ((v 16)) :: .int 0 :: .int (-1) :: .int 0 :: .int 0 :: .int 0 :: .int 0 :: .ref ((v 17)) :: .ref ((v 18)) :: .ref ((v 19)) :: .int 0 :: .ref ((v 20)) :: .ref ((v 21)) :: .int 0 :: .ref ((v 22)) :: .int (-1) :: .int 0 :: .ref ((v 23)) :: .int (-1) :: .int (-1) :: .int 0 :: .ref ((v 24)) :: .ref ((v 25)) :: .int 0 :: []))), (((v 0)), .inl (cy 2, 25710, .inr (.inl (fun _ => 0))))]) s H locs := h.sub [0, 34, 38, 39, 146, 147] (by decide +kernel) rfl
  refine lv_aload_n F.1 F.2.1 dL_law_1265 rfl (lv_at hl 2 rfl) ?_
  refine lv_aload_n F.1 F.2.1 dL_law_1266 rfl (lv_at hl 3 rfl) ?_
  refine lv_iload_n F.1 F.2.1 dL_law_1267 rfl (lv_at hl 0 rfl) ?_
  refine lv_iconst (v := 1) F.1 F.2.1 dL_law_1268 (by decide) ?_
  refine lv_iadd F.1 F.2.1 dL_law_1269 ?_
  refine x_topi (y := 1) (by decide +kernel) ?_
  refine va_sld F.1 F.2.1 hX hbl hbA h.2.2.2.1 (x_in (by decide +kernel)) dL_law_1270 ?_
  refine x_topi (y := (xs 1)) rfl ?_
  refine lv_i2l (v := (((xs 1)).toInt64)) F.1 F.2.1 dL_law_1271 rfl ?_
  refine lv_bipush (v := 32) F.1 F.2.1 dL_law_1272 (by decide) ?_
  refine lv_lshl (v := ((((xs 1)).toInt64) <<< ((32 : Int32).toInt64 &&& 63))) F.1 F.2.1 dL_law_1274 rfl ?_
  refine lv_aload_n F.1 F.2.1 dL_law_1275 rfl (lv_at hl 3 rfl) ?_
  refine lv_iload_n F.1 F.2.1 dL_law_1276 rfl (lv_at hl 0 rfl) ?_
  refine lv_iconst (v := 2) F.1 F.2.1 dL_law_1277 (by decide) ?_
  refine lv_iadd F.1 F.2.1 dL_law_1278 ?_
  refine x_topi (y := 2) (by decide +kernel) ?_
  refine va_sld F.1 F.2.1 hX hbl hbA h.2.2.2.1 (x_in (by decide +kernel)) dL_law_1279 ?_
  refine x_topi (y := (xs 2)) rfl ?_
  refine lv_i2l (v := (((xs 2)).toInt64)) F.1 F.2.1 dL_law_1280 rfl ?_
  refine lv_ldc2 (v := 4294967295) F.1 F.2.1 F.2.2.2.1 (F.2.2.2.2 _ mw_6) dL_law_1281 ?_
  refine lv_land F.1 F.2.1 dL_law_1284 ?_
  refine lv_lor F.1 F.2.1 dL_law_1285 ?_
  refine lv_aload_n F.1 F.2.1 dL_law_1286 rfl (lv_at hl 3 rfl) ?_
  refine lv_iload_n F.1 F.2.1 dL_law_1287 rfl (lv_at hl 0 rfl) ?_
  refine lv_iconst (v := 3) F.1 F.2.1 dL_law_1288 (by decide) ?_
  refine lv_iadd F.1 F.2.1 dL_law_1289 ?_
  refine x_topi (y := 3) (by decide +kernel) ?_
  refine va_sld F.1 F.2.1 hX hbl hbA h.2.2.2.1 (x_in (by decide +kernel)) dL_law_1290 ?_
  refine x_topi (y := (xs 3)) rfl ?_
  refine lv_i2l (v := (((xs 3)).toInt64)) F.1 F.2.1 dL_law_1291 rfl ?_
  refine lv_bipush (v := 32) F.1 F.2.1 dL_law_1292 (by decide) ?_
  refine lv_lshl (v := ((((xs 3)).toInt64) <<< ((32 : Int32).toInt64 &&& 63))) F.1 F.2.1 dL_law_1294 rfl ?_
  refine lv_aload_n F.1 F.2.1 dL_law_1295 rfl (lv_at hl 3 rfl) ?_
  refine lv_iload_n F.1 F.2.1 dL_law_1296 rfl (lv_at hl 0 rfl) ?_
  refine lv_iconst (v := 4) F.1 F.2.1 dL_law_1297 (by decide) ?_
  refine lv_iadd F.1 F.2.1 dL_law_1298 ?_
  refine x_topi (y := 4) (by decide +kernel) ?_
  refine va_sld F.1 F.2.1 hX hbl hbA h.2.2.2.1 (x_in (by decide +kernel)) dL_law_1299 ?_
  refine x_topi (y := (xs 4)) rfl ?_
  refine lv_i2l (v := (((xs 4)).toInt64)) F.1 F.2.1 dL_law_1300 rfl ?_
  refine lv_ldc2 (v := 4294967295) F.1 F.2.1 F.2.2.2.1 (F.2.2.2.2 _ mw_6) dL_law_1301 ?_
  refine lv_land F.1 F.2.1 dL_law_1304 ?_
  refine lv_lor F.1 F.2.1 dL_law_1305 ?_
  refine x_Vi (wr := [(r, .inr (12, (.ref ((v 0)) :: .int 0 :: .long 0 :: .long 1 :: .ref ((v 1)) :: .ref ((v 2)) :: .ref ((v 3)) :: .ref ((v 4)) :: .ref ((v 5)) :: .int 0 :: .int 0 :: .int 0 :: .int 0 :: .int 0 :: .int 0 :: .int (-1) :: .int (-1) :: .int 0 :: .ref ((v 6)) :: .int 0 :: .int 0 :: .ref ((v 7)) :: .ref ((v 8)) :: .ref ((v 9)) :: .ref ((v 10)) :: .ref ((v 11)) :: .ref ((v 12)) :: .ref ((v 13)) :: .int 0 :: .int 0 :: .int (-1) :: .int 0 :: .int (-1) :: .int 0 :: .ref ((v 14)) :: .int 0 :: .int 0 :: .int 0 :: .int 0 :: .int 0 :: .ref ((v 15)) :: .ref ((v 16)) :: .int 0 :: .int (-1) :: .int 0 :: .int 0 :: .int 0 :: .int 0 :: .ref ((v 17)) :: .ref ((v 18)) :: .ref ((v 19)) :: .int 0 :: .ref ((v 20)) :: .ref ((v 21)) :: .int 0 :: .ref ((v 22)) :: .int (-1) :: .int 0 :: .ref ((v 23)) :: .int (-1) :: .int (-1) :: .int 0 :: .ref ((v 24)) :: .ref ((v 25)) :: .int 0 :: []))), (((v 0)), .inl (cy 2, 25710, .inr (.inl (fun _ => 0))))]) F h yk_X11_broken mw_1325 mw_1326 mw_1327 (c_broken l D cy q u ((((((xs 1)).toInt64) <<< ((32 : Int32).toInt64 &&& 63))) ||| ((((xs 2)).toInt64) &&& 4294967295)) ((((((xs 3)).toInt64) <<< ((32 : Int32).toInt64 &&& 63))) ||| ((((xs 4)).toInt64) &&& 4294967295))) [0, 1, 2, 3] [4, 5] 0 rfl rfl rfl rfl (by decide) rfl rfl hl.1 rfl (Nat.le_of_ble_eq_true rfl) ⟨Nat.le_of_ble_eq_true rfl, Nat.le_of_ble_eq_true rfl⟩ ⟨Nat.le_of_ble_eq_true rfl, Nat.le_of_ble_eq_true rfl⟩ dL_law_1306 (fun r2 u3 H locs hp1 h => ?_)
  have h : xS D cy A s.heap ([(r, .inr (12, (.ref ((v 0)) :: .int 0 :: .long 0 :: .long 1 :: .ref ((v 1)) :: .ref ((v 2)) :: .ref ((v 3)) :: .ref ((v 4)) :: .ref ((v 5)) :: .int 0 :: .int 0 :: .int 0 :: .int 0 :: .int 0 :: .int 0 :: .int (-1) :: .int (-1) :: .int 0 :: .ref ((v 6)) :: .int 0 :: .int 0 :: .ref ((v 7)) :: .ref ((v 8)) :: .ref ((v 9)) :: .ref ((v 10)) :: .ref ((v 11)) :: .ref ((v 12)) :: .ref ((v 13)) :: .int 0 :: .int 0 :: .int (-1) :: .int 0 :: .int (-1) :: .int 0 :: .ref ((v 14)) :: .int 0 :: .int 0 :: .int 0 :: .int 0 :: .int 0 :: .ref ((v 15)) :: .ref ((v 16)) :: .int 0 :: .int (-1) :: .int 0 :: .int 0 :: .int 0 :: .int 0 :: .ref ((v 17)) :: .ref ((v 18)) :: .ref ((v 19)) :: .int 0 :: .ref ((v 20)) :: .ref ((v 21)) :: .int 0 :: .ref ((v 22)) :: .int (-1) :: .int 0 :: .ref ((v 23)) :: .int (-1) :: .int (-1) :: .int 0 :: .ref ((v 24)) :: .ref ((v 25)) :: .int 0 :: []))), (((v 0)), .inl (cy 2, 25710, .inr (.inl (fun _ => 0))))]) s H locs := h
  refine lv_aload_n F.1 F.2.1 dL_law_1309 rfl (lv_at hl 1 rfl) ?_
  refine lv_aload_n F.1 F.2.1 dL_law_1310 rfl (lv_at hl 3 rfl) ?_
  refine lv_iload_n F.1 F.2.1 dL_law_1311 rfl (lv_at hl 0 rfl) ?_
  refine lv_iconst (v := 1) F.1 F.2.1 dL_law_1312 (by decide) ?_
  refine lv_iadd F.1 F.2.1 dL_law_1313 ?_
  refine x_topi (y := 1) (by decide +kernel) ?_
  refine va_sld F.1 F.2.1 hX hbl hbA h.2.2.2.1 (x_in (by decide +kernel)) dL_law_1314 ?_
  refine x_topi (y := (xs 1)) rfl ?_
  refine lv_i2l (v := (((xs 1)).toInt64)) F.1 F.2.1 dL_law_1315 rfl ?_
  refine lv_bipush (v := 32) F.1 F.2.1 dL_law_1316 (by decide) ?_
  refine lv_lshl (v := ((((xs 1)).toInt64) <<< ((32 : Int32).toInt64 &&& 63))) F.1 F.2.1 dL_law_1318 rfl ?_
  refine lv_aload_n F.1 F.2.1 dL_law_1319 rfl (lv_at hl 3 rfl) ?_
  refine lv_iload_n F.1 F.2.1 dL_law_1320 rfl (lv_at hl 0 rfl) ?_
  refine lv_iconst (v := 2) F.1 F.2.1 dL_law_1321 (by decide) ?_
  refine lv_iadd F.1 F.2.1 dL_law_1322 ?_
  refine x_topi (y := 2) (by decide +kernel) ?_
  refine va_sld F.1 F.2.1 hX hbl hbA h.2.2.2.1 (x_in (by decide +kernel)) dL_law_1323 ?_
  refine x_topi (y := (xs 2)) rfl ?_
  refine lv_i2l (v := (((xs 2)).toInt64)) F.1 F.2.1 dL_law_1324 rfl ?_
  refine lv_ldc2 (v := 4294967295) F.1 F.2.1 F.2.2.2.1 (F.2.2.2.2 _ mw_6) dL_law_1325 ?_
  refine lv_land F.1 F.2.1 dL_law_1328 ?_
  refine lv_lor F.1 F.2.1 dL_law_1329 ?_
  refine lv_aload_n F.1 F.2.1 dL_law_1330 rfl (lv_at hl 3 rfl) ?_
  refine lv_iload_n F.1 F.2.1 dL_law_1331 rfl (lv_at hl 0 rfl) ?_
  refine lv_iconst (v := 3) F.1 F.2.1 dL_law_1332 (by decide) ?_
  refine lv_iadd F.1 F.2.1 dL_law_1333 ?_
  refine x_topi (y := 3) (by decide +kernel) ?_
  refine va_sld F.1 F.2.1 hX hbl hbA h.2.2.2.1 (x_in (by decide +kernel)) dL_law_1334 ?_
  refine x_topi (y := (xs 3)) rfl ?_
  refine lv_i2l (v := (((xs 3)).toInt64)) F.1 F.2.1 dL_law_1335 rfl ?_
  refine lv_bipush (v := 32) F.1 F.2.1 dL_law_1336 (by decide) ?_
  refine lv_lshl (v := ((((xs 3)).toInt64) <<< ((32 : Int32).toInt64 &&& 63))) F.1 F.2.1 dL_law_1338 rfl ?_
  refine lv_aload_n F.1 F.2.1 dL_law_1339 rfl (lv_at hl 3 rfl) ?_
  refine lv_iload_n F.1 F.2.1 dL_law_1340 rfl (lv_at hl 0 rfl) ?_
  refine lv_iconst (v := 4) F.1 F.2.1 dL_law_1341 (by decide) ?_
  refine lv_iadd F.1 F.2.1 dL_law_1342 ?_
  refine x_topi (y := 4) (by decide +kernel) ?_
  refine va_sld F.1 F.2.1 hX hbl hbA h.2.2.2.1 (x_in (by decide +kernel)) dL_law_1343 ?_
  refine x_topi (y := (xs 4)) rfl ?_
  refine lv_i2l (v := (((xs 4)).toInt64)) F.1 F.2.1 dL_law_1344 rfl ?_
  refine lv_ldc2 (v := 4294967295) F.1 F.2.1 F.2.2.2.1 (F.2.2.2.2 _ mw_6) dL_law_1345 ?_
  refine lv_land F.1 F.2.1 dL_law_1348 ?_
  refine lv_lor F.1 F.2.1 dL_law_1349 ?_
  refine x_Vi (wr := []) F h yk_X12_broken mw_1333 mw_1334 mw_1335 (c_m_broken l D cy r v ((((((xs 1)).toInt64) <<< ((32 : Int32).toInt64 &&& 63))) ||| ((((xs 2)).toInt64) &&& 4294967295)) ((((((xs 3)).toInt64) <<< ((32 : Int32).toInt64 &&& 63))) ||| ((((xs 4)).toInt64) &&& 4294967295))) [0, 1] [] 0 rfl rfl rfl rfl (by decide) rfl rfl hl.1 rfl (Nat.le_of_ble_eq_true rfl) ⟨Nat.le_of_ble_eq_true rfl, Nat.le_of_ble_eq_true rfl⟩ ⟨Nat.le_of_ble_eq_true rfl, Nat.le_of_ble_eq_true rfl⟩ dL_law_1350 (fun r5 u6 H locs hp4 h => ?_)
  have h : xS D cy A s.heap ([]) s H locs := h
  refine lv_icmp_eq (tgt := 1763) F.1 F.2.1 dL_law_1353 (by decide) (fun _ => ?_) (fun hc => absurd (hp1.trans hp4.symm) hc)
  exact law_end F hr hlocks hX hbl hAs h (lv_sub hl [0, 3] rfl)
set_option maxHeartbeats 4000000 in
set_option maxRecDepth 100000 in
theorem law_c30 {p : Program} {l : Launch} {e : Env} {s : State} {m : MethodId} {below : List Frame} {meth : Method} {c : Code} {b : Nat} {xs : Nat → Int32} {D : va_G} {cy : Nat → ClassId} {A : Nat → Prop} {H : Heap} {locs : List Loc} {ls : Array Slot} {q r : Nat} {u v : Nat → Nat} (F : CallFix p m c cL_law 4 s #[Value.ref b] wsL_law RL) (hr : meth.sig.returnType = ret) (hlocks : meth.locks = false) (hX : va_X b 6 xs s s.heap) (hbl : b < s.heap.size) (hAs : ∀ q, A q → s.heap.size ≤ q) (h : xS D cy A s.heap (askW cy q u ++ modW cy r v) s H locs) (hl : lv_has ls 4 [(3, .int 0), (2, .ref r), (1, .ref q), (0, .ref b)]) : W p l e room_1 s m #[Value.ref b] below meth c H locs 857 99087 (lw_Z below #[Value.ref b] s) (F0 m 1358 ls []) := by
  have hbA : ¬ A b := fun ha => absurd (hAs b ha) (Nat.not_le.mpr hbl)
  have h : xS D cy A s.heap ([(q, .inr (11, [.ref ((u 0)), .ref ((u 1)), .ref ((u 2)), .ref ((u 3)), .ref ((u 4)), .ref ((u 5)), .ref ((u 6)), .ref ((u 7)), .ref ((u 8)), .ref ((u 9)), .int 0, .int 0, .int (-1), .int 0, .int 0, .long 0, .long 1])), (((u 0)), .inl (cy 9, 4, .inr (.inr (.inr (.inr (va_up (va_up (va_up (va_up (fun _ => none) 0 (some ((u 10)))) 1 (some ((u 11)))) 2 (some ((u 12)))) 3 (some ((u 13))))))))), (((u 10)), .inr (10, [.ref ((u 14)), .int (-1), .int 0])), (((u 11)), .inr (10, [.ref ((u 15)), .int (-1), .int 0])), (((u 12)), .inr (10, [.ref ((u 16)), .int (-1), .int 0])), (((u 13)), .inr (10, [.ref ((u 17)), .int (-1), .int 0])), (r, .inr (12, (.ref ((v 0)) :: .int 0 :: .long 0 :: .long 1 :: .ref ((v 1)) :: .ref ((v 2)) :: .ref ((v 3)) :: .ref ((v 4)) :: .ref ((v 5)) :: .int 0 :: .int 0 :: .int 0 :: .int 0 :: .int 0 :: .int 0 :: .int (-1) :: .int (-1) :: .int 0 :: .ref ((v 6)) :: .int 0 :: .int 0 :: .ref ((v 7)) :: .ref ((v 8)) :: .ref ((v 9)) :: .ref ((v 10)) :: .ref ((v 11)) :: .ref ((v 12)) :: .ref ((v 13)) :: .int 0 :: .int 0 :: .int (-1) :: .int 0 :: .int (-1) :: .int 0 :: .ref ((v 14)) :: .int 0 :: .int 0 :: .int 0 :: .int 0 :: .int 0 :: .ref ((v 15)) :: .ref ((v 16)) :: .int 0 :: .int (-1) :: .int 0 :: .int 0 :: .int 0 :: .int 0 :: .ref ((v 17)) :: .ref ((v 18)) :: .ref ((v 19)) :: .int 0 :: .ref ((v 20)) :: .ref ((v 21)) :: .int 0 :: .ref ((v 22)) :: .int (-1) :: .int 0 :: .ref ((v 23)) :: .int (-1) :: .int (-1) :: .int 0 :: .ref ((v 24)) :: .ref ((v 25)) :: .int 0 :: []))), (((v 2)), .inl (cy 1, 4, .inl (upd (upd (upd (upd (fun _ => 0) 0 (-1)) 1 (-1)) 2 (-1)) 3 (-1))))]) s H locs := h.sub [0, 1, 4, 6, 8, 10, 146, 149] (by decide +kernel) rfl
  refine lv_aload_n F.1 F.2.1 dL_law_1358 rfl (lv_at hl 2 rfl) ?_
  refine lv_aload_n F.1 F.2.1 dL_law_1359 rfl (lv_at hl 3 rfl) ?_
  refine lv_iload_n F.1 F.2.1 dL_law_1360 rfl (lv_at hl 0 rfl) ?_
  refine lv_iconst (v := 1) F.1 F.2.1 dL_law_1361 (by decide) ?_
  refine lv_iadd F.1 F.2.1 dL_law_1362 ?_
  refine x_topi (y := 1) (by decide +kernel) ?_
  refine va_sld F.1 F.2.1 hX hbl hbA h.2.2.2.1 (x_in (by decide +kernel)) dL_law_1363 ?_
  refine x_topi (y := (xs 1)) rfl ?_
  refine lv_aload_n F.1 F.2.1 dL_law_1364 rfl (lv_at hl 3 rfl) ?_
  refine lv_iload_n F.1 F.2.1 dL_law_1365 rfl (lv_at hl 0 rfl) ?_
  refine lv_iconst (v := 2) F.1 F.2.1 dL_law_1366 (by decide) ?_
  refine lv_iadd F.1 F.2.1 dL_law_1367 ?_
  refine x_topi (y := 2) (by decide +kernel) ?_
  refine va_sld F.1 F.2.1 hX hbl hbA h.2.2.2.1 (x_in (by decide +kernel)) dL_law_1368 ?_
  refine x_topi (y := (xs 2)) rfl ?_
  refine lv_aload_n F.1 F.2.1 dL_law_1369 rfl (lv_at hl 3 rfl) ?_
  refine lv_iload_n F.1 F.2.1 dL_law_1370 rfl (lv_at hl 0 rfl) ?_
  refine lv_iconst (v := 3) F.1 F.2.1 dL_law_1371 (by decide) ?_
  refine lv_iadd F.1 F.2.1 dL_law_1372 ?_
  refine x_topi (y := 3) (by decide +kernel) ?_
  refine va_sld F.1 F.2.1 hX hbl hbA h.2.2.2.1 (x_in (by decide +kernel)) dL_law_1373 ?_
  refine x_topi (y := (xs 3)) rfl ?_
  refine x_Vi (wr := [(r, .inr (12, (.ref ((v 0)) :: .int 0 :: .long 0 :: .long 1 :: .ref ((v 1)) :: .ref ((v 2)) :: .ref ((v 3)) :: .ref ((v 4)) :: .ref ((v 5)) :: .int 0 :: .int 0 :: .int 0 :: .int 0 :: .int 0 :: .int 0 :: .int (-1) :: .int (-1) :: .int 0 :: .ref ((v 6)) :: .int 0 :: .int 0 :: .ref ((v 7)) :: .ref ((v 8)) :: .ref ((v 9)) :: .ref ((v 10)) :: .ref ((v 11)) :: .ref ((v 12)) :: .ref ((v 13)) :: .int 0 :: .int 0 :: .int (-1) :: .int 0 :: .int (-1) :: .int 0 :: .ref ((v 14)) :: .int 0 :: .int 0 :: .int 0 :: .int 0 :: .int 0 :: .ref ((v 15)) :: .ref ((v 16)) :: .int 0 :: .int (-1) :: .int 0 :: .int 0 :: .int 0 :: .int 0 :: .ref ((v 17)) :: .ref ((v 18)) :: .ref ((v 19)) :: .int 0 :: .ref ((v 20)) :: .ref ((v 21)) :: .int 0 :: .ref ((v 22)) :: .int (-1) :: .int 0 :: .ref ((v 23)) :: .int (-1) :: .int (-1) :: .int 0 :: .ref ((v 24)) :: .ref ((v 25)) :: .int 0 :: []))), (((v 2)), .inl (cy 1, 4, .inl (upd (upd (upd (upd (fun _ => 0) 0 (-1)) 1 (-1)) 2 (-1)) 3 (-1))))]) F h yk_X11_broke mw_1337 mw_1338 mw_1339 (c_broke l D cy q u ((xs 1)) ((xs 2)) ((xs 3))) [0, 1, 2, 3, 4, 5] [6, 7] 0 rfl rfl rfl rfl (by decide) rfl rfl hl.1 rfl (Nat.le_of_ble_eq_true rfl) ⟨Nat.le_of_ble_eq_true rfl, Nat.le_of_ble_eq_true rfl⟩ ⟨Nat.le_of_ble_eq_true rfl, Nat.le_of_ble_eq_true rfl⟩ dL_law_1374 (fun r2 u3 H locs hp1 h => ?_)
  have h : xS D cy A s.heap ([(r, .inr (12, (.ref ((v 0)) :: .int 0 :: .long 0 :: .long 1 :: .ref ((v 1)) :: .ref ((v 2)) :: .ref ((v 3)) :: .ref ((v 4)) :: .ref ((v 5)) :: .int 0 :: .int 0 :: .int 0 :: .int 0 :: .int 0 :: .int 0 :: .int (-1) :: .int (-1) :: .int 0 :: .ref ((v 6)) :: .int 0 :: .int 0 :: .ref ((v 7)) :: .ref ((v 8)) :: .ref ((v 9)) :: .ref ((v 10)) :: .ref ((v 11)) :: .ref ((v 12)) :: .ref ((v 13)) :: .int 0 :: .int 0 :: .int (-1) :: .int 0 :: .int (-1) :: .int 0 :: .ref ((v 14)) :: .int 0 :: .int 0 :: .int 0 :: .int 0 :: .int 0 :: .ref ((v 15)) :: .ref ((v 16)) :: .int 0 :: .int (-1) :: .int 0 :: .int 0 :: .int 0 :: .int 0 :: .ref ((v 17)) :: .ref ((v 18)) :: .ref ((v 19)) :: .int 0 :: .ref ((v 20)) :: .ref ((v 21)) :: .int 0 :: .ref ((v 22)) :: .int (-1) :: .int 0 :: .ref ((v 23)) :: .int (-1) :: .int (-1) :: .int 0 :: .ref ((v 24)) :: .ref ((v 25)) :: .int 0 :: []))), (((v 2)), .inl (cy 1, 4, .inl (upd (upd (upd (upd (fun _ => 0) 0 (-1)) 1 (-1)) 2 (-1)) 3 (-1))))]) s H locs := h
  obtain rfl : r2 = (-1) := hp1
  refine lv_aload_n F.1 F.2.1 dL_law_1377 rfl (lv_at hl 1 rfl) ?_
  refine lv_aload_n F.1 F.2.1 dL_law_1378 rfl (lv_at hl 3 rfl) ?_
  refine lv_iload_n F.1 F.2.1 dL_law_1379 rfl (lv_at hl 0 rfl) ?_
  refine lv_iconst (v := 1) F.1 F.2.1 dL_law_1380 (by decide) ?_
  refine lv_iadd F.1 F.2.1 dL_law_1381 ?_
  refine x_topi (y := 1) (by decide +kernel) ?_
  refine va_sld F.1 F.2.1 hX hbl hbA h.2.2.2.1 (x_in (by decide +kernel)) dL_law_1382 ?_
  refine x_topi (y := (xs 1)) rfl ?_
  refine lv_aload_n F.1 F.2.1 dL_law_1383 rfl (lv_at hl 3 rfl) ?_
  refine lv_iload_n F.1 F.2.1 dL_law_1384 rfl (lv_at hl 0 rfl) ?_
  refine lv_iconst (v := 2) F.1 F.2.1 dL_law_1385 (by decide) ?_
  refine lv_iadd F.1 F.2.1 dL_law_1386 ?_
  refine x_topi (y := 2) (by decide +kernel) ?_
  refine va_sld F.1 F.2.1 hX hbl hbA h.2.2.2.1 (x_in (by decide +kernel)) dL_law_1387 ?_
  refine x_topi (y := (xs 2)) rfl ?_
  refine lv_aload_n F.1 F.2.1 dL_law_1388 rfl (lv_at hl 3 rfl) ?_
  refine lv_iload_n F.1 F.2.1 dL_law_1389 rfl (lv_at hl 0 rfl) ?_
  refine lv_iconst (v := 3) F.1 F.2.1 dL_law_1390 (by decide) ?_
  refine lv_iadd F.1 F.2.1 dL_law_1391 ?_
  refine x_topi (y := 3) (by decide +kernel) ?_
  refine va_sld F.1 F.2.1 hX hbl hbA h.2.2.2.1 (x_in (by decide +kernel)) dL_law_1392 ?_
  refine x_topi (y := (xs 3)) rfl ?_
  refine x_Vi (wr := []) F h yk_X12_broke mw_1351 mw_1352 mw_1353 (c_m_broke l D cy r v ((xs 1)) ((xs 2)) ((xs 3))) [0, 1] [] 0 rfl rfl rfl rfl (by decide) rfl rfl hl.1 rfl (Nat.le_of_ble_eq_true rfl) ⟨Nat.le_of_ble_eq_true rfl, Nat.le_of_ble_eq_true rfl⟩ ⟨Nat.le_of_ble_eq_true rfl, Nat.le_of_ble_eq_true rfl⟩ dL_law_1393 (fun r5 u6 H locs hp4 h => ?_)
  have h : xS D cy A s.heap ([]) s H locs := h
  obtain rfl : r5 = (-1) := hp4
  refine lv_icmp_eq (tgt := 1763) F.1 F.2.1 dL_law_1396 (by decide) (fun _ => ?_) (fun hc => absurd (by decide) hc)
  exact law_end F hr hlocks hX hbl hAs h (lv_sub hl [0, 3] rfl)
set_option maxHeartbeats 4000000 in
set_option maxRecDepth 100000 in
theorem law_c31 {p : Program} {l : Launch} {e : Env} {s : State} {m : MethodId} {below : List Frame} {meth : Method} {c : Code} {b : Nat} {xs : Nat → Int32} {D : va_G} {cy : Nat → ClassId} {A : Nat → Prop} {H : Heap} {locs : List Loc} {ls : Array Slot} {q r : Nat} {u v : Nat → Nat} (F : CallFix p m c cL_law 4 s #[Value.ref b] wsL_law RL) (hr : meth.sig.returnType = ret) (hlocks : meth.locks = false) (hX : va_X b 6 xs s s.heap) (hbl : b < s.heap.size) (hAs : ∀ q, A q → s.heap.size ≤ q) (h : xS D cy A s.heap (askW cy q u ++ modW cy r v) s H locs) (hl : lv_has ls 4 [(3, .int 0), (2, .ref r), (1, .ref q), (0, .ref b)]) : W p l e room_1 s m #[Value.ref b] below meth c H locs 857 99087 (lw_Z below #[Value.ref b] s) (F0 m 1401 ls []) := by
  have hbA : ¬ A b := fun ha => absurd (hAs b ha) (Nat.not_le.mpr hbl)
  have h : xS D cy A s.heap ([(q, .inr (11, [.ref ((u 0)), .ref ((u 1)), .ref ((u 2)), .ref ((u 3)), .ref ((u 4)), .ref ((u 5)), .ref ((u 6)), .ref ((u 7)), .ref ((u 8)), .ref ((u 9)), .int 0, .int 0, .int (-1), .int 0, .int 0, .long 0, .long 1])), (((u 0)), .inl (cy 9, 4, .inr (.inr (.inr (.inr (va_up (va_up (va_up (va_up (fun _ => none) 0 (some ((u 10)))) 1 (some ((u 11)))) 2 (some ((u 12)))) 3 (some ((u 13))))))))), (((u 10)), .inr (10, [.ref ((u 14)), .int (-1), .int 0])), (((u 11)), .inr (10, [.ref ((u 15)), .int (-1), .int 0])), (((u 12)), .inr (10, [.ref ((u 16)), .int (-1), .int 0])), (((u 13)), .inr (10, [.ref ((u 17)), .int (-1), .int 0])), (r, .inr (12, (.ref ((v 0)) :: .int 0 :: .long 0 :: .long 1 :: .ref ((v 1)) :: .ref ((v 2)) :: .ref ((v 3)) :: .ref ((v 4)) :: .ref ((v 5)) :: .int 0 :: .int 0 :: .int 0 :: .int 0 :: .int 0 :: .int 0 :: .int (-1) :: .int (-1) :: .int 0 :: .ref ((v 6)) :: .int 0 :: .int 0 :: .ref ((v 7)) :: .ref ((v 8)) :: .ref ((v 9)) :: .ref ((v 10)) :: .ref ((v 11)) :: .ref ((v 12)) :: .ref ((v 13)) :: .int 0 :: .int 0 :: .int (-1) :: .int 0 :: .int (-1) :: .int 0 :: .ref ((v 14)) :: .int 0 :: .int 0 :: .int 0 :: .int 0 :: .int 0 :: .ref ((v 15)) :: .ref ((v 16)) :: .int 0 :: .int (-1) :: .int 0 :: .int 0 :: .int 0 :: .int 0 :: .ref ((v 17)) :: .ref ((v 18)) :: .ref ((v 19)) :: .int 0 :: .ref ((v 20)) :: .ref ((v 21)) :: .int 0 :: .ref ((v 22)) :: .int (-1) :: .int 0 :: .ref ((v 23)) :: .int (-1) :: .int (-1) :: .int 0 :: .ref ((v 24)) :: .ref ((v 25)) :: .int 0 :: []))), (((v 2)), .inl (cy 1, 4, .inl (upd (upd (upd (upd (fun _ => 0) 0 (-1)) 1 (-1)) 2 (-1)) 3 (-1))))]) s H locs := h.sub [0, 1, 4, 6, 8, 10, 146, 149] (by decide +kernel) rfl
  refine lv_aload_n F.1 F.2.1 dL_law_1401 rfl (lv_at hl 2 rfl) ?_
  refine lv_aload_n F.1 F.2.1 dL_law_1402 rfl (lv_at hl 3 rfl) ?_
  refine lv_iload_n F.1 F.2.1 dL_law_1403 rfl (lv_at hl 0 rfl) ?_
  refine lv_iconst (v := 1) F.1 F.2.1 dL_law_1404 (by decide) ?_
  refine lv_iadd F.1 F.2.1 dL_law_1405 ?_
  refine x_topi (y := 1) (by decide +kernel) ?_
  refine va_sld F.1 F.2.1 hX hbl hbA h.2.2.2.1 (x_in (by decide +kernel)) dL_law_1406 ?_
  refine x_topi (y := (xs 1)) rfl ?_
  refine lv_aload_n F.1 F.2.1 dL_law_1407 rfl (lv_at hl 3 rfl) ?_
  refine lv_iload_n F.1 F.2.1 dL_law_1408 rfl (lv_at hl 0 rfl) ?_
  refine lv_iconst (v := 2) F.1 F.2.1 dL_law_1409 (by decide) ?_
  refine lv_iadd F.1 F.2.1 dL_law_1410 ?_
  refine x_topi (y := 2) (by decide +kernel) ?_
  refine va_sld F.1 F.2.1 hX hbl hbA h.2.2.2.1 (x_in (by decide +kernel)) dL_law_1411 ?_
  refine x_topi (y := (xs 2)) rfl ?_
  refine lv_aload_n F.1 F.2.1 dL_law_1412 rfl (lv_at hl 3 rfl) ?_
  refine lv_iload_n F.1 F.2.1 dL_law_1413 rfl (lv_at hl 0 rfl) ?_
  refine lv_iconst (v := 3) F.1 F.2.1 dL_law_1414 (by decide) ?_
  refine lv_iadd F.1 F.2.1 dL_law_1415 ?_
  refine x_topi (y := 3) (by decide +kernel) ?_
  refine va_sld F.1 F.2.1 hX hbl hbA h.2.2.2.1 (x_in (by decide +kernel)) dL_law_1416 ?_
  refine x_topi (y := (xs 3)) rfl ?_
  refine lv_aload_n F.1 F.2.1 dL_law_1417 rfl (lv_at hl 3 rfl) ?_
  refine lv_iload_n F.1 F.2.1 dL_law_1418 rfl (lv_at hl 0 rfl) ?_
  refine lv_iconst (v := 4) F.1 F.2.1 dL_law_1419 (by decide) ?_
  refine lv_iadd F.1 F.2.1 dL_law_1420 ?_
  refine x_topi (y := 4) (by decide +kernel) ?_
  refine va_sld F.1 F.2.1 hX hbl hbA h.2.2.2.1 (x_in (by decide +kernel)) dL_law_1421 ?_
  refine x_topi (y := (xs 4)) rfl ?_
  refine x_Vi (wr := [(r, .inr (12, (.ref ((v 0)) :: .int 0 :: .long 0 :: .long 1 :: .ref ((v 1)) :: .ref ((v 2)) :: .ref ((v 3)) :: .ref ((v 4)) :: .ref ((v 5)) :: .int 0 :: .int 0 :: .int 0 :: .int 0 :: .int 0 :: .int 0 :: .int (-1) :: .int (-1) :: .int 0 :: .ref ((v 6)) :: .int 0 :: .int 0 :: .ref ((v 7)) :: .ref ((v 8)) :: .ref ((v 9)) :: .ref ((v 10)) :: .ref ((v 11)) :: .ref ((v 12)) :: .ref ((v 13)) :: .int 0 :: .int 0 :: .int (-1) :: .int 0 :: .int (-1) :: .int 0 :: .ref ((v 14)) :: .int 0 :: .int 0 :: .int 0 :: .int 0 :: .int 0 :: .ref ((v 15)) :: .ref ((v 16)) :: .int 0 :: .int (-1) :: .int 0 :: .int 0 :: .int 0 :: .int 0 :: .ref ((v 17)) :: .ref ((v 18)) :: .ref ((v 19)) :: .int 0 :: .ref ((v 20)) :: .ref ((v 21)) :: .int 0 :: .ref ((v 22)) :: .int (-1) :: .int 0 :: .ref ((v 23)) :: .int (-1) :: .int (-1) :: .int 0 :: .ref ((v 24)) :: .ref ((v 25)) :: .int 0 :: []))), (((v 2)), .inl (cy 1, 4, .inl (upd (upd (upd (upd (fun _ => 0) 0 (-1)) 1 (-1)) 2 (-1)) 3 (-1))))]) F h yk_X11_mend mw_1363 mw_1364 mw_1365 (c_mend l D cy q u ((xs 1)) ((xs 2)) ((xs 3)) ((xs 4))) [0, 1, 2, 3, 4, 5] [6, 7] 0 rfl rfl rfl rfl (by decide) rfl rfl hl.1 rfl (Nat.le_of_ble_eq_true rfl) ⟨Nat.le_of_ble_eq_true rfl, Nat.le_of_ble_eq_true rfl⟩ ⟨Nat.le_of_ble_eq_true rfl, Nat.le_of_ble_eq_true rfl⟩ dL_law_1422 (fun r2 u3 H locs hp1 h => ?_)
  have h : xS D cy A s.heap ([(r, .inr (12, (.ref ((v 0)) :: .int 0 :: .long 0 :: .long 1 :: .ref ((v 1)) :: .ref ((v 2)) :: .ref ((v 3)) :: .ref ((v 4)) :: .ref ((v 5)) :: .int 0 :: .int 0 :: .int 0 :: .int 0 :: .int 0 :: .int 0 :: .int (-1) :: .int (-1) :: .int 0 :: .ref ((v 6)) :: .int 0 :: .int 0 :: .ref ((v 7)) :: .ref ((v 8)) :: .ref ((v 9)) :: .ref ((v 10)) :: .ref ((v 11)) :: .ref ((v 12)) :: .ref ((v 13)) :: .int 0 :: .int 0 :: .int (-1) :: .int 0 :: .int (-1) :: .int 0 :: .ref ((v 14)) :: .int 0 :: .int 0 :: .int 0 :: .int 0 :: .int 0 :: .ref ((v 15)) :: .ref ((v 16)) :: .int 0 :: .int (-1) :: .int 0 :: .int 0 :: .int 0 :: .int 0 :: .ref ((v 17)) :: .ref ((v 18)) :: .ref ((v 19)) :: .int 0 :: .ref ((v 20)) :: .ref ((v 21)) :: .int 0 :: .ref ((v 22)) :: .int (-1) :: .int 0 :: .ref ((v 23)) :: .int (-1) :: .int (-1) :: .int 0 :: .ref ((v 24)) :: .ref ((v 25)) :: .int 0 :: []))), (((v 2)), .inl (cy 1, 4, .inl (upd (upd (upd (upd (fun _ => 0) 0 (-1)) 1 (-1)) 2 (-1)) 3 (-1))))]) s H locs := h
  obtain rfl : r2 = (-1) := hp1
  refine lv_aload_n F.1 F.2.1 dL_law_1425 rfl (lv_at hl 1 rfl) ?_
  refine lv_aload_n F.1 F.2.1 dL_law_1426 rfl (lv_at hl 3 rfl) ?_
  refine lv_iload_n F.1 F.2.1 dL_law_1427 rfl (lv_at hl 0 rfl) ?_
  refine lv_iconst (v := 1) F.1 F.2.1 dL_law_1428 (by decide) ?_
  refine lv_iadd F.1 F.2.1 dL_law_1429 ?_
  refine x_topi (y := 1) (by decide +kernel) ?_
  refine va_sld F.1 F.2.1 hX hbl hbA h.2.2.2.1 (x_in (by decide +kernel)) dL_law_1430 ?_
  refine x_topi (y := (xs 1)) rfl ?_
  refine lv_aload_n F.1 F.2.1 dL_law_1431 rfl (lv_at hl 3 rfl) ?_
  refine lv_iload_n F.1 F.2.1 dL_law_1432 rfl (lv_at hl 0 rfl) ?_
  refine lv_iconst (v := 2) F.1 F.2.1 dL_law_1433 (by decide) ?_
  refine lv_iadd F.1 F.2.1 dL_law_1434 ?_
  refine x_topi (y := 2) (by decide +kernel) ?_
  refine va_sld F.1 F.2.1 hX hbl hbA h.2.2.2.1 (x_in (by decide +kernel)) dL_law_1435 ?_
  refine x_topi (y := (xs 2)) rfl ?_
  refine lv_aload_n F.1 F.2.1 dL_law_1436 rfl (lv_at hl 3 rfl) ?_
  refine lv_iload_n F.1 F.2.1 dL_law_1437 rfl (lv_at hl 0 rfl) ?_
  refine lv_iconst (v := 3) F.1 F.2.1 dL_law_1438 (by decide) ?_
  refine lv_iadd F.1 F.2.1 dL_law_1439 ?_
  refine x_topi (y := 3) (by decide +kernel) ?_
  refine va_sld F.1 F.2.1 hX hbl hbA h.2.2.2.1 (x_in (by decide +kernel)) dL_law_1440 ?_
  refine x_topi (y := (xs 3)) rfl ?_
  refine lv_aload_n F.1 F.2.1 dL_law_1441 rfl (lv_at hl 3 rfl) ?_
  refine lv_iload_n F.1 F.2.1 dL_law_1442 rfl (lv_at hl 0 rfl) ?_
  refine lv_iconst (v := 4) F.1 F.2.1 dL_law_1443 (by decide) ?_
  refine lv_iadd F.1 F.2.1 dL_law_1444 ?_
  refine x_topi (y := 4) (by decide +kernel) ?_
  refine va_sld F.1 F.2.1 hX hbl hbA h.2.2.2.1 (x_in (by decide +kernel)) dL_law_1445 ?_
  refine x_topi (y := (xs 4)) rfl ?_
  refine x_Vi (wr := []) F h yk_X12_mend mw_1384 mw_1385 mw_1386 (c_m_mend l D cy r v ((xs 1)) ((xs 2)) ((xs 3)) ((xs 4))) [0, 1] [] 0 rfl rfl rfl rfl (by decide) rfl rfl hl.1 rfl (Nat.le_of_ble_eq_true rfl) ⟨Nat.le_of_ble_eq_true rfl, Nat.le_of_ble_eq_true rfl⟩ ⟨Nat.le_of_ble_eq_true rfl, Nat.le_of_ble_eq_true rfl⟩ dL_law_1446 (fun r5 u6 H locs hp4 h => ?_)
  have h : xS D cy A s.heap ([]) s H locs := h
  obtain rfl : r5 = (-1) := hp4
  refine lv_icmp_eq (tgt := 1763) F.1 F.2.1 dL_law_1449 (by decide) (fun _ => ?_) (fun hc => absurd (by decide) hc)
  exact law_end F hr hlocks hX hbl hAs h (lv_sub hl [0, 3] rfl)
set_option maxHeartbeats 4000000 in
set_option maxRecDepth 100000 in
theorem law_c32 {p : Program} {l : Launch} {e : Env} {s : State} {m : MethodId} {below : List Frame} {meth : Method} {c : Code} {b : Nat} {xs : Nat → Int32} {D : va_G} {cy : Nat → ClassId} {A : Nat → Prop} {H : Heap} {locs : List Loc} {ls : Array Slot} {q r : Nat} {u v : Nat → Nat} (F : CallFix p m c cL_law 4 s #[Value.ref b] wsL_law RL) (hr : meth.sig.returnType = ret) (hlocks : meth.locks = false) (hX : va_X b 6 xs s s.heap) (hbl : b < s.heap.size) (hAs : ∀ q, A q → s.heap.size ≤ q) (h : xS D cy A s.heap (askW cy q u ++ modW cy r v) s H locs) (hl : lv_has ls 4 [(3, .int 0), (2, .ref r), (1, .ref q), (0, .ref b)]) : W p l e room_1 s m #[Value.ref b] below meth c H locs 857 99087 (lw_Z below #[Value.ref b] s) (F0 m 1454 ls []) := by
  have hbA : ¬ A b := fun ha => absurd (hAs b ha) (Nat.not_le.mpr hbl)
  have h : xS D cy A s.heap ([(q, .inr (11, [.ref ((u 0)), .ref ((u 1)), .ref ((u 2)), .ref ((u 3)), .ref ((u 4)), .ref ((u 5)), .ref ((u 6)), .ref ((u 7)), .ref ((u 8)), .ref ((u 9)), .int 0, .int 0, .int (-1), .int 0, .int 0, .long 0, .long 1])), (((u 5)), .inr (9, [.ref ((u 21)), .ref ((u 22)), .ref ((u 23)), .ref ((u 24)), .int 0])), (r, .inr (12, (.ref ((v 0)) :: .int 0 :: .long 0 :: .long 1 :: .ref ((v 1)) :: .ref ((v 2)) :: .ref ((v 3)) :: .ref ((v 4)) :: .ref ((v 5)) :: .int 0 :: .int 0 :: .int 0 :: .int 0 :: .int 0 :: .int 0 :: .int (-1) :: .int (-1) :: .int 0 :: .ref ((v 6)) :: .int 0 :: .int 0 :: .ref ((v 7)) :: .ref ((v 8)) :: .ref ((v 9)) :: .ref ((v 10)) :: .ref ((v 11)) :: .ref ((v 12)) :: .ref ((v 13)) :: .int 0 :: .int 0 :: .int (-1) :: .int 0 :: .int (-1) :: .int 0 :: .ref ((v 14)) :: .int 0 :: .int 0 :: .int 0 :: .int 0 :: .int 0 :: .ref ((v 15)) :: .ref ((v 16)) :: .int 0 :: .int (-1) :: .int 0 :: .int 0 :: .int 0 :: .int 0 :: .ref ((v 17)) :: .ref ((v 18)) :: .ref ((v 19)) :: .int 0 :: .ref ((v 20)) :: .ref ((v 21)) :: .int 0 :: .ref ((v 22)) :: .int (-1) :: .int 0 :: .ref ((v 23)) :: .int (-1) :: .int (-1) :: .int 0 :: .ref ((v 24)) :: .ref ((v 25)) :: .int 0 :: [])))]) s H locs := h.sub [0, 12, 146] (by decide +kernel) rfl
  refine lv_aload_n F.1 F.2.1 dL_law_1454 rfl (lv_at hl 2 rfl) ?_
  refine lv_aload_n F.1 F.2.1 dL_law_1455 rfl (lv_at hl 3 rfl) ?_
  refine lv_iload_n F.1 F.2.1 dL_law_1456 rfl (lv_at hl 0 rfl) ?_
  refine lv_iconst (v := 1) F.1 F.2.1 dL_law_1457 (by decide) ?_
  refine lv_iadd F.1 F.2.1 dL_law_1458 ?_
  refine x_topi (y := 1) (by decide +kernel) ?_
  refine va_sld F.1 F.2.1 hX hbl hbA h.2.2.2.1 (x_in (by decide +kernel)) dL_law_1459 ?_
  refine x_topi (y := (xs 1)) rfl ?_
  refine x_Vi (wr := [(r, .inr (12, (.ref ((v 0)) :: .int 0 :: .long 0 :: .long 1 :: .ref ((v 1)) :: .ref ((v 2)) :: .ref ((v 3)) :: .ref ((v 4)) :: .ref ((v 5)) :: .int 0 :: .int 0 :: .int 0 :: .int 0 :: .int 0 :: .int 0 :: .int (-1) :: .int (-1) :: .int 0 :: .ref ((v 6)) :: .int 0 :: .int 0 :: .ref ((v 7)) :: .ref ((v 8)) :: .ref ((v 9)) :: .ref ((v 10)) :: .ref ((v 11)) :: .ref ((v 12)) :: .ref ((v 13)) :: .int 0 :: .int 0 :: .int (-1) :: .int 0 :: .int (-1) :: .int 0 :: .ref ((v 14)) :: .int 0 :: .int 0 :: .int 0 :: .int 0 :: .int 0 :: .ref ((v 15)) :: .ref ((v 16)) :: .int 0 :: .int (-1) :: .int 0 :: .int 0 :: .int 0 :: .int 0 :: .ref ((v 17)) :: .ref ((v 18)) :: .ref ((v 19)) :: .int 0 :: .ref ((v 20)) :: .ref ((v 21)) :: .int 0 :: .ref ((v 22)) :: .int (-1) :: .int 0 :: .ref ((v 23)) :: .int (-1) :: .int (-1) :: .int 0 :: .ref ((v 24)) :: .ref ((v 25)) :: .int 0 :: [])))]) F h yk_X11_doubt mw_1388 mw_1389 mw_1390 (c_doubt l D cy q u ((xs 1))) [0, 1] [2] 0 rfl rfl rfl rfl (by decide) rfl rfl hl.1 rfl (Nat.le_of_ble_eq_true rfl) ⟨Nat.le_of_ble_eq_true rfl, Nat.le_of_ble_eq_true rfl⟩ ⟨Nat.le_of_ble_eq_true rfl, Nat.le_of_ble_eq_true rfl⟩ dL_law_1460 (fun r2 u3 H locs hp1 h => ?_)
  have h : xS D cy A s.heap ([(r, .inr (12, (.ref ((v 0)) :: .int 0 :: .long 0 :: .long 1 :: .ref ((v 1)) :: .ref ((v 2)) :: .ref ((v 3)) :: .ref ((v 4)) :: .ref ((v 5)) :: .int 0 :: .int 0 :: .int 0 :: .int 0 :: .int 0 :: .int 0 :: .int (-1) :: .int (-1) :: .int 0 :: .ref ((v 6)) :: .int 0 :: .int 0 :: .ref ((v 7)) :: .ref ((v 8)) :: .ref ((v 9)) :: .ref ((v 10)) :: .ref ((v 11)) :: .ref ((v 12)) :: .ref ((v 13)) :: .int 0 :: .int 0 :: .int (-1) :: .int 0 :: .int (-1) :: .int 0 :: .ref ((v 14)) :: .int 0 :: .int 0 :: .int 0 :: .int 0 :: .int 0 :: .ref ((v 15)) :: .ref ((v 16)) :: .int 0 :: .int (-1) :: .int 0 :: .int 0 :: .int 0 :: .int 0 :: .ref ((v 17)) :: .ref ((v 18)) :: .ref ((v 19)) :: .int 0 :: .ref ((v 20)) :: .ref ((v 21)) :: .int 0 :: .ref ((v 22)) :: .int (-1) :: .int 0 :: .ref ((v 23)) :: .int (-1) :: .int (-1) :: .int 0 :: .ref ((v 24)) :: .ref ((v 25)) :: .int 0 :: [])))]) s H locs := h
  obtain rfl : r2 = (-1) := hp1
  refine lv_aload_n F.1 F.2.1 dL_law_1463 rfl (lv_at hl 1 rfl) ?_
  refine lv_aload_n F.1 F.2.1 dL_law_1464 rfl (lv_at hl 3 rfl) ?_
  refine lv_iload_n F.1 F.2.1 dL_law_1465 rfl (lv_at hl 0 rfl) ?_
  refine lv_iconst (v := 1) F.1 F.2.1 dL_law_1466 (by decide) ?_
  refine lv_iadd F.1 F.2.1 dL_law_1467 ?_
  refine x_topi (y := 1) (by decide +kernel) ?_
  refine va_sld F.1 F.2.1 hX hbl hbA h.2.2.2.1 (x_in (by decide +kernel)) dL_law_1468 ?_
  refine x_topi (y := (xs 1)) rfl ?_
  refine x_Vi (wr := []) F h yk_X12_doubt mw_1401 mw_1402 mw_1403 (c_m_doubt l D cy r v ((xs 1))) [0] [] 0 rfl rfl rfl rfl (by decide) rfl rfl hl.1 rfl (Nat.le_of_ble_eq_true rfl) ⟨Nat.le_of_ble_eq_true rfl, Nat.le_of_ble_eq_true rfl⟩ ⟨Nat.le_of_ble_eq_true rfl, Nat.le_of_ble_eq_true rfl⟩ dL_law_1469 (fun r5 u6 H locs hp4 h => ?_)
  have h : xS D cy A s.heap ([]) s H locs := h
  obtain rfl : r5 = (-1) := hp4
  refine lv_icmp_eq (tgt := 1763) F.1 F.2.1 dL_law_1472 (by decide) (fun _ => ?_) (fun hc => absurd (by decide) hc)
  exact law_end F hr hlocks hX hbl hAs h (lv_sub hl [0, 3] rfl)
