/-! the law, call by call: 32 to 38 -/
section LL
variable {ω ω' : xO} {κ : xK} {l : Launch} {b L : Nat} {xs : Nat → Int32} {ki vi : Nat → Nat} {kss : Nat → Option Nat} {i K : Int} {C N : xMem}
theorem dL_1079 : decode code 1079 = .ok (.aload_n 1, 1) := by decide +kernel
theorem dL_1080 : decode code 1080 = .ok (.invokevirtual 146, 3) := by decide +kernel
theorem dL_1083 : decode code 1083 = .ok (.aload_n 2, 1) := by decide +kernel
theorem dL_1084 : decode code 1084 = .ok (.invokevirtual 149, 3) := by decide +kernel
theorem dL_1087 : decode code 1087 = .ok (.if_icmp .eq 364, 3) := by decide +kernel
set_option maxHeartbeats 800000 in
set_option maxRecDepth 100000 in
theorem L_32 (h : LOk ω ω' κ l b L xs ki vi kss) (hi : 0 ≤ i ∧ i + 6 ≤ (L : Int)) (hk : kI K) (hW : Wo K C N) (hF : Fc N) (kk : ∀ C' N', Wo (K + 100) C' N' → Fc N' → LW ω ω' κ b i 1451 [] C' N') : LW ω ω' κ b i 1079 [] C N := by
  refine l_xr fun hx _ => ?_
  have hI := hW.inv
  have hs := h.2.1.2.2.2.2.1
  have hm := h.2.2.1.2.2.2.2.1
  refine l_a1 h dL_1079 ?_
  refine l_C (As := []) (rest := []) h dL_1080 m_ml_L_146 m_im_X6_wipe m_se_X6_wipe rfl (by decide) rfl rfl rfl (c_X6_wipe hs hI.1) ?_
  refine l_a2 h dL_1083 ?_
  refine l_N (As := []) (rest := [_]) h dL_1084 m_ml_L_149 m_im_X7_wipe m_se_X7_wipe rfl (by decide) rfl rfl rfl (c_X7_wipe hm) ?_
  have w := w_wipe  hW hk
  exact l_eq h dL_1087 rfl w.1 (kk _ _ w.2 (F_u0 (by decide) hF))
theorem dL_1092 : decode code 1092 = .ok (.aload_n 1, 1) := by decide +kernel
theorem dL_1093 : decode code 1093 = .ok (.invokevirtual 150, 3) := by decide +kernel
theorem dL_1096 : decode code 1096 = .ok (.aload_n 2, 1) := by decide +kernel
theorem dL_1097 : decode code 1097 = .ok (.invokevirtual 153, 3) := by decide +kernel
theorem dL_1100 : decode code 1100 = .ok (.if_icmp .eq 351, 3) := by decide +kernel
set_option maxHeartbeats 800000 in
set_option maxRecDepth 100000 in
theorem L_33 (h : LOk ω ω' κ l b L xs ki vi kss) (hi : 0 ≤ i ∧ i + 6 ≤ (L : Int)) (hk : kI K) (hW : Wo K C N) (hF : Fc N) (kk : ∀ C' N', Wo (K + 100) C' N' → Fc N' → LW ω ω' κ b i 1451 [] C' N') : LW ω ω' κ b i 1092 [] C N := by
  refine l_xr fun hx _ => ?_
  have hI := hW.inv
  have hs := h.2.1.2.2.2.2.1
  have hm := h.2.2.1.2.2.2.2.1
  have hφ := h.2.1.2.2.2.2.2
  have hφ' := h.2.2.1.2.2.2.2.2
  have hks := h.2.2.2.2.2.2.2
  refine l_a1 h dL_1092 ?_
  refine l_C (As := []) (rest := []) h dL_1093 m_ml_L_150 m_im_X6_text m_se_X6_text rfl (by decide) rfl rfl rfl (c_X6_text hs hφ hI.1 hW.bo) ?_
  refine l_a2 h dL_1096 ?_
  refine l_Nq (As := []) (rest := [_]) h dL_1097 m_ml_L_153 m_im_X7_text m_se_X7_text rfl (by decide) rfl rfl rfl (c_X7_text hm hφ' hI.2 hF hW.hb hks (fun k => hx 50 k)) (fun ρ N1 hp => ?_)
  obtain ⟨z, rfl, rfl, hq⟩ := hp
  have w := w_text  hW hx hk hq
  exact l_eq h dL_1100 rfl w.1 (kk _ _ w.2 (F_text hF hq))
theorem dL_1105 : decode code 1105 = .ok (.aload_n 1, 1) := by decide +kernel
theorem dL_1106 : decode code 1106 = .ok (.aload_n 0, 1) := by decide +kernel
theorem dL_1107 : decode code 1107 = .ok (.iload_n 3, 1) := by decide +kernel
theorem dL_1108 : decode code 1108 = .ok (.iconst 1, 1) := by decide +kernel
theorem dL_1109 : decode code 1109 = .ok (.iadd, 1) := by decide +kernel
theorem dL_1110 : decode code 1110 = .ok (.iaload, 1) := by decide +kernel
theorem dL_1111 : decode code 1111 = .ok (.aload_n 0, 1) := by decide +kernel
theorem dL_1112 : decode code 1112 = .ok (.iload_n 3, 1) := by decide +kernel
theorem dL_1113 : decode code 1113 = .ok (.iconst 2, 1) := by decide +kernel
theorem dL_1114 : decode code 1114 = .ok (.iadd, 1) := by decide +kernel
theorem dL_1115 : decode code 1115 = .ok (.iaload, 1) := by decide +kernel
theorem dL_1116 : decode code 1116 = .ok (.invokevirtual 154, 3) := by decide +kernel
theorem dL_1119 : decode code 1119 = .ok (.aload_n 2, 1) := by decide +kernel
theorem dL_1120 : decode code 1120 = .ok (.aload_n 0, 1) := by decide +kernel
theorem dL_1121 : decode code 1121 = .ok (.iload_n 3, 1) := by decide +kernel
theorem dL_1122 : decode code 1122 = .ok (.iconst 1, 1) := by decide +kernel
theorem dL_1123 : decode code 1123 = .ok (.iadd, 1) := by decide +kernel
theorem dL_1124 : decode code 1124 = .ok (.iaload, 1) := by decide +kernel
theorem dL_1125 : decode code 1125 = .ok (.aload_n 0, 1) := by decide +kernel
theorem dL_1126 : decode code 1126 = .ok (.iload_n 3, 1) := by decide +kernel
theorem dL_1127 : decode code 1127 = .ok (.iconst 2, 1) := by decide +kernel
theorem dL_1128 : decode code 1128 = .ok (.iadd, 1) := by decide +kernel
theorem dL_1129 : decode code 1129 = .ok (.iaload, 1) := by decide +kernel
theorem dL_1130 : decode code 1130 = .ok (.invokevirtual 157, 3) := by decide +kernel
theorem dL_1133 : decode code 1133 = .ok (.if_icmp .eq 318, 3) := by decide +kernel
set_option maxHeartbeats 800000 in
set_option maxRecDepth 100000 in
theorem L_34 (h : LOk ω ω' κ l b L xs ki vi kss) (hi : 0 ≤ i ∧ i + 6 ≤ (L : Int)) (hk : kI K) (hW : Wo K C N) (hF : Fc N) (kk : ∀ C' N', Wo (K + 100) C' N' → Fc N' → LW ω ω' κ b i 1451 [] C' N') : LW ω ω' κ b i 1105 [] C N := by
  refine l_xr fun hx _ => ?_
  have hI := hW.inv
  have hs := h.2.1.2.2.2.2.1
  have hm := h.2.2.1.2.2.2.2.1
  refine l_a1 h dL_1105 ?_
  refine l_arg h hi 1 (by decide) dL_1106 dL_1107 dL_1108 dL_1109 dL_1110 ?_
  refine l_arg h hi 2 (by decide) dL_1111 dL_1112 dL_1113 dL_1114 dL_1115 ?_
  refine l_C (As := [.int (iI (az xs i 1)), .int (iI (az xs i 2))]) (rest := []) h dL_1116 m_ml_L_154 m_im_X6_hold m_se_X6_hold rfl (by decide) rfl rfl rfl (c_X6_hold hs hI.1 (az_R _ _ _) (az_R _ _ _)) ?_
  refine l_a2 h dL_1119 ?_
  refine l_arg h hi 1 (by decide) dL_1120 dL_1121 dL_1122 dL_1123 dL_1124 ?_
  refine l_arg h hi 2 (by decide) dL_1125 dL_1126 dL_1127 dL_1128 dL_1129 ?_
  refine l_N (As := [.int (iI (az xs i 1)), .int (iI (az xs i 2))]) (rest := [_]) h dL_1130 m_ml_L_157 m_im_X7_hold m_se_X7_hold rfl (by decide) rfl rfl rfl (c_X7_hold hm hI.2 (az_R _ _ _) (az_R _ _ _)) ?_
  have w := w_hold (i := az xs i 1) (p := az xs i 2) hW hk
  exact l_eq h dL_1133 rfl w.1 (kk _ _ w.2 (F_hold hF))
theorem dL_1138 : decode code 1138 = .ok (.aload_n 1, 1) := by decide +kernel
theorem dL_1139 : decode code 1139 = .ok (.aload_n 0, 1) := by decide +kernel
theorem dL_1140 : decode code 1140 = .ok (.iload_n 3, 1) := by decide +kernel
theorem dL_1141 : decode code 1141 = .ok (.iconst 1, 1) := by decide +kernel
theorem dL_1142 : decode code 1142 = .ok (.iadd, 1) := by decide +kernel
theorem dL_1143 : decode code 1143 = .ok (.iaload, 1) := by decide +kernel
theorem dL_1144 : decode code 1144 = .ok (.aload_n 0, 1) := by decide +kernel
theorem dL_1145 : decode code 1145 = .ok (.iload_n 3, 1) := by decide +kernel
theorem dL_1146 : decode code 1146 = .ok (.iconst 2, 1) := by decide +kernel
theorem dL_1147 : decode code 1147 = .ok (.iadd, 1) := by decide +kernel
theorem dL_1148 : decode code 1148 = .ok (.iaload, 1) := by decide +kernel
theorem dL_1149 : decode code 1149 = .ok (.invokevirtual 158, 3) := by decide +kernel
theorem dL_1152 : decode code 1152 = .ok (.aload_n 2, 1) := by decide +kernel
theorem dL_1153 : decode code 1153 = .ok (.aload_n 0, 1) := by decide +kernel
theorem dL_1154 : decode code 1154 = .ok (.iload_n 3, 1) := by decide +kernel
theorem dL_1155 : decode code 1155 = .ok (.iconst 1, 1) := by decide +kernel
theorem dL_1156 : decode code 1156 = .ok (.iadd, 1) := by decide +kernel
theorem dL_1157 : decode code 1157 = .ok (.iaload, 1) := by decide +kernel
theorem dL_1158 : decode code 1158 = .ok (.aload_n 0, 1) := by decide +kernel
theorem dL_1159 : decode code 1159 = .ok (.iload_n 3, 1) := by decide +kernel
theorem dL_1160 : decode code 1160 = .ok (.iconst 2, 1) := by decide +kernel
theorem dL_1161 : decode code 1161 = .ok (.iadd, 1) := by decide +kernel
theorem dL_1162 : decode code 1162 = .ok (.iaload, 1) := by decide +kernel
theorem dL_1163 : decode code 1163 = .ok (.invokevirtual 161, 3) := by decide +kernel
theorem dL_1166 : decode code 1166 = .ok (.if_icmp .eq 285, 3) := by decide +kernel
set_option maxHeartbeats 800000 in
set_option maxRecDepth 100000 in
theorem L_35 (h : LOk ω ω' κ l b L xs ki vi kss) (hi : 0 ≤ i ∧ i + 6 ≤ (L : Int)) (hk : kI K) (hW : Wo K C N) (hF : Fc N) (kk : ∀ C' N', Wo (K + 100) C' N' → Fc N' → LW ω ω' κ b i 1451 [] C' N') : LW ω ω' κ b i 1138 [] C N := by
  refine l_xr fun hx _ => ?_
  have hI := hW.inv
  have hs := h.2.1.2.2.2.2.1
  have hm := h.2.2.1.2.2.2.2.1
  refine l_a1 h dL_1138 ?_
  refine l_arg h hi 1 (by decide) dL_1139 dL_1140 dL_1141 dL_1142 dL_1143 ?_
  refine l_arg h hi 2 (by decide) dL_1144 dL_1145 dL_1146 dL_1147 dL_1148 ?_
  refine l_C (As := [.int (iI (az xs i 1)), .int (iI (az xs i 2))]) (rest := []) h dL_1149 m_ml_L_158 m_im_X6_as m_se_X6_as rfl (by decide) rfl rfl rfl (c_X6_as hs hI.1 (az_R _ _ _) (az_R _ _ _) hW.sp) ?_
  refine l_a2 h dL_1152 ?_
  refine l_arg h hi 1 (by decide) dL_1153 dL_1154 dL_1155 dL_1156 dL_1157 ?_
  refine l_arg h hi 2 (by decide) dL_1158 dL_1159 dL_1160 dL_1161 dL_1162 ?_
  refine l_N (As := [.int (iI (az xs i 1)), .int (iI (az xs i 2))]) (rest := [_]) h dL_1163 m_ml_L_161 m_im_X7_as m_se_X7_as rfl (by decide) rfl rfl rfl (c_X7_as hm hI.2 hW.sp' (az_R _ _ _) (az_R _ _ _)) ?_
  have w := w_as (i := az xs i 1) (k := az xs i 2) hW hk
  exact l_eq h dL_1166 rfl w.1 (kk _ _ w.2 (F_as hF))
theorem dL_1171 : decode code 1171 = .ok (.aload_n 1, 1) := by decide +kernel
theorem dL_1172 : decode code 1172 = .ok (.aload_n 0, 1) := by decide +kernel
theorem dL_1173 : decode code 1173 = .ok (.iload_n 3, 1) := by decide +kernel
theorem dL_1174 : decode code 1174 = .ok (.iconst 1, 1) := by decide +kernel
theorem dL_1175 : decode code 1175 = .ok (.iadd, 1) := by decide +kernel
theorem dL_1176 : decode code 1176 = .ok (.iaload, 1) := by decide +kernel
theorem dL_1177 : decode code 1177 = .ok (.aload_n 0, 1) := by decide +kernel
theorem dL_1178 : decode code 1178 = .ok (.iload_n 3, 1) := by decide +kernel
theorem dL_1179 : decode code 1179 = .ok (.iconst 2, 1) := by decide +kernel
theorem dL_1180 : decode code 1180 = .ok (.iadd, 1) := by decide +kernel
theorem dL_1181 : decode code 1181 = .ok (.iaload, 1) := by decide +kernel
theorem dL_1182 : decode code 1182 = .ok (.aload_n 0, 1) := by decide +kernel
theorem dL_1183 : decode code 1183 = .ok (.iload_n 3, 1) := by decide +kernel
theorem dL_1184 : decode code 1184 = .ok (.iconst 3, 1) := by decide +kernel
theorem dL_1185 : decode code 1185 = .ok (.iadd, 1) := by decide +kernel
theorem dL_1186 : decode code 1186 = .ok (.iaload, 1) := by decide +kernel
theorem dL_1187 : decode code 1187 = .ok (.invokevirtual 162, 3) := by decide +kernel
theorem dL_1190 : decode code 1190 = .ok (.aload_n 2, 1) := by decide +kernel
theorem dL_1191 : decode code 1191 = .ok (.aload_n 0, 1) := by decide +kernel
theorem dL_1192 : decode code 1192 = .ok (.iload_n 3, 1) := by decide +kernel
theorem dL_1193 : decode code 1193 = .ok (.iconst 1, 1) := by decide +kernel
theorem dL_1194 : decode code 1194 = .ok (.iadd, 1) := by decide +kernel
theorem dL_1195 : decode code 1195 = .ok (.iaload, 1) := by decide +kernel
theorem dL_1196 : decode code 1196 = .ok (.aload_n 0, 1) := by decide +kernel
theorem dL_1197 : decode code 1197 = .ok (.iload_n 3, 1) := by decide +kernel
theorem dL_1198 : decode code 1198 = .ok (.iconst 2, 1) := by decide +kernel
theorem dL_1199 : decode code 1199 = .ok (.iadd, 1) := by decide +kernel
theorem dL_1200 : decode code 1200 = .ok (.iaload, 1) := by decide +kernel
theorem dL_1201 : decode code 1201 = .ok (.aload_n 0, 1) := by decide +kernel
theorem dL_1202 : decode code 1202 = .ok (.iload_n 3, 1) := by decide +kernel
theorem dL_1203 : decode code 1203 = .ok (.iconst 3, 1) := by decide +kernel
theorem dL_1204 : decode code 1204 = .ok (.iadd, 1) := by decide +kernel
theorem dL_1205 : decode code 1205 = .ok (.iaload, 1) := by decide +kernel
theorem dL_1206 : decode code 1206 = .ok (.invokevirtual 165, 3) := by decide +kernel
theorem dL_1209 : decode code 1209 = .ok (.if_icmp .eq 242, 3) := by decide +kernel
set_option maxHeartbeats 800000 in
set_option maxRecDepth 100000 in
theorem L_36 (h : LOk ω ω' κ l b L xs ki vi kss) (hi : 0 ≤ i ∧ i + 6 ≤ (L : Int)) (hk : kI K) (hW : Wo K C N) (hF : Fc N) (kk : ∀ C' N', Wo (K + 100) C' N' → Fc N' → LW ω ω' κ b i 1451 [] C' N') : LW ω ω' κ b i 1171 [] C N := by
  refine l_xr fun hx _ => ?_
  have hI := hW.inv
  have hs := h.2.1.2.2.2.2.1
  have hm := h.2.2.1.2.2.2.2.1
  refine l_a1 h dL_1171 ?_
  refine l_arg h hi 1 (by decide) dL_1172 dL_1173 dL_1174 dL_1175 dL_1176 ?_
  refine l_arg h hi 2 (by decide) dL_1177 dL_1178 dL_1179 dL_1180 dL_1181 ?_
  refine l_arg h hi 3 (by decide) dL_1182 dL_1183 dL_1184 dL_1185 dL_1186 ?_
  refine l_C (As := [.int (iI (az xs i 1)), .int (iI (az xs i 2)), .int (iI (az xs i 3))]) (rest := []) h dL_1187 m_ml_L_162 m_im_X6_sheet m_se_X6_sheet rfl (by decide) rfl rfl rfl (c_X6_sheet hs hI.1 (az_R _ _ _) (az_R _ _ _) (az_R _ _ _)) ?_
  refine l_a2 h dL_1190 ?_
  refine l_arg h hi 1 (by decide) dL_1191 dL_1192 dL_1193 dL_1194 dL_1195 ?_
  refine l_arg h hi 2 (by decide) dL_1196 dL_1197 dL_1198 dL_1199 dL_1200 ?_
  refine l_arg h hi 3 (by decide) dL_1201 dL_1202 dL_1203 dL_1204 dL_1205 ?_
  refine l_N (As := [.int (iI (az xs i 1)), .int (iI (az xs i 2)), .int (iI (az xs i 3))]) (rest := [_]) h dL_1206 m_ml_L_165 m_im_X7_sheet m_se_X7_sheet rfl (by decide) rfl rfl rfl (c_X7_sheet hm (az_R _ _ _) (az_R _ _ _) (az_R _ _ _)) ?_
  have w := w_sheet (s := az xs i 1) (b := az xs i 2) (n := az xs i 3) hW hk
  exact l_eq h dL_1209 rfl w.1 (kk _ _ w.2 (F_sheet hF))
theorem dL_1214 : decode code 1214 = .ok (.aload_n 1, 1) := by decide +kernel
theorem dL_1215 : decode code 1215 = .ok (.aload_n 0, 1) := by decide +kernel
theorem dL_1216 : decode code 1216 = .ok (.iload_n 3, 1) := by decide +kernel
theorem dL_1217 : decode code 1217 = .ok (.iconst 1, 1) := by decide +kernel
theorem dL_1218 : decode code 1218 = .ok (.iadd, 1) := by decide +kernel
theorem dL_1219 : decode code 1219 = .ok (.iaload, 1) := by decide +kernel
theorem dL_1220 : decode code 1220 = .ok (.aload_n 0, 1) := by decide +kernel
theorem dL_1221 : decode code 1221 = .ok (.iload_n 3, 1) := by decide +kernel
theorem dL_1222 : decode code 1222 = .ok (.iconst 2, 1) := by decide +kernel
theorem dL_1223 : decode code 1223 = .ok (.iadd, 1) := by decide +kernel
theorem dL_1224 : decode code 1224 = .ok (.iaload, 1) := by decide +kernel
theorem dL_1225 : decode code 1225 = .ok (.aload_n 0, 1) := by decide +kernel
theorem dL_1226 : decode code 1226 = .ok (.iload_n 3, 1) := by decide +kernel
theorem dL_1227 : decode code 1227 = .ok (.iconst 3, 1) := by decide +kernel
theorem dL_1228 : decode code 1228 = .ok (.iadd, 1) := by decide +kernel
theorem dL_1229 : decode code 1229 = .ok (.iaload, 1) := by decide +kernel
theorem dL_1230 : decode code 1230 = .ok (.invokevirtual 166, 3) := by decide +kernel
theorem dL_1233 : decode code 1233 = .ok (.aload_n 2, 1) := by decide +kernel
theorem dL_1234 : decode code 1234 = .ok (.aload_n 0, 1) := by decide +kernel
theorem dL_1235 : decode code 1235 = .ok (.iload_n 3, 1) := by decide +kernel
theorem dL_1236 : decode code 1236 = .ok (.iconst 1, 1) := by decide +kernel
theorem dL_1237 : decode code 1237 = .ok (.iadd, 1) := by decide +kernel
theorem dL_1238 : decode code 1238 = .ok (.iaload, 1) := by decide +kernel
theorem dL_1239 : decode code 1239 = .ok (.aload_n 0, 1) := by decide +kernel
theorem dL_1240 : decode code 1240 = .ok (.iload_n 3, 1) := by decide +kernel
theorem dL_1241 : decode code 1241 = .ok (.iconst 2, 1) := by decide +kernel
theorem dL_1242 : decode code 1242 = .ok (.iadd, 1) := by decide +kernel
theorem dL_1243 : decode code 1243 = .ok (.iaload, 1) := by decide +kernel
theorem dL_1244 : decode code 1244 = .ok (.aload_n 0, 1) := by decide +kernel
theorem dL_1245 : decode code 1245 = .ok (.iload_n 3, 1) := by decide +kernel
theorem dL_1246 : decode code 1246 = .ok (.iconst 3, 1) := by decide +kernel
theorem dL_1247 : decode code 1247 = .ok (.iadd, 1) := by decide +kernel
theorem dL_1248 : decode code 1248 = .ok (.iaload, 1) := by decide +kernel
theorem dL_1249 : decode code 1249 = .ok (.invokevirtual 169, 3) := by decide +kernel
theorem dL_1252 : decode code 1252 = .ok (.if_icmp .eq 199, 3) := by decide +kernel
set_option maxHeartbeats 800000 in
set_option maxRecDepth 100000 in
theorem L_37 (h : LOk ω ω' κ l b L xs ki vi kss) (hi : 0 ≤ i ∧ i + 6 ≤ (L : Int)) (hk : kI K) (hW : Wo K C N) (hF : Fc N) (kk : ∀ C' N', Wo (K + 100) C' N' → Fc N' → LW ω ω' κ b i 1451 [] C' N') : LW ω ω' κ b i 1214 [] C N := by
  refine l_xr fun hx _ => ?_
  have hI := hW.inv
  have hs := h.2.1.2.2.2.2.1
  have hm := h.2.2.1.2.2.2.2.1
  refine l_a1 h dL_1214 ?_
  refine l_arg h hi 1 (by decide) dL_1215 dL_1216 dL_1217 dL_1218 dL_1219 ?_
  refine l_arg h hi 2 (by decide) dL_1220 dL_1221 dL_1222 dL_1223 dL_1224 ?_
  refine l_arg h hi 3 (by decide) dL_1225 dL_1226 dL_1227 dL_1228 dL_1229 ?_
  refine l_C (As := [.int (iI (az xs i 1)), .int (iI (az xs i 2)), .int (iI (az xs i 3))]) (rest := []) h dL_1230 m_ml_L_166 m_im_X6_write m_se_X6_write rfl (by decide) rfl rfl rfl (c_X6_write hs hI.1 (az_R _ _ _) (az_R _ _ _) (az_R _ _ _)) ?_
  refine l_a2 h dL_1233 ?_
  refine l_arg h hi 1 (by decide) dL_1234 dL_1235 dL_1236 dL_1237 dL_1238 ?_
  refine l_arg h hi 2 (by decide) dL_1239 dL_1240 dL_1241 dL_1242 dL_1243 ?_
  refine l_arg h hi 3 (by decide) dL_1244 dL_1245 dL_1246 dL_1247 dL_1248 ?_
  refine l_N (As := [.int (iI (az xs i 1)), .int (iI (az xs i 2)), .int (iI (az xs i 3))]) (rest := [_]) h dL_1249 m_ml_L_169 m_im_X7_write m_se_X7_write rfl (by decide) rfl rfl rfl (c_X7_write hm hW.sz (az_R _ _ _) (az_R _ _ _) (az_R _ _ _)) ?_
  have w := w_write (s := az xs i 1) (i := az xs i 2) (v := az xs i 3) hW hk
  exact l_eq h dL_1252 rfl w.1 (kk _ _ w.2 (F_write hF))
theorem dL_1257 : decode code 1257 = .ok (.aload_n 1, 1) := by decide +kernel
theorem dL_1258 : decode code 1258 = .ok (.aload_n 0, 1) := by decide +kernel
theorem dL_1259 : decode code 1259 = .ok (.iload_n 3, 1) := by decide +kernel
theorem dL_1260 : decode code 1260 = .ok (.iconst 1, 1) := by decide +kernel
theorem dL_1261 : decode code 1261 = .ok (.iadd, 1) := by decide +kernel
theorem dL_1262 : decode code 1262 = .ok (.iaload, 1) := by decide +kernel
theorem dL_1263 : decode code 1263 = .ok (.aload_n 0, 1) := by decide +kernel
theorem dL_1264 : decode code 1264 = .ok (.iload_n 3, 1) := by decide +kernel
theorem dL_1265 : decode code 1265 = .ok (.iconst 2, 1) := by decide +kernel
theorem dL_1266 : decode code 1266 = .ok (.iadd, 1) := by decide +kernel
theorem dL_1267 : decode code 1267 = .ok (.iaload, 1) := by decide +kernel
theorem dL_1268 : decode code 1268 = .ok (.aload_n 0, 1) := by decide +kernel
theorem dL_1269 : decode code 1269 = .ok (.iload_n 3, 1) := by decide +kernel
theorem dL_1270 : decode code 1270 = .ok (.iconst 3, 1) := by decide +kernel
theorem dL_1271 : decode code 1271 = .ok (.iadd, 1) := by decide +kernel
theorem dL_1272 : decode code 1272 = .ok (.iaload, 1) := by decide +kernel
theorem dL_1273 : decode code 1273 = .ok (.aload_n 0, 1) := by decide +kernel
theorem dL_1274 : decode code 1274 = .ok (.iload_n 3, 1) := by decide +kernel
theorem dL_1275 : decode code 1275 = .ok (.iconst 4, 1) := by decide +kernel
theorem dL_1276 : decode code 1276 = .ok (.iadd, 1) := by decide +kernel
theorem dL_1277 : decode code 1277 = .ok (.iaload, 1) := by decide +kernel
theorem dL_1278 : decode code 1278 = .ok (.aload_n 0, 1) := by decide +kernel
theorem dL_1279 : decode code 1279 = .ok (.iload_n 3, 1) := by decide +kernel
theorem dL_1280 : decode code 1280 = .ok (.iconst 5, 1) := by decide +kernel
theorem dL_1281 : decode code 1281 = .ok (.iadd, 1) := by decide +kernel
theorem dL_1282 : decode code 1282 = .ok (.iaload, 1) := by decide +kernel
theorem dL_1283 : decode code 1283 = .ok (.invokevirtual 170, 3) := by decide +kernel
theorem dL_1286 : decode code 1286 = .ok (.aload_n 2, 1) := by decide +kernel
theorem dL_1287 : decode code 1287 = .ok (.aload_n 0, 1) := by decide +kernel
theorem dL_1288 : decode code 1288 = .ok (.iload_n 3, 1) := by decide +kernel
theorem dL_1289 : decode code 1289 = .ok (.iconst 1, 1) := by decide +kernel
theorem dL_1290 : decode code 1290 = .ok (.iadd, 1) := by decide +kernel
theorem dL_1291 : decode code 1291 = .ok (.iaload, 1) := by decide +kernel
theorem dL_1292 : decode code 1292 = .ok (.aload_n 0, 1) := by decide +kernel
theorem dL_1293 : decode code 1293 = .ok (.iload_n 3, 1) := by decide +kernel
theorem dL_1294 : decode code 1294 = .ok (.iconst 2, 1) := by decide +kernel
theorem dL_1295 : decode code 1295 = .ok (.iadd, 1) := by decide +kernel
theorem dL_1296 : decode code 1296 = .ok (.iaload, 1) := by decide +kernel
theorem dL_1297 : decode code 1297 = .ok (.aload_n 0, 1) := by decide +kernel
theorem dL_1298 : decode code 1298 = .ok (.iload_n 3, 1) := by decide +kernel
theorem dL_1299 : decode code 1299 = .ok (.iconst 3, 1) := by decide +kernel
theorem dL_1300 : decode code 1300 = .ok (.iadd, 1) := by decide +kernel
theorem dL_1301 : decode code 1301 = .ok (.iaload, 1) := by decide +kernel
theorem dL_1302 : decode code 1302 = .ok (.aload_n 0, 1) := by decide +kernel
theorem dL_1303 : decode code 1303 = .ok (.iload_n 3, 1) := by decide +kernel
theorem dL_1304 : decode code 1304 = .ok (.iconst 4, 1) := by decide +kernel
theorem dL_1305 : decode code 1305 = .ok (.iadd, 1) := by decide +kernel
theorem dL_1306 : decode code 1306 = .ok (.iaload, 1) := by decide +kernel
theorem dL_1307 : decode code 1307 = .ok (.aload_n 0, 1) := by decide +kernel
theorem dL_1308 : decode code 1308 = .ok (.iload_n 3, 1) := by decide +kernel
theorem dL_1309 : decode code 1309 = .ok (.iconst 5, 1) := by decide +kernel
theorem dL_1310 : decode code 1310 = .ok (.iadd, 1) := by decide +kernel
theorem dL_1311 : decode code 1311 = .ok (.iaload, 1) := by decide +kernel
theorem dL_1312 : decode code 1312 = .ok (.invokevirtual 174, 3) := by decide +kernel
theorem dL_1315 : decode code 1315 = .ok (.if_icmp .eq 136, 3) := by decide +kernel
set_option maxHeartbeats 800000 in
set_option maxRecDepth 100000 in
theorem L_38 (h : LOk ω ω' κ l b L xs ki vi kss) (hi : 0 ≤ i ∧ i + 6 ≤ (L : Int)) (hk : kI K) (hW : Wo K C N) (hF : Fc N) (kk : ∀ C' N', Wo (K + 100) C' N' → Fc N' → LW ω ω' κ b i 1451 [] C' N') : LW ω ω' κ b i 1257 [] C N := by
  refine l_xr fun hx _ => ?_
  have hI := hW.inv
  have hs := h.2.1.2.2.2.2.1
  have hm := h.2.2.1.2.2.2.2.1
  refine l_a1 h dL_1257 ?_
  refine l_arg h hi 1 (by decide) dL_1258 dL_1259 dL_1260 dL_1261 dL_1262 ?_
  refine l_arg h hi 2 (by decide) dL_1263 dL_1264 dL_1265 dL_1266 dL_1267 ?_
  refine l_arg h hi 3 (by decide) dL_1268 dL_1269 dL_1270 dL_1271 dL_1272 ?_
  refine l_arg h hi 4 (by decide) dL_1273 dL_1274 dL_1275 dL_1276 dL_1277 ?_
  refine l_arg h hi 5 (by decide) dL_1278 dL_1279 dL_1280 dL_1281 dL_1282 ?_
  refine l_C (As := [.int (iI (az xs i 1)), .int (iI (az xs i 2)), .int (iI (az xs i 3)), .int (iI (az xs i 4)), .int (iI (az xs i 5))]) (rest := []) h dL_1283 m_ml_L_170 m_im_X6_copy m_se_X6_copy rfl (by decide) rfl rfl rfl (c_X6_copy hs hI.1 (az_R _ _ _) (az_R _ _ _) (az_R _ _ _) (az_R _ _ _) (az_R _ _ _)) ?_
  refine l_a2 h dL_1286 ?_
  refine l_arg h hi 1 (by decide) dL_1287 dL_1288 dL_1289 dL_1290 dL_1291 ?_
  refine l_arg h hi 2 (by decide) dL_1292 dL_1293 dL_1294 dL_1295 dL_1296 ?_
  refine l_arg h hi 3 (by decide) dL_1297 dL_1298 dL_1299 dL_1300 dL_1301 ?_
  refine l_arg h hi 4 (by decide) dL_1302 dL_1303 dL_1304 dL_1305 dL_1306 ?_
  refine l_arg h hi 5 (by decide) dL_1307 dL_1308 dL_1309 dL_1310 dL_1311 ?_
  refine l_N (As := [.int (iI (az xs i 1)), .int (iI (az xs i 2)), .int (iI (az xs i 3)), .int (iI (az xs i 4)), .int (iI (az xs i 5))]) (rest := [_]) h dL_1312 m_ml_L_174 m_im_X7_copy m_se_X7_copy rfl (by decide) rfl rfl rfl (c_X7_copy hm hW.sz (az_R _ _ _) (az_R _ _ _) (az_R _ _ _) (az_R _ _ _) (az_R _ _ _)) ?_
  have w := w_copy (s := az xs i 1) (f := az xs i 2) (t := az xs i 3) (u := az xs i 4) (n := az xs i 5) hW hk
  exact l_eq h dL_1315 rfl w.1 (kk _ _ w.2 (F_copy hF))
end LL
