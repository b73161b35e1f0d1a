section LAWC
variable {X : JX} {l : Launch} {G : GB} {kc ks : Nat} {b L i k : Nat} {xs : Nat → Int32} {a h : Nat → Nat} {x y : Q3}
theorem w_wipe (E : JE X l G cL_law RL 4 13 484) (S : scr X b L xs) (hi : i + 5 < L) (hr : kc ≤ X.1.2.2.2.1.cells ∧ ks ≤ X.1.2.2.2.1.slots) (hp : PairI l G a h yX5_wipe cX5_wipe 2 yX6_wipe cX6_wipe 2 [] k x y) (K : ∀ x' y', Rel (k + 1) x' y' → J X G 4 kc ks (wC G a x' ++ wM G h y') (lvL b (a 0) (h 0) i) 1433 []) : J X G 4 kc ks (wC G a x ++ wM G h y) (lvL b (a 0) (h 0) i) 1061 [] := by
  obtain ⟨R, x', y', f1, l1, f2, l2, ⟨q1, q2, q3, q4⟩, hC, hM, r⟩ := hp
  refine J_aload_n E dL_law_1061 rfl 2 rfl ?_
  refine J_callVi E (As := []) (rest := []) (ci := 4) (q0 := 0) [] (wM G h y) hC cl_L_130 yo_X5_wipe dL_law_1062 rfl rfl rfl (by omega) (by omega) rfl (Nat.le_of_ble_eq_true rfl) rfl hr (fun v w1 e => ?_)
  obtain ⟨e1, x1, rfl, sx⟩ := e
  subst e1
  refine J_w (ws' := wC G a x1 ++ wM G h y) rfl ?_
  refine J_aload_n E dL_law_1065 rfl 1 rfl ?_
  refine J_callVi E (As := []) (rest := [.int v]) (ci := 5) (q0 := 0) (wC G a x1) [] hM cl_L_133 yo_X6_wipe dL_law_1066 rfl rfl rfl (by omega) (by omega) rfl (Nat.le_of_ble_eq_true rfl) (by rw [List.append_nil]) hr (fun u w2 e => ?_)
  obtain ⟨e2, y1, rfl, sy⟩ := e
  subst e2
  refine J_w (ws' := wC G a x1 ++ wM G h y1) (by rw [List.append_nil]) ?_
  exact J_icmp_eq E (tgt := 1433) dL_law_1069 (by decide) (fun _ => K x1 y1 (r.sh sx sy)) (fun z => absurd rfl z)
theorem w_text (E : JE X l G cL_law RL 4 13 484) (S : scr X b L xs) (hi : i + 5 < L) (hr : kc ≤ X.1.2.2.2.1.cells ∧ ks ≤ X.1.2.2.2.1.slots) (hp : PairI l G a h yX5_text cX5_text 2 yX6_text cX6_text 2 [] k x y) (K : ∀ x' y', Rel (k + 1) x' y' → J X G 4 kc ks (wC G a x' ++ wM G h y') (lvL b (a 0) (h 0) i) 1433 []) : J X G 4 kc ks (wC G a x ++ wM G h y) (lvL b (a 0) (h 0) i) 1074 [] := by
  obtain ⟨R, x', y', f1, l1, f2, l2, ⟨q1, q2, q3, q4⟩, hC, hM, r⟩ := hp
  refine J_aload_n E dL_law_1074 rfl 2 rfl ?_
  refine J_callVi E (As := []) (rest := []) (ci := 4) (q0 := 0) [] (wM G h y) hC cl_L_134 yo_X5_text dL_law_1075 rfl rfl rfl (by omega) (by omega) rfl (Nat.le_of_ble_eq_true rfl) rfl hr (fun v w1 e => ?_)
  obtain ⟨e1, x1, rfl, sx⟩ := e
  subst e1
  refine J_w (ws' := wC G a x1 ++ wM G h y) rfl ?_
  refine J_aload_n E dL_law_1078 rfl 1 rfl ?_
  refine J_callVi E (As := []) (rest := [.int v]) (ci := 5) (q0 := 0) (wC G a x1) [] hM cl_L_137 yo_X6_text dL_law_1079 rfl rfl rfl (by omega) (by omega) rfl (Nat.le_of_ble_eq_true rfl) (by rw [List.append_nil]) hr (fun u w2 e => ?_)
  obtain ⟨e2, y1, rfl, sy⟩ := e
  subst e2
  refine J_w (ws' := wC G a x1 ++ wM G h y1) (by rw [List.append_nil]) ?_
  exact J_icmp_eq E (tgt := 1433) dL_law_1082 (by decide) (fun _ => K x1 y1 (r.sh sx sy)) (fun z => absurd rfl z)
theorem w_hold (E : JE X l G cL_law RL 4 13 484) (S : scr X b L xs) (hi : i + 5 < L) (hr : kc ≤ X.1.2.2.2.1.cells ∧ ks ≤ X.1.2.2.2.1.slots) (hp : PairI l G a h yX5_hold cX5_hold 3 yX6_hold cX6_hold 3 [.int (xs (i + 1)), .int (xs (i + 2))] k x y) (K : ∀ x' y', Rel (k + 1) x' y' → J X G 4 kc ks (wC G a x' ++ wM G h y') (lvL b (a 0) (h 0) i) 1433 []) : J X G 4 kc ks (wC G a x ++ wM G h y) (lvL b (a 0) (h 0) i) 1087 [] := by
  obtain ⟨R, x', y', f1, l1, f2, l2, ⟨q1, q2, q3, q4⟩, hC, hM, r⟩ := hp
  refine J_aload_n E dL_law_1087 rfl 2 rfl ?_
  refine J_arg E S 1 (by omega) (by decide) dL_law_1088 dL_law_1089 dL_law_1090 dL_law_1091 dL_law_1092 ?_
  refine J_arg E S 2 (by omega) (by decide) dL_law_1093 dL_law_1094 dL_law_1095 dL_law_1096 dL_law_1097 ?_
  refine J_callVi E (As := [.int (xs (i + 1)), .int (xs (i + 2))]) (rest := []) (ci := 4) (q0 := 0) [] (wM G h y) hC cl_L_138 yo_X5_hold dL_law_1098 rfl rfl rfl (by omega) (by omega) rfl (Nat.le_of_ble_eq_true rfl) rfl hr (fun v w1 e => ?_)
  obtain ⟨e1, x1, rfl, sx⟩ := e
  subst e1
  refine J_w (ws' := wC G a x1 ++ wM G h y) rfl ?_
  refine J_aload_n E dL_law_1101 rfl 1 rfl ?_
  refine J_arg E S 1 (by omega) (by decide) dL_law_1102 dL_law_1103 dL_law_1104 dL_law_1105 dL_law_1106 ?_
  refine J_arg E S 2 (by omega) (by decide) dL_law_1107 dL_law_1108 dL_law_1109 dL_law_1110 dL_law_1111 ?_
  refine J_callVi E (As := [.int (xs (i + 1)), .int (xs (i + 2))]) (rest := [.int v]) (ci := 5) (q0 := 0) (wC G a x1) [] hM cl_L_141 yo_X6_hold dL_law_1112 rfl rfl rfl (by omega) (by omega) rfl (Nat.le_of_ble_eq_true rfl) (by rw [List.append_nil]) hr (fun u w2 e => ?_)
  obtain ⟨e2, y1, rfl, sy⟩ := e
  subst e2
  refine J_w (ws' := wC G a x1 ++ wM G h y1) (by rw [List.append_nil]) ?_
  exact J_icmp_eq E (tgt := 1433) dL_law_1115 (by decide) (fun _ => K x1 y1 (r.sh sx sy)) (fun z => absurd rfl z)
theorem w_as (E : JE X l G cL_law RL 4 13 484) (S : scr X b L xs) (hi : i + 5 < L) (hr : kc ≤ X.1.2.2.2.1.cells ∧ ks ≤ X.1.2.2.2.1.slots) (hp : PairI l G a h yX5_as cX5_as 4 yX6_as cX6_as 4 [.int (xs (i + 1)), .int (xs (i + 2))] k x y) (K : ∀ x' y', Rel (k + 1) x' y' → J X G 4 kc ks (wC G a x' ++ wM G h y') (lvL b (a 0) (h 0) i) 1433 []) : J X G 4 kc ks (wC G a x ++ wM G h y) (lvL b (a 0) (h 0) i) 1120 [] := by
  obtain ⟨R, x', y', f1, l1, f2, l2, ⟨q1, q2, q3, q4⟩, hC, hM, r⟩ := hp
  refine J_aload_n E dL_law_1120 rfl 2 rfl ?_
  refine J_arg E S 1 (by omega) (by decide) dL_law_1121 dL_law_1122 dL_law_1123 dL_law_1124 dL_law_1125 ?_
  refine J_arg E S 2 (by omega) (by decide) dL_law_1126 dL_law_1127 dL_law_1128 dL_law_1129 dL_law_1130 ?_
  refine J_callVi E (As := [.int (xs (i + 1)), .int (xs (i + 2))]) (rest := []) (ci := 4) (q0 := 0) [] (wM G h y) hC cl_L_142 yo_X5_as dL_law_1131 rfl rfl rfl (by omega) (by omega) rfl (Nat.le_of_ble_eq_true rfl) rfl hr (fun v w1 e => ?_)
  obtain ⟨e1, x1, rfl, sx⟩ := e
  subst e1
  refine J_w (ws' := wC G a x1 ++ wM G h y) rfl ?_
  refine J_aload_n E dL_law_1134 rfl 1 rfl ?_
  refine J_arg E S 1 (by omega) (by decide) dL_law_1135 dL_law_1136 dL_law_1137 dL_law_1138 dL_law_1139 ?_
  refine J_arg E S 2 (by omega) (by decide) dL_law_1140 dL_law_1141 dL_law_1142 dL_law_1143 dL_law_1144 ?_
  refine J_callVi E (As := [.int (xs (i + 1)), .int (xs (i + 2))]) (rest := [.int v]) (ci := 5) (q0 := 0) (wC G a x1) [] hM cl_L_145 yo_X6_as dL_law_1145 rfl rfl rfl (by omega) (by omega) rfl (Nat.le_of_ble_eq_true rfl) (by rw [List.append_nil]) hr (fun u w2 e => ?_)
  obtain ⟨e2, y1, rfl, sy⟩ := e
  subst e2
  refine J_w (ws' := wC G a x1 ++ wM G h y1) (by rw [List.append_nil]) ?_
  exact J_icmp_eq E (tgt := 1433) dL_law_1148 (by decide) (fun _ => K x1 y1 (r.sh sx sy)) (fun z => absurd rfl z)
theorem w_sheet (E : JE X l G cL_law RL 4 13 484) (S : scr X b L xs) (hi : i + 5 < L) (hr : kc ≤ X.1.2.2.2.1.cells ∧ ks ≤ X.1.2.2.2.1.slots) (hp : PairI l G a h yX5_sheet cX5_sheet 4 yX6_sheet cX6_sheet 6 [.int (xs (i + 1)), .int (xs (i + 2)), .int (xs (i + 3))] k x y) (K : ∀ x' y', Rel (k + 1) x' y' → J X G 4 kc ks (wC G a x' ++ wM G h y') (lvL b (a 0) (h 0) i) 1433 []) : J X G 4 kc ks (wC G a x ++ wM G h y) (lvL b (a 0) (h 0) i) 1153 [] := by
  obtain ⟨R, x', y', f1, l1, f2, l2, ⟨q1, q2, q3, q4⟩, hC, hM, r⟩ := hp
  refine J_aload_n E dL_law_1153 rfl 2 rfl ?_
  refine J_arg E S 1 (by omega) (by decide) dL_law_1154 dL_law_1155 dL_law_1156 dL_law_1157 dL_law_1158 ?_
  refine J_arg E S 2 (by omega) (by decide) dL_law_1159 dL_law_1160 dL_law_1161 dL_law_1162 dL_law_1163 ?_
  refine J_arg E S 3 (by omega) (by decide) dL_law_1164 dL_law_1165 dL_law_1166 dL_law_1167 dL_law_1168 ?_
  refine J_callVi E (As := [.int (xs (i + 1)), .int (xs (i + 2)), .int (xs (i + 3))]) (rest := []) (ci := 4) (q0 := 0) [] (wM G h y) hC cl_L_146 yo_X5_sheet dL_law_1169 rfl rfl rfl (by omega) (by omega) rfl (Nat.le_of_ble_eq_true rfl) rfl hr (fun v w1 e => ?_)
  obtain ⟨e1, x1, rfl, sx⟩ := e
  subst e1
  refine J_w (ws' := wC G a x1 ++ wM G h y) rfl ?_
  refine J_aload_n E dL_law_1172 rfl 1 rfl ?_
  refine J_arg E S 1 (by omega) (by decide) dL_law_1173 dL_law_1174 dL_law_1175 dL_law_1176 dL_law_1177 ?_
  refine J_arg E S 2 (by omega) (by decide) dL_law_1178 dL_law_1179 dL_law_1180 dL_law_1181 dL_law_1182 ?_
  refine J_arg E S 3 (by omega) (by decide) dL_law_1183 dL_law_1184 dL_law_1185 dL_law_1186 dL_law_1187 ?_
  refine J_callVi E (As := [.int (xs (i + 1)), .int (xs (i + 2)), .int (xs (i + 3))]) (rest := [.int v]) (ci := 5) (q0 := 0) (wC G a x1) [] hM cl_L_149 yo_X6_sheet dL_law_1188 rfl rfl rfl (by omega) (by omega) rfl (Nat.le_of_ble_eq_true rfl) (by rw [List.append_nil]) hr (fun u w2 e => ?_)
  obtain ⟨e2, y1, rfl, sy⟩ := e
  subst e2
  refine J_w (ws' := wC G a x1 ++ wM G h y1) (by rw [List.append_nil]) ?_
  exact J_icmp_eq E (tgt := 1433) dL_law_1191 (by decide) (fun _ => K x1 y1 (r.sh sx sy)) (fun z => absurd rfl z)
theorem w_write (E : JE X l G cL_law RL 4 13 484) (S : scr X b L xs) (hi : i + 5 < L) (hr : kc ≤ X.1.2.2.2.1.cells ∧ ks ≤ X.1.2.2.2.1.slots) (hp : PairI l G a h yX5_write cX5_write 5 yX6_write cX6_write 5 [.int (xs (i + 1)), .int (xs (i + 2)), .int (xs (i + 3))] k x y) (K : ∀ x' y', Rel (k + 1) x' y' → J X G 4 kc ks (wC G a x' ++ wM G h y') (lvL b (a 0) (h 0) i) 1433 []) : J X G 4 kc ks (wC G a x ++ wM G h y) (lvL b (a 0) (h 0) i) 1196 [] := by
  obtain ⟨R, x', y', f1, l1, f2, l2, ⟨q1, q2, q3, q4⟩, hC, hM, r⟩ := hp
  refine J_aload_n E dL_law_1196 rfl 2 rfl ?_
  refine J_arg E S 1 (by omega) (by decide) dL_law_1197 dL_law_1198 dL_law_1199 dL_law_1200 dL_law_1201 ?_
  refine J_arg E S 2 (by omega) (by decide) dL_law_1202 dL_law_1203 dL_law_1204 dL_law_1205 dL_law_1206 ?_
  refine J_arg E S 3 (by omega) (by decide) dL_law_1207 dL_law_1208 dL_law_1209 dL_law_1210 dL_law_1211 ?_
  refine J_callVi E (As := [.int (xs (i + 1)), .int (xs (i + 2)), .int (xs (i + 3))]) (rest := []) (ci := 4) (q0 := 0) [] (wM G h y) hC cl_L_150 yo_X5_write dL_law_1212 rfl rfl rfl (by omega) (by omega) rfl (Nat.le_of_ble_eq_true rfl) rfl hr (fun v w1 e => ?_)
  obtain ⟨e1, x1, rfl, sx⟩ := e
  subst e1
  refine J_w (ws' := wC G a x1 ++ wM G h y) rfl ?_
  refine J_aload_n E dL_law_1215 rfl 1 rfl ?_
  refine J_arg E S 1 (by omega) (by decide) dL_law_1216 dL_law_1217 dL_law_1218 dL_law_1219 dL_law_1220 ?_
  refine J_arg E S 2 (by omega) (by decide) dL_law_1221 dL_law_1222 dL_law_1223 dL_law_1224 dL_law_1225 ?_
  refine J_arg E S 3 (by omega) (by decide) dL_law_1226 dL_law_1227 dL_law_1228 dL_law_1229 dL_law_1230 ?_
  refine J_callVi E (As := [.int (xs (i + 1)), .int (xs (i + 2)), .int (xs (i + 3))]) (rest := [.int v]) (ci := 5) (q0 := 0) (wC G a x1) [] hM cl_L_153 yo_X6_write dL_law_1231 rfl rfl rfl (by omega) (by omega) rfl (Nat.le_of_ble_eq_true rfl) (by rw [List.append_nil]) hr (fun u w2 e => ?_)
  obtain ⟨e2, y1, rfl, sy⟩ := e
  subst e2
  refine J_w (ws' := wC G a x1 ++ wM G h y1) (by rw [List.append_nil]) ?_
  exact J_icmp_eq E (tgt := 1433) dL_law_1234 (by decide) (fun _ => K x1 y1 (r.sh sx sy)) (fun z => absurd rfl z)
theorem w_copy (E : JE X l G cL_law RL 4 13 484) (S : scr X b L xs) (hi : i + 5 < L) (hr : kc ≤ X.1.2.2.2.1.cells ∧ ks ≤ X.1.2.2.2.1.slots) (hp : PairI l G a h yX5_copy cX5_copy 8 yX6_copy cX6_copy 8 [.int (xs (i + 1)), .int (xs (i + 2)), .int (xs (i + 3)), .int (xs (i + 4)), .int (xs (i + 5))] k x y) (K : ∀ x' y', Rel (k + 1) x' y' → J X G 4 kc ks (wC G a x' ++ wM G h y') (lvL b (a 0) (h 0) i) 1433 []) : J X G 4 kc ks (wC G a x ++ wM G h y) (lvL b (a 0) (h 0) i) 1239 [] := by
  obtain ⟨R, x', y', f1, l1, f2, l2, ⟨q1, q2, q3, q4⟩, hC, hM, r⟩ := hp
  refine J_aload_n E dL_law_1239 rfl 2 rfl ?_
  refine J_arg E S 1 (by omega) (by decide) dL_law_1240 dL_law_1241 dL_law_1242 dL_law_1243 dL_law_1244 ?_
  refine J_arg E S 2 (by omega) (by decide) dL_law_1245 dL_law_1246 dL_law_1247 dL_law_1248 dL_law_1249 ?_
  refine J_arg E S 3 (by omega) (by decide) dL_law_1250 dL_law_1251 dL_law_1252 dL_law_1253 dL_law_1254 ?_
  refine J_arg E S 4 (by omega) (by decide) dL_law_1255 dL_law_1256 dL_law_1257 dL_law_1258 dL_law_1259 ?_
  refine J_arg E S 5 (by omega) (by decide) dL_law_1260 dL_law_1261 dL_law_1262 dL_law_1263 dL_law_1264 ?_
  refine J_callVi E (As := [.int (xs (i + 1)), .int (xs (i + 2)), .int (xs (i + 3)), .int (xs (i + 4)), .int (xs (i + 5))]) (rest := []) (ci := 4) (q0 := 0) [] (wM G h y) hC cl_L_154 yo_X5_copy dL_law_1265 rfl rfl rfl (by omega) (by omega) rfl (Nat.le_of_ble_eq_true rfl) rfl hr (fun v w1 e => ?_)
  obtain ⟨e1, x1, rfl, sx⟩ := e
  subst e1
  refine J_w (ws' := wC G a x1 ++ wM G h y) rfl ?_
  refine J_aload_n E dL_law_1268 rfl 1 rfl ?_
  refine J_arg E S 1 (by omega) (by decide) dL_law_1269 dL_law_1270 dL_law_1271 dL_law_1272 dL_law_1273 ?_
  refine J_arg E S 2 (by omega) (by decide) dL_law_1274 dL_law_1275 dL_law_1276 dL_law_1277 dL_law_1278 ?_
  refine J_arg E S 3 (by omega) (by decide) dL_law_1279 dL_law_1280 dL_law_1281 dL_law_1282 dL_law_1283 ?_
  refine J_arg E S 4 (by omega) (by decide) dL_law_1284 dL_law_1285 dL_law_1286 dL_law_1287 dL_law_1288 ?_
  refine J_arg E S 5 (by omega) (by decide) dL_law_1289 dL_law_1290 dL_law_1291 dL_law_1292 dL_law_1293 ?_
  refine J_callVi E (As := [.int (xs (i + 1)), .int (xs (i + 2)), .int (xs (i + 3)), .int (xs (i + 4)), .int (xs (i + 5))]) (rest := [.int v]) (ci := 5) (q0 := 0) (wC G a x1) [] hM cl_L_158 yo_X6_copy dL_law_1294 rfl rfl rfl (by omega) (by omega) rfl (Nat.le_of_ble_eq_true rfl) (by rw [List.append_nil]) hr (fun u w2 e => ?_)
  obtain ⟨e2, y1, rfl, sy⟩ := e
  subst e2
  refine J_w (ws' := wC G a x1 ++ wM G h y1) (by rw [List.append_nil]) ?_
  exact J_icmp_eq E (tgt := 1433) dL_law_1297 (by decide) (fun _ => K x1 y1 (r.sh sx sy)) (fun z => absurd rfl z)
theorem w_load (E : JE X l G cL_law RL 4 13 484) (S : scr X b L xs) (hi : i + 5 < L) (hr : kc ≤ X.1.2.2.2.1.cells ∧ ks ≤ X.1.2.2.2.1.slots) (hp : PairI l G a h yX5_load cX5_load 4 yX6_load cX6_load 4 [.int (xs (i + 1))] k x y) (K : ∀ x' y', Rel (k + 1) x' y' → J X G 4 kc ks (wC G a x' ++ wM G h y') (lvL b (a 0) (h 0) i) 1433 []) : J X G 4 kc ks (wC G a x ++ wM G h y) (lvL b (a 0) (h 0) i) 1302 [] := by
  obtain ⟨R, x', y', f1, l1, f2, l2, ⟨q1, q2, q3, q4⟩, hC, hM, r⟩ := hp
  refine J_aload_n E dL_law_1302 rfl 2 rfl ?_
  refine J_arg E S 1 (by omega) (by decide) dL_law_1303 dL_law_1304 dL_law_1305 dL_law_1306 dL_law_1307 ?_
  refine J_callVi E (As := [.int (xs (i + 1))]) (rest := []) (ci := 4) (q0 := 0) [] (wM G h y) hC cl_L_159 yo_X5_load dL_law_1308 rfl rfl rfl (by omega) (by omega) rfl (Nat.le_of_ble_eq_true rfl) rfl hr (fun v w1 e => ?_)
  obtain ⟨e1, x1, rfl, sx⟩ := e
  subst e1
  refine J_w (ws' := wC G a x1 ++ wM G h y) rfl ?_
  refine J_aload_n E dL_law_1311 rfl 1 rfl ?_
  refine J_arg E S 1 (by omega) (by decide) dL_law_1312 dL_law_1313 dL_law_1314 dL_law_1315 dL_law_1316 ?_
  refine J_callVi E (As := [.int (xs (i + 1))]) (rest := [.int v]) (ci := 5) (q0 := 0) (wC G a x1) [] hM cl_L_162 yo_X6_load dL_law_1317 rfl rfl rfl (by omega) (by omega) rfl (Nat.le_of_ble_eq_true rfl) (by rw [List.append_nil]) hr (fun u w2 e => ?_)
  obtain ⟨e2, y1, rfl, sy⟩ := e
  subst e2
  refine J_w (ws' := wC G a x1 ++ wM G h y1) (by rw [List.append_nil]) ?_
  exact J_icmp_eq E (tgt := 1433) dL_law_1320 (by decide) (fun _ => K x1 y1 (r.sh sx sy)) (fun z => absurd rfl z)
theorem w_judge (E : JE X l G cL_law RL 4 13 484) (S : scr X b L xs) (hi : i + 5 < L) (hr : kc ≤ X.1.2.2.2.1.cells ∧ ks ≤ X.1.2.2.2.1.slots) (hp : PairI l G a h yX5_judge cX5_judge 5 yX6_judge cX6_judge 4 [.int (xs (i + 1))] k x y) (K : ∀ x' y', Rel (k + 1) x' y' → J X G 4 kc ks (wC G a x' ++ wM G h y') (lvL b (a 0) (h 0) i) 1433 []) : J X G 4 kc ks (wC G a x ++ wM G h y) (lvL b (a 0) (h 0) i) 1325 [] := by
  obtain ⟨R, x', y', f1, l1, f2, l2, ⟨q1, q2, q3, q4⟩, hC, hM, r⟩ := hp
  refine J_aload_n E dL_law_1325 rfl 2 rfl ?_
  refine J_arg E S 1 (by omega) (by decide) dL_law_1326 dL_law_1327 dL_law_1328 dL_law_1329 dL_law_1330 ?_
  refine J_callVi E (As := [.int (xs (i + 1))]) (rest := []) (ci := 4) (q0 := 0) [] (wM G h y) hC cl_L_163 yo_X5_judge dL_law_1331 rfl rfl rfl (by omega) (by omega) rfl (Nat.le_of_ble_eq_true rfl) rfl hr (fun v w1 e => ?_)
  obtain ⟨e1, x1, rfl, sx⟩ := e
  subst e1
  refine J_w (ws' := wC G a x1 ++ wM G h y) rfl ?_
  refine J_aload_n E dL_law_1334 rfl 1 rfl ?_
  refine J_arg E S 1 (by omega) (by decide) dL_law_1335 dL_law_1336 dL_law_1337 dL_law_1338 dL_law_1339 ?_
  refine J_callVi E (As := [.int (xs (i + 1))]) (rest := [.int v]) (ci := 5) (q0 := 0) (wC G a x1) [] hM cl_L_166 yo_X6_judge dL_law_1340 rfl rfl rfl (by omega) (by omega) rfl (Nat.le_of_ble_eq_true rfl) (by rw [List.append_nil]) hr (fun u w2 e => ?_)
  obtain ⟨e2, y1, rfl, sy⟩ := e
  subst e2
  refine J_w (ws' := wC G a x1 ++ wM G h y1) (by rw [List.append_nil]) ?_
  exact J_icmp_eq E (tgt := 1433) dL_law_1343 (by decide) (fun _ => K x1 y1 (r.sh sx sy)) (fun z => absurd rfl z)
theorem w_image (E : JE X l G cL_law RL 4 13 484) (S : scr X b L xs) (hi : i + 5 < L) (hr : kc ≤ X.1.2.2.2.1.cells ∧ ks ≤ X.1.2.2.2.1.slots) (hp : PairI l G a h yX5_image cX5_image 1 yX6_image cX6_image 1 [] k x y) (K : ∀ x' y', Rel (k + 1) x' y' → J X G 4 kc ks (wC G a x' ++ wM G h y') (lvL b (a 0) (h 0) i) 1433 []) : J X G 4 kc ks (wC G a x ++ wM G h y) (lvL b (a 0) (h 0) i) 1348 [] := by
  obtain ⟨R, x', y', f1, l1, f2, l2, ⟨q1, q2, q3, q4⟩, hC, hM, r⟩ := hp
  refine J_aload_n E dL_law_1348 rfl 2 rfl ?_
  refine J_callVi E (As := []) (rest := []) (ci := 4) (q0 := 0) [] (wM G h y) hC cl_L_167 yo_X5_image dL_law_1349 rfl rfl rfl (by omega) (by omega) rfl (Nat.le_of_ble_eq_true rfl) rfl hr (fun v w1 e => ?_)
  obtain ⟨e1, x1, rfl, sx⟩ := e
  subst e1
  refine J_w (ws' := wC G a x1 ++ wM G h y) rfl ?_
  refine J_aload_n E dL_law_1352 rfl 1 rfl ?_
  refine J_callVi E (As := []) (rest := [.int v]) (ci := 5) (q0 := 0) (wC G a x1) [] hM cl_L_170 yo_X6_image dL_law_1353 rfl rfl rfl (by omega) (by omega) rfl (Nat.le_of_ble_eq_true rfl) (by rw [List.append_nil]) hr (fun u w2 e => ?_)
  obtain ⟨e2, y1, rfl, sy⟩ := e
  subst e2
  refine J_w (ws' := wC G a x1 ++ wM G h y1) (by rw [List.append_nil]) ?_
  exact J_icmp_eq E (tgt := 1433) dL_law_1356 (by decide) (fun _ => K x1 y1 (r.sh sx sy)) (fun z => absurd rfl z)
theorem w_undo (E : JE X l G cL_law RL 4 13 484) (S : scr X b L xs) (hi : i + 5 < L) (hr : kc ≤ X.1.2.2.2.1.cells ∧ ks ≤ X.1.2.2.2.1.slots) (hp : PairI l G a h yX5_undo cX5_undo 1 yX6_undo cX6_undo 1 [] k x y) (K : ∀ x' y', Rel (k + 1) x' y' → J X G 4 kc ks (wC G a x' ++ wM G h y') (lvL b (a 0) (h 0) i) 1433 []) : J X G 4 kc ks (wC G a x ++ wM G h y) (lvL b (a 0) (h 0) i) 1361 [] := by
  obtain ⟨R, x', y', f1, l1, f2, l2, ⟨q1, q2, q3, q4⟩, hC, hM, r⟩ := hp
  refine J_aload_n E dL_law_1361 rfl 2 rfl ?_
  refine J_callVi E (As := []) (rest := []) (ci := 4) (q0 := 0) [] (wM G h y) hC cl_L_171 yo_X5_undo dL_law_1362 rfl rfl rfl (by omega) (by omega) rfl (Nat.le_of_ble_eq_true rfl) rfl hr (fun v w1 e => ?_)
  obtain ⟨e1, x1, rfl, sx⟩ := e
  subst e1
  refine J_w (ws' := wC G a x1 ++ wM G h y) rfl ?_
  refine J_aload_n E dL_law_1365 rfl 1 rfl ?_
  refine J_callVi E (As := []) (rest := [.int v]) (ci := 5) (q0 := 0) (wC G a x1) [] hM cl_L_174 yo_X6_undo dL_law_1366 rfl rfl rfl (by omega) (by omega) rfl (Nat.le_of_ble_eq_true rfl) (by rw [List.append_nil]) hr (fun u w2 e => ?_)
  obtain ⟨e2, y1, rfl, sy⟩ := e
  subst e2
  refine J_w (ws' := wC G a x1 ++ wM G h y1) (by rw [List.append_nil]) ?_
  exact J_icmp_eq E (tgt := 1433) dL_law_1369 (by decide) (fun _ => K x1 y1 (r.sh sx sy)) (fun z => absurd rfl z)
theorem w_tear (E : JE X l G cL_law RL 4 13 484) (S : scr X b L xs) (hi : i + 5 < L) (hr : kc ≤ X.1.2.2.2.1.cells ∧ ks ≤ X.1.2.2.2.1.slots) (hp : PairI l G a h yX5_tear cX5_tear 2 yX6_tear cX6_tear 2 [] k x y) (K : ∀ x' y', Rel (k + 1) x' y' → J X G 4 kc ks (wC G a x' ++ wM G h y') (lvL b (a 0) (h 0) i) 1433 []) : J X G 4 kc ks (wC G a x ++ wM G h y) (lvL b (a 0) (h 0) i) 1374 [] := by
  obtain ⟨R, x', y', f1, l1, f2, l2, ⟨q1, q2, q3, q4⟩, hC, hM, r⟩ := hp
  refine J_aload_n E dL_law_1374 rfl 2 rfl ?_
  refine J_callVi E (As := []) (rest := []) (ci := 4) (q0 := 0) [] (wM G h y) hC cl_L_175 yo_X5_tear dL_law_1375 rfl rfl rfl (by omega) (by omega) rfl (Nat.le_of_ble_eq_true rfl) rfl hr (fun v w1 e => ?_)
  obtain ⟨e1, x1, rfl, sx⟩ := e
  subst e1
  refine J_w (ws' := wC G a x1 ++ wM G h y) rfl ?_
  refine J_aload_n E dL_law_1378 rfl 1 rfl ?_
  refine J_callVi E (As := []) (rest := [.int v]) (ci := 5) (q0 := 0) (wC G a x1) [] hM cl_L_178 yo_X6_tear dL_law_1379 rfl rfl rfl (by omega) (by omega) rfl (Nat.le_of_ble_eq_true rfl) (by rw [List.append_nil]) hr (fun u w2 e => ?_)
  obtain ⟨e2, y1, rfl, sy⟩ := e
  subst e2
  refine J_w (ws' := wC G a x1 ++ wM G h y1) (by rw [List.append_nil]) ?_
  exact J_icmp_eq E (tgt := 1433) dL_law_1382 (by decide) (fun _ => K x1 y1 (r.sh sx sy)) (fun z => absurd rfl z)
theorem w_count (E : JE X l G cL_law RL 4 13 484) (S : scr X b L xs) (hi : i + 5 < L) (hr : kc ≤ X.1.2.2.2.1.cells ∧ ks ≤ X.1.2.2.2.1.slots) (hp : PairI l G a h yX5_count cX5_count 2 yX6_count cX6_count 2 [.int (xs (i + 1))] k x y) (K : ∀ x' y', Rel (k + 1) x' y' → J X G 4 kc ks (wC G a x' ++ wM G h y') (lvL b (a 0) (h 0) i) 1433 []) : J X G 4 kc ks (wC G a x ++ wM G h y) (lvL b (a 0) (h 0) i) 1387 [] := by
  obtain ⟨R, x', y', f1, l1, f2, l2, ⟨q1, q2, q3, q4⟩, hC, hM, r⟩ := hp
  refine J_aload_n E dL_law_1387 rfl 2 rfl ?_
  refine J_arg E S 1 (by omega) (by decide) dL_law_1388 dL_law_1389 dL_law_1390 dL_law_1391 dL_law_1392 ?_
  refine J_callVi E (As := [.int (xs (i + 1))]) (rest := []) (ci := 4) (q0 := 0) [] (wM G h y) hC cl_L_179 yo_X5_count dL_law_1393 rfl rfl rfl (by omega) (by omega) rfl (Nat.le_of_ble_eq_true rfl) rfl hr (fun v w1 e => ?_)
  obtain ⟨e1, x1, rfl, sx⟩ := e
  subst e1
  refine J_w (ws' := wC G a x1 ++ wM G h y) rfl ?_
  refine J_aload_n E dL_law_1396 rfl 1 rfl ?_
  refine J_arg E S 1 (by omega) (by decide) dL_law_1397 dL_law_1398 dL_law_1399 dL_law_1400 dL_law_1401 ?_
  refine J_callVi E (As := [.int (xs (i + 1))]) (rest := [.int v]) (ci := 5) (q0 := 0) (wC G a x1) [] hM cl_L_182 yo_X6_count dL_law_1402 rfl rfl rfl (by omega) (by omega) rfl (Nat.le_of_ble_eq_true rfl) (by rw [List.append_nil]) hr (fun u w2 e => ?_)
  obtain ⟨e2, y1, rfl, sy⟩ := e
  subst e2
  refine J_w (ws' := wC G a x1 ++ wM G h y1) (by rw [List.append_nil]) ?_
  exact J_icmp_eq E (tgt := 1433) dL_law_1405 (by decide) (fun _ => K x1 y1 (r.sh sx sy)) (fun z => absurd rfl z)
theorem w_status (E : JE X l G cL_law RL 4 13 484) (S : scr X b L xs) (hi : i + 5 < L) (hr : kc ≤ X.1.2.2.2.1.cells ∧ ks ≤ X.1.2.2.2.1.slots) (hp : PairI l G a h yX5_status cX5_status 4 yX6_status cX6_status 4 [.int (xs (i + 1))] k x y) (K : ∀ x' y', Rel (k + 1) x' y' → J X G 4 kc ks (wC G a x' ++ wM G h y') (lvL b (a 0) (h 0) i) 1433 []) : J X G 4 kc ks (wC G a x ++ wM G h y) (lvL b (a 0) (h 0) i) 1410 [] := by
  obtain ⟨R, x', y', f1, l1, f2, l2, ⟨q1, q2, q3, q4⟩, hC, hM, r⟩ := hp
  refine J_aload_n E dL_law_1410 rfl 2 rfl ?_
  refine J_arg E S 1 (by omega) (by decide) dL_law_1411 dL_law_1412 dL_law_1413 dL_law_1414 dL_law_1415 ?_
  refine J_callVi E (As := [.int (xs (i + 1))]) (rest := []) (ci := 4) (q0 := 0) [] (wM G h y) hC cl_L_183 yo_X5_status dL_law_1416 rfl rfl rfl (by omega) (by omega) rfl (Nat.le_of_ble_eq_true rfl) rfl hr (fun v w1 e => ?_)
  obtain ⟨e1, x1, rfl, sx⟩ := e
  subst e1
  refine J_w (ws' := wC G a x1 ++ wM G h y) rfl ?_
  refine J_aload_n E dL_law_1419 rfl 1 rfl ?_
  refine J_arg E S 1 (by omega) (by decide) dL_law_1420 dL_law_1421 dL_law_1422 dL_law_1423 dL_law_1424 ?_
  refine J_callVi E (As := [.int (xs (i + 1))]) (rest := [.int v]) (ci := 5) (q0 := 0) (wC G a x1) [] hM cl_L_186 yo_X6_status dL_law_1425 rfl rfl rfl (by omega) (by omega) rfl (Nat.le_of_ble_eq_true rfl) (by rw [List.append_nil]) hr (fun u w2 e => ?_)
  obtain ⟨e2, y1, rfl, sy⟩ := e
  subst e2
  refine J_w (ws' := wC G a x1 ++ wM G h y1) (by rw [List.append_nil]) ?_
  exact J_icmp_eq E (tgt := 1433) dL_law_1428 (by decide) (fun _ => K x1 y1 (r.sh sx sy)) (fun z => absurd rfl z)
end LAWC
