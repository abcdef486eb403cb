section LAW3
variable {L : Nat} {xs : Nat → Int32} {QQ : QE} {cells slots i : Nat} {hi : HI}
theorem case_sum (hL : L ≤ 3072) (h6 : i + 6 ≤ L) (hc : cells + 1 ≤ 601024 ∧ slots + 6 ≤ 7293034) (r : LwR hi) (tl : Tail L xs QQ cells slots i) : ZG kLaw (eeW L xs) QQ cells slots 1078 (lvL i) [] hi := by
  refine zg_aload_n (pc := 1078) (x := 1) dL_law_1078 rfl 3 rfl ?_
  refine zg_rd (pc := 1079) (j := 1) hL h6 (by decide) dL_law_1079 dL_law_1080 dL_law_1082 dL_law_1083 dL_law_1084 ?_
  refine zg_rd (pc := 1085) (j := 2) hL h6 (by decide) dL_law_1085 dL_law_1086 dL_law_1088 dL_law_1089 dL_law_1090 ?_
  refine zg_rd (pc := 1091) (j := 3) hL h6 (by decide) dL_law_1091 dL_law_1092 dL_law_1094 dL_law_1095 dL_law_1096 ?_
  refine zg_callV (pc := 1097) (kc := kX7_sum) (n := 3) (pl := 0) (ci := 6) (As := [AI (X5 xs i 1), AI (X5 xs i 2), AI (X5 xs i 3)]) (stk := []) ct_X7_sum (good_x (gdV (k := k0Law) rfl rfl (iw46 _ (List.mem_of_getElem? (i := 18) rfl)) (iw46 _ (List.mem_of_getElem? (i := 19) rfl)) (iw46 _ (List.mem_of_getElem? (i := 20) rfl)) (iw1 _ (List.mem_of_getElem? (i := 2) rfl)) (iw46 _ (List.mem_of_getElem? (i := 21) rfl)))) rfl ⟨rfl, rfl⟩ (by decide +kernel) ⟨Nat.le_of_ble_eq_true rfl, Nat.le_of_ble_eq_true rfl⟩ ⟨by show cells + 0 ≤ 601024; omega, by show slots + 0 ≤ 7293034; omega⟩ (by decide) rfl rfl dL_law_1097 rfl rfl (Nat.le_of_ble_eq_true rfl) ?_
  refine ⟨_, _, _, rfl, ⟨r.1.1.1.1, toInt_inR _, toInt_inR _, toInt_inR _⟩, fun v hv => ?_⟩
  show ZG kLaw (eeW L xs) QQ cells slots 1100 (lvL i) [AI v] hi
  have mx : MX hi := r.1.2.1
  refine zg_aload_n (pc := 1100) (x := 40) dL_law_1100 rfl 2 rfl ?_
  refine zg_rd (pc := 1101) (j := 1) hL h6 (by decide) dL_law_1101 dL_law_1102 dL_law_1104 dL_law_1105 dL_law_1106 ?_
  refine zg_rd (pc := 1107) (j := 2) hL h6 (by decide) dL_law_1107 dL_law_1108 dL_law_1110 dL_law_1111 dL_law_1112 ?_
  refine zg_rd (pc := 1113) (j := 3) hL h6 (by decide) dL_law_1113 dL_law_1114 dL_law_1116 dL_law_1117 dL_law_1118 ?_
  refine zg_callV (pc := 1119) (kc := kX8_sum) (n := 3) (pl := 39) (ci := 7) (As := [AI (X5 xs i 1), AI (X5 xs i 2), AI (X5 xs i 3)]) (stk := [AI v]) ct_X8_sum (good_x (gdV (k := k0Law) rfl rfl (iw46 _ (List.mem_of_getElem? (i := 23) rfl)) (iw47 _ (List.mem_of_getElem? (i := 0) rfl)) (iw47 _ (List.mem_of_getElem? (i := 1) rfl)) (iw1 _ (List.mem_of_getElem? (i := 5) rfl)) (iw47 _ (List.mem_of_getElem? (i := 2) rfl)))) rfl ⟨rfl, rfl⟩ (by decide +kernel) ⟨Nat.le_of_ble_eq_true rfl, Nat.le_of_ble_eq_true rfl⟩ ⟨by show cells + 0 ≤ 601024; omega, by show slots + 0 ≤ 7293034; omega⟩ (by decide) rfl rfl dL_law_1119 rfl rfl (Nat.le_of_ble_eq_true rfl) ?_
  refine ⟨_, _, _, rfl, ⟨mx.1.1, toInt_inR _, toInt_inR _, toInt_inR _⟩, fun u h2 hu => ?_⟩
  show ZG kLaw (eeW L xs) QQ cells slots 1122 (lvL i) [AI u, AI v] h2
  obtain ⟨e, r2⟩ := act_sum r hv hu.2
  refine zg_same (pc := 1122) (tgt := 1485) dL_law_1122 (by decide) e ?_
  exact tl h2 cells slots r2 (Nat.le_succ _) (Nat.le_add_right _ _)
theorem case_gap (hL : L ≤ 3072) (h6 : i + 6 ≤ L) (hc : cells + 1 ≤ 601024 ∧ slots + 6 ≤ 7293034) (r : LwR hi) (tl : Tail L xs QQ cells slots i) : ZG kLaw (eeW L xs) QQ cells slots 1127 (lvL i) [] hi := by
  refine zg_aload_n (pc := 1127) (x := 1) dL_law_1127 rfl 3 rfl ?_
  refine zg_rd (pc := 1128) (j := 1) hL h6 (by decide) dL_law_1128 dL_law_1129 dL_law_1131 dL_law_1132 dL_law_1133 ?_
  refine zg_callV (pc := 1134) (kc := kX7_gap) (n := 1) (pl := 0) (ci := 6) (As := [AI (X5 xs i 1)]) (stk := []) ct_X7_gap (good_x (gdV (k := k0Law) rfl rfl (iw47 _ (List.mem_of_getElem? (i := 3) rfl)) (iw47 _ (List.mem_of_getElem? (i := 4) rfl)) (iw47 _ (List.mem_of_getElem? (i := 5) rfl)) (iw1 _ (List.mem_of_getElem? (i := 2) rfl)) (iw47 _ (List.mem_of_getElem? (i := 6) rfl)))) rfl ⟨rfl, rfl⟩ (by decide +kernel) ⟨Nat.le_of_ble_eq_true rfl, Nat.le_of_ble_eq_true rfl⟩ ⟨by show cells + 0 ≤ 601024; omega, by show slots + 0 ≤ 7293034; omega⟩ (by decide) rfl rfl dL_law_1134 rfl rfl (Nat.le_of_ble_eq_true rfl) ?_
  refine ⟨_, rfl, ⟨r.1.1.1.1, toInt_inR _⟩, fun v hv => ?_⟩
  show ZG kLaw (eeW L xs) QQ cells slots 1137 (lvL i) [AI v] hi
  have mx : MX hi := r.1.2.1
  refine zg_aload_n (pc := 1137) (x := 40) dL_law_1137 rfl 2 rfl ?_
  refine zg_rd (pc := 1138) (j := 1) hL h6 (by decide) dL_law_1138 dL_law_1139 dL_law_1141 dL_law_1142 dL_law_1143 ?_
  refine zg_callV (pc := 1144) (kc := kX8_gap) (n := 1) (pl := 39) (ci := 7) (As := [AI (X5 xs i 1)]) (stk := [AI v]) ct_X8_gap (good_x (gdV (k := k0Law) rfl rfl (iw47 _ (List.mem_of_getElem? (i := 7) rfl)) (iw47 _ (List.mem_of_getElem? (i := 8) rfl)) (iw47 _ (List.mem_of_getElem? (i := 9) rfl)) (iw1 _ (List.mem_of_getElem? (i := 5) rfl)) (iw47 _ (List.mem_of_getElem? (i := 10) rfl)))) rfl ⟨rfl, rfl⟩ (by decide +kernel) ⟨Nat.le_of_ble_eq_true rfl, Nat.le_of_ble_eq_true rfl⟩ ⟨by show cells + 0 ≤ 601024; omega, by show slots + 0 ≤ 7293034; omega⟩ (by decide) rfl rfl dL_law_1144 rfl rfl (Nat.le_of_ble_eq_true rfl) ?_
  refine ⟨_, rfl, ⟨mx.1.1, toInt_inR _⟩, fun u h2 hu => ?_⟩
  show ZG kLaw (eeW L xs) QQ cells slots 1147 (lvL i) [AI u, AI v] h2
  obtain ⟨e, r2⟩ := act_gap r hv hu.2
  refine zg_same (pc := 1147) (tgt := 1485) dL_law_1147 (by decide) e ?_
  exact tl h2 cells slots r2 (Nat.le_succ _) (Nat.le_add_right _ _)
theorem case_changes (hL : L ≤ 3072) (h6 : i + 6 ≤ L) (hc : cells + 1 ≤ 601024 ∧ slots + 6 ≤ 7293034) (r : LwR hi) (tl : Tail L xs QQ cells slots i) : ZG kLaw (eeW L xs) QQ cells slots 1152 (lvL i) [] hi := by
  refine zg_aload_n (pc := 1152) (x := 1) dL_law_1152 rfl 3 rfl ?_
  refine zg_rd (pc := 1153) (j := 1) hL h6 (by decide) dL_law_1153 dL_law_1154 dL_law_1156 dL_law_1157 dL_law_1158 ?_
  refine zg_rd (pc := 1159) (j := 2) hL h6 (by decide) dL_law_1159 dL_law_1160 dL_law_1162 dL_law_1163 dL_law_1164 ?_
  refine zg_callV (pc := 1165) (kc := kX7_changes) (n := 2) (pl := 0) (ci := 6) (As := [AI (X5 xs i 1), AI (X5 xs i 2)]) (stk := []) ct_X7_changes (good_x (gdV (k := k0Law) rfl rfl (iw47 _ (List.mem_of_getElem? (i := 11) rfl)) (iw47 _ (List.mem_of_getElem? (i := 12) rfl)) (iw47 _ (List.mem_of_getElem? (i := 13) rfl)) (iw1 _ (List.mem_of_getElem? (i := 2) rfl)) (iw47 _ (List.mem_of_getElem? (i := 14) rfl)))) rfl ⟨rfl, rfl⟩ (by decide +kernel) ⟨Nat.le_of_ble_eq_true rfl, Nat.le_of_ble_eq_true rfl⟩ ⟨by show cells + 0 ≤ 601024; omega, by show slots + 0 ≤ 7293034; omega⟩ (by decide) rfl rfl dL_law_1165 rfl rfl (Nat.le_of_ble_eq_true rfl) ?_
  refine ⟨_, _, rfl, ⟨r.1.1.1.1, toInt_inR _, toInt_inR _⟩, fun v hv => ?_⟩
  show ZG kLaw (eeW L xs) QQ cells slots 1168 (lvL i) [AI v] hi
  have mx : MX hi := r.1.2.1
  refine zg_aload_n (pc := 1168) (x := 40) dL_law_1168 rfl 2 rfl ?_
  refine zg_rd (pc := 1169) (j := 1) hL h6 (by decide) dL_law_1169 dL_law_1170 dL_law_1172 dL_law_1173 dL_law_1174 ?_
  refine zg_rd (pc := 1175) (j := 2) hL h6 (by decide) dL_law_1175 dL_law_1176 dL_law_1178 dL_law_1179 dL_law_1180 ?_
  refine zg_callV (pc := 1181) (kc := kX8_changes) (n := 2) (pl := 39) (ci := 7) (As := [AI (X5 xs i 1), AI (X5 xs i 2)]) (stk := [AI v]) ct_X8_changes (good_x (gdV (k := k0Law) rfl rfl (iw47 _ (List.mem_of_getElem? (i := 15) rfl)) (iw47 _ (List.mem_of_getElem? (i := 16) rfl)) (iw47 _ (List.mem_of_getElem? (i := 17) rfl)) (iw1 _ (List.mem_of_getElem? (i := 5) rfl)) (iw47 _ (List.mem_of_getElem? (i := 18) rfl)))) rfl ⟨rfl, rfl⟩ (by decide +kernel) ⟨Nat.le_of_ble_eq_true rfl, Nat.le_of_ble_eq_true rfl⟩ ⟨by show cells + 0 ≤ 601024; omega, by show slots + 0 ≤ 7293034; omega⟩ (by decide) rfl rfl dL_law_1181 rfl rfl (Nat.le_of_ble_eq_true rfl) ?_
  refine ⟨_, _, rfl, ⟨mx.1.1, toInt_inR _, toInt_inR _⟩, fun u h2 hu => ?_⟩
  show ZG kLaw (eeW L xs) QQ cells slots 1184 (lvL i) [AI u, AI v] h2
  obtain ⟨e, r2⟩ := act_changes r hv hu.2
  refine zg_same (pc := 1184) (tgt := 1485) dL_law_1184 (by decide) e ?_
  exact tl h2 cells slots r2 (Nat.le_succ _) (Nat.le_add_right _ _)
theorem case_always (hL : L ≤ 3072) (h6 : i + 6 ≤ L) (hc : cells + 1 ≤ 601024 ∧ slots + 6 ≤ 7293034) (r : LwR hi) (tl : Tail L xs QQ cells slots i) : ZG kLaw (eeW L xs) QQ cells slots 1189 (lvL i) [] hi := by
  refine zg_aload_n (pc := 1189) (x := 1) dL_law_1189 rfl 3 rfl ?_
  refine zg_rd (pc := 1190) (j := 1) hL h6 (by decide) dL_law_1190 dL_law_1191 dL_law_1193 dL_law_1194 dL_law_1195 ?_
  refine zg_rd (pc := 1196) (j := 2) hL h6 (by decide) dL_law_1196 dL_law_1197 dL_law_1199 dL_law_1200 dL_law_1201 ?_
  refine zg_rd (pc := 1202) (j := 3) hL h6 (by decide) dL_law_1202 dL_law_1203 dL_law_1205 dL_law_1206 dL_law_1207 ?_
  refine zg_callV (pc := 1208) (kc := kX7_always) (n := 3) (pl := 0) (ci := 6) (As := [AI (X5 xs i 1), AI (X5 xs i 2), AI (X5 xs i 3)]) (stk := []) ct_X7_always (good_x (gdV (k := k0Law) rfl rfl (iw47 _ (List.mem_of_getElem? (i := 19) rfl)) (iw47 _ (List.mem_of_getElem? (i := 20) rfl)) (iw47 _ (List.mem_of_getElem? (i := 21) rfl)) (iw1 _ (List.mem_of_getElem? (i := 2) rfl)) (iw47 _ (List.mem_of_getElem? (i := 22) rfl)))) rfl ⟨rfl, rfl⟩ (by decide +kernel) ⟨Nat.le_of_ble_eq_true rfl, Nat.le_of_ble_eq_true rfl⟩ ⟨by show cells + 0 ≤ 601024; omega, by show slots + 0 ≤ 7293034; omega⟩ (by decide) rfl rfl dL_law_1208 rfl rfl (Nat.le_of_ble_eq_true rfl) ?_
  refine ⟨_, _, _, rfl, ⟨r.1.1.1.1, toInt_inR _, toInt_inR _, toInt_inR _⟩, fun v hv => ?_⟩
  show ZG kLaw (eeW L xs) QQ cells slots 1211 (lvL i) [AI v] hi
  have mx : MX hi := r.1.2.1
  refine zg_aload_n (pc := 1211) (x := 40) dL_law_1211 rfl 2 rfl ?_
  refine zg_rd (pc := 1212) (j := 1) hL h6 (by decide) dL_law_1212 dL_law_1213 dL_law_1215 dL_law_1216 dL_law_1217 ?_
  refine zg_rd (pc := 1218) (j := 2) hL h6 (by decide) dL_law_1218 dL_law_1219 dL_law_1221 dL_law_1222 dL_law_1223 ?_
  refine zg_rd (pc := 1224) (j := 3) hL h6 (by decide) dL_law_1224 dL_law_1225 dL_law_1227 dL_law_1228 dL_law_1229 ?_
  refine zg_callV (pc := 1230) (kc := kX8_always) (n := 3) (pl := 39) (ci := 7) (As := [AI (X5 xs i 1), AI (X5 xs i 2), AI (X5 xs i 3)]) (stk := [AI v]) ct_X8_always (good_x (gdV (k := k0Law) rfl rfl (iw47 _ (List.mem_of_getElem? (i := 23) rfl)) (iw48 _ (List.mem_of_getElem? (i := 0) rfl)) (iw48 _ (List.mem_of_getElem? (i := 1) rfl)) (iw1 _ (List.mem_of_getElem? (i := 5) rfl)) (iw48 _ (List.mem_of_getElem? (i := 2) rfl)))) rfl ⟨rfl, rfl⟩ (by decide +kernel) ⟨Nat.le_of_ble_eq_true rfl, Nat.le_of_ble_eq_true rfl⟩ ⟨by show cells + 0 ≤ 601024; omega, by show slots + 0 ≤ 7293034; omega⟩ (by decide) rfl rfl dL_law_1230 rfl rfl (Nat.le_of_ble_eq_true rfl) ?_
  refine ⟨_, _, _, rfl, ⟨mx.1.1, toInt_inR _, toInt_inR _, toInt_inR _⟩, fun u h2 hu => ?_⟩
  show ZG kLaw (eeW L xs) QQ cells slots 1233 (lvL i) [AI u, AI v] h2
  obtain ⟨e, r2⟩ := act_always r hv hu.2
  refine zg_same (pc := 1233) (tgt := 1485) dL_law_1233 (by decide) e ?_
  exact tl h2 cells slots r2 (Nat.le_succ _) (Nat.le_add_right _ _)
theorem case_ever (hL : L ≤ 3072) (h6 : i + 6 ≤ L) (hc : cells + 1 ≤ 601024 ∧ slots + 6 ≤ 7293034) (r : LwR hi) (tl : Tail L xs QQ cells slots i) : ZG kLaw (eeW L xs) QQ cells slots 1238 (lvL i) [] hi := by
  refine zg_aload_n (pc := 1238) (x := 1) dL_law_1238 rfl 3 rfl ?_
  refine zg_rd (pc := 1239) (j := 1) hL h6 (by decide) dL_law_1239 dL_law_1240 dL_law_1242 dL_law_1243 dL_law_1244 ?_
  refine zg_rd (pc := 1245) (j := 2) hL h6 (by decide) dL_law_1245 dL_law_1246 dL_law_1248 dL_law_1249 dL_law_1250 ?_
  refine zg_rd (pc := 1251) (j := 3) hL h6 (by decide) dL_law_1251 dL_law_1252 dL_law_1254 dL_law_1255 dL_law_1256 ?_
  refine zg_callV (pc := 1257) (kc := kX7_ever) (n := 3) (pl := 0) (ci := 6) (As := [AI (X5 xs i 1), AI (X5 xs i 2), AI (X5 xs i 3)]) (stk := []) ct_X7_ever (good_x (gdV (k := k0Law) rfl rfl (iw48 _ (List.mem_of_getElem? (i := 15) rfl)) (iw48 _ (List.mem_of_getElem? (i := 16) rfl)) (iw48 _ (List.mem_of_getElem? (i := 17) rfl)) (iw1 _ (List.mem_of_getElem? (i := 2) rfl)) (iw48 _ (List.mem_of_getElem? (i := 18) rfl)))) rfl ⟨rfl, rfl⟩ (by decide +kernel) ⟨Nat.le_of_ble_eq_true rfl, Nat.le_of_ble_eq_true rfl⟩ ⟨by show cells + 0 ≤ 601024; omega, by show slots + 0 ≤ 7293034; omega⟩ (by decide) rfl rfl dL_law_1257 rfl rfl (Nat.le_of_ble_eq_true rfl) ?_
  refine ⟨_, _, _, rfl, ⟨r.1.1.1.1, toInt_inR _, toInt_inR _, toInt_inR _⟩, fun v hv => ?_⟩
  show ZG kLaw (eeW L xs) QQ cells slots 1260 (lvL i) [AI v] hi
  have mx : MX hi := r.1.2.1
  refine zg_aload_n (pc := 1260) (x := 40) dL_law_1260 rfl 2 rfl ?_
  refine zg_rd (pc := 1261) (j := 1) hL h6 (by decide) dL_law_1261 dL_law_1262 dL_law_1264 dL_law_1265 dL_law_1266 ?_
  refine zg_rd (pc := 1267) (j := 2) hL h6 (by decide) dL_law_1267 dL_law_1268 dL_law_1270 dL_law_1271 dL_law_1272 ?_
  refine zg_rd (pc := 1273) (j := 3) hL h6 (by decide) dL_law_1273 dL_law_1274 dL_law_1276 dL_law_1277 dL_law_1278 ?_
  refine zg_callV (pc := 1279) (kc := kX8_ever) (n := 3) (pl := 39) (ci := 7) (As := [AI (X5 xs i 1), AI (X5 xs i 2), AI (X5 xs i 3)]) (stk := [AI v]) ct_X8_ever (good_x (gdV (k := k0Law) rfl rfl (iw48 _ (List.mem_of_getElem? (i := 19) rfl)) (iw48 _ (List.mem_of_getElem? (i := 20) rfl)) (iw48 _ (List.mem_of_getElem? (i := 21) rfl)) (iw1 _ (List.mem_of_getElem? (i := 5) rfl)) (iw48 _ (List.mem_of_getElem? (i := 22) rfl)))) rfl ⟨rfl, rfl⟩ (by decide +kernel) ⟨Nat.le_of_ble_eq_true rfl, Nat.le_of_ble_eq_true rfl⟩ ⟨by show cells + 0 ≤ 601024; omega, by show slots + 0 ≤ 7293034; omega⟩ (by decide) rfl rfl dL_law_1279 rfl rfl (Nat.le_of_ble_eq_true rfl) ?_
  refine ⟨_, _, _, rfl, ⟨mx.1.1, toInt_inR _, toInt_inR _, toInt_inR _⟩, fun u h2 hu => ?_⟩
  show ZG kLaw (eeW L xs) QQ cells slots 1282 (lvL i) [AI u, AI v] h2
  obtain ⟨e, r2⟩ := act_ever r hv hu.2
  refine zg_same (pc := 1282) (tgt := 1485) dL_law_1282 (by decide) e ?_
  exact tl h2 cells slots r2 (Nat.le_succ _) (Nat.le_add_right _ _)
theorem case_both (hL : L ≤ 3072) (h6 : i + 6 ≤ L) (hc : cells + 1 ≤ 601024 ∧ slots + 6 ≤ 7293034) (r : LwR hi) (tl : Tail L xs QQ cells slots i) : ZG kLaw (eeW L xs) QQ cells slots 1287 (lvL i) [] hi := by
  refine zg_aload_n (pc := 1287) (x := 1) dL_law_1287 rfl 3 rfl ?_
  refine zg_rd (pc := 1288) (j := 1) hL h6 (by decide) dL_law_1288 dL_law_1289 dL_law_1291 dL_law_1292 dL_law_1293 ?_
  refine zg_rd (pc := 1294) (j := 2) hL h6 (by decide) dL_law_1294 dL_law_1295 dL_law_1297 dL_law_1298 dL_law_1299 ?_
  refine zg_callV (pc := 1300) (kc := kX7_both) (n := 2) (pl := 0) (ci := 6) (As := [AI (X5 xs i 1), AI (X5 xs i 2)]) (stk := []) ct_X7_both (good_x (gdV (k := k0Law) rfl rfl (iw48 _ (List.mem_of_getElem? (i := 23) rfl)) (iw49 _ (List.mem_of_getElem? (i := 0) rfl)) (iw49 _ (List.mem_of_getElem? (i := 1) rfl)) (iw1 _ (List.mem_of_getElem? (i := 2) rfl)) (iw49 _ (List.mem_of_getElem? (i := 2) rfl)))) rfl ⟨rfl, rfl⟩ (by decide +kernel) ⟨Nat.le_of_ble_eq_true rfl, Nat.le_of_ble_eq_true rfl⟩ ⟨by show cells + 0 ≤ 601024; omega, by show slots + 0 ≤ 7293034; omega⟩ (by decide) rfl rfl dL_law_1300 rfl rfl (Nat.le_of_ble_eq_true rfl) ?_
  refine ⟨_, _, rfl, ⟨r.1.1.1.1, toInt_inR _, toInt_inR _⟩, fun v hv => ?_⟩
  show ZG kLaw (eeW L xs) QQ cells slots 1303 (lvL i) [AI v] hi
  have mx : MX hi := r.1.2.1
  refine zg_aload_n (pc := 1303) (x := 40) dL_law_1303 rfl 2 rfl ?_
  refine zg_rd (pc := 1304) (j := 1) hL h6 (by decide) dL_law_1304 dL_law_1305 dL_law_1307 dL_law_1308 dL_law_1309 ?_
  refine zg_rd (pc := 1310) (j := 2) hL h6 (by decide) dL_law_1310 dL_law_1311 dL_law_1313 dL_law_1314 dL_law_1315 ?_
  refine zg_callV (pc := 1316) (kc := kX8_both) (n := 2) (pl := 39) (ci := 7) (As := [AI (X5 xs i 1), AI (X5 xs i 2)]) (stk := [AI v]) ct_X8_both (good_x (gdV (k := k0Law) rfl rfl (iw49 _ (List.mem_of_getElem? (i := 10) rfl)) (iw49 _ (List.mem_of_getElem? (i := 11) rfl)) (iw49 _ (List.mem_of_getElem? (i := 12) rfl)) (iw1 _ (List.mem_of_getElem? (i := 5) rfl)) (iw49 _ (List.mem_of_getElem? (i := 13) rfl)))) rfl ⟨rfl, rfl⟩ (by decide +kernel) ⟨Nat.le_of_ble_eq_true rfl, Nat.le_of_ble_eq_true rfl⟩ ⟨by show cells + 0 ≤ 601024; omega, by show slots + 0 ≤ 7293034; omega⟩ (by decide) rfl rfl dL_law_1316 rfl rfl (Nat.le_of_ble_eq_true rfl) ?_
  refine ⟨_, _, rfl, ⟨mx.1.1, toInt_inR _, toInt_inR _⟩, fun u h2 hu => ?_⟩
  show ZG kLaw (eeW L xs) QQ cells slots 1319 (lvL i) [AI u, AI v] h2
  obtain ⟨e, r2⟩ := act_both r hv hu.2
  refine zg_same (pc := 1319) (tgt := 1485) dL_law_1319 (by decide) e ?_
  exact tl h2 cells slots r2 (Nat.le_succ _) (Nat.le_add_right _ _)
theorem case_reigns (hL : L ≤ 3072) (h6 : i + 6 ≤ L) (hc : cells + 1 ≤ 601024 ∧ slots + 6 ≤ 7293034) (r : LwR hi) (tl : Tail L xs QQ cells slots i) : ZG kLaw (eeW L xs) QQ cells slots 1324 (lvL i) [] hi := by
  refine zg_aload_n (pc := 1324) (x := 1) dL_law_1324 rfl 3 rfl ?_
  refine zg_rd (pc := 1325) (j := 1) hL h6 (by decide) dL_law_1325 dL_law_1326 dL_law_1328 dL_law_1329 dL_law_1330 ?_
  refine zg_rd (pc := 1331) (j := 2) hL h6 (by decide) dL_law_1331 dL_law_1332 dL_law_1334 dL_law_1335 dL_law_1336 ?_
  refine zg_callV (pc := 1337) (kc := kX7_reigns) (n := 2) (pl := 0) (ci := 6) (As := [AI (X5 xs i 1), AI (X5 xs i 2)]) (stk := []) ct_X7_reigns (good_x (gdV (k := k0Law) rfl rfl (iw49 _ (List.mem_of_getElem? (i := 14) rfl)) (iw49 _ (List.mem_of_getElem? (i := 15) rfl)) (iw49 _ (List.mem_of_getElem? (i := 16) rfl)) (iw1 _ (List.mem_of_getElem? (i := 2) rfl)) (iw49 _ (List.mem_of_getElem? (i := 17) rfl)))) rfl ⟨rfl, rfl⟩ (by decide +kernel) ⟨Nat.le_of_ble_eq_true rfl, Nat.le_of_ble_eq_true rfl⟩ ⟨by show cells + 0 ≤ 601024; omega, by show slots + 0 ≤ 7293034; omega⟩ (by decide) rfl rfl dL_law_1337 rfl rfl (Nat.le_of_ble_eq_true rfl) ?_
  refine ⟨_, _, rfl, ⟨r.1.1.1.1, toInt_inR _, toInt_inR _⟩, fun v hv => ?_⟩
  show ZG kLaw (eeW L xs) QQ cells slots 1340 (lvL i) [AI v] hi
  have mx : MX hi := r.1.2.1
  refine zg_aload_n (pc := 1340) (x := 40) dL_law_1340 rfl 2 rfl ?_
  refine zg_rd (pc := 1341) (j := 1) hL h6 (by decide) dL_law_1341 dL_law_1342 dL_law_1344 dL_law_1345 dL_law_1346 ?_
  refine zg_rd (pc := 1347) (j := 2) hL h6 (by decide) dL_law_1347 dL_law_1348 dL_law_1350 dL_law_1351 dL_law_1352 ?_
  refine zg_callV (pc := 1353) (kc := kX8_reigns) (n := 2) (pl := 39) (ci := 7) (As := [AI (X5 xs i 1), AI (X5 xs i 2)]) (stk := [AI v]) ct_X8_reigns (good_x (gdV (k := k0Law) rfl rfl (iw49 _ (List.mem_of_getElem? (i := 18) rfl)) (iw49 _ (List.mem_of_getElem? (i := 19) rfl)) (iw49 _ (List.mem_of_getElem? (i := 20) rfl)) (iw1 _ (List.mem_of_getElem? (i := 5) rfl)) (iw49 _ (List.mem_of_getElem? (i := 21) rfl)))) rfl ⟨rfl, rfl⟩ (by decide +kernel) ⟨Nat.le_of_ble_eq_true rfl, Nat.le_of_ble_eq_true rfl⟩ ⟨by show cells + 0 ≤ 601024; omega, by show slots + 0 ≤ 7293034; omega⟩ (by decide) rfl rfl dL_law_1353 rfl rfl (Nat.le_of_ble_eq_true rfl) ?_
  refine ⟨_, _, rfl, ⟨mx.1.1, toInt_inR _, toInt_inR _⟩, fun u h2 hu => ?_⟩
  show ZG kLaw (eeW L xs) QQ cells slots 1356 (lvL i) [AI u, AI v] h2
  obtain ⟨e, r2⟩ := act_reigns r hv hu.2
  refine zg_same (pc := 1356) (tgt := 1485) dL_law_1356 (by decide) e ?_
  exact tl h2 cells slots r2 (Nat.le_succ _) (Nat.le_add_right _ _)
theorem case_crowd (hL : L ≤ 3072) (h6 : i + 6 ≤ L) (hc : cells + 1 ≤ 601024 ∧ slots + 6 ≤ 7293034) (r : LwR hi) (tl : Tail L xs QQ cells slots i) : ZG kLaw (eeW L xs) QQ cells slots 1361 (lvL i) [] hi := by
  refine zg_aload_n (pc := 1361) (x := 1) dL_law_1361 rfl 3 rfl ?_
  refine zg_rd (pc := 1362) (j := 1) hL h6 (by decide) dL_law_1362 dL_law_1363 dL_law_1365 dL_law_1366 dL_law_1367 ?_
  refine zg_callV (pc := 1368) (kc := kX7_crowd) (n := 1) (pl := 0) (ci := 6) (As := [AI (X5 xs i 1)]) (stk := []) ct_X7_crowd (good_x (gdV (k := k0Law) rfl rfl (iw49 _ (List.mem_of_getElem? (i := 22) rfl)) (iw49 _ (List.mem_of_getElem? (i := 23) rfl)) (iw50 _ (List.mem_of_getElem? (i := 0) rfl)) (iw1 _ (List.mem_of_getElem? (i := 2) rfl)) (iw50 _ (List.mem_of_getElem? (i := 1) rfl)))) rfl ⟨rfl, rfl⟩ (by decide +kernel) ⟨Nat.le_of_ble_eq_true rfl, Nat.le_of_ble_eq_true rfl⟩ ⟨by show cells + 0 ≤ 601024; omega, by show slots + 0 ≤ 7293034; omega⟩ (by decide) rfl rfl dL_law_1368 rfl rfl (Nat.le_of_ble_eq_true rfl) ?_
  refine ⟨_, rfl, ⟨r.1.1.1.1, toInt_inR _⟩, fun v hv => ?_⟩
  show ZG kLaw (eeW L xs) QQ cells slots 1371 (lvL i) [AI v] hi
  have mx : MX hi := r.1.2.1
  refine zg_aload_n (pc := 1371) (x := 40) dL_law_1371 rfl 2 rfl ?_
  refine zg_rd (pc := 1372) (j := 1) hL h6 (by decide) dL_law_1372 dL_law_1373 dL_law_1375 dL_law_1376 dL_law_1377 ?_
  refine zg_callV (pc := 1378) (kc := kX8_crowd) (n := 1) (pl := 39) (ci := 7) (As := [AI (X5 xs i 1)]) (stk := [AI v]) ct_X8_crowd (good_x (gdV (k := k0Law) rfl rfl (iw50 _ (List.mem_of_getElem? (i := 2) rfl)) (iw50 _ (List.mem_of_getElem? (i := 3) rfl)) (iw50 _ (List.mem_of_getElem? (i := 4) rfl)) (iw1 _ (List.mem_of_getElem? (i := 5) rfl)) (iw50 _ (List.mem_of_getElem? (i := 5) rfl)))) rfl ⟨rfl, rfl⟩ (by decide +kernel) ⟨Nat.le_of_ble_eq_true rfl, Nat.le_of_ble_eq_true rfl⟩ ⟨by show cells + 0 ≤ 601024; omega, by show slots + 0 ≤ 7293034; omega⟩ (by decide) rfl rfl dL_law_1378 rfl rfl (Nat.le_of_ble_eq_true rfl) ?_
  refine ⟨_, rfl, ⟨mx.1.1, toInt_inR _⟩, fun u h2 hu => ?_⟩
  show ZG kLaw (eeW L xs) QQ cells slots 1381 (lvL i) [AI u, AI v] h2
  obtain ⟨e, r2⟩ := act_crowd r hv hu.2
  refine zg_same (pc := 1381) (tgt := 1485) dL_law_1381 (by decide) e ?_
  exact tl h2 cells slots r2 (Nat.le_succ _) (Nat.le_add_right _ _)
theorem case_cover (hL : L ≤ 3072) (h6 : i + 6 ≤ L) (hc : cells + 1 ≤ 601024 ∧ slots + 6 ≤ 7293034) (r : LwR hi) (tl : Tail L xs QQ cells slots i) : ZG kLaw (eeW L xs) QQ cells slots 1386 (lvL i) [] hi := by
  refine zg_aload_n (pc := 1386) (x := 1) dL_law_1386 rfl 3 rfl ?_
  refine zg_rd (pc := 1387) (j := 1) hL h6 (by decide) dL_law_1387 dL_law_1388 dL_law_1390 dL_law_1391 dL_law_1392 ?_
  refine zg_rd (pc := 1393) (j := 2) hL h6 (by decide) dL_law_1393 dL_law_1394 dL_law_1396 dL_law_1397 dL_law_1398 ?_
  refine zg_callV (pc := 1399) (kc := kX7_cover) (n := 2) (pl := 0) (ci := 6) (As := [AI (X5 xs i 1), AI (X5 xs i 2)]) (stk := []) ct_X7_cover (good_x (gdV (k := k0Law) rfl rfl (iw50 _ (List.mem_of_getElem? (i := 6) rfl)) (iw50 _ (List.mem_of_getElem? (i := 7) rfl)) (iw50 _ (List.mem_of_getElem? (i := 8) rfl)) (iw1 _ (List.mem_of_getElem? (i := 2) rfl)) (iw50 _ (List.mem_of_getElem? (i := 9) rfl)))) rfl ⟨rfl, rfl⟩ (by decide +kernel) ⟨Nat.le_of_ble_eq_true rfl, Nat.le_of_ble_eq_true rfl⟩ ⟨by show cells + 0 ≤ 601024; omega, by show slots + 0 ≤ 7293034; omega⟩ (by decide) rfl rfl dL_law_1399 rfl rfl (Nat.le_of_ble_eq_true rfl) ?_
  refine ⟨_, _, rfl, ⟨r.1.1.1.1, toInt_inR _, toInt_inR _⟩, fun v hv => ?_⟩
  show ZG kLaw (eeW L xs) QQ cells slots 1402 (lvL i) [AI v] hi
  have mx : MX hi := r.1.2.1
  refine zg_aload_n (pc := 1402) (x := 40) dL_law_1402 rfl 2 rfl ?_
  refine zg_rd (pc := 1403) (j := 1) hL h6 (by decide) dL_law_1403 dL_law_1404 dL_law_1406 dL_law_1407 dL_law_1408 ?_
  refine zg_rd (pc := 1409) (j := 2) hL h6 (by decide) dL_law_1409 dL_law_1410 dL_law_1412 dL_law_1413 dL_law_1414 ?_
  refine zg_callV (pc := 1415) (kc := kX8_cover) (n := 2) (pl := 39) (ci := 7) (As := [AI (X5 xs i 1), AI (X5 xs i 2)]) (stk := [AI v]) ct_X8_cover (good_x (gdV (k := k0Law) rfl rfl (iw50 _ (List.mem_of_getElem? (i := 16) rfl)) (iw50 _ (List.mem_of_getElem? (i := 17) rfl)) (iw50 _ (List.mem_of_getElem? (i := 18) rfl)) (iw1 _ (List.mem_of_getElem? (i := 5) rfl)) (iw50 _ (List.mem_of_getElem? (i := 19) rfl)))) rfl ⟨rfl, rfl⟩ (by decide +kernel) ⟨Nat.le_of_ble_eq_true rfl, Nat.le_of_ble_eq_true rfl⟩ ⟨by show cells + 0 ≤ 601024; omega, by show slots + 0 ≤ 7293034; omega⟩ (by decide) rfl rfl dL_law_1415 rfl rfl (Nat.le_of_ble_eq_true rfl) ?_
  refine ⟨_, _, rfl, ⟨mx.1.1, toInt_inR _, toInt_inR _⟩, fun u h2 hu => ?_⟩
  show ZG kLaw (eeW L xs) QQ cells slots 1418 (lvL i) [AI u, AI v] h2
  obtain ⟨e, r2⟩ := act_cover r hv hu.2
  refine zg_same (pc := 1418) (tgt := 1485) dL_law_1418 (by decide) e ?_
  exact tl h2 cells slots r2 (Nat.le_succ _) (Nat.le_add_right _ _)
theorem case_on (hL : L ≤ 3072) (h6 : i + 6 ≤ L) (hc : cells + 1 ≤ 601024 ∧ slots + 6 ≤ 7293034) (r : LwR hi) (tl : Tail L xs QQ cells slots i) : ZG kLaw (eeW L xs) QQ cells slots 1423 (lvL i) [] hi := by
  refine zg_aload_n (pc := 1423) (x := 1) dL_law_1423 rfl 3 rfl ?_
  refine zg_rd (pc := 1424) (j := 1) hL h6 (by decide) dL_law_1424 dL_law_1425 dL_law_1427 dL_law_1428 dL_law_1429 ?_
  refine zg_callV (pc := 1430) (kc := kX7_on) (n := 1) (pl := 0) (ci := 6) (As := [AI (X5 xs i 1)]) (stk := []) ct_X7_on (good_x (gdV (k := k0Law) rfl rfl (iw50 _ (List.mem_of_getElem? (i := 20) rfl)) (iw50 _ (List.mem_of_getElem? (i := 21) rfl)) (iw50 _ (List.mem_of_getElem? (i := 22) rfl)) (iw1 _ (List.mem_of_getElem? (i := 2) rfl)) (iw50 _ (List.mem_of_getElem? (i := 23) rfl)))) rfl ⟨rfl, rfl⟩ (by decide +kernel) ⟨Nat.le_of_ble_eq_true rfl, Nat.le_of_ble_eq_true rfl⟩ ⟨by show cells + 0 ≤ 601024; omega, by show slots + 0 ≤ 7293034; omega⟩ (by decide) rfl rfl dL_law_1430 rfl rfl (Nat.le_of_ble_eq_true rfl) ?_
  refine ⟨_, rfl, ⟨r.1.1.1.1, toInt_inR _⟩, fun v hv => ?_⟩
  show ZG kLaw (eeW L xs) QQ cells slots 1433 (lvL i) [AI v] hi
  have mx : MX hi := r.1.2.1
  refine zg_aload_n (pc := 1433) (x := 40) dL_law_1433 rfl 2 rfl ?_
  refine zg_rd (pc := 1434) (j := 1) hL h6 (by decide) dL_law_1434 dL_law_1435 dL_law_1437 dL_law_1438 dL_law_1439 ?_
  refine zg_callV (pc := 1440) (kc := kX8_on) (n := 1) (pl := 39) (ci := 7) (As := [AI (X5 xs i 1)]) (stk := [AI v]) ct_X8_on (good_x (gdV (k := k0Law) rfl rfl (iw51 _ (List.mem_of_getElem? (i := 7) rfl)) (iw51 _ (List.mem_of_getElem? (i := 8) rfl)) (iw51 _ (List.mem_of_getElem? (i := 9) rfl)) (iw1 _ (List.mem_of_getElem? (i := 5) rfl)) (iw51 _ (List.mem_of_getElem? (i := 10) rfl)))) rfl ⟨rfl, rfl⟩ (by decide +kernel) ⟨Nat.le_of_ble_eq_true rfl, Nat.le_of_ble_eq_true rfl⟩ ⟨by show cells + 0 ≤ 601024; omega, by show slots + 0 ≤ 7293034; omega⟩ (by decide) rfl rfl dL_law_1440 rfl rfl (Nat.le_of_ble_eq_true rfl) ?_
  refine ⟨_, rfl, ⟨mx.1.1, toInt_inR _⟩, fun u h2 hu => ?_⟩
  show ZG kLaw (eeW L xs) QQ cells slots 1443 (lvL i) [AI u, AI v] h2
  obtain ⟨e, r2⟩ := act_on r hv hu.2
  refine zg_same (pc := 1443) (tgt := 1485) dL_law_1443 (by decide) e ?_
  exact tl h2 cells slots r2 (Nat.le_succ _) (Nat.le_add_right _ _)
theorem case_onAt (hL : L ≤ 3072) (h6 : i + 6 ≤ L) (hc : cells + 1 ≤ 601024 ∧ slots + 6 ≤ 7293034) (r : LwR hi) (tl : Tail L xs QQ cells slots i) : ZG kLaw (eeW L xs) QQ cells slots 1448 (lvL i) [] hi := by
  refine zg_aload_n (pc := 1448) (x := 1) dL_law_1448 rfl 3 rfl ?_
  refine zg_rd (pc := 1449) (j := 1) hL h6 (by decide) dL_law_1449 dL_law_1450 dL_law_1452 dL_law_1453 dL_law_1454 ?_
  refine zg_rd (pc := 1455) (j := 2) hL h6 (by decide) dL_law_1455 dL_law_1456 dL_law_1458 dL_law_1459 dL_law_1460 ?_
  refine zg_callV (pc := 1461) (kc := kX7_onAt) (n := 2) (pl := 0) (ci := 6) (As := [AI (X5 xs i 1), AI (X5 xs i 2)]) (stk := []) ct_X7_onAt (good_x (gdV (k := k0Law) rfl rfl (iw51 _ (List.mem_of_getElem? (i := 16) rfl)) (iw51 _ (List.mem_of_getElem? (i := 17) rfl)) (iw51 _ (List.mem_of_getElem? (i := 18) rfl)) (iw1 _ (List.mem_of_getElem? (i := 2) rfl)) (iw51 _ (List.mem_of_getElem? (i := 19) rfl)))) rfl ⟨rfl, rfl⟩ (by decide +kernel) ⟨Nat.le_of_ble_eq_true rfl, Nat.le_of_ble_eq_true rfl⟩ ⟨by show cells + 0 ≤ 601024; omega, by show slots + 0 ≤ 7293034; omega⟩ (by decide) rfl rfl dL_law_1461 rfl rfl (Nat.le_of_ble_eq_true rfl) ?_
  refine ⟨_, _, rfl, ⟨r.1.1.1.1, toInt_inR _, toInt_inR _⟩, fun v hv => ?_⟩
  show ZG kLaw (eeW L xs) QQ cells slots 1464 (lvL i) [AI v] hi
  have mx : MX hi := r.1.2.1
  refine zg_aload_n (pc := 1464) (x := 40) dL_law_1464 rfl 2 rfl ?_
  refine zg_rd (pc := 1465) (j := 1) hL h6 (by decide) dL_law_1465 dL_law_1466 dL_law_1468 dL_law_1469 dL_law_1470 ?_
  refine zg_rd (pc := 1471) (j := 2) hL h6 (by decide) dL_law_1471 dL_law_1472 dL_law_1474 dL_law_1475 dL_law_1476 ?_
  refine zg_callV (pc := 1477) (kc := kX8_onAt) (n := 2) (pl := 39) (ci := 7) (As := [AI (X5 xs i 1), AI (X5 xs i 2)]) (stk := [AI v]) ct_X8_onAt (good_x (gdV (k := k0Law) rfl rfl (iw51 _ (List.mem_of_getElem? (i := 20) rfl)) (iw51 _ (List.mem_of_getElem? (i := 21) rfl)) (iw51 _ (List.mem_of_getElem? (i := 22) rfl)) (iw1 _ (List.mem_of_getElem? (i := 5) rfl)) (iw51 _ (List.mem_of_getElem? (i := 23) rfl)))) rfl ⟨rfl, rfl⟩ (by decide +kernel) ⟨Nat.le_of_ble_eq_true rfl, Nat.le_of_ble_eq_true rfl⟩ ⟨by show cells + 0 ≤ 601024; omega, by show slots + 0 ≤ 7293034; omega⟩ (by decide) rfl rfl dL_law_1477 rfl rfl (Nat.le_of_ble_eq_true rfl) ?_
  refine ⟨_, _, rfl, ⟨mx.1.1, toInt_inR _, toInt_inR _⟩, fun u h2 hu => ?_⟩
  show ZG kLaw (eeW L xs) QQ cells slots 1480 (lvL i) [AI u, AI v] h2
  obtain ⟨e, r2⟩ := act_onAt r hv hu.2
  refine zg_same (pc := 1480) (tgt := 1485) dL_law_1480 (by decide) e ?_
  exact tl h2 cells slots r2 (Nat.le_succ _) (Nat.le_add_right _ _)
end LAW3
