set_option maxRecDepth 100000 in
theorem lc_12 {l : Launch} {G : jG} {a a2 o b N ck sk : Nat} {xs : Nat → Int32} {i n : Int} {QF : jF} {h : jH} (hl0 : l.stackTraces = false) (hN : N ≤ 2560) (hi : 0 ≤ i ∧ i + 5 ≤ (N : Int)) (hn : n < 512) (H : LI G a a2 o n h) (kk : ∀ h', LI G a a2 o (n + 1) h' → J l G mL_law (QH G b N xs QF) ck sk 3041 [(4, vI i), (3, .ref o), (2, .ref a2), (1, .ref a), (0, .ref b)] [] h') : J l G mL_law (QH G b N xs QF) (ck + 1030) (sk + 4110) 1108 [(4, vI i), (3, .ref o), (2, .ref a2), (1, .ref a), (0, .ref b)] [] h := by
  obtain ⟨d, s, Z, d2, mp, p, Z2, f, hD, hZ, hI, hM, hZ2, hMI, hd, ho, hf, hev⟩ := H
  have hO : ∀ {P : Nat → OS} {p0 : OS} {h' : jH}, DN G a d h P p0 h' → h' o = some (aJ G 1 f) := fun hp => by obtain ⟨_, _, _, _, _, g⟩ := hp; exact (g o (fun z => (hd o z).2 rfl)).trans hf
  refine j_aload_n 1 dL_law_1108 rfl rfl ?_
  refine j_aload_n 0 dL_law_1109 rfl rfl ?_
  refine j_iload dL_law_1110 rfl ?_
  refine J_iconst dL_law_1112 ?_
  refine J_iadd dL_law_1113 ?_
  refine J_sld dL_law_1114 (by omega) ?_
  refine j_aload_n 0 dL_law_1115 rfl rfl ?_
  refine j_iload dL_law_1116 rfl ?_
  refine J_iconst dL_law_1118 ?_
  refine J_iadd dL_law_1119 ?_
  refine J_sld dL_law_1120 (by omega) ?_
  refine j_aload_n 3 dL_law_1121 rfl rfl ?_
  refine j_callSH (ck' := ck + 1029) (sk' := sk + 4104) kL_190 ceL_writtenPlace csL_writtenPlace (c_L_writtenPlace (f := f) hD.1 (toDN (c_X9_writtenPlace hl0 hD hI hZ (sX_rg _ _) (sX_rg _ _))) (hr1 rfl) (fun _ hp => hO hp)) (fun E h' hp => by cases hp.1) rfl rfl rfl rfl rfl dL_law_1122 (by show 1 + (ck + 1029) ≤ ck + 1030; omega) (by show 6 + (sk + 4104) ≤ sk + 4110; omega) (fun v9 h2 hp => ?_)
  obtain ⟨ev9, h1, f', hN1, hf', hv', h12⟩ := hp
  cases ev9
  obtain ⟨s', hD', hI', es, ep, hM'⟩ := law_A hM hd ho hN1 h12
  refine j_istore (L' := [(5, _), (4, _), (3, _), (2, _), (1, _), (0, _)]) dL_law_1125 rfl rfl ?_
  refine j_aload_n 2 dL_law_1127 rfl rfl ?_
  refine j_aload_n 0 dL_law_1128 rfl rfl ?_
  refine j_iload dL_law_1129 rfl ?_
  refine J_iconst dL_law_1131 ?_
  refine J_iadd dL_law_1132 ?_
  refine J_sld dL_law_1133 (by omega) ?_
  refine j_aload_n 0 dL_law_1134 rfl rfl ?_
  refine j_iload dL_law_1135 rfl ?_
  refine J_iconst dL_law_1137 ?_
  refine J_iadd dL_law_1138 ?_
  refine J_sld dL_law_1139 (by omega) ?_
  refine j_callV (ck' := ck + 1029) (sk' := sk + 4104) kL_192 cvX11_writtenPlace hM'.1.1 (toMN hZ2 (c_X11_writtenPlace hM' hZ2 hMI (sX_rg _ _) (sX_rg _ _))) rfl rfl rfl rfl rfl dL_law_1140 (by show 0 + (ck + 1029) ≤ ck + 1029; omega) (by show 0 + (sk + 4104) ≤ sk + 4104; omega) (fun v9 h3 hp => ?_) (fun E h' hp => by cases hp.1)
  obtain ⟨ev9, hN2⟩ := hp
  cases ev9
  obtain ⟨d3, mp3, p3, Z3, hM3, hZ3, hMI3, ht3, hD3, hd3, ho3, hf3⟩ := law_B hD' hd ho hf' es ep hN2
  have hE : evs s'.1 ≤ n + 1 := by rw [es]; omega
  refine j_istore (L' := [(6, _), (5, _), (4, _), (3, _), (2, _), (1, _), (0, _)]) dL_law_1143 rfl rfl ?_
  refine j_aload_n 2 dL_law_1145 rfl rfl ?_
  refine J_callV1 kL_150 cvX11_thrown hM3.1.1 (c_X11_thrown hM3 hZ3 hMI3) rfl rfl rfl rfl rfl dL_law_1146 rfl rfl ?_
  rw [ht3]
  refine j_iload dL_law_1149 rfl ?_
  refine j_icmp_eq 1156 dL_law_1151 (by decide) (fun _ => ?_) (fun c => absurd rfl c)
  refine j_iload dL_law_1156 rfl ?_
  refine J_if_ne 1173 dL_law_1158 (by decide) (fun c => ?_) (fun c => ?_) rg_t1
  · refine j_goto 3041 dL_law_1173 (by decide) ?_
    refine j_room (ck' := ck) (sk' := sk) (by omega) (by omega) ?_
    exact j_locR (kk _ ⟨d, s', Z, d3, mp3, p3, Z3, _, hD3, hZ, hI', hM3, hZ3, hMI3, hd3, ho3, hf3, hE⟩) (by repeat' (first | exact True.intro | refine And.intro rfl ?_))
  · refine j_aload_n 3 dL_law_1161 rfl rfl ?_
    refine J_iconst dL_law_1162 ?_
    refine j_lald dL_law_1163 hf3 (I_vpin (by decide) (by decide)) ?_
    refine j_iload dL_law_1164 rfl ?_
    refine j_i2l dL_law_1166 ?_
    refine J_lcmp0 dL_law_1167 (hv' c) ?_
    refine J_if_eq 1173 dL_law_1168 (by decide) (fun _ => ?_) (fun c => absurd rfl c) (by decide)
    refine j_goto 3041 dL_law_1173 (by decide) ?_
    refine j_room (ck' := ck) (sk' := sk) (by omega) (by omega) ?_
    exact j_locR (kk _ ⟨d, s', Z, d3, mp3, p3, Z3, _, hD3, hZ, hI', hM3, hZ3, hMI3, hd3, ho3, hf3, hE⟩) (by repeat' (first | exact True.intro | refine And.intro rfl ?_))
set_option maxRecDepth 100000 in
theorem lc_13 {l : Launch} {G : jG} {a a2 o b N ck sk : Nat} {xs : Nat → Int32} {i n : Int} {QF : jF} {h : jH} (hl0 : l.stackTraces = false) (hN : N ≤ 2560) (hi : 0 ≤ i ∧ i + 5 ≤ (N : Int)) (hn : n < 512) (H : LI G a a2 o n h) (kk : ∀ h', LI G a a2 o (n + 1) h' → J l G mL_law (QH G b N xs QF) ck sk 3041 [(4, vI i), (3, .ref o), (2, .ref a2), (1, .ref a), (0, .ref b)] [] h') : J l G mL_law (QH G b N xs QF) (ck + 1030) (sk + 4110) 1176 [(4, vI i), (3, .ref o), (2, .ref a2), (1, .ref a), (0, .ref b)] [] h := by
  obtain ⟨d, s, Z, d2, mp, p, Z2, f, hD, hZ, hI, hM, hZ2, hMI, hd, ho, hf, hev⟩ := H
  have hO : ∀ {P : Nat → OS} {p0 : OS} {h' : jH}, DN G a d h P p0 h' → h' o = some (aJ G 1 f) := fun hp => by obtain ⟨_, _, _, _, _, g⟩ := hp; exact (g o (fun z => (hd o z).2 rfl)).trans hf
  refine j_aload_n 1 dL_law_1176 rfl rfl ?_
  refine j_aload_n 0 dL_law_1177 rfl rfl ?_
  refine j_iload dL_law_1178 rfl ?_
  refine J_iconst dL_law_1180 ?_
  refine J_iadd dL_law_1181 ?_
  refine J_sld dL_law_1182 (by omega) ?_
  refine j_aload_n 0 dL_law_1183 rfl rfl ?_
  refine j_iload dL_law_1184 rfl ?_
  refine J_iconst dL_law_1186 ?_
  refine J_iadd dL_law_1187 ?_
  refine J_sld dL_law_1188 (by omega) ?_
  refine j_aload_n 3 dL_law_1189 rfl rfl ?_
  refine j_callSH (ck' := ck + 1029) (sk' := sk + 4104) kL_193 ceL_writtenAlter csL_writtenAlter (c_L_writtenAlter (f := f) hD.1 (toDN (c_X9_writtenAlter hl0 hD hI hZ (sX_rg _ _) (sX_rg _ _))) (hr1 rfl) (fun _ hp => hO hp)) (fun E h' hp => by cases hp.1) rfl rfl rfl rfl rfl dL_law_1190 (by show 1 + (ck + 1029) ≤ ck + 1030; omega) (by show 6 + (sk + 4104) ≤ sk + 4110; omega) (fun v9 h2 hp => ?_)
  obtain ⟨ev9, h1, f', hN1, hf', hv', h12⟩ := hp
  cases ev9
  obtain ⟨s', hD', hI', es, ep, hM'⟩ := law_A hM hd ho hN1 h12
  refine j_istore (L' := [(5, _), (4, _), (3, _), (2, _), (1, _), (0, _)]) dL_law_1193 rfl rfl ?_
  refine j_aload_n 2 dL_law_1195 rfl rfl ?_
  refine j_aload_n 0 dL_law_1196 rfl rfl ?_
  refine j_iload dL_law_1197 rfl ?_
  refine J_iconst dL_law_1199 ?_
  refine J_iadd dL_law_1200 ?_
  refine J_sld dL_law_1201 (by omega) ?_
  refine j_aload_n 0 dL_law_1202 rfl rfl ?_
  refine j_iload dL_law_1203 rfl ?_
  refine J_iconst dL_law_1205 ?_
  refine J_iadd dL_law_1206 ?_
  refine J_sld dL_law_1207 (by omega) ?_
  refine j_callV (ck' := ck + 1029) (sk' := sk + 4104) kL_195 cvX11_writtenAlter hM'.1.1 (toMN hZ2 (c_X11_writtenAlter hM' hZ2 hMI (sX_rg _ _) (sX_rg _ _))) rfl rfl rfl rfl rfl dL_law_1208 (by show 0 + (ck + 1029) ≤ ck + 1029; omega) (by show 0 + (sk + 4104) ≤ sk + 4104; omega) (fun v9 h3 hp => ?_) (fun E h' hp => by cases hp.1)
  obtain ⟨ev9, hN2⟩ := hp
  cases ev9
  obtain ⟨d3, mp3, p3, Z3, hM3, hZ3, hMI3, ht3, hD3, hd3, ho3, hf3⟩ := law_B hD' hd ho hf' es ep hN2
  have hE : evs s'.1 ≤ n + 1 := by rw [es]; omega
  refine j_istore (L' := [(6, _), (5, _), (4, _), (3, _), (2, _), (1, _), (0, _)]) dL_law_1211 rfl rfl ?_
  refine j_aload_n 2 dL_law_1213 rfl rfl ?_
  refine J_callV1 kL_150 cvX11_thrown hM3.1.1 (c_X11_thrown hM3 hZ3 hMI3) rfl rfl rfl rfl rfl dL_law_1214 rfl rfl ?_
  rw [ht3]
  refine j_iload dL_law_1217 rfl ?_
  refine j_icmp_eq 1224 dL_law_1219 (by decide) (fun _ => ?_) (fun c => absurd rfl c)
  refine j_iload dL_law_1224 rfl ?_
  refine J_if_ne 1241 dL_law_1226 (by decide) (fun c => ?_) (fun c => ?_) rg_t1
  · refine j_goto 3041 dL_law_1241 (by decide) ?_
    refine j_room (ck' := ck) (sk' := sk) (by omega) (by omega) ?_
    exact j_locR (kk _ ⟨d, s', Z, d3, mp3, p3, Z3, _, hD3, hZ, hI', hM3, hZ3, hMI3, hd3, ho3, hf3, hE⟩) (by repeat' (first | exact True.intro | refine And.intro rfl ?_))
  · refine j_aload_n 3 dL_law_1229 rfl rfl ?_
    refine J_iconst dL_law_1230 ?_
    refine j_lald dL_law_1231 hf3 (I_vpin (by decide) (by decide)) ?_
    refine j_iload dL_law_1232 rfl ?_
    refine j_i2l dL_law_1234 ?_
    refine J_lcmp0 dL_law_1235 (hv' c) ?_
    refine J_if_eq 1241 dL_law_1236 (by decide) (fun _ => ?_) (fun c => absurd rfl c) (by decide)
    refine j_goto 3041 dL_law_1241 (by decide) ?_
    refine j_room (ck' := ck) (sk' := sk) (by omega) (by omega) ?_
    exact j_locR (kk _ ⟨d, s', Z, d3, mp3, p3, Z3, _, hD3, hZ, hI', hM3, hZ3, hMI3, hd3, ho3, hf3, hE⟩) (by repeat' (first | exact True.intro | refine And.intro rfl ?_))
set_option maxRecDepth 100000 in
theorem lc_14 {l : Launch} {G : jG} {a a2 o b N ck sk : Nat} {xs : Nat → Int32} {i n : Int} {QF : jF} {h : jH} (hl0 : l.stackTraces = false) (hN : N ≤ 2560) (hi : 0 ≤ i ∧ i + 5 ≤ (N : Int)) (hn : n < 512) (H : LI G a a2 o n h) (kk : ∀ h', LI G a a2 o (n + 1) h' → J l G mL_law (QH G b N xs QF) ck sk 3041 [(4, vI i), (3, .ref o), (2, .ref a2), (1, .ref a), (0, .ref b)] [] h') : J l G mL_law (QH G b N xs QF) (ck + 1030) (sk + 4110) 1244 [(4, vI i), (3, .ref o), (2, .ref a2), (1, .ref a), (0, .ref b)] [] h := by
  obtain ⟨d, s, Z, d2, mp, p, Z2, f, hD, hZ, hI, hM, hZ2, hMI, hd, ho, hf, hev⟩ := H
  have hO : ∀ {P : Nat → OS} {p0 : OS} {h' : jH}, DN G a d h P p0 h' → h' o = some (aJ G 1 f) := fun hp => by obtain ⟨_, _, _, _, _, g⟩ := hp; exact (g o (fun z => (hd o z).2 rfl)).trans hf
  refine j_aload_n 1 dL_law_1244 rfl rfl ?_
  refine j_aload_n 0 dL_law_1245 rfl rfl ?_
  refine j_iload dL_law_1246 rfl ?_
  refine J_iconst dL_law_1248 ?_
  refine J_iadd dL_law_1249 ?_
  refine J_sld dL_law_1250 (by omega) ?_
  refine j_aload_n 0 dL_law_1251 rfl rfl ?_
  refine j_iload dL_law_1252 rfl ?_
  refine J_iconst dL_law_1254 ?_
  refine J_iadd dL_law_1255 ?_
  refine J_sld dL_law_1256 (by omega) ?_
  refine j_aload_n 3 dL_law_1257 rfl rfl ?_
  refine j_callSH (ck' := ck + 1029) (sk' := sk + 4104) kL_196 ceL_alterIn csL_alterIn (c_L_alterIn (f := f) hD.1 (toDN (c_X9_alterIn hl0 hD hI hZ (sX_rg _ _) (sX_rg _ _))) (hr1 rfl) (fun _ hp => hO hp)) (fun E h' hp => by cases hp.1) rfl rfl rfl rfl rfl dL_law_1258 (by show 1 + (ck + 1029) ≤ ck + 1030; omega) (by show 6 + (sk + 4104) ≤ sk + 4110; omega) (fun v9 h2 hp => ?_)
  obtain ⟨ev9, h1, f', hN1, hf', hv', h12⟩ := hp
  cases ev9
  obtain ⟨s', hD', hI', es, ep, hM'⟩ := law_A hM hd ho hN1 h12
  refine j_istore (L' := [(5, _), (4, _), (3, _), (2, _), (1, _), (0, _)]) dL_law_1261 rfl rfl ?_
  refine j_aload_n 2 dL_law_1263 rfl rfl ?_
  refine j_aload_n 0 dL_law_1264 rfl rfl ?_
  refine j_iload dL_law_1265 rfl ?_
  refine J_iconst dL_law_1267 ?_
  refine J_iadd dL_law_1268 ?_
  refine J_sld dL_law_1269 (by omega) ?_
  refine j_aload_n 0 dL_law_1270 rfl rfl ?_
  refine j_iload dL_law_1271 rfl ?_
  refine J_iconst dL_law_1273 ?_
  refine J_iadd dL_law_1274 ?_
  refine J_sld dL_law_1275 (by omega) ?_
  refine j_callV (ck' := ck + 1029) (sk' := sk + 4104) kL_198 cvX11_alterIn hM'.1.1 (toMN hZ2 (c_X11_alterIn hM' hZ2 hMI (sX_rg _ _) (sX_rg _ _))) rfl rfl rfl rfl rfl dL_law_1276 (by show 0 + (ck + 1029) ≤ ck + 1029; omega) (by show 0 + (sk + 4104) ≤ sk + 4104; omega) (fun v9 h3 hp => ?_) (fun E h' hp => by cases hp.1)
  obtain ⟨ev9, hN2⟩ := hp
  cases ev9
  obtain ⟨d3, mp3, p3, Z3, hM3, hZ3, hMI3, ht3, hD3, hd3, ho3, hf3⟩ := law_B hD' hd ho hf' es ep hN2
  have hE : evs s'.1 ≤ n + 1 := by rw [es]; omega
  refine j_istore (L' := [(6, _), (5, _), (4, _), (3, _), (2, _), (1, _), (0, _)]) dL_law_1279 rfl rfl ?_
  refine j_aload_n 2 dL_law_1281 rfl rfl ?_
  refine J_callV1 kL_150 cvX11_thrown hM3.1.1 (c_X11_thrown hM3 hZ3 hMI3) rfl rfl rfl rfl rfl dL_law_1282 rfl rfl ?_
  rw [ht3]
  refine j_iload dL_law_1285 rfl ?_
  refine j_icmp_eq 1292 dL_law_1287 (by decide) (fun _ => ?_) (fun c => absurd rfl c)
  refine j_iload dL_law_1292 rfl ?_
  refine J_if_ne 1309 dL_law_1294 (by decide) (fun c => ?_) (fun c => ?_) rg_t1
  · refine j_goto 3041 dL_law_1309 (by decide) ?_
    refine j_room (ck' := ck) (sk' := sk) (by omega) (by omega) ?_
    exact j_locR (kk _ ⟨d, s', Z, d3, mp3, p3, Z3, _, hD3, hZ, hI', hM3, hZ3, hMI3, hd3, ho3, hf3, hE⟩) (by repeat' (first | exact True.intro | refine And.intro rfl ?_))
  · refine j_aload_n 3 dL_law_1297 rfl rfl ?_
    refine J_iconst dL_law_1298 ?_
    refine j_lald dL_law_1299 hf3 (I_vpin (by decide) (by decide)) ?_
    refine j_iload dL_law_1300 rfl ?_
    refine j_i2l dL_law_1302 ?_
    refine J_lcmp0 dL_law_1303 (hv' c) ?_
    refine J_if_eq 1309 dL_law_1304 (by decide) (fun _ => ?_) (fun c => absurd rfl c) (by decide)
    refine j_goto 3041 dL_law_1309 (by decide) ?_
    refine j_room (ck' := ck) (sk' := sk) (by omega) (by omega) ?_
    exact j_locR (kk _ ⟨d, s', Z, d3, mp3, p3, Z3, _, hD3, hZ, hI', hM3, hZ3, hMI3, hd3, ho3, hf3, hE⟩) (by repeat' (first | exact True.intro | refine And.intro rfl ?_))
set_option maxRecDepth 100000 in
theorem lc_15 {l : Launch} {G : jG} {a a2 o b N ck sk : Nat} {xs : Nat → Int32} {i n : Int} {QF : jF} {h : jH} (hl0 : l.stackTraces = false) (hN : N ≤ 2560) (hi : 0 ≤ i ∧ i + 5 ≤ (N : Int)) (hn : n < 512) (H : LI G a a2 o n h) (kk : ∀ h', LI G a a2 o (n + 1) h' → J l G mL_law (QH G b N xs QF) ck sk 3041 [(4, vI i), (3, .ref o), (2, .ref a2), (1, .ref a), (0, .ref b)] [] h') : J l G mL_law (QH G b N xs QF) (ck + 1030) (sk + 4110) 1312 [(4, vI i), (3, .ref o), (2, .ref a2), (1, .ref a), (0, .ref b)] [] h := by
  obtain ⟨d, s, Z, d2, mp, p, Z2, f, hD, hZ, hI, hM, hZ2, hMI, hd, ho, hf, hev⟩ := H
  have hO : ∀ {P : Nat → OS} {p0 : OS} {h' : jH}, DN G a d h P p0 h' → h' o = some (aJ G 1 f) := fun hp => by obtain ⟨_, _, _, _, _, g⟩ := hp; exact (g o (fun z => (hd o z).2 rfl)).trans hf
  refine j_aload_n 1 dL_law_1312 rfl rfl ?_
  refine j_aload_n 0 dL_law_1313 rfl rfl ?_
  refine j_iload dL_law_1314 rfl ?_
  refine J_iconst dL_law_1316 ?_
  refine J_iadd dL_law_1317 ?_
  refine J_sld dL_law_1318 (by omega) ?_
  refine j_aload_n 0 dL_law_1319 rfl rfl ?_
  refine j_iload dL_law_1320 rfl ?_
  refine J_iconst dL_law_1322 ?_
  refine J_iadd dL_law_1323 ?_
  refine J_sld dL_law_1324 (by omega) ?_
  refine j_aload_n 3 dL_law_1325 rfl rfl ?_
  refine j_callSH (ck' := ck + 1029) (sk' := sk + 4104) kL_199 ceL_writtenKey csL_writtenKey (c_L_writtenKey (f := f) hD.1 (toDN (c_X9_writtenKey hl0 hD hI hZ (sX_rg _ _) (sX_rg _ _))) (hr1 rfl) (fun _ hp => hO hp)) (fun E h' hp => by cases hp.1) rfl rfl rfl rfl rfl dL_law_1326 (by show 1 + (ck + 1029) ≤ ck + 1030; omega) (by show 6 + (sk + 4104) ≤ sk + 4110; omega) (fun v9 h2 hp => ?_)
  obtain ⟨ev9, h1, f', hN1, hf', hv', h12⟩ := hp
  cases ev9
  obtain ⟨s', hD', hI', es, ep, hM'⟩ := law_A hM hd ho hN1 h12
  refine j_istore (L' := [(5, _), (4, _), (3, _), (2, _), (1, _), (0, _)]) dL_law_1329 rfl rfl ?_
  refine j_aload_n 2 dL_law_1331 rfl rfl ?_
  refine j_aload_n 0 dL_law_1332 rfl rfl ?_
  refine j_iload dL_law_1333 rfl ?_
  refine J_iconst dL_law_1335 ?_
  refine J_iadd dL_law_1336 ?_
  refine J_sld dL_law_1337 (by omega) ?_
  refine j_aload_n 0 dL_law_1338 rfl rfl ?_
  refine j_iload dL_law_1339 rfl ?_
  refine J_iconst dL_law_1341 ?_
  refine J_iadd dL_law_1342 ?_
  refine J_sld dL_law_1343 (by omega) ?_
  refine j_callV (ck' := ck + 1029) (sk' := sk + 4104) kL_201 cvX11_writtenKey hM'.1.1 (toMN hZ2 (c_X11_writtenKey hM' hZ2 hMI (sX_rg _ _) (sX_rg _ _))) rfl rfl rfl rfl rfl dL_law_1344 (by show 0 + (ck + 1029) ≤ ck + 1029; omega) (by show 0 + (sk + 4104) ≤ sk + 4104; omega) (fun v9 h3 hp => ?_) (fun E h' hp => by cases hp.1)
  obtain ⟨ev9, hN2⟩ := hp
  cases ev9
  obtain ⟨d3, mp3, p3, Z3, hM3, hZ3, hMI3, ht3, hD3, hd3, ho3, hf3⟩ := law_B hD' hd ho hf' es ep hN2
  have hE : evs s'.1 ≤ n + 1 := by rw [es]; omega
  refine j_istore (L' := [(6, _), (5, _), (4, _), (3, _), (2, _), (1, _), (0, _)]) dL_law_1347 rfl rfl ?_
  refine j_aload_n 2 dL_law_1349 rfl rfl ?_
  refine J_callV1 kL_150 cvX11_thrown hM3.1.1 (c_X11_thrown hM3 hZ3 hMI3) rfl rfl rfl rfl rfl dL_law_1350 rfl rfl ?_
  rw [ht3]
  refine j_iload dL_law_1353 rfl ?_
  refine j_icmp_eq 1360 dL_law_1355 (by decide) (fun _ => ?_) (fun c => absurd rfl c)
  refine j_iload dL_law_1360 rfl ?_
  refine J_if_ne 1377 dL_law_1362 (by decide) (fun c => ?_) (fun c => ?_) rg_t1
  · refine j_goto 3041 dL_law_1377 (by decide) ?_
    refine j_room (ck' := ck) (sk' := sk) (by omega) (by omega) ?_
    exact j_locR (kk _ ⟨d, s', Z, d3, mp3, p3, Z3, _, hD3, hZ, hI', hM3, hZ3, hMI3, hd3, ho3, hf3, hE⟩) (by repeat' (first | exact True.intro | refine And.intro rfl ?_))
  · refine j_aload_n 3 dL_law_1365 rfl rfl ?_
    refine J_iconst dL_law_1366 ?_
    refine j_lald dL_law_1367 hf3 (I_vpin (by decide) (by decide)) ?_
    refine j_iload dL_law_1368 rfl ?_
    refine j_i2l dL_law_1370 ?_
    refine J_lcmp0 dL_law_1371 (hv' c) ?_
    refine J_if_eq 1377 dL_law_1372 (by decide) (fun _ => ?_) (fun c => absurd rfl c) (by decide)
    refine j_goto 3041 dL_law_1377 (by decide) ?_
    refine j_room (ck' := ck) (sk' := sk) (by omega) (by omega) ?_
    exact j_locR (kk _ ⟨d, s', Z, d3, mp3, p3, Z3, _, hD3, hZ, hI', hM3, hZ3, hMI3, hd3, ho3, hf3, hE⟩) (by repeat' (first | exact True.intro | refine And.intro rfl ?_))
set_option maxRecDepth 100000 in
theorem lc_16 {l : Launch} {G : jG} {a a2 o b N ck sk : Nat} {xs : Nat → Int32} {i n : Int} {QF : jF} {h : jH} (hl0 : l.stackTraces = false) (hN : N ≤ 2560) (hi : 0 ≤ i ∧ i + 5 ≤ (N : Int)) (hn : n < 512) (H : LI G a a2 o n h) (kk : ∀ h', LI G a a2 o (n + 1) h' → J l G mL_law (QH G b N xs QF) ck sk 3041 [(4, vI i), (3, .ref o), (2, .ref a2), (1, .ref a), (0, .ref b)] [] h') : J l G mL_law (QH G b N xs QF) (ck + 1030) (sk + 4110) 1380 [(4, vI i), (3, .ref o), (2, .ref a2), (1, .ref a), (0, .ref b)] [] h := by
  obtain ⟨d, s, Z, d2, mp, p, Z2, f, hD, hZ, hI, hM, hZ2, hMI, hd, ho, hf, hev⟩ := H
  have hO : ∀ {P : Nat → OS} {p0 : OS} {h' : jH}, DN G a d h P p0 h' → h' o = some (aJ G 1 f) := fun hp => by obtain ⟨_, _, _, _, _, g⟩ := hp; exact (g o (fun z => (hd o z).2 rfl)).trans hf
  refine j_aload_n 1 dL_law_1380 rfl rfl ?_
  refine j_aload_n 0 dL_law_1381 rfl rfl ?_
  refine j_iload dL_law_1382 rfl ?_
  refine J_iconst dL_law_1384 ?_
  refine J_iadd dL_law_1385 ?_
  refine J_sld dL_law_1386 (by omega) ?_
  refine j_aload_n 3 dL_law_1387 rfl rfl ?_
  refine j_callSH (ck' := ck + 1029) (sk' := sk + 4104) kL_202 ceL_beginOfBar csL_beginOfBar (c_L_beginOfBar (f := f) hD.1 (toDN (c_X9_beginOfBar hl0 hD hI hZ (sX_rg _ _))) (hr1 rfl) (fun _ hp => hO hp)) (fun E h' hp => by cases hp.1) rfl rfl rfl rfl rfl dL_law_1388 (by show 1 + (ck + 1029) ≤ ck + 1030; omega) (by show 6 + (sk + 4104) ≤ sk + 4110; omega) (fun v9 h2 hp => ?_)
  obtain ⟨ev9, h1, f', hN1, hf', hv', h12⟩ := hp
  cases ev9
  obtain ⟨s', hD', hI', es, ep, hM'⟩ := law_A hM hd ho hN1 h12
  refine j_istore (L' := [(5, _), (4, _), (3, _), (2, _), (1, _), (0, _)]) dL_law_1391 rfl rfl ?_
  refine j_aload_n 2 dL_law_1393 rfl rfl ?_
  refine j_aload_n 0 dL_law_1394 rfl rfl ?_
  refine j_iload dL_law_1395 rfl ?_
  refine J_iconst dL_law_1397 ?_
  refine J_iadd dL_law_1398 ?_
  refine J_sld dL_law_1399 (by omega) ?_
  refine j_callV (ck' := ck + 1029) (sk' := sk + 4104) kL_204 cvX11_beginOfBar hM'.1.1 (toMN hZ2 (c_X11_beginOfBar hM' hZ2 hMI (sX_rg _ _))) rfl rfl rfl rfl rfl dL_law_1400 (by show 0 + (ck + 1029) ≤ ck + 1029; omega) (by show 0 + (sk + 4104) ≤ sk + 4104; omega) (fun v9 h3 hp => ?_) (fun E h' hp => by cases hp.1)
  obtain ⟨ev9, hN2⟩ := hp
  cases ev9
  obtain ⟨d3, mp3, p3, Z3, hM3, hZ3, hMI3, ht3, hD3, hd3, ho3, hf3⟩ := law_B hD' hd ho hf' es ep hN2
  have hE : evs s'.1 ≤ n + 1 := by rw [es]; omega
  refine j_istore (L' := [(6, _), (5, _), (4, _), (3, _), (2, _), (1, _), (0, _)]) dL_law_1403 rfl rfl ?_
  refine j_aload_n 2 dL_law_1405 rfl rfl ?_
  refine J_callV1 kL_150 cvX11_thrown hM3.1.1 (c_X11_thrown hM3 hZ3 hMI3) rfl rfl rfl rfl rfl dL_law_1406 rfl rfl ?_
  rw [ht3]
  refine j_iload dL_law_1409 rfl ?_
  refine j_icmp_eq 1416 dL_law_1411 (by decide) (fun _ => ?_) (fun c => absurd rfl c)
  refine j_iload dL_law_1416 rfl ?_
  refine J_if_ne 1433 dL_law_1418 (by decide) (fun c => ?_) (fun c => ?_) rg_t1
  · refine j_goto 3041 dL_law_1433 (by decide) ?_
    refine j_room (ck' := ck) (sk' := sk) (by omega) (by omega) ?_
    exact j_locR (kk _ ⟨d, s', Z, d3, mp3, p3, Z3, _, hD3, hZ, hI', hM3, hZ3, hMI3, hd3, ho3, hf3, hE⟩) (by repeat' (first | exact True.intro | refine And.intro rfl ?_))
  · refine j_aload_n 3 dL_law_1421 rfl rfl ?_
    refine J_iconst dL_law_1422 ?_
    refine j_lald dL_law_1423 hf3 (I_vpin (by decide) (by decide)) ?_
    refine j_iload dL_law_1424 rfl ?_
    refine j_i2l dL_law_1426 ?_
    refine J_lcmp0 dL_law_1427 (hv' c) ?_
    refine J_if_eq 1433 dL_law_1428 (by decide) (fun _ => ?_) (fun c => absurd rfl c) (by decide)
    refine j_goto 3041 dL_law_1433 (by decide) ?_
    refine j_room (ck' := ck) (sk' := sk) (by omega) (by omega) ?_
    exact j_locR (kk _ ⟨d, s', Z, d3, mp3, p3, Z3, _, hD3, hZ, hI', hM3, hZ3, hMI3, hd3, ho3, hf3, hE⟩) (by repeat' (first | exact True.intro | refine And.intro rfl ?_))
set_option maxRecDepth 100000 in
theorem lc_17 {l : Launch} {G : jG} {a a2 o b N ck sk : Nat} {xs : Nat → Int32} {i n : Int} {QF : jF} {h : jH} (hl0 : l.stackTraces = false) (hN : N ≤ 2560) (hi : 0 ≤ i ∧ i + 5 ≤ (N : Int)) (hn : n < 512) (H : LI G a a2 o n h) (kk : ∀ h', LI G a a2 o (n + 1) h' → J l G mL_law (QH G b N xs QF) ck sk 3041 [(4, vI i), (3, .ref o), (2, .ref a2), (1, .ref a), (0, .ref b)] [] h') : J l G mL_law (QH G b N xs QF) (ck + 1030) (sk + 4110) 1436 [(4, vI i), (3, .ref o), (2, .ref a2), (1, .ref a), (0, .ref b)] [] h := by
  obtain ⟨d, s, Z, d2, mp, p, Z2, f, hD, hZ, hI, hM, hZ2, hMI, hd, ho, hf, hev⟩ := H
  have hO : ∀ {P : Nat → OS} {p0 : OS} {h' : jH}, DN G a d h P p0 h' → h' o = some (aJ G 1 f) := fun hp => by obtain ⟨_, _, _, _, _, g⟩ := hp; exact (g o (fun z => (hd o z).2 rfl)).trans hf
  refine j_aload_n 1 dL_law_1436 rfl rfl ?_
  refine j_aload_n 0 dL_law_1437 rfl rfl ?_
  refine j_iload dL_law_1438 rfl ?_
  refine J_iconst dL_law_1440 ?_
  refine J_iadd dL_law_1441 ?_
  refine J_sld dL_law_1442 (by omega) ?_
  refine j_aload_n 3 dL_law_1443 rfl rfl ?_
  refine j_callSH (ck' := ck + 1029) (sk' := sk + 4104) kL_205 ceL_lengthOfBar csL_lengthOfBar (c_L_lengthOfBar (f := f) hD.1 (toDN (c_X9_lengthOfBar hl0 hD hI hZ (sX_rg _ _))) (hr1 rfl) (fun _ hp => hO hp)) (fun E h' hp => by cases hp.1) rfl rfl rfl rfl rfl dL_law_1444 (by show 1 + (ck + 1029) ≤ ck + 1030; omega) (by show 6 + (sk + 4104) ≤ sk + 4110; omega) (fun v9 h2 hp => ?_)
  obtain ⟨ev9, h1, f', hN1, hf', hv', h12⟩ := hp
  cases ev9
  obtain ⟨s', hD', hI', es, ep, hM'⟩ := law_A hM hd ho hN1 h12
  refine j_istore (L' := [(5, _), (4, _), (3, _), (2, _), (1, _), (0, _)]) dL_law_1447 rfl rfl ?_
  refine j_aload_n 2 dL_law_1449 rfl rfl ?_
  refine j_aload_n 0 dL_law_1450 rfl rfl ?_
  refine j_iload dL_law_1451 rfl ?_
  refine J_iconst dL_law_1453 ?_
  refine J_iadd dL_law_1454 ?_
  refine J_sld dL_law_1455 (by omega) ?_
  refine j_callV (ck' := ck + 1029) (sk' := sk + 4104) kL_207 cvX11_lengthOfBar hM'.1.1 (toMN hZ2 (c_X11_lengthOfBar hM' hZ2 hMI (sX_rg _ _))) rfl rfl rfl rfl rfl dL_law_1456 (by show 0 + (ck + 1029) ≤ ck + 1029; omega) (by show 0 + (sk + 4104) ≤ sk + 4104; omega) (fun v9 h3 hp => ?_) (fun E h' hp => by cases hp.1)
  obtain ⟨ev9, hN2⟩ := hp
  cases ev9
  obtain ⟨d3, mp3, p3, Z3, hM3, hZ3, hMI3, ht3, hD3, hd3, ho3, hf3⟩ := law_B hD' hd ho hf' es ep hN2
  have hE : evs s'.1 ≤ n + 1 := by rw [es]; omega
  refine j_istore (L' := [(6, _), (5, _), (4, _), (3, _), (2, _), (1, _), (0, _)]) dL_law_1459 rfl rfl ?_
  refine j_aload_n 2 dL_law_1461 rfl rfl ?_
  refine J_callV1 kL_150 cvX11_thrown hM3.1.1 (c_X11_thrown hM3 hZ3 hMI3) rfl rfl rfl rfl rfl dL_law_1462 rfl rfl ?_
  rw [ht3]
  refine j_iload dL_law_1465 rfl ?_
  refine j_icmp_eq 1472 dL_law_1467 (by decide) (fun _ => ?_) (fun c => absurd rfl c)
  refine j_iload dL_law_1472 rfl ?_
  refine J_if_ne 1489 dL_law_1474 (by decide) (fun c => ?_) (fun c => ?_) rg_t1
  · refine j_goto 3041 dL_law_1489 (by decide) ?_
    refine j_room (ck' := ck) (sk' := sk) (by omega) (by omega) ?_
    exact j_locR (kk _ ⟨d, s', Z, d3, mp3, p3, Z3, _, hD3, hZ, hI', hM3, hZ3, hMI3, hd3, ho3, hf3, hE⟩) (by repeat' (first | exact True.intro | refine And.intro rfl ?_))
  · refine j_aload_n 3 dL_law_1477 rfl rfl ?_
    refine J_iconst dL_law_1478 ?_
    refine j_lald dL_law_1479 hf3 (I_vpin (by decide) (by decide)) ?_
    refine j_iload dL_law_1480 rfl ?_
    refine j_i2l dL_law_1482 ?_
    refine J_lcmp0 dL_law_1483 (hv' c) ?_
    refine J_if_eq 1489 dL_law_1484 (by decide) (fun _ => ?_) (fun c => absurd rfl c) (by decide)
    refine j_goto 3041 dL_law_1489 (by decide) ?_
    refine j_room (ck' := ck) (sk' := sk) (by omega) (by omega) ?_
    exact j_locR (kk _ ⟨d, s', Z, d3, mp3, p3, Z3, _, hD3, hZ, hI', hM3, hZ3, hMI3, hd3, ho3, hf3, hE⟩) (by repeat' (first | exact True.intro | refine And.intro rfl ?_))
set_option maxRecDepth 100000 in
theorem lc_18 {l : Launch} {G : jG} {a a2 o b N ck sk : Nat} {xs : Nat → Int32} {i n : Int} {QF : jF} {h : jH} (hl0 : l.stackTraces = false) (hN : N ≤ 2560) (hi : 0 ≤ i ∧ i + 5 ≤ (N : Int)) (hn : n < 512) (H : LI G a a2 o n h) (kk : ∀ h', LI G a a2 o (n + 1) h' → J l G mL_law (QH G b N xs QF) ck sk 3041 [(4, vI i), (3, .ref o), (2, .ref a2), (1, .ref a), (0, .ref b)] [] h') : J l G mL_law (QH G b N xs QF) (ck + 1030) (sk + 4110) 1492 [(4, vI i), (3, .ref o), (2, .ref a2), (1, .ref a), (0, .ref b)] [] h := by
  obtain ⟨d, s, Z, d2, mp, p, Z2, f, hD, hZ, hI, hM, hZ2, hMI, hd, ho, hf, hev⟩ := H
  have hO : ∀ {P : Nat → OS} {p0 : OS} {h' : jH}, DN G a d h P p0 h' → h' o = some (aJ G 1 f) := fun hp => by obtain ⟨_, _, _, _, _, g⟩ := hp; exact (g o (fun z => (hd o z).2 rfl)).trans hf
  refine j_aload_n 1 dL_law_1492 rfl rfl ?_
  refine j_aload_n 0 dL_law_1493 rfl rfl ?_
  refine j_iload dL_law_1494 rfl ?_
  refine J_iconst dL_law_1496 ?_
  refine J_iadd dL_law_1497 ?_
  refine J_sld dL_law_1498 (by omega) ?_
  refine j_aload_n 0 dL_law_1499 rfl rfl ?_
  refine j_iload dL_law_1500 rfl ?_
  refine J_iconst dL_law_1502 ?_
  refine J_iadd dL_law_1503 ?_
  refine J_sld dL_law_1504 (by omega) ?_
  refine j_aload_n 3 dL_law_1505 rfl rfl ?_
  refine j_callSH (ck' := ck + 1029) (sk' := sk + 4104) kL_208 ceL_signs csL_signs (c_L_signs (f := f) hD.1 (toDN (c_X9_signs hl0 hD hI hZ (sX_rg _ _) (sX_rg _ _))) (hr1 rfl) (fun _ hp => hO hp)) (fun E h' hp => by cases hp.1) rfl rfl rfl rfl rfl dL_law_1506 (by show 1 + (ck + 1029) ≤ ck + 1030; omega) (by show 6 + (sk + 4104) ≤ sk + 4110; omega) (fun v9 h2 hp => ?_)
  obtain ⟨ev9, h1, f', hN1, hf', hv', h12⟩ := hp
  cases ev9
  obtain ⟨s', hD', hI', es, ep, hM'⟩ := law_A hM hd ho hN1 h12
  refine j_istore (L' := [(5, _), (4, _), (3, _), (2, _), (1, _), (0, _)]) dL_law_1509 rfl rfl ?_
  refine j_aload_n 2 dL_law_1511 rfl rfl ?_
  refine j_aload_n 0 dL_law_1512 rfl rfl ?_
  refine j_iload dL_law_1513 rfl ?_
  refine J_iconst dL_law_1515 ?_
  refine J_iadd dL_law_1516 ?_
  refine J_sld dL_law_1517 (by omega) ?_
  refine j_aload_n 0 dL_law_1518 rfl rfl ?_
  refine j_iload dL_law_1519 rfl ?_
  refine J_iconst dL_law_1521 ?_
  refine J_iadd dL_law_1522 ?_
  refine J_sld dL_law_1523 (by omega) ?_
  refine j_callV (ck' := ck + 1029) (sk' := sk + 4104) kL_210 cvX11_signs hM'.1.1 (toMN hZ2 (c_X11_signs hM' hZ2 hMI (sX_rg _ _) (sX_rg _ _))) rfl rfl rfl rfl rfl dL_law_1524 (by show 0 + (ck + 1029) ≤ ck + 1029; omega) (by show 0 + (sk + 4104) ≤ sk + 4104; omega) (fun v9 h3 hp => ?_) (fun E h' hp => by cases hp.1)
  obtain ⟨ev9, hN2⟩ := hp
  cases ev9
  obtain ⟨d3, mp3, p3, Z3, hM3, hZ3, hMI3, ht3, hD3, hd3, ho3, hf3⟩ := law_B hD' hd ho hf' es ep hN2
  have hE : evs s'.1 ≤ n + 1 := by rw [es]; omega
  refine j_istore (L' := [(6, _), (5, _), (4, _), (3, _), (2, _), (1, _), (0, _)]) dL_law_1527 rfl rfl ?_
  refine j_aload_n 2 dL_law_1529 rfl rfl ?_
  refine J_callV1 kL_150 cvX11_thrown hM3.1.1 (c_X11_thrown hM3 hZ3 hMI3) rfl rfl rfl rfl rfl dL_law_1530 rfl rfl ?_
  rw [ht3]
  refine j_iload dL_law_1533 rfl ?_
  refine j_icmp_eq 1540 dL_law_1535 (by decide) (fun _ => ?_) (fun c => absurd rfl c)
  refine j_iload dL_law_1540 rfl ?_
  refine J_if_ne 1557 dL_law_1542 (by decide) (fun c => ?_) (fun c => ?_) rg_t1
  · refine j_goto 3041 dL_law_1557 (by decide) ?_
    refine j_room (ck' := ck) (sk' := sk) (by omega) (by omega) ?_
    exact j_locR (kk _ ⟨d, s', Z, d3, mp3, p3, Z3, _, hD3, hZ, hI', hM3, hZ3, hMI3, hd3, ho3, hf3, hE⟩) (by repeat' (first | exact True.intro | refine And.intro rfl ?_))
  · refine j_aload_n 3 dL_law_1545 rfl rfl ?_
    refine J_iconst dL_law_1546 ?_
    refine j_lald dL_law_1547 hf3 (I_vpin (by decide) (by decide)) ?_
    refine j_iload dL_law_1548 rfl ?_
    refine j_i2l dL_law_1550 ?_
    refine J_lcmp0 dL_law_1551 (hv' c) ?_
    refine J_if_eq 1557 dL_law_1552 (by decide) (fun _ => ?_) (fun c => absurd rfl c) (by decide)
    refine j_goto 3041 dL_law_1557 (by decide) ?_
    refine j_room (ck' := ck) (sk' := sk) (by omega) (by omega) ?_
    exact j_locR (kk _ ⟨d, s', Z, d3, mp3, p3, Z3, _, hD3, hZ, hI', hM3, hZ3, hMI3, hd3, ho3, hf3, hE⟩) (by repeat' (first | exact True.intro | refine And.intro rfl ?_))
set_option maxRecDepth 100000 in
theorem lc_19 {l : Launch} {G : jG} {a a2 o b N ck sk : Nat} {xs : Nat → Int32} {i n : Int} {QF : jF} {h : jH} (hl0 : l.stackTraces = false) (hN : N ≤ 2560) (hi : 0 ≤ i ∧ i + 5 ≤ (N : Int)) (hn : n < 512) (H : LI G a a2 o n h) (kk : ∀ h', LI G a a2 o (n + 1) h' → J l G mL_law (QH G b N xs QF) ck sk 3041 [(4, vI i), (3, .ref o), (2, .ref a2), (1, .ref a), (0, .ref b)] [] h') : J l G mL_law (QH G b N xs QF) (ck + 1030) (sk + 4110) 1560 [(4, vI i), (3, .ref o), (2, .ref a2), (1, .ref a), (0, .ref b)] [] h := by
  obtain ⟨d, s, Z, d2, mp, p, Z2, f, hD, hZ, hI, hM, hZ2, hMI, hd, ho, hf, hev⟩ := H
  have hO : ∀ {P : Nat → OS} {p0 : OS} {h' : jH}, DN G a d h P p0 h' → h' o = some (aJ G 1 f) := fun hp => by obtain ⟨_, _, _, _, _, g⟩ := hp; exact (g o (fun z => (hd o z).2 rfl)).trans hf
  refine j_aload_n 1 dL_law_1560 rfl rfl ?_
  refine j_aload_n 0 dL_law_1561 rfl rfl ?_
  refine j_iload dL_law_1562 rfl ?_
  refine J_iconst dL_law_1564 ?_
  refine J_iadd dL_law_1565 ?_
  refine J_sld dL_law_1566 (by omega) ?_
  refine j_aload_n 0 dL_law_1567 rfl rfl ?_
  refine j_iload dL_law_1568 rfl ?_
  refine J_iconst dL_law_1570 ?_
  refine J_iadd dL_law_1571 ?_
  refine J_sld dL_law_1572 (by omega) ?_
  refine j_aload_n 0 dL_law_1573 rfl rfl ?_
  refine j_iload dL_law_1574 rfl ?_
  refine J_iconst dL_law_1576 ?_
  refine J_iadd dL_law_1577 ?_
  refine J_sld dL_law_1578 (by omega) ?_
  refine j_aload_n 3 dL_law_1579 rfl rfl ?_
  refine j_callSH (ck' := ck + 1029) (sk' := sk + 4104) kL_211 ceL_eventOf csL_eventOf (c_L_eventOf (f := f) hD.1 (toDN (c_X9_eventOf hl0 hD hI hZ (sX_rg _ _) (sX_rg _ _) (sX_rg _ _))) (hr1 rfl) (fun _ hp => hO hp)) (fun E h' hp => by cases hp.1) rfl rfl rfl rfl rfl dL_law_1580 (by show 1 + (ck + 1029) ≤ ck + 1030; omega) (by show 6 + (sk + 4104) ≤ sk + 4110; omega) (fun v9 h2 hp => ?_)
  obtain ⟨ev9, h1, f', hN1, hf', hv', h12⟩ := hp
  cases ev9
  obtain ⟨s', hD', hI', es, ep, hM'⟩ := law_A hM hd ho hN1 h12
  refine j_istore (L' := [(5, _), (4, _), (3, _), (2, _), (1, _), (0, _)]) dL_law_1583 rfl rfl ?_
  refine j_aload_n 2 dL_law_1585 rfl rfl ?_
  refine j_aload_n 0 dL_law_1586 rfl rfl ?_
  refine j_iload dL_law_1587 rfl ?_
  refine J_iconst dL_law_1589 ?_
  refine J_iadd dL_law_1590 ?_
  refine J_sld dL_law_1591 (by omega) ?_
  refine j_aload_n 0 dL_law_1592 rfl rfl ?_
  refine j_iload dL_law_1593 rfl ?_
  refine J_iconst dL_law_1595 ?_
  refine J_iadd dL_law_1596 ?_
  refine J_sld dL_law_1597 (by omega) ?_
  refine j_aload_n 0 dL_law_1598 rfl rfl ?_
  refine j_iload dL_law_1599 rfl ?_
  refine J_iconst dL_law_1601 ?_
  refine J_iadd dL_law_1602 ?_
  refine J_sld dL_law_1603 (by omega) ?_
  refine j_callV (ck' := ck + 1029) (sk' := sk + 4104) kL_213 cvX11_eventOf hM'.1.1 (toMN hZ2 (c_X11_eventOf hM' hZ2 hMI (sX_rg _ _) (sX_rg _ _) (sX_rg _ _))) rfl rfl rfl rfl rfl dL_law_1604 (by show 0 + (ck + 1029) ≤ ck + 1029; omega) (by show 0 + (sk + 4104) ≤ sk + 4104; omega) (fun v9 h3 hp => ?_) (fun E h' hp => by cases hp.1)
  obtain ⟨ev9, hN2⟩ := hp
  cases ev9
  obtain ⟨d3, mp3, p3, Z3, hM3, hZ3, hMI3, ht3, hD3, hd3, ho3, hf3⟩ := law_B hD' hd ho hf' es ep hN2
  have hE : evs s'.1 ≤ n + 1 := by rw [es]; omega
  refine j_istore (L' := [(6, _), (5, _), (4, _), (3, _), (2, _), (1, _), (0, _)]) dL_law_1607 rfl rfl ?_
  refine j_aload_n 2 dL_law_1609 rfl rfl ?_
  refine J_callV1 kL_150 cvX11_thrown hM3.1.1 (c_X11_thrown hM3 hZ3 hMI3) rfl rfl rfl rfl rfl dL_law_1610 rfl rfl ?_
  rw [ht3]
  refine j_iload dL_law_1613 rfl ?_
  refine j_icmp_eq 1620 dL_law_1615 (by decide) (fun _ => ?_) (fun c => absurd rfl c)
  refine j_iload dL_law_1620 rfl ?_
  refine J_if_ne 1637 dL_law_1622 (by decide) (fun c => ?_) (fun c => ?_) rg_t1
  · refine j_goto 3041 dL_law_1637 (by decide) ?_
    refine j_room (ck' := ck) (sk' := sk) (by omega) (by omega) ?_
    exact j_locR (kk _ ⟨d, s', Z, d3, mp3, p3, Z3, _, hD3, hZ, hI', hM3, hZ3, hMI3, hd3, ho3, hf3, hE⟩) (by repeat' (first | exact True.intro | refine And.intro rfl ?_))
  · refine j_aload_n 3 dL_law_1625 rfl rfl ?_
    refine J_iconst dL_law_1626 ?_
    refine j_lald dL_law_1627 hf3 (I_vpin (by decide) (by decide)) ?_
    refine j_iload dL_law_1628 rfl ?_
    refine j_i2l dL_law_1630 ?_
    refine J_lcmp0 dL_law_1631 (hv' c) ?_
    refine J_if_eq 1637 dL_law_1632 (by decide) (fun _ => ?_) (fun c => absurd rfl c) (by decide)
    refine j_goto 3041 dL_law_1637 (by decide) ?_
    refine j_room (ck' := ck) (sk' := sk) (by omega) (by omega) ?_
    exact j_locR (kk _ ⟨d, s', Z, d3, mp3, p3, Z3, _, hD3, hZ, hI', hM3, hZ3, hMI3, hd3, ho3, hf3, hE⟩) (by repeat' (first | exact True.intro | refine And.intro rfl ?_))
set_option maxRecDepth 100000 in
theorem lc_20 {l : Launch} {G : jG} {a a2 o b N ck sk : Nat} {xs : Nat → Int32} {i n : Int} {QF : jF} {h : jH} (hl0 : l.stackTraces = false) (hN : N ≤ 2560) (hi : 0 ≤ i ∧ i + 5 ≤ (N : Int)) (hn : n < 512) (H : LI G a a2 o n h) (kk : ∀ h', LI G a a2 o (n + 1) h' → J l G mL_law (QH G b N xs QF) ck sk 3041 [(4, vI i), (3, .ref o), (2, .ref a2), (1, .ref a), (0, .ref b)] [] h') : J l G mL_law (QH G b N xs QF) (ck + 1030) (sk + 4110) 1640 [(4, vI i), (3, .ref o), (2, .ref a2), (1, .ref a), (0, .ref b)] [] h := by
  obtain ⟨d, s, Z, d2, mp, p, Z2, f, hD, hZ, hI, hM, hZ2, hMI, hd, ho, hf, hev⟩ := H
  have hO : ∀ {P : Nat → OS} {p0 : OS} {h' : jH}, DN G a d h P p0 h' → h' o = some (aJ G 1 f) := fun hp => by obtain ⟨_, _, _, _, _, g⟩ := hp; exact (g o (fun z => (hd o z).2 rfl)).trans hf
  refine j_aload_n 1 dL_law_1640 rfl rfl ?_
  refine j_aload_n 0 dL_law_1641 rfl rfl ?_
  refine j_iload dL_law_1642 rfl ?_
  refine J_iconst dL_law_1644 ?_
  refine J_iadd dL_law_1645 ?_
  refine J_sld dL_law_1646 (by omega) ?_
  refine j_aload_n 0 dL_law_1647 rfl rfl ?_
  refine j_iload dL_law_1648 rfl ?_
  refine J_iconst dL_law_1650 ?_
  refine J_iadd dL_law_1651 ?_
  refine J_sld dL_law_1652 (by omega) ?_
  refine j_aload_n 0 dL_law_1653 rfl rfl ?_
  refine j_iload dL_law_1654 rfl ?_
  refine J_iconst dL_law_1656 ?_
  refine J_iadd dL_law_1657 ?_
  refine J_sld dL_law_1658 (by omega) ?_
  refine j_aload_n 3 dL_law_1659 rfl rfl ?_
  refine j_callSH (ck' := ck + 1029) (sk' := sk + 4104) kL_214 ceL_lengthOf csL_lengthOf (c_L_lengthOf (f := f) hD.1 (toDN (c_X9_lengthOf hl0 hD hI hZ (sX_rg _ _) (sX_rg _ _) (sX_rg _ _))) (hr1 rfl) (fun _ hp => hO hp)) (fun E h' hp => by cases hp.1) rfl rfl rfl rfl rfl dL_law_1660 (by show 1 + (ck + 1029) ≤ ck + 1030; omega) (by show 6 + (sk + 4104) ≤ sk + 4110; omega) (fun v9 h2 hp => ?_)
  obtain ⟨ev9, h1, f', hN1, hf', hv', h12⟩ := hp
  cases ev9
  obtain ⟨s', hD', hI', es, ep, hM'⟩ := law_A hM hd ho hN1 h12
  refine j_istore (L' := [(5, _), (4, _), (3, _), (2, _), (1, _), (0, _)]) dL_law_1663 rfl rfl ?_
  refine j_aload_n 2 dL_law_1665 rfl rfl ?_
  refine j_aload_n 0 dL_law_1666 rfl rfl ?_
  refine j_iload dL_law_1667 rfl ?_
  refine J_iconst dL_law_1669 ?_
  refine J_iadd dL_law_1670 ?_
  refine J_sld dL_law_1671 (by omega) ?_
  refine j_aload_n 0 dL_law_1672 rfl rfl ?_
  refine j_iload dL_law_1673 rfl ?_
  refine J_iconst dL_law_1675 ?_
  refine J_iadd dL_law_1676 ?_
  refine J_sld dL_law_1677 (by omega) ?_
  refine j_aload_n 0 dL_law_1678 rfl rfl ?_
  refine j_iload dL_law_1679 rfl ?_
  refine J_iconst dL_law_1681 ?_
  refine J_iadd dL_law_1682 ?_
  refine J_sld dL_law_1683 (by omega) ?_
  refine j_callV (ck' := ck + 1029) (sk' := sk + 4104) kL_216 cvX11_lengthOf hM'.1.1 (toMN hZ2 (c_X11_lengthOf hM' hZ2 hMI (sX_rg _ _) (sX_rg _ _) (sX_rg _ _))) rfl rfl rfl rfl rfl dL_law_1684 (by show 0 + (ck + 1029) ≤ ck + 1029; omega) (by show 0 + (sk + 4104) ≤ sk + 4104; omega) (fun v9 h3 hp => ?_) (fun E h' hp => by cases hp.1)
  obtain ⟨ev9, hN2⟩ := hp
  cases ev9
  obtain ⟨d3, mp3, p3, Z3, hM3, hZ3, hMI3, ht3, hD3, hd3, ho3, hf3⟩ := law_B hD' hd ho hf' es ep hN2
  have hE : evs s'.1 ≤ n + 1 := by rw [es]; omega
  refine j_istore (L' := [(6, _), (5, _), (4, _), (3, _), (2, _), (1, _), (0, _)]) dL_law_1687 rfl rfl ?_
  refine j_aload_n 2 dL_law_1689 rfl rfl ?_
  refine J_callV1 kL_150 cvX11_thrown hM3.1.1 (c_X11_thrown hM3 hZ3 hMI3) rfl rfl rfl rfl rfl dL_law_1690 rfl rfl ?_
  rw [ht3]
  refine j_iload dL_law_1693 rfl ?_
  refine j_icmp_eq 1700 dL_law_1695 (by decide) (fun _ => ?_) (fun c => absurd rfl c)
  refine j_iload dL_law_1700 rfl ?_
  refine J_if_ne 1717 dL_law_1702 (by decide) (fun c => ?_) (fun c => ?_) rg_t1
  · refine j_goto 3041 dL_law_1717 (by decide) ?_
    refine j_room (ck' := ck) (sk' := sk) (by omega) (by omega) ?_
    exact j_locR (kk _ ⟨d, s', Z, d3, mp3, p3, Z3, _, hD3, hZ, hI', hM3, hZ3, hMI3, hd3, ho3, hf3, hE⟩) (by repeat' (first | exact True.intro | refine And.intro rfl ?_))
  · refine j_aload_n 3 dL_law_1705 rfl rfl ?_
    refine J_iconst dL_law_1706 ?_
    refine j_lald dL_law_1707 hf3 (I_vpin (by decide) (by decide)) ?_
    refine j_iload dL_law_1708 rfl ?_
    refine j_i2l dL_law_1710 ?_
    refine J_lcmp0 dL_law_1711 (hv' c) ?_
    refine J_if_eq 1717 dL_law_1712 (by decide) (fun _ => ?_) (fun c => absurd rfl c) (by decide)
    refine j_goto 3041 dL_law_1717 (by decide) ?_
    refine j_room (ck' := ck) (sk' := sk) (by omega) (by omega) ?_
    exact j_locR (kk _ ⟨d, s', Z, d3, mp3, p3, Z3, _, hD3, hZ, hI', hM3, hZ3, hMI3, hd3, ho3, hf3, hE⟩) (by repeat' (first | exact True.intro | refine And.intro rfl ?_))
