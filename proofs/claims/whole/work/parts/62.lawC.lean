theorem lw_case_30 {E : fnE} {L : Nat} {xs : Nat → Int32} {V : fnV} (h : lwX E L xs V) {σ : fnMem} (hC : zCR σ (mv σ)) (hW : zWF (mv σ)) {i : Int} (i0 : 0 ≤ i) (i1 : i + 7 ≤ L) (kk : ∀ σ2 : fnMem, zCR σ2 (mv σ2) → zWF (mv σ2) → V 1769 [.ref 101, .ref 0, .ref 51, zI i] [] σ2) : V 1190 [.ref 101, .ref 0, .ref 51, zI i] [] σ := by
  obtain ⟨hV, hL, hI, hA, hR⟩ := h
  refine fn_aload_1 hV dL_law_1190 ?_
  refine fn_aload_0 hV dL_law_1191 ?_
  refine fn_iload_3 hV dL_law_1192 ?_
  refine fn_iconst hV dL_law_1193 ?_
  refine fn_iadd hV dL_law_1194 ?_
  refine hI _ _ _ _ _ _ dL_law_1195 (by omega) (by omega) ?_
  refine fn_aload_0 hV dL_law_1196 ?_
  refine fn_iload_3 hV dL_law_1197 ?_
  refine fn_iconst hV dL_law_1198 ?_
  refine fn_iadd hV dL_law_1199 ?_
  refine hI _ _ _ _ _ _ dL_law_1200 (by omega) (by omega) ?_
  refine fn_aload_0 hV dL_law_1201 ?_
  refine fn_iload_3 hV dL_law_1202 ?_
  refine fn_iconst hV dL_law_1203 ?_
  refine fn_iadd hV dL_law_1204 ?_
  refine hI _ _ _ _ _ _ dL_law_1205 (by omega) (by omega) ?_
  refine fn_aload_0 hV dL_law_1206 ?_
  refine fn_iload_3 hV dL_law_1207 ?_
  refine fn_iconst hV dL_law_1208 ?_
  refine fn_iadd hV dL_law_1209 ?_
  refine hI _ _ _ _ _ _ dL_law_1210 (by omega) (by omega) ?_
  refine fn_aload_0 hV dL_law_1211 ?_
  refine fn_iload_3 hV dL_law_1212 ?_
  refine fn_iconst hV dL_law_1213 ?_
  refine fn_iadd hV dL_law_1214 ?_
  refine hI _ _ _ _ _ _ dL_law_1215 (by omega) (by omega) ?_
  refine fn_if_eq hV (lw_R _) dL_law_1216 (fun qb5 => ?_) (fun qb5 => ?_)
  · skip
    refine fn_iconst hV dL_law_1223 ?_
    refine fn_cV5I hV (c_X10_foretold E _ (mv σ) hC hW _ (lw_R _) _ (lw_R _) _ (lw_R _) _ (lw_R _) _ (Or.inl rfl)) mv_X10_foretold lk_L_139 dL_law_1224 sh_0 rfl ⟨rfl, rfl⟩ rfl (fun z1 σ1 hp1 => ?_)
    obtain ⟨hz1, hC1, hf1⟩ := hp1
    have e1 : mv σ1 = mv σ := funext fun k => hf1 (51 + k) (by omega)
    refine fn_aload_2 hV dL_law_1227 ?_
    refine fn_aload_0 hV dL_law_1228 ?_
    refine fn_iload_3 hV dL_law_1229 ?_
    refine fn_iconst hV dL_law_1230 ?_
    refine fn_iadd hV dL_law_1231 ?_
    refine hI _ _ _ _ _ _ dL_law_1232 (by omega) (by omega) ?_
    refine fn_aload_0 hV dL_law_1233 ?_
    refine fn_iload_3 hV dL_law_1234 ?_
    refine fn_iconst hV dL_law_1235 ?_
    refine fn_iadd hV dL_law_1236 ?_
    refine hI _ _ _ _ _ _ dL_law_1237 (by omega) (by omega) ?_
    refine fn_aload_0 hV dL_law_1238 ?_
    refine fn_iload_3 hV dL_law_1239 ?_
    refine fn_iconst hV dL_law_1240 ?_
    refine fn_iadd hV dL_law_1241 ?_
    refine hI _ _ _ _ _ _ dL_law_1242 (by omega) (by omega) ?_
    refine fn_aload_0 hV dL_law_1243 ?_
    refine fn_iload_3 hV dL_law_1244 ?_
    refine fn_iconst hV dL_law_1245 ?_
    refine fn_iadd hV dL_law_1246 ?_
    refine hI _ _ _ _ _ _ dL_law_1247 (by omega) (by omega) ?_
    refine fn_aload_0 hV dL_law_1248 ?_
    refine fn_iload_3 hV dL_law_1249 ?_
    refine fn_iconst hV dL_law_1250 ?_
    refine fn_iadd hV dL_law_1251 ?_
    refine hI _ _ _ _ _ _ dL_law_1252 (by omega) (by omega) ?_
    refine fn_if_eq hV (lw_R _) dL_law_1253 (fun _ => ?_) (fun q => absurd qb5 q)
    refine fn_iconst hV dL_law_1260 ?_
    refine fn_cV5I hV (c_X11_foretold E σ1 (by rw [e1]; exact hW) _ (lw_R _) _ (lw_R _) _ (lw_R _) _ (lw_R _) _ (Or.inl rfl)) mv_X11_foretold lk_L_143 dL_law_1261 sh_51 rfl ⟨rfl, rfl⟩ rfl (fun z2 σ2 hp2 => ?_)
    rw [e1] at hp2
    obtain ⟨hz2, hs2, hf2⟩ := hp2
    refine fn_icmp_eqT hV dL_law_1264 (by rw [hz1, hz2]) ?_
    exact kk σ2 (zCR_sc hC1 hf2 hs2) (zWF_sc hW hs2)
  · skip
    refine fn_iconst hV dL_law_1219 ?_
    refine fn_goto hV dL_law_1220 ?_
    refine fn_cV5I hV (c_X10_foretold E _ (mv σ) hC hW _ (lw_R _) _ (lw_R _) _ (lw_R _) _ (lw_R _) _ (Or.inr rfl)) mv_X10_foretold lk_L_139 dL_law_1224 sh_0 rfl ⟨rfl, rfl⟩ rfl (fun z1 σ1 hp1 => ?_)
    obtain ⟨hz1, hC1, hf1⟩ := hp1
    have e1 : mv σ1 = mv σ := funext fun k => hf1 (51 + k) (by omega)
    refine fn_aload_2 hV dL_law_1227 ?_
    refine fn_aload_0 hV dL_law_1228 ?_
    refine fn_iload_3 hV dL_law_1229 ?_
    refine fn_iconst hV dL_law_1230 ?_
    refine fn_iadd hV dL_law_1231 ?_
    refine hI _ _ _ _ _ _ dL_law_1232 (by omega) (by omega) ?_
    refine fn_aload_0 hV dL_law_1233 ?_
    refine fn_iload_3 hV dL_law_1234 ?_
    refine fn_iconst hV dL_law_1235 ?_
    refine fn_iadd hV dL_law_1236 ?_
    refine hI _ _ _ _ _ _ dL_law_1237 (by omega) (by omega) ?_
    refine fn_aload_0 hV dL_law_1238 ?_
    refine fn_iload_3 hV dL_law_1239 ?_
    refine fn_iconst hV dL_law_1240 ?_
    refine fn_iadd hV dL_law_1241 ?_
    refine hI _ _ _ _ _ _ dL_law_1242 (by omega) (by omega) ?_
    refine fn_aload_0 hV dL_law_1243 ?_
    refine fn_iload_3 hV dL_law_1244 ?_
    refine fn_iconst hV dL_law_1245 ?_
    refine fn_iadd hV dL_law_1246 ?_
    refine hI _ _ _ _ _ _ dL_law_1247 (by omega) (by omega) ?_
    refine fn_aload_0 hV dL_law_1248 ?_
    refine fn_iload_3 hV dL_law_1249 ?_
    refine fn_iconst hV dL_law_1250 ?_
    refine fn_iadd hV dL_law_1251 ?_
    refine hI _ _ _ _ _ _ dL_law_1252 (by omega) (by omega) ?_
    refine fn_if_eq hV (lw_R _) dL_law_1253 (fun q => absurd q qb5) (fun _ => ?_)
    refine fn_iconst hV dL_law_1256 ?_
    refine fn_goto hV dL_law_1257 ?_
    refine fn_cV5I hV (c_X11_foretold E σ1 (by rw [e1]; exact hW) _ (lw_R _) _ (lw_R _) _ (lw_R _) _ (lw_R _) _ (Or.inr rfl)) mv_X11_foretold lk_L_143 dL_law_1261 sh_51 rfl ⟨rfl, rfl⟩ rfl (fun z2 σ2 hp2 => ?_)
    rw [e1] at hp2
    obtain ⟨hz2, hs2, hf2⟩ := hp2
    refine fn_icmp_eqT hV dL_law_1264 (by rw [hz1, hz2]) ?_
    exact kk σ2 (zCR_sc hC1 hf2 hs2) (zWF_sc hW hs2)
theorem lw_case_31 {E : fnE} {L : Nat} {xs : Nat → Int32} {V : fnV} (h : lwX E L xs V) {σ : fnMem} (hC : zCR σ (mv σ)) (hW : zWF (mv σ)) {i : Int} (i0 : 0 ≤ i) (i1 : i + 7 ≤ L) (kk : ∀ σ2 : fnMem, zCR σ2 (mv σ2) → zWF (mv σ2) → V 1769 [.ref 101, .ref 0, .ref 51, zI i] [] σ2) : V 1269 [.ref 101, .ref 0, .ref 51, zI i] [] σ := by
  obtain ⟨hV, hL, hI, hA, hR⟩ := h
  refine fn_aload_1 hV dL_law_1269 ?_
  refine fn_aload_0 hV dL_law_1270 ?_
  refine fn_iload_3 hV dL_law_1271 ?_
  refine fn_iconst hV dL_law_1272 ?_
  refine fn_iadd hV dL_law_1273 ?_
  refine hI _ _ _ _ _ _ dL_law_1274 (by omega) (by omega) ?_
  refine fn_aload_0 hV dL_law_1275 ?_
  refine fn_iload_3 hV dL_law_1276 ?_
  refine fn_iconst hV dL_law_1277 ?_
  refine fn_iadd hV dL_law_1278 ?_
  refine hI _ _ _ _ _ _ dL_law_1279 (by omega) (by omega) ?_
  refine fn_aload_0 hV dL_law_1280 ?_
  refine fn_iload_3 hV dL_law_1281 ?_
  refine fn_iconst hV dL_law_1282 ?_
  refine fn_iadd hV dL_law_1283 ?_
  refine hI _ _ _ _ _ _ dL_law_1284 (by omega) (by omega) ?_
  refine fn_aload_0 hV dL_law_1285 ?_
  refine fn_iload_3 hV dL_law_1286 ?_
  refine fn_iconst hV dL_law_1287 ?_
  refine fn_iadd hV dL_law_1288 ?_
  refine hI _ _ _ _ _ _ dL_law_1289 (by omega) (by omega) ?_
  refine fn_aload_0 hV dL_law_1290 ?_
  refine fn_iload_3 hV dL_law_1291 ?_
  refine fn_iconst hV dL_law_1292 ?_
  refine fn_iadd hV dL_law_1293 ?_
  refine hI _ _ _ _ _ _ dL_law_1294 (by omega) (by omega) ?_
  refine fn_cV5I hV (c_X10_foretoldError E _ (mv σ) hC hW _ (lw_R _) _ (lw_R _) _ (lw_R _) _ (lw_R _) _ (lw_R _)) mv_X10_foretoldError lk_L_144 dL_law_1295 sh_0 rfl ⟨rfl, rfl⟩ rfl (fun z1 σ1 hp1 => ?_)
  obtain ⟨hz1, hC1, hf1⟩ := hp1
  have e1 : mv σ1 = mv σ := funext fun k => hf1 (51 + k) (by omega)
  refine fn_aload_2 hV dL_law_1298 ?_
  refine fn_aload_0 hV dL_law_1299 ?_
  refine fn_iload_3 hV dL_law_1300 ?_
  refine fn_iconst hV dL_law_1301 ?_
  refine fn_iadd hV dL_law_1302 ?_
  refine hI _ _ _ _ _ _ dL_law_1303 (by omega) (by omega) ?_
  refine fn_aload_0 hV dL_law_1304 ?_
  refine fn_iload_3 hV dL_law_1305 ?_
  refine fn_iconst hV dL_law_1306 ?_
  refine fn_iadd hV dL_law_1307 ?_
  refine hI _ _ _ _ _ _ dL_law_1308 (by omega) (by omega) ?_
  refine fn_aload_0 hV dL_law_1309 ?_
  refine fn_iload_3 hV dL_law_1310 ?_
  refine fn_iconst hV dL_law_1311 ?_
  refine fn_iadd hV dL_law_1312 ?_
  refine hI _ _ _ _ _ _ dL_law_1313 (by omega) (by omega) ?_
  refine fn_aload_0 hV dL_law_1314 ?_
  refine fn_iload_3 hV dL_law_1315 ?_
  refine fn_iconst hV dL_law_1316 ?_
  refine fn_iadd hV dL_law_1317 ?_
  refine hI _ _ _ _ _ _ dL_law_1318 (by omega) (by omega) ?_
  refine fn_aload_0 hV dL_law_1319 ?_
  refine fn_iload_3 hV dL_law_1320 ?_
  refine fn_iconst hV dL_law_1321 ?_
  refine fn_iadd hV dL_law_1322 ?_
  refine hI _ _ _ _ _ _ dL_law_1323 (by omega) (by omega) ?_
  refine fn_cV5I hV (c_X11_foretoldError E σ1 (by rw [e1]; exact hW) _ (lw_R _) _ (lw_R _) _ (lw_R _) _ (lw_R _) _ (lw_R _)) mv_X11_foretoldError lk_L_148 dL_law_1324 sh_51 rfl ⟨rfl, rfl⟩ rfl (fun z2 σ2 hp2 => ?_)
  rw [e1] at hp2
  obtain ⟨hz2, hs2, hf2⟩ := hp2
  refine fn_icmp_eqT hV dL_law_1327 (by rw [hz1, hz2]) ?_
  exact kk σ2 (zCR_sc hC1 hf2 hs2) (zWF_sc hW hs2)
theorem lw_case_32 {E : fnE} {L : Nat} {xs : Nat → Int32} {V : fnV} (h : lwX E L xs V) {σ : fnMem} (hC : zCR σ (mv σ)) (hW : zWF (mv σ)) {i : Int} (i0 : 0 ≤ i) (i1 : i + 7 ≤ L) (kk : ∀ σ2 : fnMem, zCR σ2 (mv σ2) → zWF (mv σ2) → V 1769 [.ref 101, .ref 0, .ref 51, zI i] [] σ2) : V 1332 [.ref 101, .ref 0, .ref 51, zI i] [] σ := by
  obtain ⟨hV, hL, hI, hA, hR⟩ := h
  refine fn_aload_1 hV dL_law_1332 ?_
  refine fn_aload_0 hV dL_law_1333 ?_
  refine fn_iload_3 hV dL_law_1334 ?_
  refine fn_iconst hV dL_law_1335 ?_
  refine fn_iadd hV dL_law_1336 ?_
  refine hI _ _ _ _ _ _ dL_law_1337 (by omega) (by omega) ?_
  refine fn_aload_0 hV dL_law_1338 ?_
  refine fn_iload_3 hV dL_law_1339 ?_
  refine fn_iconst hV dL_law_1340 ?_
  refine fn_iadd hV dL_law_1341 ?_
  refine hI _ _ _ _ _ _ dL_law_1342 (by omega) (by omega) ?_
  refine fn_aload_0 hV dL_law_1343 ?_
  refine fn_iload_3 hV dL_law_1344 ?_
  refine fn_iconst hV dL_law_1345 ?_
  refine fn_iadd hV dL_law_1346 ?_
  refine hI _ _ _ _ _ _ dL_law_1347 (by omega) (by omega) ?_
  refine fn_aload_0 hV dL_law_1348 ?_
  refine fn_iload_3 hV dL_law_1349 ?_
  refine fn_iconst hV dL_law_1350 ?_
  refine fn_iadd hV dL_law_1351 ?_
  refine hI _ _ _ _ _ _ dL_law_1352 (by omega) (by omega) ?_
  refine fn_cV4I hV (c_X10_event E _ (mv σ) hC hW _ (lw_R _) _ (lw_R _) _ (lw_R _) _ (lw_R _)) mv_X10_event lk_L_149 dL_law_1353 sh_0 rfl ⟨rfl, rfl⟩ rfl (fun z1 σ1 hp1 => ?_)
  obtain ⟨hz1, hC1, hf1⟩ := hp1
  have e1 : mv σ1 = mv σ := funext fun k => hf1 (51 + k) (by omega)
  refine fn_aload_2 hV dL_law_1356 ?_
  refine fn_aload_0 hV dL_law_1357 ?_
  refine fn_iload_3 hV dL_law_1358 ?_
  refine fn_iconst hV dL_law_1359 ?_
  refine fn_iadd hV dL_law_1360 ?_
  refine hI _ _ _ _ _ _ dL_law_1361 (by omega) (by omega) ?_
  refine fn_aload_0 hV dL_law_1362 ?_
  refine fn_iload_3 hV dL_law_1363 ?_
  refine fn_iconst hV dL_law_1364 ?_
  refine fn_iadd hV dL_law_1365 ?_
  refine hI _ _ _ _ _ _ dL_law_1366 (by omega) (by omega) ?_
  refine fn_aload_0 hV dL_law_1367 ?_
  refine fn_iload_3 hV dL_law_1368 ?_
  refine fn_iconst hV dL_law_1369 ?_
  refine fn_iadd hV dL_law_1370 ?_
  refine hI _ _ _ _ _ _ dL_law_1371 (by omega) (by omega) ?_
  refine fn_aload_0 hV dL_law_1372 ?_
  refine fn_iload_3 hV dL_law_1373 ?_
  refine fn_iconst hV dL_law_1374 ?_
  refine fn_iadd hV dL_law_1375 ?_
  refine hI _ _ _ _ _ _ dL_law_1376 (by omega) (by omega) ?_
  refine fn_cV4I hV (c_X11_event E σ1 (by rw [e1]; exact hW) _ (lw_R _) _ (lw_R _) _ (lw_R _) _ (lw_R _)) mv_X11_event lk_L_153 dL_law_1377 sh_51 rfl ⟨rfl, rfl⟩ rfl (fun z2 σ2 hp2 => ?_)
  rw [e1] at hp2
  obtain ⟨hz2, hs2, hf2⟩ := hp2
  refine fn_icmp_eqT hV dL_law_1380 (by rw [hz1, hz2]) ?_
  exact kk σ2 (zCR_sc hC1 hf2 hs2) (zWF_sc (W_event hW _ _ _ _) hs2)
theorem lw_case_33 {E : fnE} {L : Nat} {xs : Nat → Int32} {V : fnV} (h : lwX E L xs V) {σ : fnMem} (hC : zCR σ (mv σ)) (hW : zWF (mv σ)) {i : Int} (i0 : 0 ≤ i) (i1 : i + 7 ≤ L) (kk : ∀ σ2 : fnMem, zCR σ2 (mv σ2) → zWF (mv σ2) → V 1769 [.ref 101, .ref 0, .ref 51, zI i] [] σ2) : V 1385 [.ref 101, .ref 0, .ref 51, zI i] [] σ := by
  obtain ⟨hV, hL, hI, hA, hR⟩ := h
  refine fn_aload_1 hV dL_law_1385 ?_
  refine fn_aload_0 hV dL_law_1386 ?_
  refine fn_iload_3 hV dL_law_1387 ?_
  refine fn_iconst hV dL_law_1388 ?_
  refine fn_iadd hV dL_law_1389 ?_
  refine hI _ _ _ _ _ _ dL_law_1390 (by omega) (by omega) ?_
  refine fn_aload_0 hV dL_law_1391 ?_
  refine fn_iload_3 hV dL_law_1392 ?_
  refine fn_iconst hV dL_law_1393 ?_
  refine fn_iadd hV dL_law_1394 ?_
  refine hI _ _ _ _ _ _ dL_law_1395 (by omega) (by omega) ?_
  refine fn_cV2I hV (c_X10_asOf E _ (mv σ) hC hW _ (lw_R _) _ (lw_R _)) mv_X10_asOf lk_L_154 dL_law_1396 sh_0 rfl ⟨rfl, rfl⟩ rfl (fun z1 σ1 hp1 => ?_)
  obtain ⟨hz1, hC1, hf1⟩ := hp1
  have e1 : mv σ1 = mv σ := funext fun k => hf1 (51 + k) (by omega)
  refine fn_aload_2 hV dL_law_1399 ?_
  refine fn_aload_0 hV dL_law_1400 ?_
  refine fn_iload_3 hV dL_law_1401 ?_
  refine fn_iconst hV dL_law_1402 ?_
  refine fn_iadd hV dL_law_1403 ?_
  refine hI _ _ _ _ _ _ dL_law_1404 (by omega) (by omega) ?_
  refine fn_aload_0 hV dL_law_1405 ?_
  refine fn_iload_3 hV dL_law_1406 ?_
  refine fn_iconst hV dL_law_1407 ?_
  refine fn_iadd hV dL_law_1408 ?_
  refine hI _ _ _ _ _ _ dL_law_1409 (by omega) (by omega) ?_
  refine fn_cV2I hV (c_X11_asOf E σ1 (by rw [e1]; exact hW) _ (lw_R _) _ (lw_R _)) mv_X11_asOf lk_L_157 dL_law_1410 sh_51 rfl ⟨rfl, rfl⟩ rfl (fun z2 σ2 hp2 => ?_)
  rw [e1] at hp2
  obtain ⟨hz2, hs2, hf2⟩ := hp2
  refine fn_icmp_eqT hV dL_law_1413 (by rw [hz1, hz2]) ?_
  exact kk σ2 (zCR_sc hC1 hf2 hs2) (zWF_sc hW hs2)
theorem lw_case_34 {E : fnE} {L : Nat} {xs : Nat → Int32} {V : fnV} (h : lwX E L xs V) {σ : fnMem} (hC : zCR σ (mv σ)) (hW : zWF (mv σ)) {i : Int} (i0 : 0 ≤ i) (i1 : i + 7 ≤ L) (kk : ∀ σ2 : fnMem, zCR σ2 (mv σ2) → zWF (mv σ2) → V 1769 [.ref 101, .ref 0, .ref 51, zI i] [] σ2) : V 1418 [.ref 101, .ref 0, .ref 51, zI i] [] σ := by
  obtain ⟨hV, hL, hI, hA, hR⟩ := h
  refine fn_aload_1 hV dL_law_1418 ?_
  refine fn_aload_0 hV dL_law_1419 ?_
  refine fn_iload_3 hV dL_law_1420 ?_
  refine fn_iconst hV dL_law_1421 ?_
  refine fn_iadd hV dL_law_1422 ?_
  refine hI _ _ _ _ _ _ dL_law_1423 (by omega) (by omega) ?_
  refine fn_aload_0 hV dL_law_1424 ?_
  refine fn_iload_3 hV dL_law_1425 ?_
  refine fn_iconst hV dL_law_1426 ?_
  refine fn_iadd hV dL_law_1427 ?_
  refine hI _ _ _ _ _ _ dL_law_1428 (by omega) (by omega) ?_
  refine fn_aload_0 hV dL_law_1429 ?_
  refine fn_iload_3 hV dL_law_1430 ?_
  refine fn_iconst hV dL_law_1431 ?_
  refine fn_iadd hV dL_law_1432 ?_
  refine hI _ _ _ _ _ _ dL_law_1433 (by omega) (by omega) ?_
  refine fn_aload_0 hV dL_law_1434 ?_
  refine fn_iload_3 hV dL_law_1435 ?_
  refine fn_iconst hV dL_law_1436 ?_
  refine fn_iadd hV dL_law_1437 ?_
  refine hI _ _ _ _ _ _ dL_law_1438 (by omega) (by omega) ?_
  refine fn_aload_0 hV dL_law_1439 ?_
  refine fn_iload_3 hV dL_law_1440 ?_
  refine fn_iconst hV dL_law_1441 ?_
  refine fn_iadd hV dL_law_1442 ?_
  refine hI _ _ _ _ _ _ dL_law_1443 (by omega) (by omega) ?_
  refine fn_aload_0 hV dL_law_1444 ?_
  refine fn_iload_3 hV dL_law_1445 ?_
  refine fn_bipush hV dL_law_1446 rfl ?_
  refine fn_iadd hV dL_law_1448 ?_
  refine hI _ _ _ _ _ _ dL_law_1449 (by omega) (by omega) ?_
  refine fn_cV6I hV (c_X10_leg E _ (mv σ) hC hW _ (lw_R _) _ (lw_R _) _ (lw_R _) _ (lw_R _) _ (lw_R _) _ (lw_R _)) mv_X10_leg lk_L_158 dL_law_1450 sh_0 rfl ⟨rfl, rfl⟩ rfl (fun z1 σ1 hp1 => ?_)
  obtain ⟨hz1, hC1, hf1⟩ := hp1
  have e1 : mv σ1 = mv σ := funext fun k => hf1 (51 + k) (by omega)
  refine fn_aload_2 hV dL_law_1453 ?_
  refine fn_aload_0 hV dL_law_1454 ?_
  refine fn_iload_3 hV dL_law_1455 ?_
  refine fn_iconst hV dL_law_1456 ?_
  refine fn_iadd hV dL_law_1457 ?_
  refine hI _ _ _ _ _ _ dL_law_1458 (by omega) (by omega) ?_
  refine fn_aload_0 hV dL_law_1459 ?_
  refine fn_iload_3 hV dL_law_1460 ?_
  refine fn_iconst hV dL_law_1461 ?_
  refine fn_iadd hV dL_law_1462 ?_
  refine hI _ _ _ _ _ _ dL_law_1463 (by omega) (by omega) ?_
  refine fn_aload_0 hV dL_law_1464 ?_
  refine fn_iload_3 hV dL_law_1465 ?_
  refine fn_iconst hV dL_law_1466 ?_
  refine fn_iadd hV dL_law_1467 ?_
  refine hI _ _ _ _ _ _ dL_law_1468 (by omega) (by omega) ?_
  refine fn_aload_0 hV dL_law_1469 ?_
  refine fn_iload_3 hV dL_law_1470 ?_
  refine fn_iconst hV dL_law_1471 ?_
  refine fn_iadd hV dL_law_1472 ?_
  refine hI _ _ _ _ _ _ dL_law_1473 (by omega) (by omega) ?_
  refine fn_aload_0 hV dL_law_1474 ?_
  refine fn_iload_3 hV dL_law_1475 ?_
  refine fn_iconst hV dL_law_1476 ?_
  refine fn_iadd hV dL_law_1477 ?_
  refine hI _ _ _ _ _ _ dL_law_1478 (by omega) (by omega) ?_
  refine fn_aload_0 hV dL_law_1479 ?_
  refine fn_iload_3 hV dL_law_1480 ?_
  refine fn_bipush hV dL_law_1481 rfl ?_
  refine fn_iadd hV dL_law_1483 ?_
  refine hI _ _ _ _ _ _ dL_law_1484 (by omega) (by omega) ?_
  refine fn_cV6I hV (c_X11_leg E σ1 (by rw [e1]; exact hW) _ (lw_R _) _ (lw_R _) _ (lw_R _) _ (lw_R _) _ (lw_R _) _ (lw_R _)) mv_X11_leg lk_L_162 dL_law_1485 sh_51 rfl ⟨rfl, rfl⟩ rfl (fun z2 σ2 hp2 => ?_)
  rw [e1] at hp2
  obtain ⟨hz2, hs2, hf2⟩ := hp2
  refine fn_icmp_eqT hV dL_law_1488 (by rw [hz1, hz2]) ?_
  exact kk σ2 (zCR_sc hC1 hf2 hs2) (zWF_sc (W_leg hW _ _ _ _ _ _) hs2)
theorem lw_case_35 {E : fnE} {L : Nat} {xs : Nat → Int32} {V : fnV} (h : lwX E L xs V) {σ : fnMem} (hC : zCR σ (mv σ)) (hW : zWF (mv σ)) {i : Int} (i0 : 0 ≤ i) (i1 : i + 7 ≤ L) (kk : ∀ σ2 : fnMem, zCR σ2 (mv σ2) → zWF (mv σ2) → V 1769 [.ref 101, .ref 0, .ref 51, zI i] [] σ2) : V 1493 [.ref 101, .ref 0, .ref 51, zI i] [] σ := by
  obtain ⟨hV, hL, hI, hA, hR⟩ := h
  refine fn_aload_1 hV dL_law_1493 ?_
  refine fn_aload_0 hV dL_law_1494 ?_
  refine fn_iload_3 hV dL_law_1495 ?_
  refine fn_iconst hV dL_law_1496 ?_
  refine fn_iadd hV dL_law_1497 ?_
  refine hI _ _ _ _ _ _ dL_law_1498 (by omega) (by omega) ?_
  refine fn_aload_0 hV dL_law_1499 ?_
  refine fn_iload_3 hV dL_law_1500 ?_
  refine fn_iconst hV dL_law_1501 ?_
  refine fn_iadd hV dL_law_1502 ?_
  refine hI _ _ _ _ _ _ dL_law_1503 (by omega) (by omega) ?_
  refine fn_cV2I hV (c_X10_about E _ (mv σ) hC hW _ (lw_R _) _ (lw_R _)) mv_X10_about lk_L_163 dL_law_1504 sh_0 rfl ⟨rfl, rfl⟩ rfl (fun z1 σ1 hp1 => ?_)
  obtain ⟨hz1, hC1, hf1⟩ := hp1
  have e1 : mv σ1 = mv σ := funext fun k => hf1 (51 + k) (by omega)
  refine fn_aload_2 hV dL_law_1507 ?_
  refine fn_aload_0 hV dL_law_1508 ?_
  refine fn_iload_3 hV dL_law_1509 ?_
  refine fn_iconst hV dL_law_1510 ?_
  refine fn_iadd hV dL_law_1511 ?_
  refine hI _ _ _ _ _ _ dL_law_1512 (by omega) (by omega) ?_
  refine fn_aload_0 hV dL_law_1513 ?_
  refine fn_iload_3 hV dL_law_1514 ?_
  refine fn_iconst hV dL_law_1515 ?_
  refine fn_iadd hV dL_law_1516 ?_
  refine hI _ _ _ _ _ _ dL_law_1517 (by omega) (by omega) ?_
  refine fn_cV2I hV (c_X11_about E σ1 (by rw [e1]; exact hW) _ (lw_R _) _ (lw_R _)) mv_X11_about lk_L_166 dL_law_1518 sh_51 rfl ⟨rfl, rfl⟩ rfl (fun z2 σ2 hp2 => ?_)
  rw [e1] at hp2
  obtain ⟨hz2, hs2, hf2⟩ := hp2
  refine fn_icmp_eqT hV dL_law_1521 (by rw [hz1, hz2]) ?_
  exact kk σ2 (zCR_sc hC1 hf2 hs2) (zWF_sc hW hs2)
theorem lw_case_36 {E : fnE} {L : Nat} {xs : Nat → Int32} {V : fnV} (h : lwX E L xs V) {σ : fnMem} (hC : zCR σ (mv σ)) (hW : zWF (mv σ)) {i : Int} (i0 : 0 ≤ i) (i1 : i + 7 ≤ L) (kk : ∀ σ2 : fnMem, zCR σ2 (mv σ2) → zWF (mv σ2) → V 1769 [.ref 101, .ref 0, .ref 51, zI i] [] σ2) : V 1526 [.ref 101, .ref 0, .ref 51, zI i] [] σ := by
  obtain ⟨hV, hL, hI, hA, hR⟩ := h
  refine fn_aload_1 hV dL_law_1526 ?_
  refine fn_cV0I hV (c_X10_home E _ (mv σ) hC hW) mv_X10_home lk_L_167 dL_law_1527 sh_0 rfl ⟨rfl, rfl⟩ rfl (fun z1 σ1 hp1 => ?_)
  obtain ⟨hz1, hC1, hf1⟩ := hp1
  have e1 : mv σ1 = mv σ := funext fun k => hf1 (51 + k) (by omega)
  refine fn_aload_2 hV dL_law_1530 ?_
  refine fn_cV0I hV (c_X11_home E σ1 (by rw [e1]; exact hW)) mv_X11_home lk_L_170 dL_law_1531 sh_51 rfl ⟨rfl, rfl⟩ rfl (fun z2 σ2 hp2 => ?_)
  rw [e1] at hp2
  obtain ⟨hz2, hs2, hf2⟩ := hp2
  refine fn_icmp_eqT hV dL_law_1534 (by rw [hz1, hz2]) ?_
  exact kk σ2 (zCR_sc hC1 hf2 hs2) (zWF_sc (W_home hW) hs2)
theorem lw_case_37 {E : fnE} {L : Nat} {xs : Nat → Int32} {V : fnV} (h : lwX E L xs V) {σ : fnMem} (hC : zCR σ (mv σ)) (hW : zWF (mv σ)) {i : Int} (i0 : 0 ≤ i) (i1 : i + 7 ≤ L) (kk : ∀ σ2 : fnMem, zCR σ2 (mv σ2) → zWF (mv σ2) → V 1769 [.ref 101, .ref 0, .ref 51, zI i] [] σ2) : V 1539 [.ref 101, .ref 0, .ref 51, zI i] [] σ := by
  obtain ⟨hV, hL, hI, hA, hR⟩ := h
  refine fn_aload_1 hV dL_law_1539 ?_
  refine fn_aload_0 hV dL_law_1540 ?_
  refine fn_iload_3 hV dL_law_1541 ?_
  refine fn_iconst hV dL_law_1542 ?_
  refine fn_iadd hV dL_law_1543 ?_
  refine hI _ _ _ _ _ _ dL_law_1544 (by omega) (by omega) ?_
  refine fn_aload_0 hV dL_law_1545 ?_
  refine fn_iload_3 hV dL_law_1546 ?_
  refine fn_iconst hV dL_law_1547 ?_
  refine fn_iadd hV dL_law_1548 ?_
  refine hI _ _ _ _ _ _ dL_law_1549 (by omega) (by omega) ?_
  refine fn_aload_0 hV dL_law_1550 ?_
  refine fn_iload_3 hV dL_law_1551 ?_
  refine fn_iconst hV dL_law_1552 ?_
  refine fn_iadd hV dL_law_1553 ?_
  refine hI _ _ _ _ _ _ dL_law_1554 (by omega) (by omega) ?_
  refine fn_aload_0 hV dL_law_1555 ?_
  refine fn_iload_3 hV dL_law_1556 ?_
  refine fn_iconst hV dL_law_1557 ?_
  refine fn_iadd hV dL_law_1558 ?_
  refine hI _ _ _ _ _ _ dL_law_1559 (by omega) (by omega) ?_
  refine fn_if_eq hV (lw_R _) dL_law_1560 (fun qb4 => ?_) (fun qb4 => ?_)
  · skip
    refine fn_iconst hV dL_law_1567 ?_
    refine fn_cV4I hV (c_X10_worked E _ (mv σ) hC hW _ (lw_R _) _ (lw_R _) _ (lw_R _) _ (Or.inl rfl)) mv_X10_worked lk_L_171 dL_law_1568 sh_0 rfl ⟨rfl, rfl⟩ rfl (fun z1 σ1 hp1 => ?_)
    obtain ⟨hz1, hC1, hf1⟩ := hp1
    have e1 : mv σ1 = mv σ := funext fun k => hf1 (51 + k) (by omega)
    refine fn_aload_2 hV dL_law_1571 ?_
    refine fn_aload_0 hV dL_law_1572 ?_
    refine fn_iload_3 hV dL_law_1573 ?_
    refine fn_iconst hV dL_law_1574 ?_
    refine fn_iadd hV dL_law_1575 ?_
    refine hI _ _ _ _ _ _ dL_law_1576 (by omega) (by omega) ?_
    refine fn_aload_0 hV dL_law_1577 ?_
    refine fn_iload_3 hV dL_law_1578 ?_
    refine fn_iconst hV dL_law_1579 ?_
    refine fn_iadd hV dL_law_1580 ?_
    refine hI _ _ _ _ _ _ dL_law_1581 (by omega) (by omega) ?_
    refine fn_aload_0 hV dL_law_1582 ?_
    refine fn_iload_3 hV dL_law_1583 ?_
    refine fn_iconst hV dL_law_1584 ?_
    refine fn_iadd hV dL_law_1585 ?_
    refine hI _ _ _ _ _ _ dL_law_1586 (by omega) (by omega) ?_
    refine fn_aload_0 hV dL_law_1587 ?_
    refine fn_iload_3 hV dL_law_1588 ?_
    refine fn_iconst hV dL_law_1589 ?_
    refine fn_iadd hV dL_law_1590 ?_
    refine hI _ _ _ _ _ _ dL_law_1591 (by omega) (by omega) ?_
    refine fn_if_eq hV (lw_R _) dL_law_1592 (fun _ => ?_) (fun q => absurd qb4 q)
    refine fn_iconst hV dL_law_1599 ?_
    refine fn_cV4I hV (c_X11_worked E σ1 (by rw [e1]; exact hW) _ (lw_R _) _ (lw_R _) _ (lw_R _) _ (Or.inl rfl)) mv_X11_worked lk_L_174 dL_law_1600 sh_51 rfl ⟨rfl, rfl⟩ rfl (fun z2 σ2 hp2 => ?_)
    rw [e1] at hp2
    obtain ⟨hz2, hs2, hf2⟩ := hp2
    refine fn_icmp_eqT hV dL_law_1603 (by rw [hz1, hz2]) ?_
    exact kk σ2 (zCR_sc hC1 hf2 hs2) (zWF_sc hW hs2)
  · skip
    refine fn_iconst hV dL_law_1563 ?_
    refine fn_goto hV dL_law_1564 ?_
    refine fn_cV4I hV (c_X10_worked E _ (mv σ) hC hW _ (lw_R _) _ (lw_R _) _ (lw_R _) _ (Or.inr rfl)) mv_X10_worked lk_L_171 dL_law_1568 sh_0 rfl ⟨rfl, rfl⟩ rfl (fun z1 σ1 hp1 => ?_)
    obtain ⟨hz1, hC1, hf1⟩ := hp1
    have e1 : mv σ1 = mv σ := funext fun k => hf1 (51 + k) (by omega)
    refine fn_aload_2 hV dL_law_1571 ?_
    refine fn_aload_0 hV dL_law_1572 ?_
    refine fn_iload_3 hV dL_law_1573 ?_
    refine fn_iconst hV dL_law_1574 ?_
    refine fn_iadd hV dL_law_1575 ?_
    refine hI _ _ _ _ _ _ dL_law_1576 (by omega) (by omega) ?_
    refine fn_aload_0 hV dL_law_1577 ?_
    refine fn_iload_3 hV dL_law_1578 ?_
    refine fn_iconst hV dL_law_1579 ?_
    refine fn_iadd hV dL_law_1580 ?_
    refine hI _ _ _ _ _ _ dL_law_1581 (by omega) (by omega) ?_
    refine fn_aload_0 hV dL_law_1582 ?_
    refine fn_iload_3 hV dL_law_1583 ?_
    refine fn_iconst hV dL_law_1584 ?_
    refine fn_iadd hV dL_law_1585 ?_
    refine hI _ _ _ _ _ _ dL_law_1586 (by omega) (by omega) ?_
    refine fn_aload_0 hV dL_law_1587 ?_
    refine fn_iload_3 hV dL_law_1588 ?_
    refine fn_iconst hV dL_law_1589 ?_
    refine fn_iadd hV dL_law_1590 ?_
    refine hI _ _ _ _ _ _ dL_law_1591 (by omega) (by omega) ?_
    refine fn_if_eq hV (lw_R _) dL_law_1592 (fun q => absurd q qb4) (fun _ => ?_)
    refine fn_iconst hV dL_law_1595 ?_
    refine fn_goto hV dL_law_1596 ?_
    refine fn_cV4I hV (c_X11_worked E σ1 (by rw [e1]; exact hW) _ (lw_R _) _ (lw_R _) _ (lw_R _) _ (Or.inr rfl)) mv_X11_worked lk_L_174 dL_law_1600 sh_51 rfl ⟨rfl, rfl⟩ rfl (fun z2 σ2 hp2 => ?_)
    rw [e1] at hp2
    obtain ⟨hz2, hs2, hf2⟩ := hp2
    refine fn_icmp_eqT hV dL_law_1603 (by rw [hz1, hz2]) ?_
    exact kk σ2 (zCR_sc hC1 hf2 hs2) (zWF_sc hW hs2)
theorem lw_case_38 {E : fnE} {L : Nat} {xs : Nat → Int32} {V : fnV} (h : lwX E L xs V) {σ : fnMem} (hC : zCR σ (mv σ)) (hW : zWF (mv σ)) {i : Int} (i0 : 0 ≤ i) (i1 : i + 7 ≤ L) (kk : ∀ σ2 : fnMem, zCR σ2 (mv σ2) → zWF (mv σ2) → V 1769 [.ref 101, .ref 0, .ref 51, zI i] [] σ2) : V 1608 [.ref 101, .ref 0, .ref 51, zI i] [] σ := by
  obtain ⟨hV, hL, hI, hA, hR⟩ := h
  refine fn_aload_1 hV dL_law_1608 ?_
  refine fn_cV0I hV (c_X10_split E _ (mv σ) hC hW) mv_X10_split lk_L_175 dL_law_1609 sh_0 rfl ⟨rfl, rfl⟩ rfl (fun z1 σ1 hp1 => ?_)
  obtain ⟨hz1, hC1, hf1⟩ := hp1
  have e1 : mv σ1 = mv σ := funext fun k => hf1 (51 + k) (by omega)
  refine fn_aload_2 hV dL_law_1612 ?_
  refine fn_cV0I hV (c_X11_split E σ1 (by rw [e1]; exact hW)) mv_X11_split lk_L_178 dL_law_1613 sh_51 rfl ⟨rfl, rfl⟩ rfl (fun z2 σ2 hp2 => ?_)
  rw [e1] at hp2
  obtain ⟨hz2, hs2, hf2⟩ := hp2
  refine fn_icmp_eqT hV dL_law_1616 (by rw [hz1, hz2]) ?_
  exact kk σ2 (zCR_sc hC1 hf2 hs2) (zWF_sc hW hs2)
theorem lw_case_39 {E : fnE} {L : Nat} {xs : Nat → Int32} {V : fnV} (h : lwX E L xs V) {σ : fnMem} (hC : zCR σ (mv σ)) (hW : zWF (mv σ)) {i : Int} (i0 : 0 ≤ i) (i1 : i + 7 ≤ L) (kk : ∀ σ2 : fnMem, zCR σ2 (mv σ2) → zWF (mv σ2) → V 1769 [.ref 101, .ref 0, .ref 51, zI i] [] σ2) : V 1621 [.ref 101, .ref 0, .ref 51, zI i] [] σ := by
  obtain ⟨hV, hL, hI, hA, hR⟩ := h
  refine fn_aload_1 hV dL_law_1621 ?_
  refine fn_cV0I hV (c_X10_splitCost E _ (mv σ) hC hW) mv_X10_splitCost lk_L_179 dL_law_1622 sh_0 rfl ⟨rfl, rfl⟩ rfl (fun z1 σ1 hp1 => ?_)
  obtain ⟨hz1, hC1, hf1⟩ := hp1
  have e1 : mv σ1 = mv σ := funext fun k => hf1 (51 + k) (by omega)
  refine fn_aload_2 hV dL_law_1625 ?_
  refine fn_cV0I hV (c_X11_splitCost E σ1 (by rw [e1]; exact hW)) mv_X11_splitCost lk_L_182 dL_law_1626 sh_51 rfl ⟨rfl, rfl⟩ rfl (fun z2 σ2 hp2 => ?_)
  rw [e1] at hp2
  obtain ⟨hz2, hs2, hf2⟩ := hp2
  refine fn_icmp_eqT hV dL_law_1629 (by rw [hz1, hz2]) ?_
  exact kk σ2 (zCR_sc hC1 hf2 hs2) (zWF_sc hW hs2)
theorem lw_case_40 {E : fnE} {L : Nat} {xs : Nat → Int32} {V : fnV} (h : lwX E L xs V) {σ : fnMem} (hC : zCR σ (mv σ)) (hW : zWF (mv σ)) {i : Int} (i0 : 0 ≤ i) (i1 : i + 7 ≤ L) (kk : ∀ σ2 : fnMem, zCR σ2 (mv σ2) → zWF (mv σ2) → V 1769 [.ref 101, .ref 0, .ref 51, zI i] [] σ2) : V 1634 [.ref 101, .ref 0, .ref 51, zI i] [] σ := by
  obtain ⟨hV, hL, hI, hA, hR⟩ := h
  refine fn_aload_1 hV dL_law_1634 ?_
  refine fn_aload_0 hV dL_law_1635 ?_
  refine fn_iload_3 hV dL_law_1636 ?_
  refine fn_iconst hV dL_law_1637 ?_
  refine fn_iadd hV dL_law_1638 ?_
  refine hI _ _ _ _ _ _ dL_law_1639 (by omega) (by omega) ?_
  refine fn_cV1I hV (c_X10_jump E _ (mv σ) hC hW _ (lw_R _)) mv_X10_jump lk_L_183 dL_law_1640 sh_0 rfl ⟨rfl, rfl⟩ rfl (fun z1 σ1 hp1 => ?_)
  obtain ⟨hz1, hC1, hf1⟩ := hp1
  have e1 : mv σ1 = mv σ := funext fun k => hf1 (51 + k) (by omega)
  refine fn_aload_2 hV dL_law_1643 ?_
  refine fn_aload_0 hV dL_law_1644 ?_
  refine fn_iload_3 hV dL_law_1645 ?_
  refine fn_iconst hV dL_law_1646 ?_
  refine fn_iadd hV dL_law_1647 ?_
  refine hI _ _ _ _ _ _ dL_law_1648 (by omega) (by omega) ?_
  refine fn_cV1I hV (c_X11_jump E σ1 (by rw [e1]; exact hW) _ (lw_R _)) mv_X11_jump lk_L_186 dL_law_1649 sh_51 rfl ⟨rfl, rfl⟩ rfl (fun z2 σ2 hp2 => ?_)
  rw [e1] at hp2
  obtain ⟨hz2, hs2, hf2⟩ := hp2
  refine fn_icmp_eqT hV dL_law_1652 (by rw [hz1, hz2]) ?_
  exact kk σ2 (zCR_sc hC1 hf2 hs2) (zWF_sc hW hs2)
theorem lw_case_41 {E : fnE} {L : Nat} {xs : Nat → Int32} {V : fnV} (h : lwX E L xs V) {σ : fnMem} (hC : zCR σ (mv σ)) (hW : zWF (mv σ)) {i : Int} (i0 : 0 ≤ i) (i1 : i + 7 ≤ L) (kk : ∀ σ2 : fnMem, zCR σ2 (mv σ2) → zWF (mv σ2) → V 1769 [.ref 101, .ref 0, .ref 51, zI i] [] σ2) : V 1657 [.ref 101, .ref 0, .ref 51, zI i] [] σ := by
  obtain ⟨hV, hL, hI, hA, hR⟩ := h
  refine fn_aload_1 hV dL_law_1657 ?_
  refine fn_aload_0 hV dL_law_1658 ?_
  refine fn_iload_3 hV dL_law_1659 ?_
  refine fn_iconst hV dL_law_1660 ?_
  refine fn_iadd hV dL_law_1661 ?_
  refine hI _ _ _ _ _ _ dL_law_1662 (by omega) (by omega) ?_
  refine fn_cV1I hV (c_X10_firstApart E _ (mv σ) hC hW _ (lw_R _)) mv_X10_firstApart lk_L_187 dL_law_1663 sh_0 rfl ⟨rfl, rfl⟩ rfl (fun z1 σ1 hp1 => ?_)
  obtain ⟨hz1, hC1, hf1⟩ := hp1
  have e1 : mv σ1 = mv σ := funext fun k => hf1 (51 + k) (by omega)
  refine fn_aload_2 hV dL_law_1666 ?_
  refine fn_aload_0 hV dL_law_1667 ?_
  refine fn_iload_3 hV dL_law_1668 ?_
  refine fn_iconst hV dL_law_1669 ?_
  refine fn_iadd hV dL_law_1670 ?_
  refine hI _ _ _ _ _ _ dL_law_1671 (by omega) (by omega) ?_
  refine fn_cV1I hV (c_X11_firstApart E σ1 (by rw [e1]; exact hW) _ (lw_R _)) mv_X11_firstApart lk_L_190 dL_law_1672 sh_51 rfl ⟨rfl, rfl⟩ rfl (fun z2 σ2 hp2 => ?_)
  rw [e1] at hp2
  obtain ⟨hz2, hs2, hf2⟩ := hp2
  refine fn_icmp_eqT hV dL_law_1675 (by rw [hz1, hz2]) ?_
  exact kk σ2 (zCR_sc hC1 hf2 hs2) (zWF_sc hW hs2)
theorem lw_case_42 {E : fnE} {L : Nat} {xs : Nat → Int32} {V : fnV} (h : lwX E L xs V) {σ : fnMem} (hC : zCR σ (mv σ)) (hW : zWF (mv σ)) {i : Int} (i0 : 0 ≤ i) (i1 : i + 7 ≤ L) (kk : ∀ σ2 : fnMem, zCR σ2 (mv σ2) → zWF (mv σ2) → V 1769 [.ref 101, .ref 0, .ref 51, zI i] [] σ2) : V 1680 [.ref 101, .ref 0, .ref 51, zI i] [] σ := by
  obtain ⟨hV, hL, hI, hA, hR⟩ := h
  refine fn_aload_1 hV dL_law_1680 ?_
  refine fn_aload_0 hV dL_law_1681 ?_
  refine fn_iload_3 hV dL_law_1682 ?_
  refine fn_iconst hV dL_law_1683 ?_
  refine fn_iadd hV dL_law_1684 ?_
  refine hI _ _ _ _ _ _ dL_law_1685 (by omega) (by omega) ?_
  refine fn_cV1I hV (c_X10_nearer E _ (mv σ) hC hW _ (lw_R _)) mv_X10_nearer lk_L_191 dL_law_1686 sh_0 rfl ⟨rfl, rfl⟩ rfl (fun z1 σ1 hp1 => ?_)
  obtain ⟨hz1, hC1, hf1⟩ := hp1
  have e1 : mv σ1 = mv σ := funext fun k => hf1 (51 + k) (by omega)
  refine fn_aload_2 hV dL_law_1689 ?_
  refine fn_aload_0 hV dL_law_1690 ?_
  refine fn_iload_3 hV dL_law_1691 ?_
  refine fn_iconst hV dL_law_1692 ?_
  refine fn_iadd hV dL_law_1693 ?_
  refine hI _ _ _ _ _ _ dL_law_1694 (by omega) (by omega) ?_
  refine fn_cV1I hV (c_X11_nearer E σ1 (by rw [e1]; exact hW) _ (lw_R _)) mv_X11_nearer lk_L_194 dL_law_1695 sh_51 rfl ⟨rfl, rfl⟩ rfl (fun z2 σ2 hp2 => ?_)
  rw [e1] at hp2
  obtain ⟨hz2, hs2, hf2⟩ := hp2
  refine fn_icmp_eqT hV dL_law_1698 (by rw [hz1, hz2]) ?_
  exact kk σ2 (zCR_sc hC1 hf2 hs2) (zWF_sc hW hs2)
theorem lw_case_43 {E : fnE} {L : Nat} {xs : Nat → Int32} {V : fnV} (h : lwX E L xs V) {σ : fnMem} (hC : zCR σ (mv σ)) (hW : zWF (mv σ)) {i : Int} (i0 : 0 ≤ i) (i1 : i + 7 ≤ L) (kk : ∀ σ2 : fnMem, zCR σ2 (mv σ2) → zWF (mv σ2) → V 1769 [.ref 101, .ref 0, .ref 51, zI i] [] σ2) : V 1703 [.ref 101, .ref 0, .ref 51, zI i] [] σ := by
  obtain ⟨hV, hL, hI, hA, hR⟩ := h
  refine fn_aload_1 hV dL_law_1703 ?_
  refine fn_aload_0 hV dL_law_1704 ?_
  refine fn_iload_3 hV dL_law_1705 ?_
  refine fn_iconst hV dL_law_1706 ?_
  refine fn_iadd hV dL_law_1707 ?_
  refine hI _ _ _ _ _ _ dL_law_1708 (by omega) (by omega) ?_
  refine fn_aload_0 hV dL_law_1709 ?_
  refine fn_iload_3 hV dL_law_1710 ?_
  refine fn_iconst hV dL_law_1711 ?_
  refine fn_iadd hV dL_law_1712 ?_
  refine hI _ _ _ _ _ _ dL_law_1713 (by omega) (by omega) ?_
  refine fn_aload_0 hV dL_law_1714 ?_
  refine fn_iload_3 hV dL_law_1715 ?_
  refine fn_iconst hV dL_law_1716 ?_
  refine fn_iadd hV dL_law_1717 ?_
  refine hI _ _ _ _ _ _ dL_law_1718 (by omega) (by omega) ?_
  refine fn_cV3I hV (c_X10_wreck E _ (mv σ) hC hW _ (lw_R _) _ (lw_R _) _ (lw_R _)) mv_X10_wreck lk_L_195 dL_law_1719 sh_0 rfl ⟨rfl, rfl⟩ rfl (fun z1 σ1 hp1 => ?_)
  obtain ⟨hz1, hC1, hf1⟩ := hp1
  have e1 : mv σ1 = mv σ := funext fun k => hf1 (51 + k) (by omega)
  refine fn_aload_2 hV dL_law_1722 ?_
  refine fn_aload_0 hV dL_law_1723 ?_
  refine fn_iload_3 hV dL_law_1724 ?_
  refine fn_iconst hV dL_law_1725 ?_
  refine fn_iadd hV dL_law_1726 ?_
  refine hI _ _ _ _ _ _ dL_law_1727 (by omega) (by omega) ?_
  refine fn_aload_0 hV dL_law_1728 ?_
  refine fn_iload_3 hV dL_law_1729 ?_
  refine fn_iconst hV dL_law_1730 ?_
  refine fn_iadd hV dL_law_1731 ?_
  refine hI _ _ _ _ _ _ dL_law_1732 (by omega) (by omega) ?_
  refine fn_aload_0 hV dL_law_1733 ?_
  refine fn_iload_3 hV dL_law_1734 ?_
  refine fn_iconst hV dL_law_1735 ?_
  refine fn_iadd hV dL_law_1736 ?_
  refine hI _ _ _ _ _ _ dL_law_1737 (by omega) (by omega) ?_
  refine fn_cV3I hV (c_X11_wreck E σ1 (by rw [e1]; exact hW) _ (lw_R _) _ (lw_R _) _ (lw_R _)) mv_X11_wreck lk_L_198 dL_law_1738 sh_51 rfl ⟨rfl, rfl⟩ rfl (fun z2 σ2 hp2 => ?_)
  rw [e1] at hp2
  obtain ⟨hz2, hs2, hf2⟩ := hp2
  refine fn_icmp_eqT hV dL_law_1741 (by rw [hz1, hz2]) ?_
  exact kk σ2 (zCR_sc hC1 hf2 hs2) (zWF_sc hW hs2)
theorem lw_case_44 {E : fnE} {L : Nat} {xs : Nat → Int32} {V : fnV} (h : lwX E L xs V) {σ : fnMem} (hC : zCR σ (mv σ)) (hW : zWF (mv σ)) {i : Int} (i0 : 0 ≤ i) (i1 : i + 7 ≤ L) (kk : ∀ σ2 : fnMem, zCR σ2 (mv σ2) → zWF (mv σ2) → V 1769 [.ref 101, .ref 0, .ref 51, zI i] [] σ2) : V 1746 [.ref 101, .ref 0, .ref 51, zI i] [] σ := by
  obtain ⟨hV, hL, hI, hA, hR⟩ := h
  refine fn_aload_1 hV dL_law_1746 ?_
  refine fn_aload_0 hV dL_law_1747 ?_
  refine fn_iload_3 hV dL_law_1748 ?_
  refine fn_iconst hV dL_law_1749 ?_
  refine fn_iadd hV dL_law_1750 ?_
  refine hI _ _ _ _ _ _ dL_law_1751 (by omega) (by omega) ?_
  refine fn_cV1I hV (c_X10_count E _ (mv σ) hC hW _ (lw_R _)) mv_X10_count lk_L_199 dL_law_1752 sh_0 rfl ⟨rfl, rfl⟩ rfl (fun z1 σ1 hp1 => ?_)
  obtain ⟨hz1, hC1, hf1⟩ := hp1
  have e1 : mv σ1 = mv σ := funext fun k => hf1 (51 + k) (by omega)
  refine fn_aload_2 hV dL_law_1755 ?_
  refine fn_aload_0 hV dL_law_1756 ?_
  refine fn_iload_3 hV dL_law_1757 ?_
  refine fn_iconst hV dL_law_1758 ?_
  refine fn_iadd hV dL_law_1759 ?_
  refine hI _ _ _ _ _ _ dL_law_1760 (by omega) (by omega) ?_
  refine fn_cV1I hV (c_X11_count E σ1 (by rw [e1]; exact hW) _ (lw_R _)) mv_X11_count lk_L_202 dL_law_1761 sh_51 rfl ⟨rfl, rfl⟩ rfl (fun z2 σ2 hp2 => ?_)
  rw [e1] at hp2
  obtain ⟨hz2, hs2, hf2⟩ := hp2
  refine fn_icmp_eqT hV dL_law_1764 (by rw [hz1, hz2]) ?_
  exact kk σ2 (zCR_sc hC1 hf2 hs2) (zWF_sc hW hs2)
