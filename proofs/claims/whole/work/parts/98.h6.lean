section
variable {l : Launch} {G : az_G} {Q : State → Prop} {p : Program} {e : Env} {s : State} {mm : MethodId} {args : Array Value} {below : List Frame} {meth : Method} {cd : Code} {tab : List ExceptionTableEntry} {b L i qx qm qo : Nat} {xs : Nat → Int32}
variable {ρ : Rp} {x : Xs} {m : Ms} {ou : Nat → Int64}
set_option maxHeartbeats 4000000 in
set_option maxRecDepth 100000 in
theorem L_cargoOf (C : az_C l G p s mm args meth cd cL_law RL 9 (some FieldType.boolean) tab) (hG : az_okS l G) (S : lwS G b L xs s) (hi : i + 6 ≤ L) {c : Nat} (hc : c < 512) (h : Nx c ρ x m) (e0 : ρ.1 0 = qx) (e1 : ρ.1 100 = qm) (e2 : ρ.1 90 = qo) (kk : lwN l G Q p e s mm args below meth cd b i qx qm qo c) : az_W l G 9 Q p e room_1 s mm args below meth cd (AD ρ) (KK G ρ x m ou) (kB c ρ) (nB c ρ) 1210 (lvL b i qx qm qo) [] := by
  subst e0; subst e1; subst e2
  refine az_aload_n C 3 dL_law_1210 rfl ?_
  refine az_arg C (i := i) (j := 1) (z0 := 4) (z4 := 0) S dL_law_1211 dL_law_1212 dL_law_1214 dL_law_1215 dL_law_1216 rfl rfl rfl (by omega) ?_
  refine az_aload_n C 1 dL_law_1217 rfl ?_
  obtain ⟨mc, ms, hgm, hM⟩ := H_cargoOf hG (xs (i + 1)) (O_cargoOf hG hc h (xs (i + 1))) ou
  have hr := room_k hgm hc
  refine az_callH C Y_L_cargoOf [.ref (ρ.1 0), .int (xs (i + 1)), .ref (ρ.1 90)] [] wm_L_220 wst_L_cargoOf dL_law_1218 rfl hM rfl (Nat.le_of_ble_eq_true rfl) (Nat.le_of_ble_eq_true rfl) (Nat.le_of_ble_eq_true rfl) hr.1 hr.2 (fun v ad9 K9 hp => ?_) (fun E ad9 K9 hp => ?_)
  · obtain ⟨k9, ρ', x', ou', h9, rfl, rfl, hρ, hgr, d, hd, post, hMM, hpost⟩ := hp
    cases h9
    rw [congrFun hρ 100] at hMM
    have hn := room_n (c := c) hgr
    refine az_istore C (lv' := [(5, .int k9), (4, .int (nI i)), (3, .ref (ρ.1 90)), (2, .ref (ρ.1 100)), (1, .ref (ρ.1 0)), (0, .ref b)]) dL_law_1221 (by decide) rfl ?_
    refine az_aload_n C 3 dL_law_1223 rfl ?_
    refine az_arg C (i := i) (j := 1) (z0 := 5) (z4 := 1) S dL_law_1224 dL_law_1225 dL_law_1227 dL_law_1228 dL_law_1229 rfl rfl rfl (by omega) ?_
    refine az_callV C Y_X4_cargoOf cX4 2 0 [.int (xs (i + 1))] [] wm_L_222 wi_X4_cargoOf wse_X4_cargoOf dL_law_1230 (congrFun hρ 100) rfl rfl hMM rfl (Nat.le_of_ble_eq_true rfl) (by show d + 1 ≤ 2048; omega) (by show 19 + 2 + 40 * d ≤ 84000; omega) hr.1 hr.2 (fun v ad9 K9 hp2 => ?_) (fun E ad9 K9 hp2 => ?_)
    · obtain ⟨bv, w, m', h9, hcv, rfl, rfl, hk0, hw, hN⟩ := hpost _ _ _ hp2
      cases h9
      obtain ⟨u, rfl, rfl⟩ := hcv
      refine az_istore C (lv' := [(6, .int u), (5, .int k9), (4, .int (nI i)), (3, .ref (ρ.1 90)), (2, .ref (ρ.1 100)), (1, .ref (ρ.1 0)), (0, .ref b)]) dL_law_1233 (by decide) rfl ?_
      refine az_aload_n C 4 dL_law_1235 rfl ?_
      have gT := Mthrown (ρ := ρ') (x := x') (m := m') (ou := ou') hG
      rw [congrFun hρ 100] at gT
      refine az_callV C Y_X4_thrown cX4 2 0 [] [] wm_L_159 wi_X4_thrown wse_X4_thrown dL_law_1236 (congrFun hρ 100) rfl rfl gT rfl (Nat.le_of_ble_eq_true rfl) (Nat.le_of_ble_eq_true rfl) (Nat.le_of_ble_eq_true rfl) hr.1 hr.2 (az_k1 rfl rfl ?_) (az_k0 rfl)
      refine az_top k9 hk0 ?_
      refine az_iload C 1 dL_law_1239 rfl ?_
      refine az_icmp_eq C 1246 dL_law_1241 (by decide) (fun _ => ?_) (fun q => absurd rfl q)
      refine az_iload C 1 dL_law_1246 rfl ?_
      have fin : az_W l G 9 Q p e room_1 s mm args below meth cd (AD ρ') (KK G ρ' x' m' ou') (kB c ρ + mc + 0 + 0) (nB c ρ + ms + 0 + 0) 1263 [(6, .int u), (5, .int k9), (4, .int (nI i)), (3, .ref (ρ.1 90)), (2, .ref (ρ.1 100)), (1, .ref (ρ.1 0)), (0, .ref b)] [] := by
        refine az_goto C 2935 dL_law_1263 (by decide) ?_
        exact az_lv [2, 3, 4, 5, 6] rfl (az_kn _ _ hn.1 hn.2 (kk ρ' x' m' ou' (congrFun hρ 0) (congrFun hρ 100) (congrFun hρ 90) hN))
      refine az_if_ne C 1263 dL_law_1248 (by decide) (fun _ => fin) (fun h0 => ?_)
      refine az_aload_n C 3 dL_law_1251 rfl ?_
      refine az_iconst C (v := 0) dL_law_1252 (by decide) ?_
      refine az_lald C (N := 1) (f := ou') 3 0 dL_law_1253 (congrFun hρ 90) KK_3 vi_01 ?_
      refine az_iload C 0 dL_law_1254 rfl ?_
      refine az_i2l C dL_law_1256 ?_
      refine az_lcmp C dL_law_1257 ?_
      refine az_top 0 (by rw [show ou' (0 : Int32).toNatClampNeg = u.toInt64 from hw h0]; exact lgc_self _) ?_
      exact az_if_eq C 1263 dL_law_1258 (by decide) (fun _ => fin) (fun q => absurd rfl q)
    · obtain ⟨_, _, _, h9, _⟩ := hpost _ _ _ hp2
      cases h9
  · obtain ⟨_, _, _, _, h9, _⟩ := hp
    cases h9
set_option maxHeartbeats 4000000 in
set_option maxRecDepth 100000 in
theorem L_draughtOf (C : az_C l G p s mm args meth cd cL_law RL 9 (some FieldType.boolean) tab) (hG : az_okS l G) (S : lwS G b L xs s) (hi : i + 6 ≤ L) {c : Nat} (hc : c < 512) (h : Nx c ρ x m) (e0 : ρ.1 0 = qx) (e1 : ρ.1 100 = qm) (e2 : ρ.1 90 = qo) (kk : lwN l G Q p e s mm args below meth cd b i qx qm qo c) : az_W l G 9 Q p e room_1 s mm args below meth cd (AD ρ) (KK G ρ x m ou) (kB c ρ) (nB c ρ) 1266 (lvL b i qx qm qo) [] := by
  subst e0; subst e1; subst e2
  refine az_aload_n C 3 dL_law_1266 rfl ?_
  refine az_arg C (i := i) (j := 1) (z0 := 4) (z4 := 0) S dL_law_1267 dL_law_1268 dL_law_1270 dL_law_1271 dL_law_1272 rfl rfl rfl (by omega) ?_
  refine az_aload_n C 1 dL_law_1273 rfl ?_
  obtain ⟨mc, ms, hgm, hM⟩ := H_draughtOf hG (xs (i + 1)) (O_draughtOf hG hc h (xs (i + 1))) ou
  have hr := room_k hgm hc
  refine az_callH C Y_L_draughtOf [.ref (ρ.1 0), .int (xs (i + 1)), .ref (ρ.1 90)] [] wm_L_223 wst_L_draughtOf dL_law_1274 rfl hM rfl (Nat.le_of_ble_eq_true rfl) (Nat.le_of_ble_eq_true rfl) (Nat.le_of_ble_eq_true rfl) hr.1 hr.2 (fun v ad9 K9 hp => ?_) (fun E ad9 K9 hp => ?_)
  · obtain ⟨k9, ρ', x', ou', h9, rfl, rfl, hρ, hgr, d, hd, post, hMM, hpost⟩ := hp
    cases h9
    rw [congrFun hρ 100] at hMM
    have hn := room_n (c := c) hgr
    refine az_istore C (lv' := [(5, .int k9), (4, .int (nI i)), (3, .ref (ρ.1 90)), (2, .ref (ρ.1 100)), (1, .ref (ρ.1 0)), (0, .ref b)]) dL_law_1277 (by decide) rfl ?_
    refine az_aload_n C 3 dL_law_1279 rfl ?_
    refine az_arg C (i := i) (j := 1) (z0 := 5) (z4 := 1) S dL_law_1280 dL_law_1281 dL_law_1283 dL_law_1284 dL_law_1285 rfl rfl rfl (by omega) ?_
    refine az_callV C Y_X4_draughtOf cX4 2 0 [.int (xs (i + 1))] [] wm_L_225 wi_X4_draughtOf wse_X4_draughtOf dL_law_1286 (congrFun hρ 100) rfl rfl hMM rfl (Nat.le_of_ble_eq_true rfl) (by show d + 1 ≤ 2048; omega) (by show 19 + 2 + 40 * d ≤ 84000; omega) hr.1 hr.2 (fun v ad9 K9 hp2 => ?_) (fun E ad9 K9 hp2 => ?_)
    · obtain ⟨bv, w, m', h9, hcv, rfl, rfl, hk0, hw, hN⟩ := hpost _ _ _ hp2
      cases h9
      obtain ⟨u, rfl, rfl⟩ := hcv
      refine az_istore C (lv' := [(6, .int u), (5, .int k9), (4, .int (nI i)), (3, .ref (ρ.1 90)), (2, .ref (ρ.1 100)), (1, .ref (ρ.1 0)), (0, .ref b)]) dL_law_1289 (by decide) rfl ?_
      refine az_aload_n C 4 dL_law_1291 rfl ?_
      have gT := Mthrown (ρ := ρ') (x := x') (m := m') (ou := ou') hG
      rw [congrFun hρ 100] at gT
      refine az_callV C Y_X4_thrown cX4 2 0 [] [] wm_L_159 wi_X4_thrown wse_X4_thrown dL_law_1292 (congrFun hρ 100) rfl rfl gT rfl (Nat.le_of_ble_eq_true rfl) (Nat.le_of_ble_eq_true rfl) (Nat.le_of_ble_eq_true rfl) hr.1 hr.2 (az_k1 rfl rfl ?_) (az_k0 rfl)
      refine az_top k9 hk0 ?_
      refine az_iload C 1 dL_law_1295 rfl ?_
      refine az_icmp_eq C 1302 dL_law_1297 (by decide) (fun _ => ?_) (fun q => absurd rfl q)
      refine az_iload C 1 dL_law_1302 rfl ?_
      have fin : az_W l G 9 Q p e room_1 s mm args below meth cd (AD ρ') (KK G ρ' x' m' ou') (kB c ρ + mc + 0 + 0) (nB c ρ + ms + 0 + 0) 1319 [(6, .int u), (5, .int k9), (4, .int (nI i)), (3, .ref (ρ.1 90)), (2, .ref (ρ.1 100)), (1, .ref (ρ.1 0)), (0, .ref b)] [] := by
        refine az_goto C 2935 dL_law_1319 (by decide) ?_
        exact az_lv [2, 3, 4, 5, 6] rfl (az_kn _ _ hn.1 hn.2 (kk ρ' x' m' ou' (congrFun hρ 0) (congrFun hρ 100) (congrFun hρ 90) hN))
      refine az_if_ne C 1319 dL_law_1304 (by decide) (fun _ => fin) (fun h0 => ?_)
      refine az_aload_n C 3 dL_law_1307 rfl ?_
      refine az_iconst C (v := 0) dL_law_1308 (by decide) ?_
      refine az_lald C (N := 1) (f := ou') 3 0 dL_law_1309 (congrFun hρ 90) KK_3 vi_01 ?_
      refine az_iload C 0 dL_law_1310 rfl ?_
      refine az_i2l C dL_law_1312 ?_
      refine az_lcmp C dL_law_1313 ?_
      refine az_top 0 (by rw [show ou' (0 : Int32).toNatClampNeg = u.toInt64 from hw h0]; exact lgc_self _) ?_
      exact az_if_eq C 1319 dL_law_1314 (by decide) (fun _ => fin) (fun q => absurd rfl q)
    · obtain ⟨_, _, _, h9, _⟩ := hpost _ _ _ hp2
      cases h9
  · obtain ⟨_, _, _, _, h9, _⟩ := hp
    cases h9
set_option maxHeartbeats 4000000 in
set_option maxRecDepth 100000 in
theorem L_isAfloat (C : az_C l G p s mm args meth cd cL_law RL 9 (some FieldType.boolean) tab) (hG : az_okS l G) (S : lwS G b L xs s) (hi : i + 6 ≤ L) {c : Nat} (hc : c < 512) (h : Nx c ρ x m) (e0 : ρ.1 0 = qx) (e1 : ρ.1 100 = qm) (e2 : ρ.1 90 = qo) (kk : lwN l G Q p e s mm args below meth cd b i qx qm qo c) : az_W l G 9 Q p e room_1 s mm args below meth cd (AD ρ) (KK G ρ x m ou) (kB c ρ) (nB c ρ) 1322 (lvL b i qx qm qo) [] := by
  subst e0; subst e1; subst e2
  refine az_aload_n C 3 dL_law_1322 rfl ?_
  refine az_arg C (i := i) (j := 1) (z0 := 4) (z4 := 0) S dL_law_1323 dL_law_1324 dL_law_1326 dL_law_1327 dL_law_1328 rfl rfl rfl (by omega) ?_
  refine az_aload_n C 1 dL_law_1329 rfl ?_
  obtain ⟨mc, ms, hgm, hM⟩ := H_isAfloat hG (xs (i + 1)) (O_isAfloat hG hc h (xs (i + 1))) ou
  have hr := room_k hgm hc
  refine az_callH C Y_L_isAfloat [.ref (ρ.1 0), .int (xs (i + 1)), .ref (ρ.1 90)] [] wm_L_226 wst_L_isAfloat dL_law_1330 rfl hM rfl (Nat.le_of_ble_eq_true rfl) (Nat.le_of_ble_eq_true rfl) (Nat.le_of_ble_eq_true rfl) hr.1 hr.2 (fun v ad9 K9 hp => ?_) (fun E ad9 K9 hp => ?_)
  · obtain ⟨k9, ρ', x', ou', h9, rfl, rfl, hρ, hgr, d, hd, post, hMM, hpost⟩ := hp
    cases h9
    rw [congrFun hρ 100] at hMM
    have hn := room_n (c := c) hgr
    refine az_istore C (lv' := [(5, .int k9), (4, .int (nI i)), (3, .ref (ρ.1 90)), (2, .ref (ρ.1 100)), (1, .ref (ρ.1 0)), (0, .ref b)]) dL_law_1333 (by decide) rfl ?_
    refine az_aload_n C 3 dL_law_1335 rfl ?_
    refine az_arg C (i := i) (j := 1) (z0 := 5) (z4 := 1) S dL_law_1336 dL_law_1337 dL_law_1339 dL_law_1340 dL_law_1341 rfl rfl rfl (by omega) ?_
    refine az_callV C Y_X4_isAfloat cX4 2 0 [.int (xs (i + 1))] [] wm_L_228 wi_X4_isAfloat wse_X4_isAfloat dL_law_1342 (congrFun hρ 100) rfl rfl hMM rfl (Nat.le_of_ble_eq_true rfl) (by show d + 1 ≤ 2048; omega) (by show 19 + 2 + 40 * d ≤ 84000; omega) hr.1 hr.2 (fun v ad9 K9 hp2 => ?_) (fun E ad9 K9 hp2 => ?_)
    · obtain ⟨bv, w, m', h9, hcv, rfl, rfl, hk0, hw, hN⟩ := hpost _ _ _ hp2
      cases h9
      obtain ⟨u, rfl, rfl⟩ := hcv
      refine az_istore C (lv' := [(6, .int u), (5, .int k9), (4, .int (nI i)), (3, .ref (ρ.1 90)), (2, .ref (ρ.1 100)), (1, .ref (ρ.1 0)), (0, .ref b)]) dL_law_1345 (by decide) rfl ?_
      refine az_aload_n C 4 dL_law_1347 rfl ?_
      have gT := Mthrown (ρ := ρ') (x := x') (m := m') (ou := ou') hG
      rw [congrFun hρ 100] at gT
      refine az_callV C Y_X4_thrown cX4 2 0 [] [] wm_L_159 wi_X4_thrown wse_X4_thrown dL_law_1348 (congrFun hρ 100) rfl rfl gT rfl (Nat.le_of_ble_eq_true rfl) (Nat.le_of_ble_eq_true rfl) (Nat.le_of_ble_eq_true rfl) hr.1 hr.2 (az_k1 rfl rfl ?_) (az_k0 rfl)
      refine az_top k9 hk0 ?_
      refine az_iload C 1 dL_law_1351 rfl ?_
      refine az_icmp_eq C 1358 dL_law_1353 (by decide) (fun _ => ?_) (fun q => absurd rfl q)
      refine az_iload C 1 dL_law_1358 rfl ?_
      have fin : az_W l G 9 Q p e room_1 s mm args below meth cd (AD ρ') (KK G ρ' x' m' ou') (kB c ρ + mc + 0 + 0) (nB c ρ + ms + 0 + 0) 1382 [(6, .int u), (5, .int k9), (4, .int (nI i)), (3, .ref (ρ.1 90)), (2, .ref (ρ.1 100)), (1, .ref (ρ.1 0)), (0, .ref b)] [] := by
        refine az_goto C 2935 dL_law_1382 (by decide) ?_
        exact az_lv [2, 3, 4, 5, 6] rfl (az_kn _ _ hn.1 hn.2 (kk ρ' x' m' ou' (congrFun hρ 0) (congrFun hρ 100) (congrFun hρ 90) hN))
      refine az_if_ne C 1382 dL_law_1360 (by decide) (fun _ => fin) (fun h0 => ?_)
      refine az_aload_n C 3 dL_law_1363 rfl ?_
      refine az_iconst C (v := 0) dL_law_1364 (by decide) ?_
      refine az_lald C (N := 1) (f := ou') 3 0 dL_law_1365 (congrFun hρ 90) KK_3 vi_01 ?_
      refine az_iload C 0 dL_law_1366 rfl ?_
      refine az_if_eq C 1375 dL_law_1368 (by decide) (fun z => ?_) (fun z => ?_)
      · refine az_lconst C (v := 0) dL_law_1375 (by decide) ?_
        refine az_lcmp C dL_law_1376 ?_
        refine az_top 0 (by rw [show ou' (0 : Int32).toNatClampNeg = 0 from (hw h0).trans (if_pos z)]; exact lgc_self _) ?_
        exact az_if_eq C 1382 dL_law_1377 (by decide) (fun _ => fin) (fun q => absurd rfl q)
      · refine az_lconst C (v := 1) dL_law_1371 (by decide) ?_
        refine az_goto C 1376 dL_law_1372 (by decide) ?_
        refine az_lcmp C dL_law_1376 ?_
        refine az_top 0 (by rw [show ou' (0 : Int32).toNatClampNeg = 1 from (hw h0).trans (if_neg z)]; exact lgc_self _) ?_
        exact az_if_eq C 1382 dL_law_1377 (by decide) (fun _ => fin) (fun q => absurd rfl q)
    · obtain ⟨_, _, _, h9, _⟩ := hpost _ _ _ hp2
      cases h9
  · obtain ⟨_, _, _, _, h9, _⟩ := hp
    cases h9
set_option maxHeartbeats 4000000 in
set_option maxRecDepth 100000 in
theorem L_couple (C : az_C l G p s mm args meth cd cL_law RL 9 (some FieldType.boolean) tab) (hG : az_okS l G) (S : lwS G b L xs s) (hi : i + 6 ≤ L) {c : Nat} (hc : c < 512) (h : Nx c ρ x m) (e0 : ρ.1 0 = qx) (e1 : ρ.1 100 = qm) (e2 : ρ.1 90 = qo) (kk : lwN l G Q p e s mm args below meth cd b i qx qm qo c) : az_W l G 9 Q p e room_1 s mm args below meth cd (AD ρ) (KK G ρ x m ou) (kB c ρ) (nB c ρ) 1385 (lvL b i qx qm qo) [] := by
  subst e0; subst e1; subst e2
  refine az_aload_n C 3 dL_law_1385 rfl ?_
  refine az_arg C (i := i) (j := 1) (z0 := 4) (z4 := 0) S dL_law_1386 dL_law_1387 dL_law_1389 dL_law_1390 dL_law_1391 rfl rfl rfl (by omega) ?_
  refine az_arg C (i := i) (j := 2) (z0 := 4) (z4 := 0) S dL_law_1392 dL_law_1393 dL_law_1395 dL_law_1396 dL_law_1397 rfl rfl rfl (by omega) ?_
  refine az_aload_n C 1 dL_law_1398 rfl ?_
  obtain ⟨mc, ms, hgm, hM⟩ := H_couple hG (xs (i + 1)) (xs (i + 2)) (O_couple hG hc h (xs (i + 1)) (xs (i + 2))) ou
  have hr := room_k hgm hc
  refine az_callH C Y_L_couple [.ref (ρ.1 0), .int (xs (i + 1)), .int (xs (i + 2)), .ref (ρ.1 90)] [] wm_L_229 wst_L_couple dL_law_1399 rfl hM rfl (Nat.le_of_ble_eq_true rfl) (Nat.le_of_ble_eq_true rfl) (Nat.le_of_ble_eq_true rfl) hr.1 hr.2 (fun v ad9 K9 hp => ?_) (fun E ad9 K9 hp => ?_)
  · obtain ⟨k9, ρ', x', ou', h9, rfl, rfl, hρ, hgr, d, hd, post, hMM, hpost⟩ := hp
    cases h9
    rw [congrFun hρ 100] at hMM
    have hn := room_n (c := c) hgr
    refine az_istore C (lv' := [(5, .int k9), (4, .int (nI i)), (3, .ref (ρ.1 90)), (2, .ref (ρ.1 100)), (1, .ref (ρ.1 0)), (0, .ref b)]) dL_law_1402 (by decide) rfl ?_
    refine az_aload_n C 3 dL_law_1404 rfl ?_
    refine az_arg C (i := i) (j := 1) (z0 := 5) (z4 := 1) S dL_law_1405 dL_law_1406 dL_law_1408 dL_law_1409 dL_law_1410 rfl rfl rfl (by omega) ?_
    refine az_arg C (i := i) (j := 2) (z0 := 5) (z4 := 1) S dL_law_1411 dL_law_1412 dL_law_1414 dL_law_1415 dL_law_1416 rfl rfl rfl (by omega) ?_
    refine az_callV C Y_X4_couple cX4 2 0 [.int (xs (i + 1)), .int (xs (i + 2))] [] wm_L_231 wi_X4_couple wse_X4_couple dL_law_1417 (congrFun hρ 100) rfl rfl hMM rfl (Nat.le_of_ble_eq_true rfl) (by show d + 1 ≤ 2048; omega) (by show 19 + 5 + 40 * d ≤ 84000; omega) hr.1 hr.2 (fun v ad9 K9 hp2 => ?_) (fun E ad9 K9 hp2 => ?_)
    · obtain ⟨bv, w, m', h9, hcv, rfl, rfl, hk0, hw, hN⟩ := hpost _ _ _ hp2
      cases h9
      obtain ⟨u, rfl, rfl⟩ := hcv
      refine az_istore C (lv' := [(6, .int u), (5, .int k9), (4, .int (nI i)), (3, .ref (ρ.1 90)), (2, .ref (ρ.1 100)), (1, .ref (ρ.1 0)), (0, .ref b)]) dL_law_1420 (by decide) rfl ?_
      refine az_aload_n C 4 dL_law_1422 rfl ?_
      have gT := Mthrown (ρ := ρ') (x := x') (m := m') (ou := ou') hG
      rw [congrFun hρ 100] at gT
      refine az_callV C Y_X4_thrown cX4 2 0 [] [] wm_L_159 wi_X4_thrown wse_X4_thrown dL_law_1423 (congrFun hρ 100) rfl rfl gT rfl (Nat.le_of_ble_eq_true rfl) (Nat.le_of_ble_eq_true rfl) (Nat.le_of_ble_eq_true rfl) hr.1 hr.2 (az_k1 rfl rfl ?_) (az_k0 rfl)
      refine az_top k9 hk0 ?_
      refine az_iload C 1 dL_law_1426 rfl ?_
      refine az_icmp_eq C 1433 dL_law_1428 (by decide) (fun _ => ?_) (fun q => absurd rfl q)
      refine az_iload C 1 dL_law_1433 rfl ?_
      have fin : az_W l G 9 Q p e room_1 s mm args below meth cd (AD ρ') (KK G ρ' x' m' ou') (kB c ρ + mc + 0 + 0) (nB c ρ + ms + 0 + 0) 1450 [(6, .int u), (5, .int k9), (4, .int (nI i)), (3, .ref (ρ.1 90)), (2, .ref (ρ.1 100)), (1, .ref (ρ.1 0)), (0, .ref b)] [] := by
        refine az_goto C 2935 dL_law_1450 (by decide) ?_
        exact az_lv [2, 3, 4, 5, 6] rfl (az_kn _ _ hn.1 hn.2 (kk ρ' x' m' ou' (congrFun hρ 0) (congrFun hρ 100) (congrFun hρ 90) hN))
      refine az_if_ne C 1450 dL_law_1435 (by decide) (fun _ => fin) (fun h0 => ?_)
      refine az_aload_n C 3 dL_law_1438 rfl ?_
      refine az_iconst C (v := 0) dL_law_1439 (by decide) ?_
      refine az_lald C (N := 1) (f := ou') 3 0 dL_law_1440 (congrFun hρ 90) KK_3 vi_01 ?_
      refine az_iload C 0 dL_law_1441 rfl ?_
      refine az_i2l C dL_law_1443 ?_
      refine az_lcmp C dL_law_1444 ?_
      refine az_top 0 (by rw [show ou' (0 : Int32).toNatClampNeg = u.toInt64 from hw h0]; exact lgc_self _) ?_
      exact az_if_eq C 1450 dL_law_1445 (by decide) (fun _ => fin) (fun q => absurd rfl q)
    · obtain ⟨_, _, _, h9, _⟩ := hpost _ _ _ hp2
      cases h9
  · obtain ⟨_, _, _, _, h9, _⟩ := hp
    cases h9
set_option maxHeartbeats 4000000 in
set_option maxRecDepth 100000 in
theorem L_uncouple (C : az_C l G p s mm args meth cd cL_law RL 9 (some FieldType.boolean) tab) (hG : az_okS l G) (S : lwS G b L xs s) (hi : i + 6 ≤ L) {c : Nat} (hc : c < 512) (h : Nx c ρ x m) (e0 : ρ.1 0 = qx) (e1 : ρ.1 100 = qm) (e2 : ρ.1 90 = qo) (kk : lwN l G Q p e s mm args below meth cd b i qx qm qo c) : az_W l G 9 Q p e room_1 s mm args below meth cd (AD ρ) (KK G ρ x m ou) (kB c ρ) (nB c ρ) 1453 (lvL b i qx qm qo) [] := by
  subst e0; subst e1; subst e2
  refine az_aload_n C 3 dL_law_1453 rfl ?_
  refine az_arg C (i := i) (j := 1) (z0 := 4) (z4 := 0) S dL_law_1454 dL_law_1455 dL_law_1457 dL_law_1458 dL_law_1459 rfl rfl rfl (by omega) ?_
  refine az_aload_n C 1 dL_law_1460 rfl ?_
  obtain ⟨mc, ms, hgm, hM⟩ := H_uncouple hG (xs (i + 1)) (O_uncouple hG hc h (xs (i + 1))) ou
  have hr := room_k hgm hc
  refine az_callH C Y_L_uncouple [.ref (ρ.1 0), .int (xs (i + 1)), .ref (ρ.1 90)] [] wm_L_232 wst_L_uncouple dL_law_1461 rfl hM rfl (Nat.le_of_ble_eq_true rfl) (Nat.le_of_ble_eq_true rfl) (Nat.le_of_ble_eq_true rfl) hr.1 hr.2 (fun v ad9 K9 hp => ?_) (fun E ad9 K9 hp => ?_)
  · obtain ⟨k9, ρ', x', ou', h9, rfl, rfl, hρ, hgr, d, hd, post, hMM, hpost⟩ := hp
    cases h9
    rw [congrFun hρ 100] at hMM
    have hn := room_n (c := c) hgr
    refine az_istore C (lv' := [(5, .int k9), (4, .int (nI i)), (3, .ref (ρ.1 90)), (2, .ref (ρ.1 100)), (1, .ref (ρ.1 0)), (0, .ref b)]) dL_law_1464 (by decide) rfl ?_
    refine az_aload_n C 3 dL_law_1466 rfl ?_
    refine az_arg C (i := i) (j := 1) (z0 := 5) (z4 := 1) S dL_law_1467 dL_law_1468 dL_law_1470 dL_law_1471 dL_law_1472 rfl rfl rfl (by omega) ?_
    refine az_callV C Y_X4_uncouple cX4 2 0 [.int (xs (i + 1))] [] wm_L_234 wi_X4_uncouple wse_X4_uncouple dL_law_1473 (congrFun hρ 100) rfl rfl hMM rfl (Nat.le_of_ble_eq_true rfl) (by show d + 1 ≤ 2048; omega) (by show 19 + 3 + 40 * d ≤ 84000; omega) hr.1 hr.2 (fun v ad9 K9 hp2 => ?_) (fun E ad9 K9 hp2 => ?_)
    · obtain ⟨bv, w, m', h9, hcv, rfl, rfl, hk0, hw, hN⟩ := hpost _ _ _ hp2
      cases h9
      obtain ⟨u, rfl, rfl⟩ := hcv
      refine az_istore C (lv' := [(6, .int u), (5, .int k9), (4, .int (nI i)), (3, .ref (ρ.1 90)), (2, .ref (ρ.1 100)), (1, .ref (ρ.1 0)), (0, .ref b)]) dL_law_1476 (by decide) rfl ?_
      refine az_aload_n C 4 dL_law_1478 rfl ?_
      have gT := Mthrown (ρ := ρ') (x := x') (m := m') (ou := ou') hG
      rw [congrFun hρ 100] at gT
      refine az_callV C Y_X4_thrown cX4 2 0 [] [] wm_L_159 wi_X4_thrown wse_X4_thrown dL_law_1479 (congrFun hρ 100) rfl rfl gT rfl (Nat.le_of_ble_eq_true rfl) (Nat.le_of_ble_eq_true rfl) (Nat.le_of_ble_eq_true rfl) hr.1 hr.2 (az_k1 rfl rfl ?_) (az_k0 rfl)
      refine az_top k9 hk0 ?_
      refine az_iload C 1 dL_law_1482 rfl ?_
      refine az_icmp_eq C 1489 dL_law_1484 (by decide) (fun _ => ?_) (fun q => absurd rfl q)
      refine az_iload C 1 dL_law_1489 rfl ?_
      have fin : az_W l G 9 Q p e room_1 s mm args below meth cd (AD ρ') (KK G ρ' x' m' ou') (kB c ρ + mc + 0 + 0) (nB c ρ + ms + 0 + 0) 1506 [(6, .int u), (5, .int k9), (4, .int (nI i)), (3, .ref (ρ.1 90)), (2, .ref (ρ.1 100)), (1, .ref (ρ.1 0)), (0, .ref b)] [] := by
        refine az_goto C 2935 dL_law_1506 (by decide) ?_
        exact az_lv [2, 3, 4, 5, 6] rfl (az_kn _ _ hn.1 hn.2 (kk ρ' x' m' ou' (congrFun hρ 0) (congrFun hρ 100) (congrFun hρ 90) hN))
      refine az_if_ne C 1506 dL_law_1491 (by decide) (fun _ => fin) (fun h0 => ?_)
      refine az_aload_n C 3 dL_law_1494 rfl ?_
      refine az_iconst C (v := 0) dL_law_1495 (by decide) ?_
      refine az_lald C (N := 1) (f := ou') 3 0 dL_law_1496 (congrFun hρ 90) KK_3 vi_01 ?_
      refine az_iload C 0 dL_law_1497 rfl ?_
      refine az_i2l C dL_law_1499 ?_
      refine az_lcmp C dL_law_1500 ?_
      refine az_top 0 (by rw [show ou' (0 : Int32).toNatClampNeg = u.toInt64 from hw h0]; exact lgc_self _) ?_
      exact az_if_eq C 1506 dL_law_1501 (by decide) (fun _ => fin) (fun q => absurd rfl q)
    · obtain ⟨_, _, _, h9, _⟩ := hpost _ _ _ hp2
      cases h9
  · obtain ⟨_, _, _, _, h9, _⟩ := hp
    cases h9
set_option maxHeartbeats 4000000 in
set_option maxRecDepth 100000 in
theorem L_convoySize (C : az_C l G p s mm args meth cd cL_law RL 9 (some FieldType.boolean) tab) (hG : az_okS l G) (S : lwS G b L xs s) (hi : i + 6 ≤ L) {c : Nat} (hc : c < 512) (h : Nx c ρ x m) (e0 : ρ.1 0 = qx) (e1 : ρ.1 100 = qm) (e2 : ρ.1 90 = qo) (kk : lwN l G Q p e s mm args below meth cd b i qx qm qo c) : az_W l G 9 Q p e room_1 s mm args below meth cd (AD ρ) (KK G ρ x m ou) (kB c ρ) (nB c ρ) 1509 (lvL b i qx qm qo) [] := by
  subst e0; subst e1; subst e2
  refine az_aload_n C 3 dL_law_1509 rfl ?_
  refine az_arg C (i := i) (j := 1) (z0 := 4) (z4 := 0) S dL_law_1510 dL_law_1511 dL_law_1513 dL_law_1514 dL_law_1515 rfl rfl rfl (by omega) ?_
  refine az_aload_n C 1 dL_law_1516 rfl ?_
  obtain ⟨mc, ms, hgm, hM⟩ := H_convoySize hG (xs (i + 1)) (O_convoySize hG hc h (xs (i + 1))) ou
  have hr := room_k hgm hc
  refine az_callH C Y_L_convoySize [.ref (ρ.1 0), .int (xs (i + 1)), .ref (ρ.1 90)] [] wm_L_235 wst_L_convoySize dL_law_1517 rfl hM rfl (Nat.le_of_ble_eq_true rfl) (Nat.le_of_ble_eq_true rfl) (Nat.le_of_ble_eq_true rfl) hr.1 hr.2 (fun v ad9 K9 hp => ?_) (fun E ad9 K9 hp => ?_)
  · obtain ⟨k9, ρ', x', ou', h9, rfl, rfl, hρ, hgr, d, hd, post, hMM, hpost⟩ := hp
    cases h9
    rw [congrFun hρ 100] at hMM
    have hn := room_n (c := c) hgr
    refine az_istore C (lv' := [(5, .int k9), (4, .int (nI i)), (3, .ref (ρ.1 90)), (2, .ref (ρ.1 100)), (1, .ref (ρ.1 0)), (0, .ref b)]) dL_law_1520 (by decide) rfl ?_
    refine az_aload_n C 3 dL_law_1522 rfl ?_
    refine az_arg C (i := i) (j := 1) (z0 := 5) (z4 := 1) S dL_law_1523 dL_law_1524 dL_law_1526 dL_law_1527 dL_law_1528 rfl rfl rfl (by omega) ?_
    refine az_callV C Y_X4_convoySize cX4 2 0 [.int (xs (i + 1))] [] wm_L_237 wi_X4_convoySize wse_X4_convoySize dL_law_1529 (congrFun hρ 100) rfl rfl hMM rfl (Nat.le_of_ble_eq_true rfl) (by show d + 1 ≤ 2048; omega) (by show 19 + 2 + 40 * d ≤ 84000; omega) hr.1 hr.2 (fun v ad9 K9 hp2 => ?_) (fun E ad9 K9 hp2 => ?_)
    · obtain ⟨bv, w, m', h9, hcv, rfl, rfl, hk0, hw, hN⟩ := hpost _ _ _ hp2
      cases h9
      obtain ⟨u, rfl, rfl⟩ := hcv
      refine az_istore C (lv' := [(6, .int u), (5, .int k9), (4, .int (nI i)), (3, .ref (ρ.1 90)), (2, .ref (ρ.1 100)), (1, .ref (ρ.1 0)), (0, .ref b)]) dL_law_1532 (by decide) rfl ?_
      refine az_aload_n C 4 dL_law_1534 rfl ?_
      have gT := Mthrown (ρ := ρ') (x := x') (m := m') (ou := ou') hG
      rw [congrFun hρ 100] at gT
      refine az_callV C Y_X4_thrown cX4 2 0 [] [] wm_L_159 wi_X4_thrown wse_X4_thrown dL_law_1535 (congrFun hρ 100) rfl rfl gT rfl (Nat.le_of_ble_eq_true rfl) (Nat.le_of_ble_eq_true rfl) (Nat.le_of_ble_eq_true rfl) hr.1 hr.2 (az_k1 rfl rfl ?_) (az_k0 rfl)
      refine az_top k9 hk0 ?_
      refine az_iload C 1 dL_law_1538 rfl ?_
      refine az_icmp_eq C 1545 dL_law_1540 (by decide) (fun _ => ?_) (fun q => absurd rfl q)
      refine az_iload C 1 dL_law_1545 rfl ?_
      have fin : az_W l G 9 Q p e room_1 s mm args below meth cd (AD ρ') (KK G ρ' x' m' ou') (kB c ρ + mc + 0 + 0) (nB c ρ + ms + 0 + 0) 1562 [(6, .int u), (5, .int k9), (4, .int (nI i)), (3, .ref (ρ.1 90)), (2, .ref (ρ.1 100)), (1, .ref (ρ.1 0)), (0, .ref b)] [] := by
        refine az_goto C 2935 dL_law_1562 (by decide) ?_
        exact az_lv [2, 3, 4, 5, 6] rfl (az_kn _ _ hn.1 hn.2 (kk ρ' x' m' ou' (congrFun hρ 0) (congrFun hρ 100) (congrFun hρ 90) hN))
      refine az_if_ne C 1562 dL_law_1547 (by decide) (fun _ => fin) (fun h0 => ?_)
      refine az_aload_n C 3 dL_law_1550 rfl ?_
      refine az_iconst C (v := 0) dL_law_1551 (by decide) ?_
      refine az_lald C (N := 1) (f := ou') 3 0 dL_law_1552 (congrFun hρ 90) KK_3 vi_01 ?_
      refine az_iload C 0 dL_law_1553 rfl ?_
      refine az_i2l C dL_law_1555 ?_
      refine az_lcmp C dL_law_1556 ?_
      refine az_top 0 (by rw [show ou' (0 : Int32).toNatClampNeg = u.toInt64 from hw h0]; exact lgc_self _) ?_
      exact az_if_eq C 1562 dL_law_1557 (by decide) (fun _ => fin) (fun q => absurd rfl q)
    · obtain ⟨_, _, _, h9, _⟩ := hpost _ _ _ hp2
      cases h9
  · obtain ⟨_, _, _, _, h9, _⟩ := hp
    cases h9
set_option maxHeartbeats 4000000 in
set_option maxRecDepth 100000 in
theorem L_convoyAt (C : az_C l G p s mm args meth cd cL_law RL 9 (some FieldType.boolean) tab) (hG : az_okS l G) (S : lwS G b L xs s) (hi : i + 6 ≤ L) {c : Nat} (hc : c < 512) (h : Nx c ρ x m) (e0 : ρ.1 0 = qx) (e1 : ρ.1 100 = qm) (e2 : ρ.1 90 = qo) (kk : lwN l G Q p e s mm args below meth cd b i qx qm qo c) : az_W l G 9 Q p e room_1 s mm args below meth cd (AD ρ) (KK G ρ x m ou) (kB c ρ) (nB c ρ) 1565 (lvL b i qx qm qo) [] := by
  subst e0; subst e1; subst e2
  refine az_aload_n C 3 dL_law_1565 rfl ?_
  refine az_arg C (i := i) (j := 1) (z0 := 4) (z4 := 0) S dL_law_1566 dL_law_1567 dL_law_1569 dL_law_1570 dL_law_1571 rfl rfl rfl (by omega) ?_
  refine az_arg C (i := i) (j := 2) (z0 := 4) (z4 := 0) S dL_law_1572 dL_law_1573 dL_law_1575 dL_law_1576 dL_law_1577 rfl rfl rfl (by omega) ?_
  refine az_aload_n C 1 dL_law_1578 rfl ?_
  obtain ⟨mc, ms, hgm, hM⟩ := H_convoyAt hG (xs (i + 1)) (xs (i + 2)) (O_convoyAt hG hc h (xs (i + 1)) (xs (i + 2))) ou
  have hr := room_k hgm hc
  refine az_callH C Y_L_convoyAt [.ref (ρ.1 0), .int (xs (i + 1)), .int (xs (i + 2)), .ref (ρ.1 90)] [] wm_L_238 wst_L_convoyAt dL_law_1579 rfl hM rfl (Nat.le_of_ble_eq_true rfl) (Nat.le_of_ble_eq_true rfl) (Nat.le_of_ble_eq_true rfl) hr.1 hr.2 (fun v ad9 K9 hp => ?_) (fun E ad9 K9 hp => ?_)
  · obtain ⟨k9, ρ', x', ou', h9, rfl, rfl, hρ, hgr, d, hd, post, hMM, hpost⟩ := hp
    cases h9
    rw [congrFun hρ 100] at hMM
    have hn := room_n (c := c) hgr
    refine az_istore C (lv' := [(5, .int k9), (4, .int (nI i)), (3, .ref (ρ.1 90)), (2, .ref (ρ.1 100)), (1, .ref (ρ.1 0)), (0, .ref b)]) dL_law_1582 (by decide) rfl ?_
    refine az_aload_n C 3 dL_law_1584 rfl ?_
    refine az_arg C (i := i) (j := 1) (z0 := 5) (z4 := 1) S dL_law_1585 dL_law_1586 dL_law_1588 dL_law_1589 dL_law_1590 rfl rfl rfl (by omega) ?_
    refine az_arg C (i := i) (j := 2) (z0 := 5) (z4 := 1) S dL_law_1591 dL_law_1592 dL_law_1594 dL_law_1595 dL_law_1596 rfl rfl rfl (by omega) ?_
    refine az_callV C Y_X4_convoyAt cX4 2 0 [.int (xs (i + 1)), .int (xs (i + 2))] [] wm_L_240 wi_X4_convoyAt wse_X4_convoyAt dL_law_1597 (congrFun hρ 100) rfl rfl hMM rfl (Nat.le_of_ble_eq_true rfl) (by show d + 1 ≤ 2048; omega) (by show 19 + 5 + 40 * d ≤ 84000; omega) hr.1 hr.2 (fun v ad9 K9 hp2 => ?_) (fun E ad9 K9 hp2 => ?_)
    · obtain ⟨bv, w, m', h9, hcv, rfl, rfl, hk0, hw, hN⟩ := hpost _ _ _ hp2
      cases h9
      obtain ⟨u, rfl, rfl⟩ := hcv
      refine az_istore C (lv' := [(6, .int u), (5, .int k9), (4, .int (nI i)), (3, .ref (ρ.1 90)), (2, .ref (ρ.1 100)), (1, .ref (ρ.1 0)), (0, .ref b)]) dL_law_1600 (by decide) rfl ?_
      refine az_aload_n C 4 dL_law_1602 rfl ?_
      have gT := Mthrown (ρ := ρ') (x := x') (m := m') (ou := ou') hG
      rw [congrFun hρ 100] at gT
      refine az_callV C Y_X4_thrown cX4 2 0 [] [] wm_L_159 wi_X4_thrown wse_X4_thrown dL_law_1603 (congrFun hρ 100) rfl rfl gT rfl (Nat.le_of_ble_eq_true rfl) (Nat.le_of_ble_eq_true rfl) (Nat.le_of_ble_eq_true rfl) hr.1 hr.2 (az_k1 rfl rfl ?_) (az_k0 rfl)
      refine az_top k9 hk0 ?_
      refine az_iload C 1 dL_law_1606 rfl ?_
      refine az_icmp_eq C 1613 dL_law_1608 (by decide) (fun _ => ?_) (fun q => absurd rfl q)
      refine az_iload C 1 dL_law_1613 rfl ?_
      have fin : az_W l G 9 Q p e room_1 s mm args below meth cd (AD ρ') (KK G ρ' x' m' ou') (kB c ρ + mc + 0 + 0) (nB c ρ + ms + 0 + 0) 1630 [(6, .int u), (5, .int k9), (4, .int (nI i)), (3, .ref (ρ.1 90)), (2, .ref (ρ.1 100)), (1, .ref (ρ.1 0)), (0, .ref b)] [] := by
        refine az_goto C 2935 dL_law_1630 (by decide) ?_
        exact az_lv [2, 3, 4, 5, 6] rfl (az_kn _ _ hn.1 hn.2 (kk ρ' x' m' ou' (congrFun hρ 0) (congrFun hρ 100) (congrFun hρ 90) hN))
      refine az_if_ne C 1630 dL_law_1615 (by decide) (fun _ => fin) (fun h0 => ?_)
      refine az_aload_n C 3 dL_law_1618 rfl ?_
      refine az_iconst C (v := 0) dL_law_1619 (by decide) ?_
      refine az_lald C (N := 1) (f := ou') 3 0 dL_law_1620 (congrFun hρ 90) KK_3 vi_01 ?_
      refine az_iload C 0 dL_law_1621 rfl ?_
      refine az_i2l C dL_law_1623 ?_
      refine az_lcmp C dL_law_1624 ?_
      refine az_top 0 (by rw [show ou' (0 : Int32).toNatClampNeg = u.toInt64 from hw h0]; exact lgc_self _) ?_
      exact az_if_eq C 1630 dL_law_1625 (by decide) (fun _ => fin) (fun q => absurd rfl q)
    · obtain ⟨_, _, _, h9, _⟩ := hpost _ _ _ hp2
      cases h9
  · obtain ⟨_, _, _, _, h9, _⟩ := hp
    cases h9
set_option maxHeartbeats 4000000 in
set_option maxRecDepth 100000 in
theorem L_partsFor (C : az_C l G p s mm args meth cd cL_law RL 9 (some FieldType.boolean) tab) (hG : az_okS l G) (S : lwS G b L xs s) (hi : i + 6 ≤ L) {c : Nat} (hc : c < 512) (h : Nx c ρ x m) (e0 : ρ.1 0 = qx) (e1 : ρ.1 100 = qm) (e2 : ρ.1 90 = qo) (kk : lwN l G Q p e s mm args below meth cd b i qx qm qo c) : az_W l G 9 Q p e room_1 s mm args below meth cd (AD ρ) (KK G ρ x m ou) (kB c ρ) (nB c ρ) 1633 (lvL b i qx qm qo) [] := by
  subst e0; subst e1; subst e2
  refine az_aload_n C 3 dL_law_1633 rfl ?_
  refine az_arg C (i := i) (j := 1) (z0 := 4) (z4 := 0) S dL_law_1634 dL_law_1635 dL_law_1637 dL_law_1638 dL_law_1639 rfl rfl rfl (by omega) ?_
  refine az_arg C (i := i) (j := 2) (z0 := 4) (z4 := 0) S dL_law_1640 dL_law_1641 dL_law_1643 dL_law_1644 dL_law_1645 rfl rfl rfl (by omega) ?_
  refine az_aload_n C 1 dL_law_1646 rfl ?_
  obtain ⟨mc, ms, hgm, hM⟩ := H_partsFor hG (xs (i + 1)) (xs (i + 2)) (O_partsFor hG hc h (xs (i + 1)) (xs (i + 2))) ou
  have hr := room_k hgm hc
  refine az_callH C Y_L_partsFor [.ref (ρ.1 0), .int (xs (i + 1)), .int (xs (i + 2)), .ref (ρ.1 90)] [] wm_L_241 wst_L_partsFor dL_law_1647 rfl hM rfl (Nat.le_of_ble_eq_true rfl) (Nat.le_of_ble_eq_true rfl) (Nat.le_of_ble_eq_true rfl) hr.1 hr.2 (fun v ad9 K9 hp => ?_) (fun E ad9 K9 hp => ?_)
  · obtain ⟨k9, ρ', x', ou', h9, rfl, rfl, hρ, hgr, d, hd, post, hMM, hpost⟩ := hp
    cases h9
    rw [congrFun hρ 100] at hMM
    have hn := room_n (c := c) hgr
    refine az_istore C (lv' := [(5, .int k9), (4, .int (nI i)), (3, .ref (ρ.1 90)), (2, .ref (ρ.1 100)), (1, .ref (ρ.1 0)), (0, .ref b)]) dL_law_1650 (by decide) rfl ?_
    refine az_aload_n C 3 dL_law_1652 rfl ?_
    refine az_arg C (i := i) (j := 1) (z0 := 5) (z4 := 1) S dL_law_1653 dL_law_1654 dL_law_1656 dL_law_1657 dL_law_1658 rfl rfl rfl (by omega) ?_
    refine az_arg C (i := i) (j := 2) (z0 := 5) (z4 := 1) S dL_law_1659 dL_law_1660 dL_law_1662 dL_law_1663 dL_law_1664 rfl rfl rfl (by omega) ?_
    refine az_callV C Y_X4_partsFor cX4 2 0 [.int (xs (i + 1)), .int (xs (i + 2))] [] wm_L_243 wi_X4_partsFor wse_X4_partsFor dL_law_1665 (congrFun hρ 100) rfl rfl hMM rfl (Nat.le_of_ble_eq_true rfl) (by show d + 1 ≤ 2048; omega) (by show 19 + 5 + 40 * d ≤ 84000; omega) hr.1 hr.2 (fun v ad9 K9 hp2 => ?_) (fun E ad9 K9 hp2 => ?_)
    · obtain ⟨bv, w, m', h9, hcv, rfl, rfl, hk0, hw, hN⟩ := hpost _ _ _ hp2
      cases h9
      obtain ⟨u, rfl, rfl⟩ := hcv
      refine az_istore C (lv' := [(6, .int u), (5, .int k9), (4, .int (nI i)), (3, .ref (ρ.1 90)), (2, .ref (ρ.1 100)), (1, .ref (ρ.1 0)), (0, .ref b)]) dL_law_1668 (by decide) rfl ?_
      refine az_aload_n C 4 dL_law_1670 rfl ?_
      have gT := Mthrown (ρ := ρ') (x := x') (m := m') (ou := ou') hG
      rw [congrFun hρ 100] at gT
      refine az_callV C Y_X4_thrown cX4 2 0 [] [] wm_L_159 wi_X4_thrown wse_X4_thrown dL_law_1671 (congrFun hρ 100) rfl rfl gT rfl (Nat.le_of_ble_eq_true rfl) (Nat.le_of_ble_eq_true rfl) (Nat.le_of_ble_eq_true rfl) hr.1 hr.2 (az_k1 rfl rfl ?_) (az_k0 rfl)
      refine az_top k9 hk0 ?_
      refine az_iload C 1 dL_law_1674 rfl ?_
      refine az_icmp_eq C 1681 dL_law_1676 (by decide) (fun _ => ?_) (fun q => absurd rfl q)
      refine az_iload C 1 dL_law_1681 rfl ?_
      have fin : az_W l G 9 Q p e room_1 s mm args below meth cd (AD ρ') (KK G ρ' x' m' ou') (kB c ρ + mc + 0 + 0) (nB c ρ + ms + 0 + 0) 1698 [(6, .int u), (5, .int k9), (4, .int (nI i)), (3, .ref (ρ.1 90)), (2, .ref (ρ.1 100)), (1, .ref (ρ.1 0)), (0, .ref b)] [] := by
        refine az_goto C 2935 dL_law_1698 (by decide) ?_
        exact az_lv [2, 3, 4, 5, 6] rfl (az_kn _ _ hn.1 hn.2 (kk ρ' x' m' ou' (congrFun hρ 0) (congrFun hρ 100) (congrFun hρ 90) hN))
      refine az_if_ne C 1698 dL_law_1683 (by decide) (fun _ => fin) (fun h0 => ?_)
      refine az_aload_n C 3 dL_law_1686 rfl ?_
      refine az_iconst C (v := 0) dL_law_1687 (by decide) ?_
      refine az_lald C (N := 1) (f := ou') 3 0 dL_law_1688 (congrFun hρ 90) KK_3 vi_01 ?_
      refine az_iload C 0 dL_law_1689 rfl ?_
      refine az_i2l C dL_law_1691 ?_
      refine az_lcmp C dL_law_1692 ?_
      refine az_top 0 (by rw [show ou' (0 : Int32).toNatClampNeg = u.toInt64 from hw h0]; exact lgc_self _) ?_
      exact az_if_eq C 1698 dL_law_1693 (by decide) (fun _ => fin) (fun q => absurd rfl q)
    · obtain ⟨_, _, _, h9, _⟩ := hpost _ _ _ hp2
      cases h9
  · obtain ⟨_, _, _, _, h9, _⟩ := hp
    cases h9
set_option maxHeartbeats 4000000 in
set_option maxRecDepth 100000 in
theorem L_pass (C : az_C l G p s mm args meth cd cL_law RL 9 (some FieldType.boolean) tab) (hG : az_okS l G) (S : lwS G b L xs s) (hi : i + 6 ≤ L) {c : Nat} (hc : c < 512) (h : Nx c ρ x m) (e0 : ρ.1 0 = qx) (e1 : ρ.1 100 = qm) (e2 : ρ.1 90 = qo) (kk : lwN l G Q p e s mm args below meth cd b i qx qm qo c) : az_W l G 9 Q p e room_1 s mm args below meth cd (AD ρ) (KK G ρ x m ou) (kB c ρ) (nB c ρ) 1701 (lvL b i qx qm qo) [] := by
  subst e0; subst e1; subst e2
  by_cases hz : xs (i + 2) = 0
  · refine az_aload_n C 3 dL_law_1701 rfl ?_
    refine az_arg C (i := i) (j := 1) (z0 := 4) (z4 := 0) S dL_law_1702 dL_law_1703 dL_law_1705 dL_law_1706 dL_law_1707 rfl rfl rfl (by omega) ?_
    refine az_arg C (i := i) (j := 2) (z0 := 4) (z4 := 0) S dL_law_1708 dL_law_1709 dL_law_1711 dL_law_1712 dL_law_1713 rfl rfl rfl (by omega) ?_
    refine az_if_eq C 1721 dL_law_1714 (by decide) (fun _ => ?_) (fun q => absurd hz q)
    refine az_iconst C (v := 0) dL_law_1721 (by decide) ?_
    refine az_aload_n C 1 dL_law_1722 rfl ?_
    obtain ⟨mc, ms, hgm, hM⟩ := H_pass hG (xs (i + 1)) 0 (O_pass hG hc h (xs (i + 1)) 0 (Or.inl rfl)) ou
    have hr := room_k hgm hc
    refine az_callH C Y_L_pass [.ref (ρ.1 0), .int (xs (i + 1)), .int 0, .ref (ρ.1 90)] [] wm_L_244 wst_L_pass dL_law_1723 rfl hM rfl (Nat.le_of_ble_eq_true rfl) (Nat.le_of_ble_eq_true rfl) (Nat.le_of_ble_eq_true rfl) hr.1 hr.2 (fun v ad9 K9 hp => ?_) (fun E ad9 K9 hp => ?_)
    · obtain ⟨k9, ρ', x', ou', h9, rfl, rfl, hρ, hgr, d, hd, post, hMM, hpost⟩ := hp
      cases h9
      rw [congrFun hρ 100] at hMM
      have hn := room_n (c := c) hgr
      refine az_istore C (lv' := [(5, .int k9), (4, .int (nI i)), (3, .ref (ρ.1 90)), (2, .ref (ρ.1 100)), (1, .ref (ρ.1 0)), (0, .ref b)]) dL_law_1726 (by decide) rfl ?_
      refine az_aload_n C 3 dL_law_1728 rfl ?_
      refine az_arg C (i := i) (j := 1) (z0 := 5) (z4 := 1) S dL_law_1729 dL_law_1730 dL_law_1732 dL_law_1733 dL_law_1734 rfl rfl rfl (by omega) ?_
      refine az_arg C (i := i) (j := 2) (z0 := 5) (z4 := 1) S dL_law_1735 dL_law_1736 dL_law_1738 dL_law_1739 dL_law_1740 rfl rfl rfl (by omega) ?_
      refine az_if_eq C 1748 dL_law_1741 (by decide) (fun _ => ?_) (fun q => absurd hz q)
      refine az_iconst C (v := 0) dL_law_1748 (by decide) ?_
      refine az_callV C Y_X4_pass cX4 2 0 [.int (xs (i + 1)), .int 0] [] wm_L_247 wi_X4_pass wse_X4_pass dL_law_1749 (congrFun hρ 100) rfl rfl hMM rfl (Nat.le_of_ble_eq_true rfl) (by show d + 1 ≤ 2048; omega) (by show 19 + 3 + 40 * d ≤ 84000; omega) hr.1 hr.2 (fun v ad9 K9 hp2 => ?_) (fun E ad9 K9 hp2 => ?_)
      · obtain ⟨bv, w, m', h9, hcv, rfl, rfl, hk0, hw, hN⟩ := hpost _ _ _ hp2
        cases h9
        obtain ⟨u, rfl, rfl⟩ := hcv
        refine az_istore C (lv' := [(6, .int u), (5, .int k9), (4, .int (nI i)), (3, .ref (ρ.1 90)), (2, .ref (ρ.1 100)), (1, .ref (ρ.1 0)), (0, .ref b)]) dL_law_1752 (by decide) rfl ?_
        refine az_aload_n C 4 dL_law_1754 rfl ?_
        have gT := Mthrown (ρ := ρ') (x := x') (m := m') (ou := ou') hG
        rw [congrFun hρ 100] at gT
        refine az_callV C Y_X4_thrown cX4 2 0 [] [] wm_L_159 wi_X4_thrown wse_X4_thrown dL_law_1755 (congrFun hρ 100) rfl rfl gT rfl (Nat.le_of_ble_eq_true rfl) (Nat.le_of_ble_eq_true rfl) (Nat.le_of_ble_eq_true rfl) hr.1 hr.2 (az_k1 rfl rfl ?_) (az_k0 rfl)
        refine az_top k9 hk0 ?_
        refine az_iload C 1 dL_law_1758 rfl ?_
        refine az_icmp_eq C 1765 dL_law_1760 (by decide) (fun _ => ?_) (fun q => absurd rfl q)
        refine az_iload C 1 dL_law_1765 rfl ?_
        have fin : az_W l G 9 Q p e room_1 s mm args below meth cd (AD ρ') (KK G ρ' x' m' ou') (kB c ρ + mc + 0 + 0) (nB c ρ + ms + 0 + 0) 1782 [(6, .int u), (5, .int k9), (4, .int (nI i)), (3, .ref (ρ.1 90)), (2, .ref (ρ.1 100)), (1, .ref (ρ.1 0)), (0, .ref b)] [] := by
          refine az_goto C 2935 dL_law_1782 (by decide) ?_
          exact az_lv [2, 3, 4, 5, 6] rfl (az_kn _ _ hn.1 hn.2 (kk ρ' x' m' ou' (congrFun hρ 0) (congrFun hρ 100) (congrFun hρ 90) hN))
        refine az_if_ne C 1782 dL_law_1767 (by decide) (fun _ => fin) (fun h0 => ?_)
        refine az_aload_n C 3 dL_law_1770 rfl ?_
        refine az_iconst C (v := 0) dL_law_1771 (by decide) ?_
        refine az_lald C (N := 1) (f := ou') 3 0 dL_law_1772 (congrFun hρ 90) KK_3 vi_01 ?_
        refine az_iload C 0 dL_law_1773 rfl ?_
        refine az_i2l C dL_law_1775 ?_
        refine az_lcmp C dL_law_1776 ?_
        refine az_top 0 (by rw [show ou' (0 : Int32).toNatClampNeg = u.toInt64 from hw h0]; exact lgc_self _) ?_
        exact az_if_eq C 1782 dL_law_1777 (by decide) (fun _ => fin) (fun q => absurd rfl q)
      · obtain ⟨_, _, _, h9, _⟩ := hpost _ _ _ hp2
        cases h9
    · obtain ⟨_, _, _, _, h9, _⟩ := hp
      cases h9
  · refine az_aload_n C 3 dL_law_1701 rfl ?_
    refine az_arg C (i := i) (j := 1) (z0 := 4) (z4 := 0) S dL_law_1702 dL_law_1703 dL_law_1705 dL_law_1706 dL_law_1707 rfl rfl rfl (by omega) ?_
    refine az_arg C (i := i) (j := 2) (z0 := 4) (z4 := 0) S dL_law_1708 dL_law_1709 dL_law_1711 dL_law_1712 dL_law_1713 rfl rfl rfl (by omega) ?_
    refine az_if_eq C 1721 dL_law_1714 (by decide) (fun q => absurd q hz) (fun _ => ?_)
    refine az_iconst C (v := 1) dL_law_1717 (by decide) ?_
    refine az_goto C 1722 dL_law_1718 (by decide) ?_
    refine az_aload_n C 1 dL_law_1722 rfl ?_
    obtain ⟨mc, ms, hgm, hM⟩ := H_pass hG (xs (i + 1)) 1 (O_pass hG hc h (xs (i + 1)) 1 (Or.inr rfl)) ou
    have hr := room_k hgm hc
    refine az_callH C Y_L_pass [.ref (ρ.1 0), .int (xs (i + 1)), .int 1, .ref (ρ.1 90)] [] wm_L_244 wst_L_pass dL_law_1723 rfl hM rfl (Nat.le_of_ble_eq_true rfl) (Nat.le_of_ble_eq_true rfl) (Nat.le_of_ble_eq_true rfl) hr.1 hr.2 (fun v ad9 K9 hp => ?_) (fun E ad9 K9 hp => ?_)
    · obtain ⟨k9, ρ', x', ou', h9, rfl, rfl, hρ, hgr, d, hd, post, hMM, hpost⟩ := hp
      cases h9
      rw [congrFun hρ 100] at hMM
      have hn := room_n (c := c) hgr
      refine az_istore C (lv' := [(5, .int k9), (4, .int (nI i)), (3, .ref (ρ.1 90)), (2, .ref (ρ.1 100)), (1, .ref (ρ.1 0)), (0, .ref b)]) dL_law_1726 (by decide) rfl ?_
      refine az_aload_n C 3 dL_law_1728 rfl ?_
      refine az_arg C (i := i) (j := 1) (z0 := 5) (z4 := 1) S dL_law_1729 dL_law_1730 dL_law_1732 dL_law_1733 dL_law_1734 rfl rfl rfl (by omega) ?_
      refine az_arg C (i := i) (j := 2) (z0 := 5) (z4 := 1) S dL_law_1735 dL_law_1736 dL_law_1738 dL_law_1739 dL_law_1740 rfl rfl rfl (by omega) ?_
      refine az_if_eq C 1748 dL_law_1741 (by decide) (fun q => absurd q hz) (fun _ => ?_)
      refine az_iconst C (v := 1) dL_law_1744 (by decide) ?_
      refine az_goto C 1749 dL_law_1745 (by decide) ?_
      refine az_callV C Y_X4_pass cX4 2 0 [.int (xs (i + 1)), .int 1] [] wm_L_247 wi_X4_pass wse_X4_pass dL_law_1749 (congrFun hρ 100) rfl rfl hMM rfl (Nat.le_of_ble_eq_true rfl) (by show d + 1 ≤ 2048; omega) (by show 19 + 3 + 40 * d ≤ 84000; omega) hr.1 hr.2 (fun v ad9 K9 hp2 => ?_) (fun E ad9 K9 hp2 => ?_)
      · obtain ⟨bv, w, m', h9, hcv, rfl, rfl, hk0, hw, hN⟩ := hpost _ _ _ hp2
        cases h9
        obtain ⟨u, rfl, rfl⟩ := hcv
        refine az_istore C (lv' := [(6, .int u), (5, .int k9), (4, .int (nI i)), (3, .ref (ρ.1 90)), (2, .ref (ρ.1 100)), (1, .ref (ρ.1 0)), (0, .ref b)]) dL_law_1752 (by decide) rfl ?_
        refine az_aload_n C 4 dL_law_1754 rfl ?_
        have gT := Mthrown (ρ := ρ') (x := x') (m := m') (ou := ou') hG
        rw [congrFun hρ 100] at gT
        refine az_callV C Y_X4_thrown cX4 2 0 [] [] wm_L_159 wi_X4_thrown wse_X4_thrown dL_law_1755 (congrFun hρ 100) rfl rfl gT rfl (Nat.le_of_ble_eq_true rfl) (Nat.le_of_ble_eq_true rfl) (Nat.le_of_ble_eq_true rfl) hr.1 hr.2 (az_k1 rfl rfl ?_) (az_k0 rfl)
        refine az_top k9 hk0 ?_
        refine az_iload C 1 dL_law_1758 rfl ?_
        refine az_icmp_eq C 1765 dL_law_1760 (by decide) (fun _ => ?_) (fun q => absurd rfl q)
        refine az_iload C 1 dL_law_1765 rfl ?_
        have fin : az_W l G 9 Q p e room_1 s mm args below meth cd (AD ρ') (KK G ρ' x' m' ou') (kB c ρ + mc + 0 + 0) (nB c ρ + ms + 0 + 0) 1782 [(6, .int u), (5, .int k9), (4, .int (nI i)), (3, .ref (ρ.1 90)), (2, .ref (ρ.1 100)), (1, .ref (ρ.1 0)), (0, .ref b)] [] := by
          refine az_goto C 2935 dL_law_1782 (by decide) ?_
          exact az_lv [2, 3, 4, 5, 6] rfl (az_kn _ _ hn.1 hn.2 (kk ρ' x' m' ou' (congrFun hρ 0) (congrFun hρ 100) (congrFun hρ 90) hN))
        refine az_if_ne C 1782 dL_law_1767 (by decide) (fun _ => fin) (fun h0 => ?_)
        refine az_aload_n C 3 dL_law_1770 rfl ?_
        refine az_iconst C (v := 0) dL_law_1771 (by decide) ?_
        refine az_lald C (N := 1) (f := ou') 3 0 dL_law_1772 (congrFun hρ 90) KK_3 vi_01 ?_
        refine az_iload C 0 dL_law_1773 rfl ?_
        refine az_i2l C dL_law_1775 ?_
        refine az_lcmp C dL_law_1776 ?_
        refine az_top 0 (by rw [show ou' (0 : Int32).toNatClampNeg = u.toInt64 from hw h0]; exact lgc_self _) ?_
        exact az_if_eq C 1782 dL_law_1777 (by decide) (fun _ => fin) (fun q => absurd rfl q)
      · obtain ⟨_, _, _, h9, _⟩ := hpost _ _ _ hp2
        cases h9
    · obtain ⟨_, _, _, _, h9, _⟩ := hp
      cases h9
set_option maxHeartbeats 4000000 in
set_option maxRecDepth 100000 in
theorem L_voyage (C : az_C l G p s mm args meth cd cL_law RL 9 (some FieldType.boolean) tab) (hG : az_okS l G) (S : lwS G b L xs s) (hi : i + 6 ≤ L) {c : Nat} (hc : c < 512) (h : Nx c ρ x m) (e0 : ρ.1 0 = qx) (e1 : ρ.1 100 = qm) (e2 : ρ.1 90 = qo) (kk : lwN l G Q p e s mm args below meth cd b i qx qm qo c) : az_W l G 9 Q p e room_1 s mm args below meth cd (AD ρ) (KK G ρ x m ou) (kB c ρ) (nB c ρ) 1785 (lvL b i qx qm qo) [] := by
  subst e0; subst e1; subst e2
  refine az_aload_n C 3 dL_law_1785 rfl ?_
  refine az_arg C (i := i) (j := 1) (z0 := 4) (z4 := 0) S dL_law_1786 dL_law_1787 dL_law_1789 dL_law_1790 dL_law_1791 rfl rfl rfl (by omega) ?_
  refine az_arg C (i := i) (j := 2) (z0 := 4) (z4 := 0) S dL_law_1792 dL_law_1793 dL_law_1795 dL_law_1796 dL_law_1797 rfl rfl rfl (by omega) ?_
  refine az_aload_n C 1 dL_law_1798 rfl ?_
  obtain ⟨mc, ms, hgm, hM⟩ := H_voyage hG (xs (i + 1)) (xs (i + 2)) (O_voyage hG hc h (xs (i + 1)) (xs (i + 2))) ou
  have hr := room_k hgm hc
  refine az_callH C Y_L_voyage [.ref (ρ.1 0), .int (xs (i + 1)), .int (xs (i + 2)), .ref (ρ.1 90)] [] wm_L_248 wst_L_voyage dL_law_1799 rfl hM rfl (Nat.le_of_ble_eq_true rfl) (Nat.le_of_ble_eq_true rfl) (Nat.le_of_ble_eq_true rfl) hr.1 hr.2 (fun v ad9 K9 hp => ?_) (fun E ad9 K9 hp => ?_)
  · obtain ⟨k9, ρ', x', ou', h9, rfl, rfl, hρ, hgr, d, hd, post, hMM, hpost⟩ := hp
    cases h9
    rw [congrFun hρ 100] at hMM
    have hn := room_n (c := c) hgr
    refine az_istore C (lv' := [(5, .int k9), (4, .int (nI i)), (3, .ref (ρ.1 90)), (2, .ref (ρ.1 100)), (1, .ref (ρ.1 0)), (0, .ref b)]) dL_law_1802 (by decide) rfl ?_
    refine az_aload_n C 3 dL_law_1804 rfl ?_
    refine az_arg C (i := i) (j := 1) (z0 := 5) (z4 := 1) S dL_law_1805 dL_law_1806 dL_law_1808 dL_law_1809 dL_law_1810 rfl rfl rfl (by omega) ?_
    refine az_arg C (i := i) (j := 2) (z0 := 5) (z4 := 1) S dL_law_1811 dL_law_1812 dL_law_1814 dL_law_1815 dL_law_1816 rfl rfl rfl (by omega) ?_
    refine az_callV C Y_X4_voyage cX4 2 0 [.int (xs (i + 1)), .int (xs (i + 2))] [] wm_L_250 wi_X4_voyage wse_X4_voyage dL_law_1817 (congrFun hρ 100) rfl rfl hMM rfl (Nat.le_of_ble_eq_true rfl) (by show d + 1 ≤ 2048; omega) (by show 19 + 3 + 40 * d ≤ 84000; omega) hr.1 hr.2 (fun v ad9 K9 hp2 => ?_) (fun E ad9 K9 hp2 => ?_)
    · obtain ⟨bv, w, m', h9, hcv, rfl, rfl, hk0, hw, hN⟩ := hpost _ _ _ hp2
      cases h9
      obtain ⟨u, rfl, rfl⟩ := hcv
      refine az_istore C (lv' := [(6, .int u), (5, .int k9), (4, .int (nI i)), (3, .ref (ρ.1 90)), (2, .ref (ρ.1 100)), (1, .ref (ρ.1 0)), (0, .ref b)]) dL_law_1820 (by decide) rfl ?_
      refine az_aload_n C 4 dL_law_1822 rfl ?_
      have gT := Mthrown (ρ := ρ') (x := x') (m := m') (ou := ou') hG
      rw [congrFun hρ 100] at gT
      refine az_callV C Y_X4_thrown cX4 2 0 [] [] wm_L_159 wi_X4_thrown wse_X4_thrown dL_law_1823 (congrFun hρ 100) rfl rfl gT rfl (Nat.le_of_ble_eq_true rfl) (Nat.le_of_ble_eq_true rfl) (Nat.le_of_ble_eq_true rfl) hr.1 hr.2 (az_k1 rfl rfl ?_) (az_k0 rfl)
      refine az_top k9 hk0 ?_
      refine az_iload C 1 dL_law_1826 rfl ?_
      refine az_icmp_eq C 1833 dL_law_1828 (by decide) (fun _ => ?_) (fun q => absurd rfl q)
      refine az_iload C 1 dL_law_1833 rfl ?_
      have fin : az_W l G 9 Q p e room_1 s mm args below meth cd (AD ρ') (KK G ρ' x' m' ou') (kB c ρ + mc + 0 + 0) (nB c ρ + ms + 0 + 0) 1850 [(6, .int u), (5, .int k9), (4, .int (nI i)), (3, .ref (ρ.1 90)), (2, .ref (ρ.1 100)), (1, .ref (ρ.1 0)), (0, .ref b)] [] := by
        refine az_goto C 2935 dL_law_1850 (by decide) ?_
        exact az_lv [2, 3, 4, 5, 6] rfl (az_kn _ _ hn.1 hn.2 (kk ρ' x' m' ou' (congrFun hρ 0) (congrFun hρ 100) (congrFun hρ 90) hN))
      refine az_if_ne C 1850 dL_law_1835 (by decide) (fun _ => fin) (fun h0 => ?_)
      refine az_aload_n C 3 dL_law_1838 rfl ?_
      refine az_iconst C (v := 0) dL_law_1839 (by decide) ?_
      refine az_lald C (N := 1) (f := ou') 3 0 dL_law_1840 (congrFun hρ 90) KK_3 vi_01 ?_
      refine az_iload C 0 dL_law_1841 rfl ?_
      refine az_i2l C dL_law_1843 ?_
      refine az_lcmp C dL_law_1844 ?_
      refine az_top 0 (by rw [show ou' (0 : Int32).toNatClampNeg = u.toInt64 from hw h0]; exact lgc_self _) ?_
      exact az_if_eq C 1850 dL_law_1845 (by decide) (fun _ => fin) (fun q => absurd rfl q)
    · obtain ⟨_, _, _, h9, _⟩ := hpost _ _ _ hp2
      cases h9
  · obtain ⟨_, _, _, _, h9, _⟩ := hp
    cases h9
set_option maxHeartbeats 4000000 in
set_option maxRecDepth 100000 in
theorem L_isPossible (C : az_C l G p s mm args meth cd cL_law RL 9 (some FieldType.boolean) tab) (hG : az_okS l G) (S : lwS G b L xs s) (hi : i + 6 ≤ L) {c : Nat} (hc : c < 512) (h : Nx c ρ x m) (e0 : ρ.1 0 = qx) (e1 : ρ.1 100 = qm) (e2 : ρ.1 90 = qo) (kk : lwN l G Q p e s mm args below meth cd b i qx qm qo c) : az_W l G 9 Q p e room_1 s mm args below meth cd (AD ρ) (KK G ρ x m ou) (kB c ρ) (nB c ρ) 1853 (lvL b i qx qm qo) [] := by
  subst e0; subst e1; subst e2
  refine az_aload_n C 3 dL_law_1853 rfl ?_
  refine az_arg C (i := i) (j := 1) (z0 := 4) (z4 := 0) S dL_law_1854 dL_law_1855 dL_law_1857 dL_law_1858 dL_law_1859 rfl rfl rfl (by omega) ?_
  refine az_arg C (i := i) (j := 2) (z0 := 4) (z4 := 0) S dL_law_1860 dL_law_1861 dL_law_1863 dL_law_1864 dL_law_1865 rfl rfl rfl (by omega) ?_
  refine az_aload_n C 1 dL_law_1866 rfl ?_
  obtain ⟨mc, ms, hgm, hM⟩ := H_isPossible hG (xs (i + 1)) (xs (i + 2)) (O_isPossible hG hc h (xs (i + 1)) (xs (i + 2))) ou
  have hr := room_k hgm hc
  refine az_callH C Y_L_isPossible [.ref (ρ.1 0), .int (xs (i + 1)), .int (xs (i + 2)), .ref (ρ.1 90)] [] wm_L_251 wst_L_isPossible dL_law_1867 rfl hM rfl (Nat.le_of_ble_eq_true rfl) (Nat.le_of_ble_eq_true rfl) (Nat.le_of_ble_eq_true rfl) hr.1 hr.2 (fun v ad9 K9 hp => ?_) (fun E ad9 K9 hp => ?_)
  · obtain ⟨k9, ρ', x', ou', h9, rfl, rfl, hρ, hgr, d, hd, post, hMM, hpost⟩ := hp
    cases h9
    rw [congrFun hρ 100] at hMM
    have hn := room_n (c := c) hgr
    refine az_istore C (lv' := [(5, .int k9), (4, .int (nI i)), (3, .ref (ρ.1 90)), (2, .ref (ρ.1 100)), (1, .ref (ρ.1 0)), (0, .ref b)]) dL_law_1870 (by decide) rfl ?_
    refine az_aload_n C 3 dL_law_1872 rfl ?_
    refine az_arg C (i := i) (j := 1) (z0 := 5) (z4 := 1) S dL_law_1873 dL_law_1874 dL_law_1876 dL_law_1877 dL_law_1878 rfl rfl rfl (by omega) ?_
    refine az_arg C (i := i) (j := 2) (z0 := 5) (z4 := 1) S dL_law_1879 dL_law_1880 dL_law_1882 dL_law_1883 dL_law_1884 rfl rfl rfl (by omega) ?_
    refine az_callV C Y_X4_isPossible cX4 2 0 [.int (xs (i + 1)), .int (xs (i + 2))] [] wm_L_253 wi_X4_isPossible wse_X4_isPossible dL_law_1885 (congrFun hρ 100) rfl rfl hMM rfl (Nat.le_of_ble_eq_true rfl) (by show d + 1 ≤ 2048; omega) (by show 19 + 4 + 40 * d ≤ 84000; omega) hr.1 hr.2 (fun v ad9 K9 hp2 => ?_) (fun E ad9 K9 hp2 => ?_)
    · obtain ⟨bv, w, m', h9, hcv, rfl, rfl, hk0, hw, hN⟩ := hpost _ _ _ hp2
      cases h9
      obtain ⟨u, rfl, rfl⟩ := hcv
      refine az_istore C (lv' := [(6, .int u), (5, .int k9), (4, .int (nI i)), (3, .ref (ρ.1 90)), (2, .ref (ρ.1 100)), (1, .ref (ρ.1 0)), (0, .ref b)]) dL_law_1888 (by decide) rfl ?_
      refine az_aload_n C 4 dL_law_1890 rfl ?_
      have gT := Mthrown (ρ := ρ') (x := x') (m := m') (ou := ou') hG
      rw [congrFun hρ 100] at gT
      refine az_callV C Y_X4_thrown cX4 2 0 [] [] wm_L_159 wi_X4_thrown wse_X4_thrown dL_law_1891 (congrFun hρ 100) rfl rfl gT rfl (Nat.le_of_ble_eq_true rfl) (Nat.le_of_ble_eq_true rfl) (Nat.le_of_ble_eq_true rfl) hr.1 hr.2 (az_k1 rfl rfl ?_) (az_k0 rfl)
      refine az_top k9 hk0 ?_
      refine az_iload C 1 dL_law_1894 rfl ?_
      refine az_icmp_eq C 1901 dL_law_1896 (by decide) (fun _ => ?_) (fun q => absurd rfl q)
      refine az_iload C 1 dL_law_1901 rfl ?_
      have fin : az_W l G 9 Q p e room_1 s mm args below meth cd (AD ρ') (KK G ρ' x' m' ou') (kB c ρ + mc + 0 + 0) (nB c ρ + ms + 0 + 0) 1925 [(6, .int u), (5, .int k9), (4, .int (nI i)), (3, .ref (ρ.1 90)), (2, .ref (ρ.1 100)), (1, .ref (ρ.1 0)), (0, .ref b)] [] := by
        refine az_goto C 2935 dL_law_1925 (by decide) ?_
        exact az_lv [2, 3, 4, 5, 6] rfl (az_kn _ _ hn.1 hn.2 (kk ρ' x' m' ou' (congrFun hρ 0) (congrFun hρ 100) (congrFun hρ 90) hN))
      refine az_if_ne C 1925 dL_law_1903 (by decide) (fun _ => fin) (fun h0 => ?_)
      refine az_aload_n C 3 dL_law_1906 rfl ?_
      refine az_iconst C (v := 0) dL_law_1907 (by decide) ?_
      refine az_lald C (N := 1) (f := ou') 3 0 dL_law_1908 (congrFun hρ 90) KK_3 vi_01 ?_
      refine az_iload C 0 dL_law_1909 rfl ?_
      refine az_if_eq C 1918 dL_law_1911 (by decide) (fun z => ?_) (fun z => ?_)
      · refine az_lconst C (v := 0) dL_law_1918 (by decide) ?_
        refine az_lcmp C dL_law_1919 ?_
        refine az_top 0 (by rw [show ou' (0 : Int32).toNatClampNeg = 0 from (hw h0).trans (if_pos z)]; exact lgc_self _) ?_
        exact az_if_eq C 1925 dL_law_1920 (by decide) (fun _ => fin) (fun q => absurd rfl q)
      · refine az_lconst C (v := 1) dL_law_1914 (by decide) ?_
        refine az_goto C 1919 dL_law_1915 (by decide) ?_
        refine az_lcmp C dL_law_1919 ?_
        refine az_top 0 (by rw [show ou' (0 : Int32).toNatClampNeg = 1 from (hw h0).trans (if_neg z)]; exact lgc_self _) ?_
        exact az_if_eq C 1925 dL_law_1920 (by decide) (fun _ => fin) (fun q => absurd rfl q)
    · obtain ⟨_, _, _, h9, _⟩ := hpost _ _ _ hp2
      cases h9
  · obtain ⟨_, _, _, _, h9, _⟩ := hp
    cases h9
set_option maxHeartbeats 4000000 in
set_option maxRecDepth 100000 in
theorem L_waterFor (C : az_C l G p s mm args meth cd cL_law RL 9 (some FieldType.boolean) tab) (hG : az_okS l G) (S : lwS G b L xs s) (hi : i + 6 ≤ L) {c : Nat} (hc : c < 512) (h : Nx c ρ x m) (e0 : ρ.1 0 = qx) (e1 : ρ.1 100 = qm) (e2 : ρ.1 90 = qo) (kk : lwN l G Q p e s mm args below meth cd b i qx qm qo c) : az_W l G 9 Q p e room_1 s mm args below meth cd (AD ρ) (KK G ρ x m ou) (kB c ρ) (nB c ρ) 1928 (lvL b i qx qm qo) [] := by
  subst e0; subst e1; subst e2
  refine az_aload_n C 3 dL_law_1928 rfl ?_
  refine az_arg C (i := i) (j := 1) (z0 := 4) (z4 := 0) S dL_law_1929 dL_law_1930 dL_law_1932 dL_law_1933 dL_law_1934 rfl rfl rfl (by omega) ?_
  refine az_arg C (i := i) (j := 2) (z0 := 4) (z4 := 0) S dL_law_1935 dL_law_1936 dL_law_1938 dL_law_1939 dL_law_1940 rfl rfl rfl (by omega) ?_
  refine az_aload_n C 1 dL_law_1941 rfl ?_
  obtain ⟨mc, ms, hgm, hM⟩ := H_waterFor hG (xs (i + 1)) (xs (i + 2)) (O_waterFor hG hc h (xs (i + 1)) (xs (i + 2))) ou
  have hr := room_k hgm hc
  refine az_callH C Y_L_waterFor [.ref (ρ.1 0), .int (xs (i + 1)), .int (xs (i + 2)), .ref (ρ.1 90)] [] wm_L_254 wst_L_waterFor dL_law_1942 rfl hM rfl (Nat.le_of_ble_eq_true rfl) (Nat.le_of_ble_eq_true rfl) (Nat.le_of_ble_eq_true rfl) hr.1 hr.2 (fun v ad9 K9 hp => ?_) (fun E ad9 K9 hp => ?_)
  · obtain ⟨k9, ρ', x', ou', h9, rfl, rfl, hρ, hgr, d, hd, post, hMM, hpost⟩ := hp
    cases h9
    rw [congrFun hρ 100] at hMM
    have hn := room_n (c := c) hgr
    refine az_istore C (lv' := [(5, .int k9), (4, .int (nI i)), (3, .ref (ρ.1 90)), (2, .ref (ρ.1 100)), (1, .ref (ρ.1 0)), (0, .ref b)]) dL_law_1945 (by decide) rfl ?_
    refine az_aload_n C 3 dL_law_1947 rfl ?_
    refine az_arg C (i := i) (j := 1) (z0 := 5) (z4 := 1) S dL_law_1948 dL_law_1949 dL_law_1951 dL_law_1952 dL_law_1953 rfl rfl rfl (by omega) ?_
    refine az_arg C (i := i) (j := 2) (z0 := 5) (z4 := 1) S dL_law_1954 dL_law_1955 dL_law_1957 dL_law_1958 dL_law_1959 rfl rfl rfl (by omega) ?_
    refine az_callV C Y_X4_waterFor cX4 2 0 [.int (xs (i + 1)), .int (xs (i + 2))] [] wm_L_256 wi_X4_waterFor wse_X4_waterFor dL_law_1960 (congrFun hρ 100) rfl rfl hMM rfl (Nat.le_of_ble_eq_true rfl) (by show d + 1 ≤ 2048; omega) (by show 19 + 7 + 40 * d ≤ 84000; omega) hr.1 hr.2 (fun v ad9 K9 hp2 => ?_) (fun E ad9 K9 hp2 => ?_)
    · obtain ⟨bv, w, m', h9, hcv, rfl, rfl, hk0, hw, hN⟩ := hpost _ _ _ hp2
      cases h9
      obtain ⟨u, rfl, rfl⟩ := hcv
      refine az_istore C (lv' := [(6, .int u), (5, .int k9), (4, .int (nI i)), (3, .ref (ρ.1 90)), (2, .ref (ρ.1 100)), (1, .ref (ρ.1 0)), (0, .ref b)]) dL_law_1963 (by decide) rfl ?_
      refine az_aload_n C 4 dL_law_1965 rfl ?_
      have gT := Mthrown (ρ := ρ') (x := x') (m := m') (ou := ou') hG
      rw [congrFun hρ 100] at gT
      refine az_callV C Y_X4_thrown cX4 2 0 [] [] wm_L_159 wi_X4_thrown wse_X4_thrown dL_law_1966 (congrFun hρ 100) rfl rfl gT rfl (Nat.le_of_ble_eq_true rfl) (Nat.le_of_ble_eq_true rfl) (Nat.le_of_ble_eq_true rfl) hr.1 hr.2 (az_k1 rfl rfl ?_) (az_k0 rfl)
      refine az_top k9 hk0 ?_
      refine az_iload C 1 dL_law_1969 rfl ?_
      refine az_icmp_eq C 1976 dL_law_1971 (by decide) (fun _ => ?_) (fun q => absurd rfl q)
      refine az_iload C 1 dL_law_1976 rfl ?_
      have fin : az_W l G 9 Q p e room_1 s mm args below meth cd (AD ρ') (KK G ρ' x' m' ou') (kB c ρ + mc + 0 + 0) (nB c ρ + ms + 0 + 0) 1993 [(6, .int u), (5, .int k9), (4, .int (nI i)), (3, .ref (ρ.1 90)), (2, .ref (ρ.1 100)), (1, .ref (ρ.1 0)), (0, .ref b)] [] := by
        refine az_goto C 2935 dL_law_1993 (by decide) ?_
        exact az_lv [2, 3, 4, 5, 6] rfl (az_kn _ _ hn.1 hn.2 (kk ρ' x' m' ou' (congrFun hρ 0) (congrFun hρ 100) (congrFun hρ 90) hN))
      refine az_if_ne C 1993 dL_law_1978 (by decide) (fun _ => fin) (fun h0 => ?_)
      refine az_aload_n C 3 dL_law_1981 rfl ?_
      refine az_iconst C (v := 0) dL_law_1982 (by decide) ?_
      refine az_lald C (N := 1) (f := ou') 3 0 dL_law_1983 (congrFun hρ 90) KK_3 vi_01 ?_
      refine az_iload C 0 dL_law_1984 rfl ?_
      refine az_i2l C dL_law_1986 ?_
      refine az_lcmp C dL_law_1987 ?_
      refine az_top 0 (by rw [show ou' (0 : Int32).toNatClampNeg = u.toInt64 from hw h0]; exact lgc_self _) ?_
      exact az_if_eq C 1993 dL_law_1988 (by decide) (fun _ => fin) (fun q => absurd rfl q)
    · obtain ⟨_, _, _, h9, _⟩ := hpost _ _ _ hp2
      cases h9
  · obtain ⟨_, _, _, _, h9, _⟩ := hp
    cases h9
set_option maxHeartbeats 4000000 in
set_option maxRecDepth 100000 in
theorem L_refusalReason (C : az_C l G p s mm args meth cd cL_law RL 9 (some FieldType.boolean) tab) (hG : az_okS l G) (S : lwS G b L xs s) (hi : i + 6 ≤ L) {c : Nat} (hc : c < 512) (h : Nx c ρ x m) (e0 : ρ.1 0 = qx) (e1 : ρ.1 100 = qm) (e2 : ρ.1 90 = qo) (kk : lwN l G Q p e s mm args below meth cd b i qx qm qo c) : az_W l G 9 Q p e room_1 s mm args below meth cd (AD ρ) (KK G ρ x m ou) (kB c ρ) (nB c ρ) 1996 (lvL b i qx qm qo) [] := by
  subst e0; subst e1; subst e2
  refine az_aload_n C 3 dL_law_1996 rfl ?_
  refine az_aload_n C 1 dL_law_1997 rfl ?_
  obtain ⟨mc, ms, hgm, hM⟩ := H_refusalReason hG  (O_refusalReason hG hc h ) ou
  have hr := room_k hgm hc
  refine az_callH C Y_L_refusalReason [.ref (ρ.1 0), .ref (ρ.1 90)] [] wm_L_257 wst_L_refusalReason dL_law_1998 rfl hM rfl (Nat.le_of_ble_eq_true rfl) (Nat.le_of_ble_eq_true rfl) (Nat.le_of_ble_eq_true rfl) hr.1 hr.2 (fun v ad9 K9 hp => ?_) (fun E ad9 K9 hp => ?_)
  · obtain ⟨k9, ρ', x', ou', h9, rfl, rfl, hρ, hgr, d, hd, post, hMM, hpost⟩ := hp
    cases h9
    rw [congrFun hρ 100] at hMM
    have hn := room_n (c := c) hgr
    refine az_istore C (lv' := [(5, .int k9), (4, .int (nI i)), (3, .ref (ρ.1 90)), (2, .ref (ρ.1 100)), (1, .ref (ρ.1 0)), (0, .ref b)]) dL_law_2001 (by decide) rfl ?_
    refine az_aload_n C 3 dL_law_2003 rfl ?_
    refine az_callV C Y_X4_refusalReason cX4 2 0 [] [] wm_L_260 wi_X4_refusalReason wse_X4_refusalReason dL_law_2004 (congrFun hρ 100) rfl rfl hMM rfl (Nat.le_of_ble_eq_true rfl) (by show d + 1 ≤ 2048; omega) (by show 19 + 1 + 40 * d ≤ 84000; omega) hr.1 hr.2 (fun v ad9 K9 hp2 => ?_) (fun E ad9 K9 hp2 => ?_)
    · obtain ⟨bv, w, m', h9, hcv, rfl, rfl, hk0, hw, hN⟩ := hpost _ _ _ hp2
      cases h9
      obtain ⟨u, rfl, rfl⟩ := hcv
      refine az_istore C (lv' := [(6, .int u), (5, .int k9), (4, .int (nI i)), (3, .ref (ρ.1 90)), (2, .ref (ρ.1 100)), (1, .ref (ρ.1 0)), (0, .ref b)]) dL_law_2007 (by decide) rfl ?_
      refine az_aload_n C 4 dL_law_2009 rfl ?_
      have gT := Mthrown (ρ := ρ') (x := x') (m := m') (ou := ou') hG
      rw [congrFun hρ 100] at gT
      refine az_callV C Y_X4_thrown cX4 2 0 [] [] wm_L_159 wi_X4_thrown wse_X4_thrown dL_law_2010 (congrFun hρ 100) rfl rfl gT rfl (Nat.le_of_ble_eq_true rfl) (Nat.le_of_ble_eq_true rfl) (Nat.le_of_ble_eq_true rfl) hr.1 hr.2 (az_k1 rfl rfl ?_) (az_k0 rfl)
      refine az_top k9 hk0 ?_
      refine az_iload C 1 dL_law_2013 rfl ?_
      refine az_icmp_eq C 2020 dL_law_2015 (by decide) (fun _ => ?_) (fun q => absurd rfl q)
      refine az_iload C 1 dL_law_2020 rfl ?_
      have fin : az_W l G 9 Q p e room_1 s mm args below meth cd (AD ρ') (KK G ρ' x' m' ou') (kB c ρ + mc + 0 + 0) (nB c ρ + ms + 0 + 0) 2037 [(6, .int u), (5, .int k9), (4, .int (nI i)), (3, .ref (ρ.1 90)), (2, .ref (ρ.1 100)), (1, .ref (ρ.1 0)), (0, .ref b)] [] := by
        refine az_goto C 2935 dL_law_2037 (by decide) ?_
        exact az_lv [2, 3, 4, 5, 6] rfl (az_kn _ _ hn.1 hn.2 (kk ρ' x' m' ou' (congrFun hρ 0) (congrFun hρ 100) (congrFun hρ 90) hN))
      refine az_if_ne C 2037 dL_law_2022 (by decide) (fun _ => fin) (fun h0 => ?_)
      refine az_aload_n C 3 dL_law_2025 rfl ?_
      refine az_iconst C (v := 0) dL_law_2026 (by decide) ?_
      refine az_lald C (N := 1) (f := ou') 3 0 dL_law_2027 (congrFun hρ 90) KK_3 vi_01 ?_
      refine az_iload C 0 dL_law_2028 rfl ?_
      refine az_i2l C dL_law_2030 ?_
      refine az_lcmp C dL_law_2031 ?_
      refine az_top 0 (by rw [show ou' (0 : Int32).toNatClampNeg = u.toInt64 from hw h0]; exact lgc_self _) ?_
      exact az_if_eq C 2037 dL_law_2032 (by decide) (fun _ => fin) (fun q => absurd rfl q)
    · obtain ⟨_, _, _, h9, _⟩ := hpost _ _ _ hp2
      cases h9
  · obtain ⟨_, _, _, _, h9, _⟩ := hp
    cases h9
end
