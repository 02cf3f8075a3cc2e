section
variable {l : Launch} {G : az_G} {Q : State → Prop} {p : Program} {e : Env} {s : State} {mm : MethodId} {args : Array Value} {below : List Frame} {meth : Method} {cd : Code} {tab : List ExceptionTableEntry} {b L i qx qm qo : Nat} {xs : Nat → Int32}
variable {ρ : Rp} {x : Xs} {m : Ms} {ou : Nat → Int64}
set_option maxHeartbeats 4000000 in
set_option maxRecDepth 100000 in
theorem L_reachCount (C : az_C l G p s mm args meth cd cL_law RL 9 (some FieldType.boolean) tab) (hG : az_okS l G) {c : Nat} (hc : c < 512) (h : Nx c ρ x m) (e0 : ρ.1 0 = qx) (e1 : ρ.1 100 = qm) (e2 : ρ.1 90 = qo) (kk : lwN l G Q p e s mm args below meth cd b i qx qm qo c) : az_W l G 9 Q p e room_1 s mm args below meth cd (AD ρ) (KK G ρ x m ou) (kB c ρ) (nB c ρ) 368 (lvL b i qx qm qo) [] := by
  subst e0; subst e1; subst e2
  obtain ⟨u, hX⟩ := O_reachCount hG hc h
  obtain ⟨mc, ms, d, hd, hgm, post, hM, hpost⟩ := hX ou
  have hr := room_k hgm hc
  refine az_aload_n C 3 dL_law_368 rfl ?_
  refine az_callV C Y_X3_reachCount cX3 0 0 [] [] wm_L_162 wi_X3_reachCount wse_X3_reachCount dL_law_369 rfl rfl rfl hM rfl (Nat.le_of_ble_eq_true rfl) (by show d + 1 ≤ 2048; omega) (by show 19 + 1 + 40 * d ≤ 84000; omega) hr.1 hr.2 (fun v ad9 K9 hp => ?_) (fun E ad9 K9 hp => ?_)
  · obtain ⟨ρ', x', h9, rfl, rfl, hρ, hgr, d2, hd2, post2, hMM, hpost2⟩ := hpost _ _ _ hp
    cases h9
    rw [congrFun hρ 100] at hMM
    have hn := room_n (c := c) hgr
    refine az_aload_n C 2 dL_law_372 rfl ?_
    refine az_callV C Y_X4_reachCount cX4 2 0 [] [.int u] wm_L_165 wi_X4_reachCount wse_X4_reachCount dL_law_373 (congrFun hρ 100) rfl rfl hMM rfl (Nat.le_of_ble_eq_true rfl) (by show d2 + 1 ≤ 2048; omega) (by show 19 + 1 + 40 * d2 ≤ 84000; omega) hr.1 hr.2 (fun v ad9 K9 hp2 => ?_) (fun E ad9 K9 hp2 => ?_)
    · obtain ⟨m', h9, rfl, rfl, hN⟩ := hpost2 _ _ _ hp2
      cases h9
      exact az_icmp_eq C 2935 dL_law_376 (by decide) (fun _ => az_lv [0, 1, 2, 3, 4] rfl (az_kn _ _ hn.1 hn.2 (kk ρ' x' m' ou (congrFun hρ 0) (congrFun hρ 100) (congrFun hρ 90) hN))) (fun q => absurd rfl q)
    · obtain ⟨_, h9, _⟩ := hpost2 _ _ _ hp2
      cases h9
  · obtain ⟨_, _, h9, _⟩ := hpost _ _ _ hp
    cases h9
set_option maxHeartbeats 4000000 in
set_option maxRecDepth 100000 in
theorem L_endWeek (C : az_C l G p s mm args meth cd cL_law RL 9 (some FieldType.boolean) tab) (hG : az_okS l G) {c : Nat} (hc : c < 512) (h : Nx c ρ x m) (e0 : ρ.1 0 = qx) (e1 : ρ.1 100 = qm) (e2 : ρ.1 90 = qo) (kk : lwN l G Q p e s mm args below meth cd b i qx qm qo c) : az_W l G 9 Q p e room_1 s mm args below meth cd (AD ρ) (KK G ρ x m ou) (kB c ρ) (nB c ρ) 1023 (lvL b i qx qm qo) [] := by
  subst e0; subst e1; subst e2
  obtain ⟨u, hX⟩ := O_endWeek hG hc h
  obtain ⟨mc, ms, d, hd, hgm, post, hM, hpost⟩ := hX ou
  have hr := room_k hgm hc
  refine az_aload_n C 3 dL_law_1023 rfl ?_
  refine az_callV C Y_X3_endWeek cX3 0 0 [] [] wm_L_201 wi_X3_endWeek wse_X3_endWeek dL_law_1024 rfl rfl rfl hM rfl (Nat.le_of_ble_eq_true rfl) (by show d + 1 ≤ 2048; omega) (by show 19 + 5 + 40 * d ≤ 84000; omega) hr.1 hr.2 (fun v ad9 K9 hp => ?_) (fun E ad9 K9 hp => ?_)
  · obtain ⟨ρ', x', h9, rfl, rfl, hρ, hgr, d2, hd2, post2, hMM, hpost2⟩ := hpost _ _ _ hp
    cases h9
    rw [congrFun hρ 100] at hMM
    have hn := room_n (c := c) hgr
    refine az_aload_n C 2 dL_law_1027 rfl ?_
    refine az_callV C Y_X4_endWeek cX4 2 0 [] [.int u] wm_L_204 wi_X4_endWeek wse_X4_endWeek dL_law_1028 (congrFun hρ 100) rfl rfl hMM rfl (Nat.le_of_ble_eq_true rfl) (by show d2 + 1 ≤ 2048; omega) (by show 19 + 5 + 40 * d2 ≤ 84000; omega) hr.1 hr.2 (fun v ad9 K9 hp2 => ?_) (fun E ad9 K9 hp2 => ?_)
    · obtain ⟨m', h9, rfl, rfl, hN⟩ := hpost2 _ _ _ hp2
      cases h9
      exact az_icmp_eq C 2935 dL_law_1031 (by decide) (fun _ => az_lv [0, 1, 2, 3, 4] rfl (az_kn _ _ hn.1 hn.2 (kk ρ' x' m' ou (congrFun hρ 0) (congrFun hρ 100) (congrFun hρ 90) hN))) (fun q => absurd rfl q)
    · obtain ⟨_, h9, _⟩ := hpost2 _ _ _ hp2
      cases h9
  · obtain ⟨_, _, h9, _⟩ := hpost _ _ _ hp
    cases h9
set_option maxHeartbeats 4000000 in
set_option maxRecDepth 100000 in
theorem L_weekCount (C : az_C l G p s mm args meth cd cL_law RL 9 (some FieldType.boolean) tab) (hG : az_okS l G) {c : Nat} (hc : c < 512) (h : Nx c ρ x m) (e0 : ρ.1 0 = qx) (e1 : ρ.1 100 = qm) (e2 : ρ.1 90 = qo) (kk : lwN l G Q p e s mm args below meth cd b i qx qm qo c) : az_W l G 9 Q p e room_1 s mm args below meth cd (AD ρ) (KK G ρ x m ou) (kB c ρ) (nB c ρ) 1036 (lvL b i qx qm qo) [] := by
  subst e0; subst e1; subst e2
  obtain ⟨u, hX⟩ := O_weekCount hG hc h
  obtain ⟨mc, ms, d, hd, hgm, post, hM, hpost⟩ := hX ou
  have hr := room_k hgm hc
  refine az_aload_n C 3 dL_law_1036 rfl ?_
  refine az_callV C Y_X3_weekCount cX3 0 0 [] [] wm_L_205 wi_X3_weekCount wse_X3_weekCount dL_law_1037 rfl rfl rfl hM rfl (Nat.le_of_ble_eq_true rfl) (by show d + 1 ≤ 2048; omega) (by show 19 + 1 + 40 * d ≤ 84000; omega) hr.1 hr.2 (fun v ad9 K9 hp => ?_) (fun E ad9 K9 hp => ?_)
  · obtain ⟨ρ', x', h9, rfl, rfl, hρ, hgr, d2, hd2, post2, hMM, hpost2⟩ := hpost _ _ _ hp
    cases h9
    rw [congrFun hρ 100] at hMM
    have hn := room_n (c := c) hgr
    refine az_aload_n C 2 dL_law_1040 rfl ?_
    refine az_callV C Y_X4_weekCount cX4 2 0 [] [.int u] wm_L_208 wi_X4_weekCount wse_X4_weekCount dL_law_1041 (congrFun hρ 100) rfl rfl hMM rfl (Nat.le_of_ble_eq_true rfl) (by show d2 + 1 ≤ 2048; omega) (by show 19 + 1 + 40 * d2 ≤ 84000; omega) hr.1 hr.2 (fun v ad9 K9 hp2 => ?_) (fun E ad9 K9 hp2 => ?_)
    · obtain ⟨m', h9, rfl, rfl, hN⟩ := hpost2 _ _ _ hp2
      cases h9
      exact az_icmp_eq C 2935 dL_law_1044 (by decide) (fun _ => az_lv [0, 1, 2, 3, 4] rfl (az_kn _ _ hn.1 hn.2 (kk ρ' x' m' ou (congrFun hρ 0) (congrFun hρ 100) (congrFun hρ 90) hN))) (fun q => absurd rfl q)
    · obtain ⟨_, h9, _⟩ := hpost2 _ _ _ hp2
      cases h9
  · obtain ⟨_, _, h9, _⟩ := hpost _ _ _ hp
    cases h9
set_option maxHeartbeats 4000000 in
set_option maxRecDepth 100000 in
theorem L_bargeCount (C : az_C l G p s mm args meth cd cL_law RL 9 (some FieldType.boolean) tab) (hG : az_okS l G) {c : Nat} (hc : c < 512) (h : Nx c ρ x m) (e0 : ρ.1 0 = qx) (e1 : ρ.1 100 = qm) (e2 : ρ.1 90 = qo) (kk : lwN l G Q p e s mm args below meth cd b i qx qm qo c) : az_W l G 9 Q p e room_1 s mm args below meth cd (AD ρ) (KK G ρ x m ou) (kB c ρ) (nB c ρ) 1141 (lvL b i qx qm qo) [] := by
  subst e0; subst e1; subst e2
  obtain ⟨u, hX⟩ := O_bargeCount hG hc h
  obtain ⟨mc, ms, d, hd, hgm, post, hM, hpost⟩ := hX ou
  have hr := room_k hgm hc
  refine az_aload_n C 3 dL_law_1141 rfl ?_
  refine az_callV C Y_X3_bargeCount cX3 0 0 [] [] wm_L_213 wi_X3_bargeCount wse_X3_bargeCount dL_law_1142 rfl rfl rfl hM rfl (Nat.le_of_ble_eq_true rfl) (by show d + 1 ≤ 2048; omega) (by show 19 + 1 + 40 * d ≤ 84000; omega) hr.1 hr.2 (fun v ad9 K9 hp => ?_) (fun E ad9 K9 hp => ?_)
  · obtain ⟨ρ', x', h9, rfl, rfl, hρ, hgr, d2, hd2, post2, hMM, hpost2⟩ := hpost _ _ _ hp
    cases h9
    rw [congrFun hρ 100] at hMM
    have hn := room_n (c := c) hgr
    refine az_aload_n C 2 dL_law_1145 rfl ?_
    refine az_callV C Y_X4_bargeCount cX4 2 0 [] [.int u] wm_L_216 wi_X4_bargeCount wse_X4_bargeCount dL_law_1146 (congrFun hρ 100) rfl rfl hMM rfl (Nat.le_of_ble_eq_true rfl) (by show d2 + 1 ≤ 2048; omega) (by show 19 + 1 + 40 * d2 ≤ 84000; omega) hr.1 hr.2 (fun v ad9 K9 hp2 => ?_) (fun E ad9 K9 hp2 => ?_)
    · obtain ⟨m', h9, rfl, rfl, hN⟩ := hpost2 _ _ _ hp2
      cases h9
      exact az_icmp_eq C 2935 dL_law_1149 (by decide) (fun _ => az_lv [0, 1, 2, 3, 4] rfl (az_kn _ _ hn.1 hn.2 (kk ρ' x' m' ou (congrFun hρ 0) (congrFun hρ 100) (congrFun hρ 90) hN))) (fun q => absurd rfl q)
    · obtain ⟨_, h9, _⟩ := hpost2 _ _ _ hp2
      cases h9
  · obtain ⟨_, _, h9, _⟩ := hpost _ _ _ hp
    cases h9
set_option maxHeartbeats 4000000 in
set_option maxRecDepth 100000 in
theorem L_money (C : az_C l G p s mm args meth cd cL_law RL 9 (some FieldType.boolean) tab) (hG : az_okS l G) {c : Nat} (hc : c < 512) (h : Nx c ρ x m) (e0 : ρ.1 0 = qx) (e1 : ρ.1 100 = qm) (e2 : ρ.1 90 = qo) (kk : lwN l G Q p e s mm args below meth cd b i qx qm qo c) : az_W l G 9 Q p e room_1 s mm args below meth cd (AD ρ) (KK G ρ x m ou) (kB c ρ) (nB c ρ) 2140 (lvL b i qx qm qo) [] := by
  subst e0; subst e1; subst e2
  obtain ⟨u, hX⟩ := O_money hG hc h
  obtain ⟨mc, ms, d, hd, hgm, post, hM, hpost⟩ := hX ou
  have hr := room_k hgm hc
  refine az_aload_n C 3 dL_law_2140 rfl ?_
  refine az_callV C Y_X3_money cX3 0 0 [] [] wm_L_267 wi_X3_money wse_X3_money dL_law_2141 rfl rfl rfl hM rfl (Nat.le_of_ble_eq_true rfl) (by show d + 1 ≤ 2048; omega) (by show 19 + 1 + 40 * d ≤ 84000; omega) hr.1 hr.2 (fun v ad9 K9 hp => ?_) (fun E ad9 K9 hp => ?_)
  · obtain ⟨ρ', x', h9, rfl, rfl, hρ, hgr, d2, hd2, post2, hMM, hpost2⟩ := hpost _ _ _ hp
    cases h9
    rw [congrFun hρ 100] at hMM
    have hn := room_n (c := c) hgr
    refine az_aload_n C 2 dL_law_2144 rfl ?_
    refine az_callV C Y_X4_money cX4 2 0 [] [.long u] wm_L_271 wi_X4_money wse_X4_money dL_law_2145 (congrFun hρ 100) rfl rfl hMM rfl (Nat.le_of_ble_eq_true rfl) (by show d2 + 1 ≤ 2048; omega) (by show 19 + 1 + 40 * d2 ≤ 84000; omega) hr.1 hr.2 (fun v ad9 K9 hp2 => ?_) (fun E ad9 K9 hp2 => ?_)
    · obtain ⟨m', h9, rfl, rfl, hN⟩ := hpost2 _ _ _ hp2
      cases h9
      refine az_lcmp C dL_law_2148 ?_
      refine az_top 0 (lgc_self _) ?_
      exact az_if_eq C 2935 dL_law_2149 (by decide) (fun _ => az_lv [0, 1, 2, 3, 4] rfl (az_kn _ _ hn.1 hn.2 (kk ρ' x' m' ou (congrFun hρ 0) (congrFun hρ 100) (congrFun hρ 90) hN))) (fun q => absurd rfl q)
    · obtain ⟨_, h9, _⟩ := hpost2 _ _ _ hp2
      cases h9
  · obtain ⟨_, _, h9, _⟩ := hpost _ _ _ hp
    cases h9
set_option maxHeartbeats 4000000 in
set_option maxRecDepth 100000 in
theorem L_cameTotal (C : az_C l G p s mm args meth cd cL_law RL 9 (some FieldType.boolean) tab) (hG : az_okS l G) {c : Nat} (hc : c < 512) (h : Nx c ρ x m) (e0 : ρ.1 0 = qx) (e1 : ρ.1 100 = qm) (e2 : ρ.1 90 = qo) (kk : lwN l G Q p e s mm args below meth cd b i qx qm qo c) : az_W l G 9 Q p e room_1 s mm args below meth cd (AD ρ) (KK G ρ x m ou) (kB c ρ) (nB c ρ) 2536 (lvL b i qx qm qo) [] := by
  subst e0; subst e1; subst e2
  obtain ⟨u, hX⟩ := O_cameTotal hG hc h
  obtain ⟨mc, ms, d, hd, hgm, post, hM, hpost⟩ := hX ou
  have hr := room_k hgm hc
  refine az_aload_n C 3 dL_law_2536 rfl ?_
  refine az_callV C Y_X3_cameTotal cX3 0 0 [] [] wm_L_290 wi_X3_cameTotal wse_X3_cameTotal dL_law_2537 rfl rfl rfl hM rfl (Nat.le_of_ble_eq_true rfl) (by show d + 1 ≤ 2048; omega) (by show 19 + 1 + 40 * d ≤ 84000; omega) hr.1 hr.2 (fun v ad9 K9 hp => ?_) (fun E ad9 K9 hp => ?_)
  · obtain ⟨ρ', x', h9, rfl, rfl, hρ, hgr, d2, hd2, post2, hMM, hpost2⟩ := hpost _ _ _ hp
    cases h9
    rw [congrFun hρ 100] at hMM
    have hn := room_n (c := c) hgr
    refine az_aload_n C 2 dL_law_2540 rfl ?_
    refine az_callV C Y_X4_cameTotal cX4 2 0 [] [.int u] wm_L_293 wi_X4_cameTotal wse_X4_cameTotal dL_law_2541 (congrFun hρ 100) rfl rfl hMM rfl (Nat.le_of_ble_eq_true rfl) (by show d2 + 1 ≤ 2048; omega) (by show 19 + 1 + 40 * d2 ≤ 84000; omega) hr.1 hr.2 (fun v ad9 K9 hp2 => ?_) (fun E ad9 K9 hp2 => ?_)
    · obtain ⟨m', h9, rfl, rfl, hN⟩ := hpost2 _ _ _ hp2
      cases h9
      exact az_icmp_eq C 2935 dL_law_2544 (by decide) (fun _ => az_lv [0, 1, 2, 3, 4] rfl (az_kn _ _ hn.1 hn.2 (kk ρ' x' m' ou (congrFun hρ 0) (congrFun hρ 100) (congrFun hρ 90) hN))) (fun q => absurd rfl q)
    · obtain ⟨_, h9, _⟩ := hpost2 _ _ _ hp2
      cases h9
  · obtain ⟨_, _, h9, _⟩ := hpost _ _ _ hp
    cases h9
set_option maxHeartbeats 4000000 in
set_option maxRecDepth 100000 in
theorem L_seaTotal (C : az_C l G p s mm args meth cd cL_law RL 9 (some FieldType.boolean) tab) (hG : az_okS l G) {c : Nat} (hc : c < 512) (h : Nx c ρ x m) (e0 : ρ.1 0 = qx) (e1 : ρ.1 100 = qm) (e2 : ρ.1 90 = qo) (kk : lwN l G Q p e s mm args below meth cd b i qx qm qo c) : az_W l G 9 Q p e room_1 s mm args below meth cd (AD ρ) (KK G ρ x m ou) (kB c ρ) (nB c ρ) 2549 (lvL b i qx qm qo) [] := by
  subst e0; subst e1; subst e2
  obtain ⟨u, hX⟩ := O_seaTotal hG hc h
  obtain ⟨mc, ms, d, hd, hgm, post, hM, hpost⟩ := hX ou
  have hr := room_k hgm hc
  refine az_aload_n C 3 dL_law_2549 rfl ?_
  refine az_callV C Y_X3_seaTotal cX3 0 0 [] [] wm_L_294 wi_X3_seaTotal wse_X3_seaTotal dL_law_2550 rfl rfl rfl hM rfl (Nat.le_of_ble_eq_true rfl) (by show d + 1 ≤ 2048; omega) (by show 19 + 1 + 40 * d ≤ 84000; omega) hr.1 hr.2 (fun v ad9 K9 hp => ?_) (fun E ad9 K9 hp => ?_)
  · obtain ⟨ρ', x', h9, rfl, rfl, hρ, hgr, d2, hd2, post2, hMM, hpost2⟩ := hpost _ _ _ hp
    cases h9
    rw [congrFun hρ 100] at hMM
    have hn := room_n (c := c) hgr
    refine az_aload_n C 2 dL_law_2553 rfl ?_
    refine az_callV C Y_X4_seaTotal cX4 2 0 [] [.int u] wm_L_297 wi_X4_seaTotal wse_X4_seaTotal dL_law_2554 (congrFun hρ 100) rfl rfl hMM rfl (Nat.le_of_ble_eq_true rfl) (by show d2 + 1 ≤ 2048; omega) (by show 19 + 1 + 40 * d2 ≤ 84000; omega) hr.1 hr.2 (fun v ad9 K9 hp2 => ?_) (fun E ad9 K9 hp2 => ?_)
    · obtain ⟨m', h9, rfl, rfl, hN⟩ := hpost2 _ _ _ hp2
      cases h9
      exact az_icmp_eq C 2935 dL_law_2557 (by decide) (fun _ => az_lv [0, 1, 2, 3, 4] rfl (az_kn _ _ hn.1 hn.2 (kk ρ' x' m' ou (congrFun hρ 0) (congrFun hρ 100) (congrFun hρ 90) hN))) (fun q => absurd rfl q)
    · obtain ⟨_, h9, _⟩ := hpost2 _ _ _ hp2
      cases h9
  · obtain ⟨_, _, h9, _⟩ := hpost _ _ _ hp
    cases h9
set_option maxHeartbeats 4000000 in
set_option maxRecDepth 100000 in
theorem L_airTotal (C : az_C l G p s mm args meth cd cL_law RL 9 (some FieldType.boolean) tab) (hG : az_okS l G) {c : Nat} (hc : c < 512) (h : Nx c ρ x m) (e0 : ρ.1 0 = qx) (e1 : ρ.1 100 = qm) (e2 : ρ.1 90 = qo) (kk : lwN l G Q p e s mm args below meth cd b i qx qm qo c) : az_W l G 9 Q p e room_1 s mm args below meth cd (AD ρ) (KK G ρ x m ou) (kB c ρ) (nB c ρ) 2562 (lvL b i qx qm qo) [] := by
  subst e0; subst e1; subst e2
  obtain ⟨u, hX⟩ := O_airTotal hG hc h
  obtain ⟨mc, ms, d, hd, hgm, post, hM, hpost⟩ := hX ou
  have hr := room_k hgm hc
  refine az_aload_n C 3 dL_law_2562 rfl ?_
  refine az_callV C Y_X3_airTotal cX3 0 0 [] [] wm_L_298 wi_X3_airTotal wse_X3_airTotal dL_law_2563 rfl rfl rfl hM rfl (Nat.le_of_ble_eq_true rfl) (by show d + 1 ≤ 2048; omega) (by show 19 + 1 + 40 * d ≤ 84000; omega) hr.1 hr.2 (fun v ad9 K9 hp => ?_) (fun E ad9 K9 hp => ?_)
  · obtain ⟨ρ', x', h9, rfl, rfl, hρ, hgr, d2, hd2, post2, hMM, hpost2⟩ := hpost _ _ _ hp
    cases h9
    rw [congrFun hρ 100] at hMM
    have hn := room_n (c := c) hgr
    refine az_aload_n C 2 dL_law_2566 rfl ?_
    refine az_callV C Y_X4_airTotal cX4 2 0 [] [.int u] wm_L_301 wi_X4_airTotal wse_X4_airTotal dL_law_2567 (congrFun hρ 100) rfl rfl hMM rfl (Nat.le_of_ble_eq_true rfl) (by show d2 + 1 ≤ 2048; omega) (by show 19 + 1 + 40 * d2 ≤ 84000; omega) hr.1 hr.2 (fun v ad9 K9 hp2 => ?_) (fun E ad9 K9 hp2 => ?_)
    · obtain ⟨m', h9, rfl, rfl, hN⟩ := hpost2 _ _ _ hp2
      cases h9
      exact az_icmp_eq C 2935 dL_law_2570 (by decide) (fun _ => az_lv [0, 1, 2, 3, 4] rfl (az_kn _ _ hn.1 hn.2 (kk ρ' x' m' ou (congrFun hρ 0) (congrFun hρ 100) (congrFun hρ 90) hN))) (fun q => absurd rfl q)
    · obtain ⟨_, h9, _⟩ := hpost2 _ _ _ hp2
      cases h9
  · obtain ⟨_, _, h9, _⟩ := hpost _ _ _ hp
    cases h9
set_option maxHeartbeats 4000000 in
set_option maxRecDepth 100000 in
theorem L_heldTotal (C : az_C l G p s mm args meth cd cL_law RL 9 (some FieldType.boolean) tab) (hG : az_okS l G) {c : Nat} (hc : c < 512) (h : Nx c ρ x m) (e0 : ρ.1 0 = qx) (e1 : ρ.1 100 = qm) (e2 : ρ.1 90 = qo) (kk : lwN l G Q p e s mm args below meth cd b i qx qm qo c) : az_W l G 9 Q p e room_1 s mm args below meth cd (AD ρ) (KK G ρ x m ou) (kB c ρ) (nB c ρ) 2575 (lvL b i qx qm qo) [] := by
  subst e0; subst e1; subst e2
  obtain ⟨u, hX⟩ := O_heldTotal hG hc h
  obtain ⟨mc, ms, d, hd, hgm, post, hM, hpost⟩ := hX ou
  have hr := room_k hgm hc
  refine az_aload_n C 3 dL_law_2575 rfl ?_
  refine az_callV C Y_X3_heldTotal cX3 0 0 [] [] wm_L_302 wi_X3_heldTotal wse_X3_heldTotal dL_law_2576 rfl rfl rfl hM rfl (Nat.le_of_ble_eq_true rfl) (by show d + 1 ≤ 2048; omega) (by show 19 + 3 + 40 * d ≤ 84000; omega) hr.1 hr.2 (fun v ad9 K9 hp => ?_) (fun E ad9 K9 hp => ?_)
  · obtain ⟨ρ', x', h9, rfl, rfl, hρ, hgr, d2, hd2, post2, hMM, hpost2⟩ := hpost _ _ _ hp
    cases h9
    rw [congrFun hρ 100] at hMM
    have hn := room_n (c := c) hgr
    refine az_aload_n C 2 dL_law_2579 rfl ?_
    refine az_callV C Y_X4_heldTotal cX4 2 0 [] [.int u] wm_L_305 wi_X4_heldTotal wse_X4_heldTotal dL_law_2580 (congrFun hρ 100) rfl rfl hMM rfl (Nat.le_of_ble_eq_true rfl) (by show d2 + 1 ≤ 2048; omega) (by show 19 + 1 + 40 * d2 ≤ 84000; omega) hr.1 hr.2 (fun v ad9 K9 hp2 => ?_) (fun E ad9 K9 hp2 => ?_)
    · obtain ⟨m', h9, rfl, rfl, hN⟩ := hpost2 _ _ _ hp2
      cases h9
      exact az_icmp_eq C 2935 dL_law_2583 (by decide) (fun _ => az_lv [0, 1, 2, 3, 4] rfl (az_kn _ _ hn.1 hn.2 (kk ρ' x' m' ou (congrFun hρ 0) (congrFun hρ 100) (congrFun hρ 90) hN))) (fun q => absurd rfl q)
    · obtain ⟨_, h9, _⟩ := hpost2 _ _ _ hp2
      cases h9
  · obtain ⟨_, _, h9, _⟩ := hpost _ _ _ hp
    cases h9
set_option maxHeartbeats 4000000 in
set_option maxRecDepth 100000 in
theorem L_movementCount (C : az_C l G p s mm args meth cd cL_law RL 9 (some FieldType.boolean) tab) (hG : az_okS l G) {c : Nat} (hc : c < 512) (h : Nx c ρ x m) (e0 : ρ.1 0 = qx) (e1 : ρ.1 100 = qm) (e2 : ρ.1 90 = qo) (kk : lwN l G Q p e s mm args below meth cd b i qx qm qo c) : az_W l G 9 Q p e room_1 s mm args below meth cd (AD ρ) (KK G ρ x m ou) (kB c ρ) (nB c ρ) 2588 (lvL b i qx qm qo) [] := by
  subst e0; subst e1; subst e2
  obtain ⟨u, hX⟩ := O_movementCount hG hc h
  obtain ⟨mc, ms, d, hd, hgm, post, hM, hpost⟩ := hX ou
  have hr := room_k hgm hc
  refine az_aload_n C 3 dL_law_2588 rfl ?_
  refine az_callV C Y_X3_movementCount cX3 0 0 [] [] wm_L_306 wi_X3_movementCount wse_X3_movementCount dL_law_2589 rfl rfl rfl hM rfl (Nat.le_of_ble_eq_true rfl) (by show d + 1 ≤ 2048; omega) (by show 19 + 1 + 40 * d ≤ 84000; omega) hr.1 hr.2 (fun v ad9 K9 hp => ?_) (fun E ad9 K9 hp => ?_)
  · obtain ⟨ρ', x', h9, rfl, rfl, hρ, hgr, d2, hd2, post2, hMM, hpost2⟩ := hpost _ _ _ hp
    cases h9
    rw [congrFun hρ 100] at hMM
    have hn := room_n (c := c) hgr
    refine az_aload_n C 2 dL_law_2592 rfl ?_
    refine az_callV C Y_X4_movementCount cX4 2 0 [] [.int u] wm_L_309 wi_X4_movementCount wse_X4_movementCount dL_law_2593 (congrFun hρ 100) rfl rfl hMM rfl (Nat.le_of_ble_eq_true rfl) (by show d2 + 1 ≤ 2048; omega) (by show 19 + 1 + 40 * d2 ≤ 84000; omega) hr.1 hr.2 (fun v ad9 K9 hp2 => ?_) (fun E ad9 K9 hp2 => ?_)
    · obtain ⟨m', h9, rfl, rfl, hN⟩ := hpost2 _ _ _ hp2
      cases h9
      exact az_icmp_eq C 2935 dL_law_2596 (by decide) (fun _ => az_lv [0, 1, 2, 3, 4] rfl (az_kn _ _ hn.1 hn.2 (kk ρ' x' m' ou (congrFun hρ 0) (congrFun hρ 100) (congrFun hρ 90) hN))) (fun q => absurd rfl q)
    · obtain ⟨_, h9, _⟩ := hpost2 _ _ _ hp2
      cases h9
  · obtain ⟨_, _, h9, _⟩ := hpost _ _ _ hp
    cases h9
set_option maxHeartbeats 4000000 in
set_option maxRecDepth 100000 in
theorem L_meanLevel (C : az_C l G p s mm args meth cd cL_law RL 9 (some FieldType.boolean) tab) (hG : az_okS l G) {c : Nat} (hc : c < 512) (h : Nx c ρ x m) (e0 : ρ.1 0 = qx) (e1 : ρ.1 100 = qm) (e2 : ρ.1 90 = qo) (kk : lwN l G Q p e s mm args below meth cd b i qx qm qo c) : az_W l G 9 Q p e room_1 s mm args below meth cd (AD ρ) (KK G ρ x m ou) (kB c ρ) (nB c ρ) 2769 (lvL b i qx qm qo) [] := by
  subst e0; subst e1; subst e2
  obtain ⟨u, hX⟩ := O_meanLevel hG hc h
  obtain ⟨mc, ms, d, hd, hgm, post, hM, hpost⟩ := hX ou
  have hr := room_k hgm hc
  refine az_aload_n C 3 dL_law_2769 rfl ?_
  refine az_callV C Y_X3_meanLevel cX3 0 0 [] [] wm_L_319 wi_X3_meanLevel wse_X3_meanLevel dL_law_2770 rfl rfl rfl hM rfl (Nat.le_of_ble_eq_true rfl) (by show d + 1 ≤ 2048; omega) (by show 19 + 3 + 40 * d ≤ 84000; omega) hr.1 hr.2 (fun v ad9 K9 hp => ?_) (fun E ad9 K9 hp => ?_)
  · obtain ⟨ρ', x', h9, rfl, rfl, hρ, hgr, d2, hd2, post2, hMM, hpost2⟩ := hpost _ _ _ hp
    cases h9
    rw [congrFun hρ 100] at hMM
    have hn := room_n (c := c) hgr
    refine az_dstore C (lv' := [(5, .double u), (4, .int (nI i)), (3, .ref (ρ.1 90)), (2, .ref (ρ.1 100)), (1, .ref (ρ.1 0)), (0, .ref b)]) dL_law_2773 (by decide) rfl ?_
    refine az_aload_n C 3 dL_law_2775 rfl ?_
    refine az_callV C Y_X4_meanLevel cX4 2 0 [] [] wm_L_323 wi_X4_meanLevel wse_X4_meanLevel dL_law_2776 (congrFun hρ 100) rfl rfl hMM rfl (Nat.le_of_ble_eq_true rfl) (by show d2 + 1 ≤ 2048; omega) (by show 19 + 3 + 40 * d2 ≤ 84000; omega) hr.1 hr.2 (fun v ad9 K9 hp2 => ?_) (fun E ad9 K9 hp2 => ?_)
    · obtain ⟨m', h9, rfl, rfl, hN⟩ := hpost2 _ _ _ hp2
      cases h9
      refine az_dstore C (lv' := [(7, .double u), (5, .double u), (4, .int (nI i)), (3, .ref (ρ.1 90)), (2, .ref (ρ.1 100)), (1, .ref (ρ.1 0)), (0, .ref b)]) dL_law_2779 (by decide) rfl ?_
      refine az_dload C 1 dL_law_2781 rfl ?_
      refine az_dload C 0 dL_law_2783 rfl ?_
      refine az_dcmp C dL_law_2785 ?_
      have fin : az_W l G 9 Q p e room_1 s mm args below meth cd (AD ρ') (KK G ρ' x' m' ou) (kB c ρ + mc + 0) (nB c ρ + ms + 0) 2807 [(7, .double u), (5, .double u), (4, .int (nI i)), (3, .ref (ρ.1 90)), (2, .ref (ρ.1 100)), (1, .ref (ρ.1 0)), (0, .ref b)] [] := by
        refine az_goto C 2935 dL_law_2807 (by decide) ?_
        exact az_lv [2, 3, 4, 5, 6] rfl (az_kn _ _ hn.1 hn.2 (kk ρ' x' m' ou (congrFun hρ 0) (congrFun hρ 100) (congrFun hρ 90) hN))
      refine az_if_eq C 2807 dL_law_2786 (by decide) (fun _ => fin) (fun hne => ?_)
      refine az_dload C 1 dL_law_2789 rfl ?_
      refine az_dload C 1 dL_law_2791 rfl ?_
      refine az_dcmp C dL_law_2793 ?_
      refine az_if_eq C 2805 dL_law_2794 (by decide) (fun q => absurd q hne) (fun _ => ?_)
      refine az_dload C 0 dL_law_2797 rfl ?_
      refine az_dload C 0 dL_law_2799 rfl ?_
      refine az_dcmp C dL_law_2801 ?_
      exact az_if_ne C 2807 dL_law_2802 (by decide) (fun _ => fin) (fun q => absurd q hne)
    · obtain ⟨_, h9, _⟩ := hpost2 _ _ _ hp2
      cases h9
  · obtain ⟨_, _, h9, _⟩ := hpost _ _ _ hp
    cases h9
set_option maxHeartbeats 4000000 in
set_option maxRecDepth 100000 in
theorem L_isBalanced (C : az_C l G p s mm args meth cd cL_law RL 9 (some FieldType.boolean) tab) (hG : az_okS l G) {c : Nat} (hc : c < 512) (h : Nx c ρ x m) (e0 : ρ.1 0 = qx) (e1 : ρ.1 100 = qm) (e2 : ρ.1 90 = qo) (kk : lwN l G Q p e s mm args below meth cd b i qx qm qo c) : az_W l G 9 Q p e room_1 s mm args below meth cd (AD ρ) (KK G ρ x m ou) (kB c ρ) (nB c ρ) 2810 (lvL b i qx qm qo) [] := by
  subst e0; subst e1; subst e2
  obtain ⟨u, hX⟩ := O_isBalanced hG hc h
  obtain ⟨mc, ms, d, hd, hgm, post, hM, hpost⟩ := hX ou
  have hr := room_k hgm hc
  refine az_aload_n C 3 dL_law_2810 rfl ?_
  refine az_callV C Y_X3_isBalanced cX3 0 0 [] [] wm_L_324 wi_X3_isBalanced wse_X3_isBalanced dL_law_2811 rfl rfl rfl hM rfl (Nat.le_of_ble_eq_true rfl) (by show d + 1 ≤ 2048; omega) (by show 19 + 2 + 40 * d ≤ 84000; omega) hr.1 hr.2 (fun v ad9 K9 hp => ?_) (fun E ad9 K9 hp => ?_)
  · obtain ⟨ρ', x', h9, rfl, rfl, hρ, hgr, d2, hd2, post2, hMM, hpost2⟩ := hpost _ _ _ hp
    cases h9
    rw [congrFun hρ 100] at hMM
    have hn := room_n (c := c) hgr
    refine az_aload_n C 2 dL_law_2814 rfl ?_
    refine az_callV C Y_X4_isBalanced cX4 2 0 [] [.int u] wm_L_328 wi_X4_isBalanced wse_X4_isBalanced dL_law_2815 (congrFun hρ 100) rfl rfl hMM rfl (Nat.le_of_ble_eq_true rfl) (by show d2 + 1 ≤ 2048; omega) (by show 19 + 3 + 40 * d2 ≤ 84000; omega) hr.1 hr.2 (fun v ad9 K9 hp2 => ?_) (fun E ad9 K9 hp2 => ?_)
    · obtain ⟨m', h9, rfl, rfl, hN⟩ := hpost2 _ _ _ hp2
      cases h9
      exact az_icmp_eq C 2935 dL_law_2818 (by decide) (fun _ => az_lv [0, 1, 2, 3, 4] rfl (az_kn _ _ hn.1 hn.2 (kk ρ' x' m' ou (congrFun hρ 0) (congrFun hρ 100) (congrFun hρ 90) hN))) (fun q => absurd rfl q)
    · obtain ⟨_, h9, _⟩ := hpost2 _ _ _ hp2
      cases h9
  · obtain ⟨_, _, h9, _⟩ := hpost _ _ _ hp
    cases h9
end
