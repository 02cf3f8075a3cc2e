section
variable {l : Launch} {G : az_G} {Q : State → Prop} {p : Program} {e : Env} {s : State} {mm : MethodId} {args : Array Value} {below : List Frame} {meth : Method} {cd : Code} {tab : List ExceptionTableEntry} {b L i qx qm qo : Nat} {xs : Nat → Int32}
variable {ρ : Rp} {x : Xs} {m : Ms} {ou : Nat → Int64}
set_option maxHeartbeats 4000000 in
set_option maxRecDepth 100000 in
theorem L_addReach (C : az_C l G p s mm args meth cd cL_law RL 9 (some FieldType.boolean) tab) (hG : az_okS l G) (S : lwS G b L xs s) (hi : i + 6 ≤ L) {c : Nat} (hc : c < 512) (h : Nx c ρ x m) (e0 : ρ.1 0 = qx) (e1 : ρ.1 100 = qm) (e2 : ρ.1 90 = qo) (kk : lwN l G Q p e s mm args below meth cd b i qx qm qo c) : az_W l G 9 Q p e room_1 s mm args below meth cd (AD ρ) (KK G ρ x m ou) (kB c ρ) (nB c ρ) 264 (lvL b i qx qm qo) [] := by
  subst e0; subst e1; subst e2
  refine az_aload_n C 3 dL_law_264 rfl ?_
  refine az_arg C (i := i) (j := 1) (z0 := 4) (z4 := 0) S dL_law_265 dL_law_266 dL_law_268 dL_law_269 dL_law_270 rfl rfl rfl (by omega) ?_
  refine az_arg C (i := i) (j := 2) (z0 := 4) (z4 := 0) S dL_law_271 dL_law_272 dL_law_274 dL_law_275 dL_law_276 rfl rfl rfl (by omega) ?_
  refine az_arg C (i := i) (j := 3) (z0 := 4) (z4 := 0) S dL_law_277 dL_law_278 dL_law_280 dL_law_281 dL_law_282 rfl rfl rfl (by omega) ?_
  refine az_arg C (i := i) (j := 4) (z0 := 4) (z4 := 0) S dL_law_283 dL_law_284 dL_law_286 dL_law_287 dL_law_288 rfl rfl rfl (by omega) ?_
  refine az_arg C (i := i) (j := 5) (z0 := 4) (z4 := 0) S dL_law_289 dL_law_290 dL_law_292 dL_law_293 dL_law_294 rfl rfl rfl (by omega) ?_
  refine az_aload_n C 1 dL_law_295 rfl ?_
  obtain ⟨mc, ms, hgm, hM⟩ := H_addReach hG (xs (i + 1)) (xs (i + 2)) (xs (i + 3)) (xs (i + 4)) (xs (i + 5)) (O_addReach hG hc h (xs (i + 1)) (xs (i + 2)) (xs (i + 3)) (xs (i + 4)) (xs (i + 5))) ou
  have hr := room_k hgm hc
  refine az_callH C Y_L_addReach [.ref (ρ.1 0), .int (xs (i + 1)), .int (xs (i + 2)), .int (xs (i + 3)), .int (xs (i + 4)), .int (xs (i + 5)), .ref (ρ.1 90)] [] wm_L_153 wst_L_addReach dL_law_296 rfl hM rfl (Nat.le_of_ble_eq_true rfl) (Nat.le_of_ble_eq_true rfl) (Nat.le_of_ble_eq_true rfl) hr.1 hr.2 (fun v ad9 K9 hp => ?_) (fun E ad9 K9 hp => ?_)
  · obtain ⟨k9, ρ', x', ou', h9, rfl, rfl, hρ, hgr, d, hd, post, hMM, hpost⟩ := hp
    cases h9
    rw [congrFun hρ 100] at hMM
    have hn := room_n (c := c) hgr
    refine az_istore C (lv' := [(5, .int k9), (4, .int (nI i)), (3, .ref (ρ.1 90)), (2, .ref (ρ.1 100)), (1, .ref (ρ.1 0)), (0, .ref b)]) dL_law_299 (by decide) rfl ?_
    refine az_aload_n C 3 dL_law_301 rfl ?_
    refine az_arg C (i := i) (j := 1) (z0 := 5) (z4 := 1) S dL_law_302 dL_law_303 dL_law_305 dL_law_306 dL_law_307 rfl rfl rfl (by omega) ?_
    refine az_arg C (i := i) (j := 2) (z0 := 5) (z4 := 1) S dL_law_308 dL_law_309 dL_law_311 dL_law_312 dL_law_313 rfl rfl rfl (by omega) ?_
    refine az_arg C (i := i) (j := 3) (z0 := 5) (z4 := 1) S dL_law_314 dL_law_315 dL_law_317 dL_law_318 dL_law_319 rfl rfl rfl (by omega) ?_
    refine az_arg C (i := i) (j := 4) (z0 := 5) (z4 := 1) S dL_law_320 dL_law_321 dL_law_323 dL_law_324 dL_law_325 rfl rfl rfl (by omega) ?_
    refine az_arg C (i := i) (j := 5) (z0 := 5) (z4 := 1) S dL_law_326 dL_law_327 dL_law_329 dL_law_330 dL_law_331 rfl rfl rfl (by omega) ?_
    refine az_callV C Y_X4_addReach cX4 2 0 [.int (xs (i + 1)), .int (xs (i + 2)), .int (xs (i + 3)), .int (xs (i + 4)), .int (xs (i + 5))] [] wm_L_158 wi_X4_addReach wse_X4_addReach dL_law_332 (congrFun hρ 100) rfl rfl hMM rfl (Nat.le_of_ble_eq_true rfl) (by show d + 1 ≤ 2048; omega) (by show 19 + 7 + 40 * d ≤ 84000; omega) hr.1 hr.2 (fun v ad9 K9 hp2 => ?_) (fun E ad9 K9 hp2 => ?_)
    · obtain ⟨bv, w, m', h9, hcv, rfl, rfl, hk0, hw, hN⟩ := hpost _ _ _ hp2
      cases h9
      obtain ⟨u, rfl, rfl⟩ := hcv
      refine az_istore C (lv' := [(6, .int u), (5, .int k9), (4, .int (nI i)), (3, .ref (ρ.1 90)), (2, .ref (ρ.1 100)), (1, .ref (ρ.1 0)), (0, .ref b)]) dL_law_335 (by decide) rfl ?_
      refine az_aload_n C 4 dL_law_337 rfl ?_
      have gT := Mthrown (ρ := ρ') (x := x') (m := m') (ou := ou') hG
      rw [congrFun hρ 100] at gT
      refine az_callV C Y_X4_thrown cX4 2 0 [] [] wm_L_159 wi_X4_thrown wse_X4_thrown dL_law_338 (congrFun hρ 100) rfl rfl gT rfl (Nat.le_of_ble_eq_true rfl) (Nat.le_of_ble_eq_true rfl) (Nat.le_of_ble_eq_true rfl) hr.1 hr.2 (az_k1 rfl rfl ?_) (az_k0 rfl)
      refine az_top k9 hk0 ?_
      refine az_iload C 1 dL_law_341 rfl ?_
      refine az_icmp_eq C 348 dL_law_343 (by decide) (fun _ => ?_) (fun q => absurd rfl q)
      refine az_iload C 1 dL_law_348 rfl ?_
      have fin : az_W l G 9 Q p e room_1 s mm args below meth cd (AD ρ') (KK G ρ' x' m' ou') (kB c ρ + mc + 0 + 0) (nB c ρ + ms + 0 + 0) 365 [(6, .int u), (5, .int k9), (4, .int (nI i)), (3, .ref (ρ.1 90)), (2, .ref (ρ.1 100)), (1, .ref (ρ.1 0)), (0, .ref b)] [] := by
        refine az_goto C 2935 dL_law_365 (by decide) ?_
        exact az_lv [2, 3, 4, 5, 6] rfl (az_kn _ _ hn.1 hn.2 (kk ρ' x' m' ou' (congrFun hρ 0) (congrFun hρ 100) (congrFun hρ 90) hN))
      refine az_if_ne C 365 dL_law_350 (by decide) (fun _ => fin) (fun h0 => ?_)
      refine az_aload_n C 3 dL_law_353 rfl ?_
      refine az_iconst C (v := 0) dL_law_354 (by decide) ?_
      refine az_lald C (N := 1) (f := ou') 3 0 dL_law_355 (congrFun hρ 90) KK_3 vi_01 ?_
      refine az_iload C 0 dL_law_356 rfl ?_
      refine az_i2l C dL_law_358 ?_
      refine az_lcmp C dL_law_359 ?_
      refine az_top 0 (by rw [show ou' (0 : Int32).toNatClampNeg = u.toInt64 from hw h0]; exact lgc_self _) ?_
      exact az_if_eq C 365 dL_law_360 (by decide) (fun _ => fin) (fun q => absurd rfl q)
    · obtain ⟨_, _, _, h9, _⟩ := hpost _ _ _ hp2
      cases h9
  · obtain ⟨_, _, _, _, h9, _⟩ := hp
    cases h9
end
