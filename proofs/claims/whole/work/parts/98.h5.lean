section
variable {l : Launch} {G : az_G} {Q : State → Prop} {p : Program} {e : Env} {s : State} {mm : MethodId} {args : Array Value} {below : List Frame} {meth : Method} {cd : Code} {tab : List ExceptionTableEntry} {b L i qx qm qo : Nat} {xs : Nat → Int32}
variable {ρ : Rp} {x : Xs} {m : Ms} {ou : Nat → Int64}
set_option maxHeartbeats 4000000 in
set_option maxRecDepth 100000 in
theorem L_areaOf (C : az_C l G p s mm args meth cd cL_law RL 9 (some FieldType.boolean) tab) (hG : az_okS l G) (S : lwS G b L xs s) (hi : i + 6 ≤ L) {c : Nat} (hc : c < 512) (h : Nx c ρ x m) (e0 : ρ.1 0 = qx) (e1 : ρ.1 100 = qm) (e2 : ρ.1 90 = qo) (kk : lwN l G Q p e s mm args below meth cd b i qx qm qo c) : az_W l G 9 Q p e room_1 s mm args below meth cd (AD ρ) (KK G ρ x m ou) (kB c ρ) (nB c ρ) 381 (lvL b i qx qm qo) [] := by
  subst e0; subst e1; subst e2
  refine az_aload_n C 3 dL_law_381 rfl ?_
  refine az_arg C (i := i) (j := 1) (z0 := 4) (z4 := 0) S dL_law_382 dL_law_383 dL_law_385 dL_law_386 dL_law_387 rfl rfl rfl (by omega) ?_
  refine az_aload_n C 1 dL_law_388 rfl ?_
  obtain ⟨mc, ms, hgm, hM⟩ := H_areaOf hG (xs (i + 1)) (O_areaOf hG hc h (xs (i + 1))) ou
  have hr := room_k hgm hc
  refine az_callH C Y_L_areaOf [.ref (ρ.1 0), .int (xs (i + 1)), .ref (ρ.1 90)] [] wm_L_166 wst_L_areaOf dL_law_389 rfl hM rfl (Nat.le_of_ble_eq_true rfl) (Nat.le_of_ble_eq_true rfl) (Nat.le_of_ble_eq_true rfl) hr.1 hr.2 (fun v ad9 K9 hp => ?_) (fun E ad9 K9 hp => ?_)
  · obtain ⟨k9, ρ', x', ou', h9, rfl, rfl, hρ, hgr, d, hd, post, hMM, hpost⟩ := hp
    cases h9
    rw [congrFun hρ 100] at hMM
    have hn := room_n (c := c) hgr
    refine az_istore C (lv' := [(5, .int k9), (4, .int (nI i)), (3, .ref (ρ.1 90)), (2, .ref (ρ.1 100)), (1, .ref (ρ.1 0)), (0, .ref b)]) dL_law_392 (by decide) rfl ?_
    refine az_aload_n C 3 dL_law_394 rfl ?_
    refine az_arg C (i := i) (j := 1) (z0 := 5) (z4 := 1) S dL_law_395 dL_law_396 dL_law_398 dL_law_399 dL_law_400 rfl rfl rfl (by omega) ?_
    refine az_callV C Y_X4_areaOf cX4 2 0 [.int (xs (i + 1))] [] wm_L_169 wi_X4_areaOf wse_X4_areaOf dL_law_401 (congrFun hρ 100) rfl rfl hMM rfl (Nat.le_of_ble_eq_true rfl) (by show d + 1 ≤ 2048; omega) (by show 19 + 2 + 40 * d ≤ 84000; omega) hr.1 hr.2 (fun v ad9 K9 hp2 => ?_) (fun E ad9 K9 hp2 => ?_)
    · obtain ⟨bv, w, m', h9, hcv, rfl, rfl, hk0, hw, hN⟩ := hpost _ _ _ hp2
      cases h9
      obtain ⟨u, rfl, rfl⟩ := hcv
      refine az_istore C (lv' := [(6, .int u), (5, .int k9), (4, .int (nI i)), (3, .ref (ρ.1 90)), (2, .ref (ρ.1 100)), (1, .ref (ρ.1 0)), (0, .ref b)]) dL_law_404 (by decide) rfl ?_
      refine az_aload_n C 4 dL_law_406 rfl ?_
      have gT := Mthrown (ρ := ρ') (x := x') (m := m') (ou := ou') hG
      rw [congrFun hρ 100] at gT
      refine az_callV C Y_X4_thrown cX4 2 0 [] [] wm_L_159 wi_X4_thrown wse_X4_thrown dL_law_407 (congrFun hρ 100) rfl rfl gT rfl (Nat.le_of_ble_eq_true rfl) (Nat.le_of_ble_eq_true rfl) (Nat.le_of_ble_eq_true rfl) hr.1 hr.2 (az_k1 rfl rfl ?_) (az_k0 rfl)
      refine az_top k9 hk0 ?_
      refine az_iload C 1 dL_law_410 rfl ?_
      refine az_icmp_eq C 417 dL_law_412 (by decide) (fun _ => ?_) (fun q => absurd rfl q)
      refine az_iload C 1 dL_law_417 rfl ?_
      have fin : az_W l G 9 Q p e room_1 s mm args below meth cd (AD ρ') (KK G ρ' x' m' ou') (kB c ρ + mc + 0 + 0) (nB c ρ + ms + 0 + 0) 434 [(6, .int u), (5, .int k9), (4, .int (nI i)), (3, .ref (ρ.1 90)), (2, .ref (ρ.1 100)), (1, .ref (ρ.1 0)), (0, .ref b)] [] := by
        refine az_goto C 2935 dL_law_434 (by decide) ?_
        exact az_lv [2, 3, 4, 5, 6] rfl (az_kn _ _ hn.1 hn.2 (kk ρ' x' m' ou' (congrFun hρ 0) (congrFun hρ 100) (congrFun hρ 90) hN))
      refine az_if_ne C 434 dL_law_419 (by decide) (fun _ => fin) (fun h0 => ?_)
      refine az_aload_n C 3 dL_law_422 rfl ?_
      refine az_iconst C (v := 0) dL_law_423 (by decide) ?_
      refine az_lald C (N := 1) (f := ou') 3 0 dL_law_424 (congrFun hρ 90) KK_3 vi_01 ?_
      refine az_iload C 0 dL_law_425 rfl ?_
      refine az_i2l C dL_law_427 ?_
      refine az_lcmp C dL_law_428 ?_
      refine az_top 0 (by rw [show ou' (0 : Int32).toNatClampNeg = u.toInt64 from hw h0]; exact lgc_self _) ?_
      exact az_if_eq C 434 dL_law_429 (by decide) (fun _ => fin) (fun q => absurd rfl q)
    · obtain ⟨_, _, _, h9, _⟩ := hpost _ _ _ hp2
      cases h9
  · obtain ⟨_, _, _, _, h9, _⟩ := hp
    cases h9
set_option maxHeartbeats 4000000 in
set_option maxRecDepth 100000 in
theorem L_volumeOf (C : az_C l G p s mm args meth cd cL_law RL 9 (some FieldType.boolean) tab) (hG : az_okS l G) (S : lwS G b L xs s) (hi : i + 6 ≤ L) {c : Nat} (hc : c < 512) (h : Nx c ρ x m) (e0 : ρ.1 0 = qx) (e1 : ρ.1 100 = qm) (e2 : ρ.1 90 = qo) (kk : lwN l G Q p e s mm args below meth cd b i qx qm qo c) : az_W l G 9 Q p e room_1 s mm args below meth cd (AD ρ) (KK G ρ x m ou) (kB c ρ) (nB c ρ) 437 (lvL b i qx qm qo) [] := by
  subst e0; subst e1; subst e2
  refine az_aload_n C 3 dL_law_437 rfl ?_
  refine az_arg C (i := i) (j := 1) (z0 := 4) (z4 := 0) S dL_law_438 dL_law_439 dL_law_441 dL_law_442 dL_law_443 rfl rfl rfl (by omega) ?_
  refine az_aload_n C 1 dL_law_444 rfl ?_
  obtain ⟨mc, ms, hgm, hM⟩ := H_volumeOf hG (xs (i + 1)) (O_volumeOf hG hc h (xs (i + 1))) ou
  have hr := room_k hgm hc
  refine az_callH C Y_L_volumeOf [.ref (ρ.1 0), .int (xs (i + 1)), .ref (ρ.1 90)] [] wm_L_170 wst_L_volumeOf dL_law_445 rfl hM rfl (Nat.le_of_ble_eq_true rfl) (Nat.le_of_ble_eq_true rfl) (Nat.le_of_ble_eq_true rfl) hr.1 hr.2 (fun v ad9 K9 hp => ?_) (fun E ad9 K9 hp => ?_)
  · obtain ⟨k9, ρ', x', ou', h9, rfl, rfl, hρ, hgr, d, hd, post, hMM, hpost⟩ := hp
    cases h9
    rw [congrFun hρ 100] at hMM
    have hn := room_n (c := c) hgr
    refine az_istore C (lv' := [(5, .int k9), (4, .int (nI i)), (3, .ref (ρ.1 90)), (2, .ref (ρ.1 100)), (1, .ref (ρ.1 0)), (0, .ref b)]) dL_law_448 (by decide) rfl ?_
    refine az_aload_n C 3 dL_law_450 rfl ?_
    refine az_arg C (i := i) (j := 1) (z0 := 5) (z4 := 1) S dL_law_451 dL_law_452 dL_law_454 dL_law_455 dL_law_456 rfl rfl rfl (by omega) ?_
    refine az_callV C Y_X4_volumeOf cX4 2 0 [.int (xs (i + 1))] [] wm_L_172 wi_X4_volumeOf wse_X4_volumeOf dL_law_457 (congrFun hρ 100) rfl rfl hMM rfl (Nat.le_of_ble_eq_true rfl) (by show d + 1 ≤ 2048; omega) (by show 19 + 2 + 40 * d ≤ 84000; omega) hr.1 hr.2 (fun v ad9 K9 hp2 => ?_) (fun E ad9 K9 hp2 => ?_)
    · obtain ⟨bv, w, m', h9, hcv, rfl, rfl, hk0, hw, hN⟩ := hpost _ _ _ hp2
      cases h9
      obtain ⟨u, rfl, rfl⟩ := hcv
      refine az_istore C (lv' := [(6, .int u), (5, .int k9), (4, .int (nI i)), (3, .ref (ρ.1 90)), (2, .ref (ρ.1 100)), (1, .ref (ρ.1 0)), (0, .ref b)]) dL_law_460 (by decide) rfl ?_
      refine az_aload_n C 4 dL_law_462 rfl ?_
      have gT := Mthrown (ρ := ρ') (x := x') (m := m') (ou := ou') hG
      rw [congrFun hρ 100] at gT
      refine az_callV C Y_X4_thrown cX4 2 0 [] [] wm_L_159 wi_X4_thrown wse_X4_thrown dL_law_463 (congrFun hρ 100) rfl rfl gT rfl (Nat.le_of_ble_eq_true rfl) (Nat.le_of_ble_eq_true rfl) (Nat.le_of_ble_eq_true rfl) hr.1 hr.2 (az_k1 rfl rfl ?_) (az_k0 rfl)
      refine az_top k9 hk0 ?_
      refine az_iload C 1 dL_law_466 rfl ?_
      refine az_icmp_eq C 473 dL_law_468 (by decide) (fun _ => ?_) (fun q => absurd rfl q)
      refine az_iload C 1 dL_law_473 rfl ?_
      have fin : az_W l G 9 Q p e room_1 s mm args below meth cd (AD ρ') (KK G ρ' x' m' ou') (kB c ρ + mc + 0 + 0) (nB c ρ + ms + 0 + 0) 490 [(6, .int u), (5, .int k9), (4, .int (nI i)), (3, .ref (ρ.1 90)), (2, .ref (ρ.1 100)), (1, .ref (ρ.1 0)), (0, .ref b)] [] := by
        refine az_goto C 2935 dL_law_490 (by decide) ?_
        exact az_lv [2, 3, 4, 5, 6] rfl (az_kn _ _ hn.1 hn.2 (kk ρ' x' m' ou' (congrFun hρ 0) (congrFun hρ 100) (congrFun hρ 90) hN))
      refine az_if_ne C 490 dL_law_475 (by decide) (fun _ => fin) (fun h0 => ?_)
      refine az_aload_n C 3 dL_law_478 rfl ?_
      refine az_iconst C (v := 0) dL_law_479 (by decide) ?_
      refine az_lald C (N := 1) (f := ou') 3 0 dL_law_480 (congrFun hρ 90) KK_3 vi_01 ?_
      refine az_iload C 0 dL_law_481 rfl ?_
      refine az_i2l C dL_law_483 ?_
      refine az_lcmp C dL_law_484 ?_
      refine az_top 0 (by rw [show ou' (0 : Int32).toNatClampNeg = u.toInt64 from hw h0]; exact lgc_self _) ?_
      exact az_if_eq C 490 dL_law_485 (by decide) (fun _ => fin) (fun q => absurd rfl q)
    · obtain ⟨_, _, _, h9, _⟩ := hpost _ _ _ hp2
      cases h9
  · obtain ⟨_, _, _, _, h9, _⟩ := hp
    cases h9
set_option maxHeartbeats 4000000 in
set_option maxRecDepth 100000 in
theorem L_volumeBySteps (C : az_C l G p s mm args meth cd cL_law RL 9 (some FieldType.boolean) tab) (hG : az_okS l G) (S : lwS G b L xs s) (hi : i + 6 ≤ L) {c : Nat} (hc : c < 512) (h : Nx c ρ x m) (e0 : ρ.1 0 = qx) (e1 : ρ.1 100 = qm) (e2 : ρ.1 90 = qo) (kk : lwN l G Q p e s mm args below meth cd b i qx qm qo c) : az_W l G 9 Q p e room_1 s mm args below meth cd (AD ρ) (KK G ρ x m ou) (kB c ρ) (nB c ρ) 493 (lvL b i qx qm qo) [] := by
  subst e0; subst e1; subst e2
  refine az_aload_n C 3 dL_law_493 rfl ?_
  refine az_arg C (i := i) (j := 1) (z0 := 4) (z4 := 0) S dL_law_494 dL_law_495 dL_law_497 dL_law_498 dL_law_499 rfl rfl rfl (by omega) ?_
  refine az_aload_n C 1 dL_law_500 rfl ?_
  obtain ⟨mc, ms, hgm, hM⟩ := H_volumeBySteps hG (xs (i + 1)) (O_volumeBySteps hG hc h (xs (i + 1))) ou
  have hr := room_k hgm hc
  refine az_callH C Y_L_volumeBySteps [.ref (ρ.1 0), .int (xs (i + 1)), .ref (ρ.1 90)] [] wm_L_173 wst_L_volumeBySteps dL_law_501 rfl hM rfl (Nat.le_of_ble_eq_true rfl) (Nat.le_of_ble_eq_true rfl) (Nat.le_of_ble_eq_true rfl) hr.1 hr.2 (fun v ad9 K9 hp => ?_) (fun E ad9 K9 hp => ?_)
  · obtain ⟨k9, ρ', x', ou', h9, rfl, rfl, hρ, hgr, d, hd, post, hMM, hpost⟩ := hp
    cases h9
    rw [congrFun hρ 100] at hMM
    have hn := room_n (c := c) hgr
    refine az_istore C (lv' := [(5, .int k9), (4, .int (nI i)), (3, .ref (ρ.1 90)), (2, .ref (ρ.1 100)), (1, .ref (ρ.1 0)), (0, .ref b)]) dL_law_504 (by decide) rfl ?_
    refine az_aload_n C 3 dL_law_506 rfl ?_
    refine az_arg C (i := i) (j := 1) (z0 := 5) (z4 := 1) S dL_law_507 dL_law_508 dL_law_510 dL_law_511 dL_law_512 rfl rfl rfl (by omega) ?_
    refine az_callV C Y_X4_volumeBySteps cX4 2 0 [.int (xs (i + 1))] [] wm_L_175 wi_X4_volumeBySteps wse_X4_volumeBySteps dL_law_513 (congrFun hρ 100) rfl rfl hMM rfl (Nat.le_of_ble_eq_true rfl) (by show d + 1 ≤ 2048; omega) (by show 19 + 2 + 40 * d ≤ 84000; omega) hr.1 hr.2 (fun v ad9 K9 hp2 => ?_) (fun E ad9 K9 hp2 => ?_)
    · obtain ⟨bv, w, m', h9, hcv, rfl, rfl, hk0, hw, hN⟩ := hpost _ _ _ hp2
      cases h9
      obtain ⟨u, rfl, rfl⟩ := hcv
      refine az_istore C (lv' := [(6, .int u), (5, .int k9), (4, .int (nI i)), (3, .ref (ρ.1 90)), (2, .ref (ρ.1 100)), (1, .ref (ρ.1 0)), (0, .ref b)]) dL_law_516 (by decide) rfl ?_
      refine az_aload_n C 4 dL_law_518 rfl ?_
      have gT := Mthrown (ρ := ρ') (x := x') (m := m') (ou := ou') hG
      rw [congrFun hρ 100] at gT
      refine az_callV C Y_X4_thrown cX4 2 0 [] [] wm_L_159 wi_X4_thrown wse_X4_thrown dL_law_519 (congrFun hρ 100) rfl rfl gT rfl (Nat.le_of_ble_eq_true rfl) (Nat.le_of_ble_eq_true rfl) (Nat.le_of_ble_eq_true rfl) hr.1 hr.2 (az_k1 rfl rfl ?_) (az_k0 rfl)
      refine az_top k9 hk0 ?_
      refine az_iload C 1 dL_law_522 rfl ?_
      refine az_icmp_eq C 529 dL_law_524 (by decide) (fun _ => ?_) (fun q => absurd rfl q)
      refine az_iload C 1 dL_law_529 rfl ?_
      have fin : az_W l G 9 Q p e room_1 s mm args below meth cd (AD ρ') (KK G ρ' x' m' ou') (kB c ρ + mc + 0 + 0) (nB c ρ + ms + 0 + 0) 546 [(6, .int u), (5, .int k9), (4, .int (nI i)), (3, .ref (ρ.1 90)), (2, .ref (ρ.1 100)), (1, .ref (ρ.1 0)), (0, .ref b)] [] := by
        refine az_goto C 2935 dL_law_546 (by decide) ?_
        exact az_lv [2, 3, 4, 5, 6] rfl (az_kn _ _ hn.1 hn.2 (kk ρ' x' m' ou' (congrFun hρ 0) (congrFun hρ 100) (congrFun hρ 90) hN))
      refine az_if_ne C 546 dL_law_531 (by decide) (fun _ => fin) (fun h0 => ?_)
      refine az_aload_n C 3 dL_law_534 rfl ?_
      refine az_iconst C (v := 0) dL_law_535 (by decide) ?_
      refine az_lald C (N := 1) (f := ou') 3 0 dL_law_536 (congrFun hρ 90) KK_3 vi_01 ?_
      refine az_iload C 0 dL_law_537 rfl ?_
      refine az_i2l C dL_law_539 ?_
      refine az_lcmp C dL_law_540 ?_
      refine az_top 0 (by rw [show ou' (0 : Int32).toNatClampNeg = u.toInt64 from hw h0]; exact lgc_self _) ?_
      exact az_if_eq C 546 dL_law_541 (by decide) (fun _ => fin) (fun q => absurd rfl q)
    · obtain ⟨_, _, _, h9, _⟩ := hpost _ _ _ hp2
      cases h9
  · obtain ⟨_, _, _, _, h9, _⟩ := hp
    cases h9
set_option maxHeartbeats 4000000 in
set_option maxRecDepth 100000 in
theorem L_levelOf (C : az_C l G p s mm args meth cd cL_law RL 9 (some FieldType.boolean) tab) (hG : az_okS l G) (S : lwS G b L xs s) (hi : i + 6 ≤ L) {c : Nat} (hc : c < 512) (h : Nx c ρ x m) (e0 : ρ.1 0 = qx) (e1 : ρ.1 100 = qm) (e2 : ρ.1 90 = qo) (kk : lwN l G Q p e s mm args below meth cd b i qx qm qo c) : az_W l G 9 Q p e room_1 s mm args below meth cd (AD ρ) (KK G ρ x m ou) (kB c ρ) (nB c ρ) 549 (lvL b i qx qm qo) [] := by
  subst e0; subst e1; subst e2
  refine az_aload_n C 3 dL_law_549 rfl ?_
  refine az_arg C (i := i) (j := 1) (z0 := 4) (z4 := 0) S dL_law_550 dL_law_551 dL_law_553 dL_law_554 dL_law_555 rfl rfl rfl (by omega) ?_
  refine az_aload_n C 1 dL_law_556 rfl ?_
  obtain ⟨mc, ms, hgm, hM⟩ := H_levelOf hG (xs (i + 1)) (O_levelOf hG hc h (xs (i + 1))) ou
  have hr := room_k hgm hc
  refine az_callH C Y_L_levelOf [.ref (ρ.1 0), .int (xs (i + 1)), .ref (ρ.1 90)] [] wm_L_176 wst_L_levelOf dL_law_557 rfl hM rfl (Nat.le_of_ble_eq_true rfl) (Nat.le_of_ble_eq_true rfl) (Nat.le_of_ble_eq_true rfl) hr.1 hr.2 (fun v ad9 K9 hp => ?_) (fun E ad9 K9 hp => ?_)
  · obtain ⟨k9, ρ', x', ou', h9, rfl, rfl, hρ, hgr, d, hd, post, hMM, hpost⟩ := hp
    cases h9
    rw [congrFun hρ 100] at hMM
    have hn := room_n (c := c) hgr
    refine az_istore C (lv' := [(5, .int k9), (4, .int (nI i)), (3, .ref (ρ.1 90)), (2, .ref (ρ.1 100)), (1, .ref (ρ.1 0)), (0, .ref b)]) dL_law_560 (by decide) rfl ?_
    refine az_aload_n C 3 dL_law_562 rfl ?_
    refine az_arg C (i := i) (j := 1) (z0 := 5) (z4 := 1) S dL_law_563 dL_law_564 dL_law_566 dL_law_567 dL_law_568 rfl rfl rfl (by omega) ?_
    refine az_callV C Y_X4_levelOf cX4 2 0 [.int (xs (i + 1))] [] wm_L_178 wi_X4_levelOf wse_X4_levelOf dL_law_569 (congrFun hρ 100) rfl rfl hMM rfl (Nat.le_of_ble_eq_true rfl) (by show d + 1 ≤ 2048; omega) (by show 19 + 2 + 40 * d ≤ 84000; omega) hr.1 hr.2 (fun v ad9 K9 hp2 => ?_) (fun E ad9 K9 hp2 => ?_)
    · obtain ⟨bv, w, m', h9, hcv, rfl, rfl, hk0, hw, hN⟩ := hpost _ _ _ hp2
      cases h9
      obtain ⟨u, rfl, rfl⟩ := hcv
      refine az_istore C (lv' := [(6, .int u), (5, .int k9), (4, .int (nI i)), (3, .ref (ρ.1 90)), (2, .ref (ρ.1 100)), (1, .ref (ρ.1 0)), (0, .ref b)]) dL_law_572 (by decide) rfl ?_
      refine az_aload_n C 4 dL_law_574 rfl ?_
      have gT := Mthrown (ρ := ρ') (x := x') (m := m') (ou := ou') hG
      rw [congrFun hρ 100] at gT
      refine az_callV C Y_X4_thrown cX4 2 0 [] [] wm_L_159 wi_X4_thrown wse_X4_thrown dL_law_575 (congrFun hρ 100) rfl rfl gT rfl (Nat.le_of_ble_eq_true rfl) (Nat.le_of_ble_eq_true rfl) (Nat.le_of_ble_eq_true rfl) hr.1 hr.2 (az_k1 rfl rfl ?_) (az_k0 rfl)
      refine az_top k9 hk0 ?_
      refine az_iload C 1 dL_law_578 rfl ?_
      refine az_icmp_eq C 585 dL_law_580 (by decide) (fun _ => ?_) (fun q => absurd rfl q)
      refine az_iload C 1 dL_law_585 rfl ?_
      have fin : az_W l G 9 Q p e room_1 s mm args below meth cd (AD ρ') (KK G ρ' x' m' ou') (kB c ρ + mc + 0 + 0) (nB c ρ + ms + 0 + 0) 602 [(6, .int u), (5, .int k9), (4, .int (nI i)), (3, .ref (ρ.1 90)), (2, .ref (ρ.1 100)), (1, .ref (ρ.1 0)), (0, .ref b)] [] := by
        refine az_goto C 2935 dL_law_602 (by decide) ?_
        exact az_lv [2, 3, 4, 5, 6] rfl (az_kn _ _ hn.1 hn.2 (kk ρ' x' m' ou' (congrFun hρ 0) (congrFun hρ 100) (congrFun hρ 90) hN))
      refine az_if_ne C 602 dL_law_587 (by decide) (fun _ => fin) (fun h0 => ?_)
      refine az_aload_n C 3 dL_law_590 rfl ?_
      refine az_iconst C (v := 0) dL_law_591 (by decide) ?_
      refine az_lald C (N := 1) (f := ou') 3 0 dL_law_592 (congrFun hρ 90) KK_3 vi_01 ?_
      refine az_iload C 0 dL_law_593 rfl ?_
      refine az_i2l C dL_law_595 ?_
      refine az_lcmp C dL_law_596 ?_
      refine az_top 0 (by rw [show ou' (0 : Int32).toNatClampNeg = u.toInt64 from hw h0]; exact lgc_self _) ?_
      exact az_if_eq C 602 dL_law_597 (by decide) (fun _ => fin) (fun q => absurd rfl q)
    · obtain ⟨_, _, _, h9, _⟩ := hpost _ _ _ hp2
      cases h9
  · obtain ⟨_, _, _, _, h9, _⟩ := hp
    cases h9
set_option maxHeartbeats 4000000 in
set_option maxRecDepth 100000 in
theorem L_lockfulOf (C : az_C l G p s mm args meth cd cL_law RL 9 (some FieldType.boolean) tab) (hG : az_okS l G) (S : lwS G b L xs s) (hi : i + 6 ≤ L) {c : Nat} (hc : c < 512) (h : Nx c ρ x m) (e0 : ρ.1 0 = qx) (e1 : ρ.1 100 = qm) (e2 : ρ.1 90 = qo) (kk : lwN l G Q p e s mm args below meth cd b i qx qm qo c) : az_W l G 9 Q p e room_1 s mm args below meth cd (AD ρ) (KK G ρ x m ou) (kB c ρ) (nB c ρ) 605 (lvL b i qx qm qo) [] := by
  subst e0; subst e1; subst e2
  refine az_aload_n C 3 dL_law_605 rfl ?_
  refine az_arg C (i := i) (j := 1) (z0 := 4) (z4 := 0) S dL_law_606 dL_law_607 dL_law_609 dL_law_610 dL_law_611 rfl rfl rfl (by omega) ?_
  refine az_aload_n C 1 dL_law_612 rfl ?_
  obtain ⟨mc, ms, hgm, hM⟩ := H_lockfulOf hG (xs (i + 1)) (O_lockfulOf hG hc h (xs (i + 1))) ou
  have hr := room_k hgm hc
  refine az_callH C Y_L_lockfulOf [.ref (ρ.1 0), .int (xs (i + 1)), .ref (ρ.1 90)] [] wm_L_179 wst_L_lockfulOf dL_law_613 rfl hM rfl (Nat.le_of_ble_eq_true rfl) (Nat.le_of_ble_eq_true rfl) (Nat.le_of_ble_eq_true rfl) hr.1 hr.2 (fun v ad9 K9 hp => ?_) (fun E ad9 K9 hp => ?_)
  · obtain ⟨k9, ρ', x', ou', h9, rfl, rfl, hρ, hgr, d, hd, post, hMM, hpost⟩ := hp
    cases h9
    rw [congrFun hρ 100] at hMM
    have hn := room_n (c := c) hgr
    refine az_istore C (lv' := [(5, .int k9), (4, .int (nI i)), (3, .ref (ρ.1 90)), (2, .ref (ρ.1 100)), (1, .ref (ρ.1 0)), (0, .ref b)]) dL_law_616 (by decide) rfl ?_
    refine az_aload_n C 3 dL_law_618 rfl ?_
    refine az_arg C (i := i) (j := 1) (z0 := 5) (z4 := 1) S dL_law_619 dL_law_620 dL_law_622 dL_law_623 dL_law_624 rfl rfl rfl (by omega) ?_
    refine az_callV C Y_X4_lockfulOf cX4 2 0 [.int (xs (i + 1))] [] wm_L_181 wi_X4_lockfulOf wse_X4_lockfulOf dL_law_625 (congrFun hρ 100) rfl rfl hMM rfl (Nat.le_of_ble_eq_true rfl) (by show d + 1 ≤ 2048; omega) (by show 19 + 2 + 40 * d ≤ 84000; omega) hr.1 hr.2 (fun v ad9 K9 hp2 => ?_) (fun E ad9 K9 hp2 => ?_)
    · obtain ⟨bv, w, m', h9, hcv, rfl, rfl, hk0, hw, hN⟩ := hpost _ _ _ hp2
      cases h9
      obtain ⟨u, rfl, rfl⟩ := hcv
      refine az_istore C (lv' := [(6, .int u), (5, .int k9), (4, .int (nI i)), (3, .ref (ρ.1 90)), (2, .ref (ρ.1 100)), (1, .ref (ρ.1 0)), (0, .ref b)]) dL_law_628 (by decide) rfl ?_
      refine az_aload_n C 4 dL_law_630 rfl ?_
      have gT := Mthrown (ρ := ρ') (x := x') (m := m') (ou := ou') hG
      rw [congrFun hρ 100] at gT
      refine az_callV C Y_X4_thrown cX4 2 0 [] [] wm_L_159 wi_X4_thrown wse_X4_thrown dL_law_631 (congrFun hρ 100) rfl rfl gT rfl (Nat.le_of_ble_eq_true rfl) (Nat.le_of_ble_eq_true rfl) (Nat.le_of_ble_eq_true rfl) hr.1 hr.2 (az_k1 rfl rfl ?_) (az_k0 rfl)
      refine az_top k9 hk0 ?_
      refine az_iload C 1 dL_law_634 rfl ?_
      refine az_icmp_eq C 641 dL_law_636 (by decide) (fun _ => ?_) (fun q => absurd rfl q)
      refine az_iload C 1 dL_law_641 rfl ?_
      have fin : az_W l G 9 Q p e room_1 s mm args below meth cd (AD ρ') (KK G ρ' x' m' ou') (kB c ρ + mc + 0 + 0) (nB c ρ + ms + 0 + 0) 658 [(6, .int u), (5, .int k9), (4, .int (nI i)), (3, .ref (ρ.1 90)), (2, .ref (ρ.1 100)), (1, .ref (ρ.1 0)), (0, .ref b)] [] := by
        refine az_goto C 2935 dL_law_658 (by decide) ?_
        exact az_lv [2, 3, 4, 5, 6] rfl (az_kn _ _ hn.1 hn.2 (kk ρ' x' m' ou' (congrFun hρ 0) (congrFun hρ 100) (congrFun hρ 90) hN))
      refine az_if_ne C 658 dL_law_643 (by decide) (fun _ => fin) (fun h0 => ?_)
      refine az_aload_n C 3 dL_law_646 rfl ?_
      refine az_iconst C (v := 0) dL_law_647 (by decide) ?_
      refine az_lald C (N := 1) (f := ou') 3 0 dL_law_648 (congrFun hρ 90) KK_3 vi_01 ?_
      refine az_iload C 0 dL_law_649 rfl ?_
      refine az_i2l C dL_law_651 ?_
      refine az_lcmp C dL_law_652 ?_
      refine az_top 0 (by rw [show ou' (0 : Int32).toNatClampNeg = u.toInt64 from hw h0]; exact lgc_self _) ?_
      exact az_if_eq C 658 dL_law_653 (by decide) (fun _ => fin) (fun q => absurd rfl q)
    · obtain ⟨_, _, _, h9, _⟩ := hpost _ _ _ hp2
      cases h9
  · obtain ⟨_, _, _, _, h9, _⟩ := hp
    cases h9
set_option maxHeartbeats 4000000 in
set_option maxRecDepth 100000 in
theorem L_lengthOf (C : az_C l G p s mm args meth cd cL_law RL 9 (some FieldType.boolean) tab) (hG : az_okS l G) (S : lwS G b L xs s) (hi : i + 6 ≤ L) {c : Nat} (hc : c < 512) (h : Nx c ρ x m) (e0 : ρ.1 0 = qx) (e1 : ρ.1 100 = qm) (e2 : ρ.1 90 = qo) (kk : lwN l G Q p e s mm args below meth cd b i qx qm qo c) : az_W l G 9 Q p e room_1 s mm args below meth cd (AD ρ) (KK G ρ x m ou) (kB c ρ) (nB c ρ) 661 (lvL b i qx qm qo) [] := by
  subst e0; subst e1; subst e2
  refine az_aload_n C 3 dL_law_661 rfl ?_
  refine az_arg C (i := i) (j := 1) (z0 := 4) (z4 := 0) S dL_law_662 dL_law_663 dL_law_665 dL_law_666 dL_law_667 rfl rfl rfl (by omega) ?_
  refine az_aload_n C 1 dL_law_668 rfl ?_
  obtain ⟨mc, ms, hgm, hM⟩ := H_lengthOf hG (xs (i + 1)) (O_lengthOf hG hc h (xs (i + 1))) ou
  have hr := room_k hgm hc
  refine az_callH C Y_L_lengthOf [.ref (ρ.1 0), .int (xs (i + 1)), .ref (ρ.1 90)] [] wm_L_182 wst_L_lengthOf dL_law_669 rfl hM rfl (Nat.le_of_ble_eq_true rfl) (Nat.le_of_ble_eq_true rfl) (Nat.le_of_ble_eq_true rfl) hr.1 hr.2 (fun v ad9 K9 hp => ?_) (fun E ad9 K9 hp => ?_)
  · obtain ⟨k9, ρ', x', ou', h9, rfl, rfl, hρ, hgr, d, hd, post, hMM, hpost⟩ := hp
    cases h9
    rw [congrFun hρ 100] at hMM
    have hn := room_n (c := c) hgr
    refine az_istore C (lv' := [(5, .int k9), (4, .int (nI i)), (3, .ref (ρ.1 90)), (2, .ref (ρ.1 100)), (1, .ref (ρ.1 0)), (0, .ref b)]) dL_law_672 (by decide) rfl ?_
    refine az_aload_n C 3 dL_law_674 rfl ?_
    refine az_arg C (i := i) (j := 1) (z0 := 5) (z4 := 1) S dL_law_675 dL_law_676 dL_law_678 dL_law_679 dL_law_680 rfl rfl rfl (by omega) ?_
    refine az_callV C Y_X4_lengthOf cX4 2 0 [.int (xs (i + 1))] [] wm_L_184 wi_X4_lengthOf wse_X4_lengthOf dL_law_681 (congrFun hρ 100) rfl rfl hMM rfl (Nat.le_of_ble_eq_true rfl) (by show d + 1 ≤ 2048; omega) (by show 19 + 2 + 40 * d ≤ 84000; omega) hr.1 hr.2 (fun v ad9 K9 hp2 => ?_) (fun E ad9 K9 hp2 => ?_)
    · obtain ⟨bv, w, m', h9, hcv, rfl, rfl, hk0, hw, hN⟩ := hpost _ _ _ hp2
      cases h9
      obtain ⟨u, rfl, rfl⟩ := hcv
      refine az_istore C (lv' := [(6, .int u), (5, .int k9), (4, .int (nI i)), (3, .ref (ρ.1 90)), (2, .ref (ρ.1 100)), (1, .ref (ρ.1 0)), (0, .ref b)]) dL_law_684 (by decide) rfl ?_
      refine az_aload_n C 4 dL_law_686 rfl ?_
      have gT := Mthrown (ρ := ρ') (x := x') (m := m') (ou := ou') hG
      rw [congrFun hρ 100] at gT
      refine az_callV C Y_X4_thrown cX4 2 0 [] [] wm_L_159 wi_X4_thrown wse_X4_thrown dL_law_687 (congrFun hρ 100) rfl rfl gT rfl (Nat.le_of_ble_eq_true rfl) (Nat.le_of_ble_eq_true rfl) (Nat.le_of_ble_eq_true rfl) hr.1 hr.2 (az_k1 rfl rfl ?_) (az_k0 rfl)
      refine az_top k9 hk0 ?_
      refine az_iload C 1 dL_law_690 rfl ?_
      refine az_icmp_eq C 697 dL_law_692 (by decide) (fun _ => ?_) (fun q => absurd rfl q)
      refine az_iload C 1 dL_law_697 rfl ?_
      have fin : az_W l G 9 Q p e room_1 s mm args below meth cd (AD ρ') (KK G ρ' x' m' ou') (kB c ρ + mc + 0 + 0) (nB c ρ + ms + 0 + 0) 714 [(6, .int u), (5, .int k9), (4, .int (nI i)), (3, .ref (ρ.1 90)), (2, .ref (ρ.1 100)), (1, .ref (ρ.1 0)), (0, .ref b)] [] := by
        refine az_goto C 2935 dL_law_714 (by decide) ?_
        exact az_lv [2, 3, 4, 5, 6] rfl (az_kn _ _ hn.1 hn.2 (kk ρ' x' m' ou' (congrFun hρ 0) (congrFun hρ 100) (congrFun hρ 90) hN))
      refine az_if_ne C 714 dL_law_699 (by decide) (fun _ => fin) (fun h0 => ?_)
      refine az_aload_n C 3 dL_law_702 rfl ?_
      refine az_iconst C (v := 0) dL_law_703 (by decide) ?_
      refine az_lald C (N := 1) (f := ou') 3 0 dL_law_704 (congrFun hρ 90) KK_3 vi_01 ?_
      refine az_iload C 0 dL_law_705 rfl ?_
      refine az_i2l C dL_law_707 ?_
      refine az_lcmp C dL_law_708 ?_
      refine az_top 0 (by rw [show ou' (0 : Int32).toNatClampNeg = u.toInt64 from hw h0]; exact lgc_self _) ?_
      exact az_if_eq C 714 dL_law_709 (by decide) (fun _ => fin) (fun q => absurd rfl q)
    · obtain ⟨_, _, _, h9, _⟩ := hpost _ _ _ hp2
      cases h9
  · obtain ⟨_, _, _, _, h9, _⟩ := hp
    cases h9
set_option maxHeartbeats 4000000 in
set_option maxRecDepth 100000 in
theorem L_sillOf (C : az_C l G p s mm args meth cd cL_law RL 9 (some FieldType.boolean) tab) (hG : az_okS l G) (S : lwS G b L xs s) (hi : i + 6 ≤ L) {c : Nat} (hc : c < 512) (h : Nx c ρ x m) (e0 : ρ.1 0 = qx) (e1 : ρ.1 100 = qm) (e2 : ρ.1 90 = qo) (kk : lwN l G Q p e s mm args below meth cd b i qx qm qo c) : az_W l G 9 Q p e room_1 s mm args below meth cd (AD ρ) (KK G ρ x m ou) (kB c ρ) (nB c ρ) 717 (lvL b i qx qm qo) [] := by
  subst e0; subst e1; subst e2
  refine az_aload_n C 3 dL_law_717 rfl ?_
  refine az_arg C (i := i) (j := 1) (z0 := 4) (z4 := 0) S dL_law_718 dL_law_719 dL_law_721 dL_law_722 dL_law_723 rfl rfl rfl (by omega) ?_
  refine az_aload_n C 1 dL_law_724 rfl ?_
  obtain ⟨mc, ms, hgm, hM⟩ := H_sillOf hG (xs (i + 1)) (O_sillOf hG hc h (xs (i + 1))) ou
  have hr := room_k hgm hc
  refine az_callH C Y_L_sillOf [.ref (ρ.1 0), .int (xs (i + 1)), .ref (ρ.1 90)] [] wm_L_185 wst_L_sillOf dL_law_725 rfl hM rfl (Nat.le_of_ble_eq_true rfl) (Nat.le_of_ble_eq_true rfl) (Nat.le_of_ble_eq_true rfl) hr.1 hr.2 (fun v ad9 K9 hp => ?_) (fun E ad9 K9 hp => ?_)
  · obtain ⟨k9, ρ', x', ou', h9, rfl, rfl, hρ, hgr, d, hd, post, hMM, hpost⟩ := hp
    cases h9
    rw [congrFun hρ 100] at hMM
    have hn := room_n (c := c) hgr
    refine az_istore C (lv' := [(5, .int k9), (4, .int (nI i)), (3, .ref (ρ.1 90)), (2, .ref (ρ.1 100)), (1, .ref (ρ.1 0)), (0, .ref b)]) dL_law_728 (by decide) rfl ?_
    refine az_aload_n C 3 dL_law_730 rfl ?_
    refine az_arg C (i := i) (j := 1) (z0 := 5) (z4 := 1) S dL_law_731 dL_law_732 dL_law_734 dL_law_735 dL_law_736 rfl rfl rfl (by omega) ?_
    refine az_callV C Y_X4_sillOf cX4 2 0 [.int (xs (i + 1))] [] wm_L_187 wi_X4_sillOf wse_X4_sillOf dL_law_737 (congrFun hρ 100) rfl rfl hMM rfl (Nat.le_of_ble_eq_true rfl) (by show d + 1 ≤ 2048; omega) (by show 19 + 2 + 40 * d ≤ 84000; omega) hr.1 hr.2 (fun v ad9 K9 hp2 => ?_) (fun E ad9 K9 hp2 => ?_)
    · obtain ⟨bv, w, m', h9, hcv, rfl, rfl, hk0, hw, hN⟩ := hpost _ _ _ hp2
      cases h9
      obtain ⟨u, rfl, rfl⟩ := hcv
      refine az_istore C (lv' := [(6, .int u), (5, .int k9), (4, .int (nI i)), (3, .ref (ρ.1 90)), (2, .ref (ρ.1 100)), (1, .ref (ρ.1 0)), (0, .ref b)]) dL_law_740 (by decide) rfl ?_
      refine az_aload_n C 4 dL_law_742 rfl ?_
      have gT := Mthrown (ρ := ρ') (x := x') (m := m') (ou := ou') hG
      rw [congrFun hρ 100] at gT
      refine az_callV C Y_X4_thrown cX4 2 0 [] [] wm_L_159 wi_X4_thrown wse_X4_thrown dL_law_743 (congrFun hρ 100) rfl rfl gT rfl (Nat.le_of_ble_eq_true rfl) (Nat.le_of_ble_eq_true rfl) (Nat.le_of_ble_eq_true rfl) hr.1 hr.2 (az_k1 rfl rfl ?_) (az_k0 rfl)
      refine az_top k9 hk0 ?_
      refine az_iload C 1 dL_law_746 rfl ?_
      refine az_icmp_eq C 753 dL_law_748 (by decide) (fun _ => ?_) (fun q => absurd rfl q)
      refine az_iload C 1 dL_law_753 rfl ?_
      have fin : az_W l G 9 Q p e room_1 s mm args below meth cd (AD ρ') (KK G ρ' x' m' ou') (kB c ρ + mc + 0 + 0) (nB c ρ + ms + 0 + 0) 770 [(6, .int u), (5, .int k9), (4, .int (nI i)), (3, .ref (ρ.1 90)), (2, .ref (ρ.1 100)), (1, .ref (ρ.1 0)), (0, .ref b)] [] := by
        refine az_goto C 2935 dL_law_770 (by decide) ?_
        exact az_lv [2, 3, 4, 5, 6] rfl (az_kn _ _ hn.1 hn.2 (kk ρ' x' m' ou' (congrFun hρ 0) (congrFun hρ 100) (congrFun hρ 90) hN))
      refine az_if_ne C 770 dL_law_755 (by decide) (fun _ => fin) (fun h0 => ?_)
      refine az_aload_n C 3 dL_law_758 rfl ?_
      refine az_iconst C (v := 0) dL_law_759 (by decide) ?_
      refine az_lald C (N := 1) (f := ou') 3 0 dL_law_760 (congrFun hρ 90) KK_3 vi_01 ?_
      refine az_iload C 0 dL_law_761 rfl ?_
      refine az_i2l C dL_law_763 ?_
      refine az_lcmp C dL_law_764 ?_
      refine az_top 0 (by rw [show ou' (0 : Int32).toNatClampNeg = u.toInt64 from hw h0]; exact lgc_self _) ?_
      exact az_if_eq C 770 dL_law_765 (by decide) (fun _ => fin) (fun q => absurd rfl q)
    · obtain ⟨_, _, _, h9, _⟩ := hpost _ _ _ hp2
      cases h9
  · obtain ⟨_, _, _, _, h9, _⟩ := hp
    cases h9
set_option maxHeartbeats 4000000 in
set_option maxRecDepth 100000 in
theorem L_isFull (C : az_C l G p s mm args meth cd cL_law RL 9 (some FieldType.boolean) tab) (hG : az_okS l G) (S : lwS G b L xs s) (hi : i + 6 ≤ L) {c : Nat} (hc : c < 512) (h : Nx c ρ x m) (e0 : ρ.1 0 = qx) (e1 : ρ.1 100 = qm) (e2 : ρ.1 90 = qo) (kk : lwN l G Q p e s mm args below meth cd b i qx qm qo c) : az_W l G 9 Q p e room_1 s mm args below meth cd (AD ρ) (KK G ρ x m ou) (kB c ρ) (nB c ρ) 773 (lvL b i qx qm qo) [] := by
  subst e0; subst e1; subst e2
  refine az_aload_n C 3 dL_law_773 rfl ?_
  refine az_arg C (i := i) (j := 1) (z0 := 4) (z4 := 0) S dL_law_774 dL_law_775 dL_law_777 dL_law_778 dL_law_779 rfl rfl rfl (by omega) ?_
  refine az_aload_n C 1 dL_law_780 rfl ?_
  obtain ⟨mc, ms, hgm, hM⟩ := H_isFull hG (xs (i + 1)) (O_isFull hG hc h (xs (i + 1))) ou
  have hr := room_k hgm hc
  refine az_callH C Y_L_isFull [.ref (ρ.1 0), .int (xs (i + 1)), .ref (ρ.1 90)] [] wm_L_188 wst_L_isFull dL_law_781 rfl hM rfl (Nat.le_of_ble_eq_true rfl) (Nat.le_of_ble_eq_true rfl) (Nat.le_of_ble_eq_true rfl) hr.1 hr.2 (fun v ad9 K9 hp => ?_) (fun E ad9 K9 hp => ?_)
  · obtain ⟨k9, ρ', x', ou', h9, rfl, rfl, hρ, hgr, d, hd, post, hMM, hpost⟩ := hp
    cases h9
    rw [congrFun hρ 100] at hMM
    have hn := room_n (c := c) hgr
    refine az_istore C (lv' := [(5, .int k9), (4, .int (nI i)), (3, .ref (ρ.1 90)), (2, .ref (ρ.1 100)), (1, .ref (ρ.1 0)), (0, .ref b)]) dL_law_784 (by decide) rfl ?_
    refine az_aload_n C 3 dL_law_786 rfl ?_
    refine az_arg C (i := i) (j := 1) (z0 := 5) (z4 := 1) S dL_law_787 dL_law_788 dL_law_790 dL_law_791 dL_law_792 rfl rfl rfl (by omega) ?_
    refine az_callV C Y_X4_isFull cX4 2 0 [.int (xs (i + 1))] [] wm_L_190 wi_X4_isFull wse_X4_isFull dL_law_793 (congrFun hρ 100) rfl rfl hMM rfl (Nat.le_of_ble_eq_true rfl) (by show d + 1 ≤ 2048; omega) (by show 19 + 2 + 40 * d ≤ 84000; omega) hr.1 hr.2 (fun v ad9 K9 hp2 => ?_) (fun E ad9 K9 hp2 => ?_)
    · obtain ⟨bv, w, m', h9, hcv, rfl, rfl, hk0, hw, hN⟩ := hpost _ _ _ hp2
      cases h9
      obtain ⟨u, rfl, rfl⟩ := hcv
      refine az_istore C (lv' := [(6, .int u), (5, .int k9), (4, .int (nI i)), (3, .ref (ρ.1 90)), (2, .ref (ρ.1 100)), (1, .ref (ρ.1 0)), (0, .ref b)]) dL_law_796 (by decide) rfl ?_
      refine az_aload_n C 4 dL_law_798 rfl ?_
      have gT := Mthrown (ρ := ρ') (x := x') (m := m') (ou := ou') hG
      rw [congrFun hρ 100] at gT
      refine az_callV C Y_X4_thrown cX4 2 0 [] [] wm_L_159 wi_X4_thrown wse_X4_thrown dL_law_799 (congrFun hρ 100) rfl rfl gT rfl (Nat.le_of_ble_eq_true rfl) (Nat.le_of_ble_eq_true rfl) (Nat.le_of_ble_eq_true rfl) hr.1 hr.2 (az_k1 rfl rfl ?_) (az_k0 rfl)
      refine az_top k9 hk0 ?_
      refine az_iload C 1 dL_law_802 rfl ?_
      refine az_icmp_eq C 809 dL_law_804 (by decide) (fun _ => ?_) (fun q => absurd rfl q)
      refine az_iload C 1 dL_law_809 rfl ?_
      have fin : az_W l G 9 Q p e room_1 s mm args below meth cd (AD ρ') (KK G ρ' x' m' ou') (kB c ρ + mc + 0 + 0) (nB c ρ + ms + 0 + 0) 833 [(6, .int u), (5, .int k9), (4, .int (nI i)), (3, .ref (ρ.1 90)), (2, .ref (ρ.1 100)), (1, .ref (ρ.1 0)), (0, .ref b)] [] := by
        refine az_goto C 2935 dL_law_833 (by decide) ?_
        exact az_lv [2, 3, 4, 5, 6] rfl (az_kn _ _ hn.1 hn.2 (kk ρ' x' m' ou' (congrFun hρ 0) (congrFun hρ 100) (congrFun hρ 90) hN))
      refine az_if_ne C 833 dL_law_811 (by decide) (fun _ => fin) (fun h0 => ?_)
      refine az_aload_n C 3 dL_law_814 rfl ?_
      refine az_iconst C (v := 0) dL_law_815 (by decide) ?_
      refine az_lald C (N := 1) (f := ou') 3 0 dL_law_816 (congrFun hρ 90) KK_3 vi_01 ?_
      refine az_iload C 0 dL_law_817 rfl ?_
      refine az_if_eq C 826 dL_law_819 (by decide) (fun z => ?_) (fun z => ?_)
      · refine az_lconst C (v := 0) dL_law_826 (by decide) ?_
        refine az_lcmp C dL_law_827 ?_
        refine az_top 0 (by rw [show ou' (0 : Int32).toNatClampNeg = 0 from (hw h0).trans (if_pos z)]; exact lgc_self _) ?_
        exact az_if_eq C 833 dL_law_828 (by decide) (fun _ => fin) (fun q => absurd rfl q)
      · refine az_lconst C (v := 1) dL_law_822 (by decide) ?_
        refine az_goto C 827 dL_law_823 (by decide) ?_
        refine az_lcmp C dL_law_827 ?_
        refine az_top 0 (by rw [show ou' (0 : Int32).toNatClampNeg = 1 from (hw h0).trans (if_neg z)]; exact lgc_self _) ?_
        exact az_if_eq C 833 dL_law_828 (by decide) (fun _ => fin) (fun q => absurd rfl q)
    · obtain ⟨_, _, _, h9, _⟩ := hpost _ _ _ hp2
      cases h9
  · obtain ⟨_, _, _, _, h9, _⟩ := hp
    cases h9
set_option maxHeartbeats 4000000 in
set_option maxRecDepth 100000 in
theorem L_turn (C : az_C l G p s mm args meth cd cL_law RL 9 (some FieldType.boolean) tab) (hG : az_okS l G) (S : lwS G b L xs s) (hi : i + 6 ≤ L) {c : Nat} (hc : c < 512) (h : Nx c ρ x m) (e0 : ρ.1 0 = qx) (e1 : ρ.1 100 = qm) (e2 : ρ.1 90 = qo) (kk : lwN l G Q p e s mm args below meth cd b i qx qm qo c) : az_W l G 9 Q p e room_1 s mm args below meth cd (AD ρ) (KK G ρ x m ou) (kB c ρ) (nB c ρ) 836 (lvL b i qx qm qo) [] := by
  subst e0; subst e1; subst e2
  refine az_aload_n C 3 dL_law_836 rfl ?_
  refine az_arg C (i := i) (j := 1) (z0 := 4) (z4 := 0) S dL_law_837 dL_law_838 dL_law_840 dL_law_841 dL_law_842 rfl rfl rfl (by omega) ?_
  refine az_aload_n C 1 dL_law_843 rfl ?_
  obtain ⟨mc, ms, hgm, hM⟩ := H_turn hG (xs (i + 1)) (O_turn hG hc h (xs (i + 1))) ou
  have hr := room_k hgm hc
  refine az_callH C Y_L_turn [.ref (ρ.1 0), .int (xs (i + 1)), .ref (ρ.1 90)] [] wm_L_191 wst_L_turn dL_law_844 rfl hM rfl (Nat.le_of_ble_eq_true rfl) (Nat.le_of_ble_eq_true rfl) (Nat.le_of_ble_eq_true rfl) hr.1 hr.2 (fun v ad9 K9 hp => ?_) (fun E ad9 K9 hp => ?_)
  · obtain ⟨k9, ρ', x', ou', h9, rfl, rfl, hρ, hgr, d, hd, post, hMM, hpost⟩ := hp
    cases h9
    rw [congrFun hρ 100] at hMM
    have hn := room_n (c := c) hgr
    refine az_istore C (lv' := [(5, .int k9), (4, .int (nI i)), (3, .ref (ρ.1 90)), (2, .ref (ρ.1 100)), (1, .ref (ρ.1 0)), (0, .ref b)]) dL_law_847 (by decide) rfl ?_
    refine az_aload_n C 3 dL_law_849 rfl ?_
    refine az_arg C (i := i) (j := 1) (z0 := 5) (z4 := 1) S dL_law_850 dL_law_851 dL_law_853 dL_law_854 dL_law_855 rfl rfl rfl (by omega) ?_
    refine az_callV C Y_X4_turn cX4 2 0 [.int (xs (i + 1))] [] wm_L_193 wi_X4_turn wse_X4_turn dL_law_856 (congrFun hρ 100) rfl rfl hMM rfl (Nat.le_of_ble_eq_true rfl) (by show d + 1 ≤ 2048; omega) (by show 19 + 2 + 40 * d ≤ 84000; omega) hr.1 hr.2 (fun v ad9 K9 hp2 => ?_) (fun E ad9 K9 hp2 => ?_)
    · obtain ⟨bv, w, m', h9, hcv, rfl, rfl, hk0, hw, hN⟩ := hpost _ _ _ hp2
      cases h9
      obtain ⟨u, rfl, rfl⟩ := hcv
      refine az_istore C (lv' := [(6, .int u), (5, .int k9), (4, .int (nI i)), (3, .ref (ρ.1 90)), (2, .ref (ρ.1 100)), (1, .ref (ρ.1 0)), (0, .ref b)]) dL_law_859 (by decide) rfl ?_
      refine az_aload_n C 4 dL_law_861 rfl ?_
      have gT := Mthrown (ρ := ρ') (x := x') (m := m') (ou := ou') hG
      rw [congrFun hρ 100] at gT
      refine az_callV C Y_X4_thrown cX4 2 0 [] [] wm_L_159 wi_X4_thrown wse_X4_thrown dL_law_862 (congrFun hρ 100) rfl rfl gT rfl (Nat.le_of_ble_eq_true rfl) (Nat.le_of_ble_eq_true rfl) (Nat.le_of_ble_eq_true rfl) hr.1 hr.2 (az_k1 rfl rfl ?_) (az_k0 rfl)
      refine az_top k9 hk0 ?_
      refine az_iload C 1 dL_law_865 rfl ?_
      refine az_icmp_eq C 872 dL_law_867 (by decide) (fun _ => ?_) (fun q => absurd rfl q)
      refine az_iload C 1 dL_law_872 rfl ?_
      have fin : az_W l G 9 Q p e room_1 s mm args below meth cd (AD ρ') (KK G ρ' x' m' ou') (kB c ρ + mc + 0 + 0) (nB c ρ + ms + 0 + 0) 896 [(6, .int u), (5, .int k9), (4, .int (nI i)), (3, .ref (ρ.1 90)), (2, .ref (ρ.1 100)), (1, .ref (ρ.1 0)), (0, .ref b)] [] := by
        refine az_goto C 2935 dL_law_896 (by decide) ?_
        exact az_lv [2, 3, 4, 5, 6] rfl (az_kn _ _ hn.1 hn.2 (kk ρ' x' m' ou' (congrFun hρ 0) (congrFun hρ 100) (congrFun hρ 90) hN))
      refine az_if_ne C 896 dL_law_874 (by decide) (fun _ => fin) (fun h0 => ?_)
      refine az_aload_n C 3 dL_law_877 rfl ?_
      refine az_iconst C (v := 0) dL_law_878 (by decide) ?_
      refine az_lald C (N := 1) (f := ou') 3 0 dL_law_879 (congrFun hρ 90) KK_3 vi_01 ?_
      refine az_iload C 0 dL_law_880 rfl ?_
      refine az_if_eq C 889 dL_law_882 (by decide) (fun z => ?_) (fun z => ?_)
      · refine az_lconst C (v := 0) dL_law_889 (by decide) ?_
        refine az_lcmp C dL_law_890 ?_
        refine az_top 0 (by rw [show ou' (0 : Int32).toNatClampNeg = 0 from (hw h0).trans (if_pos z)]; exact lgc_self _) ?_
        exact az_if_eq C 896 dL_law_891 (by decide) (fun _ => fin) (fun q => absurd rfl q)
      · refine az_lconst C (v := 1) dL_law_885 (by decide) ?_
        refine az_goto C 890 dL_law_886 (by decide) ?_
        refine az_lcmp C dL_law_890 ?_
        refine az_top 0 (by rw [show ou' (0 : Int32).toNatClampNeg = 1 from (hw h0).trans (if_neg z)]; exact lgc_self _) ?_
        exact az_if_eq C 896 dL_law_891 (by decide) (fun _ => fin) (fun q => absurd rfl q)
    · obtain ⟨_, _, _, h9, _⟩ := hpost _ _ _ hp2
      cases h9
  · obtain ⟨_, _, _, _, h9, _⟩ := hp
    cases h9
set_option maxHeartbeats 4000000 in
set_option maxRecDepth 100000 in
theorem L_waterThrough (C : az_C l G p s mm args meth cd cL_law RL 9 (some FieldType.boolean) tab) (hG : az_okS l G) (S : lwS G b L xs s) (hi : i + 6 ≤ L) {c : Nat} (hc : c < 512) (h : Nx c ρ x m) (e0 : ρ.1 0 = qx) (e1 : ρ.1 100 = qm) (e2 : ρ.1 90 = qo) (kk : lwN l G Q p e s mm args below meth cd b i qx qm qo c) : az_W l G 9 Q p e room_1 s mm args below meth cd (AD ρ) (KK G ρ x m ou) (kB c ρ) (nB c ρ) 899 (lvL b i qx qm qo) [] := by
  subst e0; subst e1; subst e2
  refine az_aload_n C 3 dL_law_899 rfl ?_
  refine az_arg C (i := i) (j := 1) (z0 := 4) (z4 := 0) S dL_law_900 dL_law_901 dL_law_903 dL_law_904 dL_law_905 rfl rfl rfl (by omega) ?_
  refine az_aload_n C 1 dL_law_906 rfl ?_
  obtain ⟨mc, ms, hgm, hM⟩ := H_waterThrough hG (xs (i + 1)) (O_waterThrough hG hc h (xs (i + 1))) ou
  have hr := room_k hgm hc
  refine az_callH C Y_L_waterThrough [.ref (ρ.1 0), .int (xs (i + 1)), .ref (ρ.1 90)] [] wm_L_194 wst_L_waterThrough dL_law_907 rfl hM rfl (Nat.le_of_ble_eq_true rfl) (Nat.le_of_ble_eq_true rfl) (Nat.le_of_ble_eq_true rfl) hr.1 hr.2 (fun v ad9 K9 hp => ?_) (fun E ad9 K9 hp => ?_)
  · obtain ⟨k9, ρ', x', ou', h9, rfl, rfl, hρ, hgr, d, hd, post, hMM, hpost⟩ := hp
    cases h9
    rw [congrFun hρ 100] at hMM
    have hn := room_n (c := c) hgr
    refine az_istore C (lv' := [(5, .int k9), (4, .int (nI i)), (3, .ref (ρ.1 90)), (2, .ref (ρ.1 100)), (1, .ref (ρ.1 0)), (0, .ref b)]) dL_law_910 (by decide) rfl ?_
    refine az_aload_n C 3 dL_law_912 rfl ?_
    refine az_arg C (i := i) (j := 1) (z0 := 5) (z4 := 1) S dL_law_913 dL_law_914 dL_law_916 dL_law_917 dL_law_918 rfl rfl rfl (by omega) ?_
    refine az_callV C Y_X4_waterThrough cX4 2 0 [.int (xs (i + 1))] [] wm_L_196 wi_X4_waterThrough wse_X4_waterThrough dL_law_919 (congrFun hρ 100) rfl rfl hMM rfl (Nat.le_of_ble_eq_true rfl) (by show d + 1 ≤ 2048; omega) (by show 19 + 2 + 40 * d ≤ 84000; omega) hr.1 hr.2 (fun v ad9 K9 hp2 => ?_) (fun E ad9 K9 hp2 => ?_)
    · obtain ⟨bv, w, m', h9, hcv, rfl, rfl, hk0, hw, hN⟩ := hpost _ _ _ hp2
      cases h9
      obtain ⟨u, rfl, rfl⟩ := hcv
      refine az_istore C (lv' := [(6, .int u), (5, .int k9), (4, .int (nI i)), (3, .ref (ρ.1 90)), (2, .ref (ρ.1 100)), (1, .ref (ρ.1 0)), (0, .ref b)]) dL_law_922 (by decide) rfl ?_
      refine az_aload_n C 4 dL_law_924 rfl ?_
      have gT := Mthrown (ρ := ρ') (x := x') (m := m') (ou := ou') hG
      rw [congrFun hρ 100] at gT
      refine az_callV C Y_X4_thrown cX4 2 0 [] [] wm_L_159 wi_X4_thrown wse_X4_thrown dL_law_925 (congrFun hρ 100) rfl rfl gT rfl (Nat.le_of_ble_eq_true rfl) (Nat.le_of_ble_eq_true rfl) (Nat.le_of_ble_eq_true rfl) hr.1 hr.2 (az_k1 rfl rfl ?_) (az_k0 rfl)
      refine az_top k9 hk0 ?_
      refine az_iload C 1 dL_law_928 rfl ?_
      refine az_icmp_eq C 935 dL_law_930 (by decide) (fun _ => ?_) (fun q => absurd rfl q)
      refine az_iload C 1 dL_law_935 rfl ?_
      have fin : az_W l G 9 Q p e room_1 s mm args below meth cd (AD ρ') (KK G ρ' x' m' ou') (kB c ρ + mc + 0 + 0) (nB c ρ + ms + 0 + 0) 952 [(6, .int u), (5, .int k9), (4, .int (nI i)), (3, .ref (ρ.1 90)), (2, .ref (ρ.1 100)), (1, .ref (ρ.1 0)), (0, .ref b)] [] := by
        refine az_goto C 2935 dL_law_952 (by decide) ?_
        exact az_lv [2, 3, 4, 5, 6] rfl (az_kn _ _ hn.1 hn.2 (kk ρ' x' m' ou' (congrFun hρ 0) (congrFun hρ 100) (congrFun hρ 90) hN))
      refine az_if_ne C 952 dL_law_937 (by decide) (fun _ => fin) (fun h0 => ?_)
      refine az_aload_n C 3 dL_law_940 rfl ?_
      refine az_iconst C (v := 0) dL_law_941 (by decide) ?_
      refine az_lald C (N := 1) (f := ou') 3 0 dL_law_942 (congrFun hρ 90) KK_3 vi_01 ?_
      refine az_iload C 0 dL_law_943 rfl ?_
      refine az_i2l C dL_law_945 ?_
      refine az_lcmp C dL_law_946 ?_
      refine az_top 0 (by rw [show ou' (0 : Int32).toNatClampNeg = u.toInt64 from hw h0]; exact lgc_self _) ?_
      exact az_if_eq C 952 dL_law_947 (by decide) (fun _ => fin) (fun q => absurd rfl q)
    · obtain ⟨_, _, _, h9, _⟩ := hpost _ _ _ hp2
      cases h9
  · obtain ⟨_, _, _, _, h9, _⟩ := hp
    cases h9
set_option maxHeartbeats 4000000 in
set_option maxRecDepth 100000 in
theorem L_rain (C : az_C l G p s mm args meth cd cL_law RL 9 (some FieldType.boolean) tab) (hG : az_okS l G) (S : lwS G b L xs s) (hi : i + 6 ≤ L) {c : Nat} (hc : c < 512) (h : Nx c ρ x m) (e0 : ρ.1 0 = qx) (e1 : ρ.1 100 = qm) (e2 : ρ.1 90 = qo) (kk : lwN l G Q p e s mm args below meth cd b i qx qm qo c) : az_W l G 9 Q p e room_1 s mm args below meth cd (AD ρ) (KK G ρ x m ou) (kB c ρ) (nB c ρ) 955 (lvL b i qx qm qo) [] := by
  subst e0; subst e1; subst e2
  refine az_aload_n C 3 dL_law_955 rfl ?_
  refine az_arg C (i := i) (j := 1) (z0 := 4) (z4 := 0) S dL_law_956 dL_law_957 dL_law_959 dL_law_960 dL_law_961 rfl rfl rfl (by omega) ?_
  refine az_arg C (i := i) (j := 2) (z0 := 4) (z4 := 0) S dL_law_962 dL_law_963 dL_law_965 dL_law_966 dL_law_967 rfl rfl rfl (by omega) ?_
  refine az_aload_n C 1 dL_law_968 rfl ?_
  obtain ⟨mc, ms, hgm, hM⟩ := H_rain hG (xs (i + 1)) (xs (i + 2)) (O_rain hG hc h (xs (i + 1)) (xs (i + 2))) ou
  have hr := room_k hgm hc
  refine az_callH C Y_L_rain [.ref (ρ.1 0), .int (xs (i + 1)), .int (xs (i + 2)), .ref (ρ.1 90)] [] wm_L_197 wst_L_rain dL_law_969 rfl hM rfl (Nat.le_of_ble_eq_true rfl) (Nat.le_of_ble_eq_true rfl) (Nat.le_of_ble_eq_true rfl) hr.1 hr.2 (fun v ad9 K9 hp => ?_) (fun E ad9 K9 hp => ?_)
  · obtain ⟨k9, ρ', x', ou', h9, rfl, rfl, hρ, hgr, d, hd, post, hMM, hpost⟩ := hp
    cases h9
    rw [congrFun hρ 100] at hMM
    have hn := room_n (c := c) hgr
    refine az_istore C (lv' := [(5, .int k9), (4, .int (nI i)), (3, .ref (ρ.1 90)), (2, .ref (ρ.1 100)), (1, .ref (ρ.1 0)), (0, .ref b)]) dL_law_972 (by decide) rfl ?_
    refine az_aload_n C 3 dL_law_974 rfl ?_
    refine az_arg C (i := i) (j := 1) (z0 := 5) (z4 := 1) S dL_law_975 dL_law_976 dL_law_978 dL_law_979 dL_law_980 rfl rfl rfl (by omega) ?_
    refine az_arg C (i := i) (j := 2) (z0 := 5) (z4 := 1) S dL_law_981 dL_law_982 dL_law_984 dL_law_985 dL_law_986 rfl rfl rfl (by omega) ?_
    refine az_callV C Y_X4_rain cX4 2 0 [.int (xs (i + 1)), .int (xs (i + 2))] [] wm_L_200 wi_X4_rain wse_X4_rain dL_law_987 (congrFun hρ 100) rfl rfl hMM rfl (Nat.le_of_ble_eq_true rfl) (by show d + 1 ≤ 2048; omega) (by show 19 + 4 + 40 * d ≤ 84000; omega) hr.1 hr.2 (fun v ad9 K9 hp2 => ?_) (fun E ad9 K9 hp2 => ?_)
    · obtain ⟨bv, w, m', h9, hcv, rfl, rfl, hk0, hw, hN⟩ := hpost _ _ _ hp2
      cases h9
      obtain ⟨u, rfl, rfl⟩ := hcv
      refine az_istore C (lv' := [(6, .int u), (5, .int k9), (4, .int (nI i)), (3, .ref (ρ.1 90)), (2, .ref (ρ.1 100)), (1, .ref (ρ.1 0)), (0, .ref b)]) dL_law_990 (by decide) rfl ?_
      refine az_aload_n C 4 dL_law_992 rfl ?_
      have gT := Mthrown (ρ := ρ') (x := x') (m := m') (ou := ou') hG
      rw [congrFun hρ 100] at gT
      refine az_callV C Y_X4_thrown cX4 2 0 [] [] wm_L_159 wi_X4_thrown wse_X4_thrown dL_law_993 (congrFun hρ 100) rfl rfl gT rfl (Nat.le_of_ble_eq_true rfl) (Nat.le_of_ble_eq_true rfl) (Nat.le_of_ble_eq_true rfl) hr.1 hr.2 (az_k1 rfl rfl ?_) (az_k0 rfl)
      refine az_top k9 hk0 ?_
      refine az_iload C 1 dL_law_996 rfl ?_
      refine az_icmp_eq C 1003 dL_law_998 (by decide) (fun _ => ?_) (fun q => absurd rfl q)
      refine az_iload C 1 dL_law_1003 rfl ?_
      have fin : az_W l G 9 Q p e room_1 s mm args below meth cd (AD ρ') (KK G ρ' x' m' ou') (kB c ρ + mc + 0 + 0) (nB c ρ + ms + 0 + 0) 1020 [(6, .int u), (5, .int k9), (4, .int (nI i)), (3, .ref (ρ.1 90)), (2, .ref (ρ.1 100)), (1, .ref (ρ.1 0)), (0, .ref b)] [] := by
        refine az_goto C 2935 dL_law_1020 (by decide) ?_
        exact az_lv [2, 3, 4, 5, 6] rfl (az_kn _ _ hn.1 hn.2 (kk ρ' x' m' ou' (congrFun hρ 0) (congrFun hρ 100) (congrFun hρ 90) hN))
      refine az_if_ne C 1020 dL_law_1005 (by decide) (fun _ => fin) (fun h0 => ?_)
      refine az_aload_n C 3 dL_law_1008 rfl ?_
      refine az_iconst C (v := 0) dL_law_1009 (by decide) ?_
      refine az_lald C (N := 1) (f := ou') 3 0 dL_law_1010 (congrFun hρ 90) KK_3 vi_01 ?_
      refine az_iload C 0 dL_law_1011 rfl ?_
      refine az_i2l C dL_law_1013 ?_
      refine az_lcmp C dL_law_1014 ?_
      refine az_top 0 (by rw [show ou' (0 : Int32).toNatClampNeg = u.toInt64 from hw h0]; exact lgc_self _) ?_
      exact az_if_eq C 1020 dL_law_1015 (by decide) (fun _ => fin) (fun q => absurd rfl q)
    · obtain ⟨_, _, _, h9, _⟩ := hpost _ _ _ hp2
      cases h9
  · obtain ⟨_, _, _, _, h9, _⟩ := hp
    cases h9
set_option maxHeartbeats 4000000 in
set_option maxRecDepth 100000 in
theorem L_addBarge (C : az_C l G p s mm args meth cd cL_law RL 9 (some FieldType.boolean) tab) (hG : az_okS l G) (S : lwS G b L xs s) (hi : i + 6 ≤ L) {c : Nat} (hc : c < 512) (h : Nx c ρ x m) (e0 : ρ.1 0 = qx) (e1 : ρ.1 100 = qm) (e2 : ρ.1 90 = qo) (kk : lwN l G Q p e s mm args below meth cd b i qx qm qo c) : az_W l G 9 Q p e room_1 s mm args below meth cd (AD ρ) (KK G ρ x m ou) (kB c ρ) (nB c ρ) 1049 (lvL b i qx qm qo) [] := by
  subst e0; subst e1; subst e2
  refine az_aload_n C 3 dL_law_1049 rfl ?_
  refine az_arg C (i := i) (j := 1) (z0 := 4) (z4 := 0) S dL_law_1050 dL_law_1051 dL_law_1053 dL_law_1054 dL_law_1055 rfl rfl rfl (by omega) ?_
  refine az_arg C (i := i) (j := 2) (z0 := 4) (z4 := 0) S dL_law_1056 dL_law_1057 dL_law_1059 dL_law_1060 dL_law_1061 rfl rfl rfl (by omega) ?_
  refine az_arg C (i := i) (j := 3) (z0 := 4) (z4 := 0) S dL_law_1062 dL_law_1063 dL_law_1065 dL_law_1066 dL_law_1067 rfl rfl rfl (by omega) ?_
  refine az_arg C (i := i) (j := 4) (z0 := 4) (z4 := 0) S dL_law_1068 dL_law_1069 dL_law_1071 dL_law_1072 dL_law_1073 rfl rfl rfl (by omega) ?_
  refine az_aload_n C 1 dL_law_1074 rfl ?_
  obtain ⟨mc, ms, hgm, hM⟩ := H_addBarge hG (xs (i + 1)) (xs (i + 2)) (xs (i + 3)) (xs (i + 4)) (O_addBarge hG hc h (xs (i + 1)) (xs (i + 2)) (xs (i + 3)) (xs (i + 4))) ou
  have hr := room_k hgm hc
  refine az_callH C Y_L_addBarge [.ref (ρ.1 0), .int (xs (i + 1)), .int (xs (i + 2)), .int (xs (i + 3)), .int (xs (i + 4)), .ref (ρ.1 90)] [] wm_L_209 wst_L_addBarge dL_law_1075 rfl hM rfl (Nat.le_of_ble_eq_true rfl) (Nat.le_of_ble_eq_true rfl) (Nat.le_of_ble_eq_true rfl) hr.1 hr.2 (fun v ad9 K9 hp => ?_) (fun E ad9 K9 hp => ?_)
  · obtain ⟨k9, ρ', x', ou', h9, rfl, rfl, hρ, hgr, d, hd, post, hMM, hpost⟩ := hp
    cases h9
    rw [congrFun hρ 100] at hMM
    have hn := room_n (c := c) hgr
    refine az_istore C (lv' := [(5, .int k9), (4, .int (nI i)), (3, .ref (ρ.1 90)), (2, .ref (ρ.1 100)), (1, .ref (ρ.1 0)), (0, .ref b)]) dL_law_1078 (by decide) rfl ?_
    refine az_aload_n C 3 dL_law_1080 rfl ?_
    refine az_arg C (i := i) (j := 1) (z0 := 5) (z4 := 1) S dL_law_1081 dL_law_1082 dL_law_1084 dL_law_1085 dL_law_1086 rfl rfl rfl (by omega) ?_
    refine az_arg C (i := i) (j := 2) (z0 := 5) (z4 := 1) S dL_law_1087 dL_law_1088 dL_law_1090 dL_law_1091 dL_law_1092 rfl rfl rfl (by omega) ?_
    refine az_arg C (i := i) (j := 3) (z0 := 5) (z4 := 1) S dL_law_1093 dL_law_1094 dL_law_1096 dL_law_1097 dL_law_1098 rfl rfl rfl (by omega) ?_
    refine az_arg C (i := i) (j := 4) (z0 := 5) (z4 := 1) S dL_law_1099 dL_law_1100 dL_law_1102 dL_law_1103 dL_law_1104 rfl rfl rfl (by omega) ?_
    refine az_callV C Y_X4_addBarge cX4 2 0 [.int (xs (i + 1)), .int (xs (i + 2)), .int (xs (i + 3)), .int (xs (i + 4))] [] wm_L_212 wi_X4_addBarge wse_X4_addBarge dL_law_1105 (congrFun hρ 100) rfl rfl hMM rfl (Nat.le_of_ble_eq_true rfl) (by show d + 1 ≤ 2048; omega) (by show 19 + 5 + 40 * d ≤ 84000; omega) hr.1 hr.2 (fun v ad9 K9 hp2 => ?_) (fun E ad9 K9 hp2 => ?_)
    · obtain ⟨bv, w, m', h9, hcv, rfl, rfl, hk0, hw, hN⟩ := hpost _ _ _ hp2
      cases h9
      obtain ⟨u, rfl, rfl⟩ := hcv
      refine az_istore C (lv' := [(6, .int u), (5, .int k9), (4, .int (nI i)), (3, .ref (ρ.1 90)), (2, .ref (ρ.1 100)), (1, .ref (ρ.1 0)), (0, .ref b)]) dL_law_1108 (by decide) rfl ?_
      refine az_aload_n C 4 dL_law_1110 rfl ?_
      have gT := Mthrown (ρ := ρ') (x := x') (m := m') (ou := ou') hG
      rw [congrFun hρ 100] at gT
      refine az_callV C Y_X4_thrown cX4 2 0 [] [] wm_L_159 wi_X4_thrown wse_X4_thrown dL_law_1111 (congrFun hρ 100) rfl rfl gT rfl (Nat.le_of_ble_eq_true rfl) (Nat.le_of_ble_eq_true rfl) (Nat.le_of_ble_eq_true rfl) hr.1 hr.2 (az_k1 rfl rfl ?_) (az_k0 rfl)
      refine az_top k9 hk0 ?_
      refine az_iload C 1 dL_law_1114 rfl ?_
      refine az_icmp_eq C 1121 dL_law_1116 (by decide) (fun _ => ?_) (fun q => absurd rfl q)
      refine az_iload C 1 dL_law_1121 rfl ?_
      have fin : az_W l G 9 Q p e room_1 s mm args below meth cd (AD ρ') (KK G ρ' x' m' ou') (kB c ρ + mc + 0 + 0) (nB c ρ + ms + 0 + 0) 1138 [(6, .int u), (5, .int k9), (4, .int (nI i)), (3, .ref (ρ.1 90)), (2, .ref (ρ.1 100)), (1, .ref (ρ.1 0)), (0, .ref b)] [] := by
        refine az_goto C 2935 dL_law_1138 (by decide) ?_
        exact az_lv [2, 3, 4, 5, 6] rfl (az_kn _ _ hn.1 hn.2 (kk ρ' x' m' ou' (congrFun hρ 0) (congrFun hρ 100) (congrFun hρ 90) hN))
      refine az_if_ne C 1138 dL_law_1123 (by decide) (fun _ => fin) (fun h0 => ?_)
      refine az_aload_n C 3 dL_law_1126 rfl ?_
      refine az_iconst C (v := 0) dL_law_1127 (by decide) ?_
      refine az_lald C (N := 1) (f := ou') 3 0 dL_law_1128 (congrFun hρ 90) KK_3 vi_01 ?_
      refine az_iload C 0 dL_law_1129 rfl ?_
      refine az_i2l C dL_law_1131 ?_
      refine az_lcmp C dL_law_1132 ?_
      refine az_top 0 (by rw [show ou' (0 : Int32).toNatClampNeg = u.toInt64 from hw h0]; exact lgc_self _) ?_
      exact az_if_eq C 1138 dL_law_1133 (by decide) (fun _ => fin) (fun q => absurd rfl q)
    · obtain ⟨_, _, _, h9, _⟩ := hpost _ _ _ hp2
      cases h9
  · obtain ⟨_, _, _, _, h9, _⟩ := hp
    cases h9
set_option maxHeartbeats 4000000 in
set_option maxRecDepth 100000 in
theorem L_reachOf (C : az_C l G p s mm args meth cd cL_law RL 9 (some FieldType.boolean) tab) (hG : az_okS l G) (S : lwS G b L xs s) (hi : i + 6 ≤ L) {c : Nat} (hc : c < 512) (h : Nx c ρ x m) (e0 : ρ.1 0 = qx) (e1 : ρ.1 100 = qm) (e2 : ρ.1 90 = qo) (kk : lwN l G Q p e s mm args below meth cd b i qx qm qo c) : az_W l G 9 Q p e room_1 s mm args below meth cd (AD ρ) (KK G ρ x m ou) (kB c ρ) (nB c ρ) 1154 (lvL b i qx qm qo) [] := by
  subst e0; subst e1; subst e2
  refine az_aload_n C 3 dL_law_1154 rfl ?_
  refine az_arg C (i := i) (j := 1) (z0 := 4) (z4 := 0) S dL_law_1155 dL_law_1156 dL_law_1158 dL_law_1159 dL_law_1160 rfl rfl rfl (by omega) ?_
  refine az_aload_n C 1 dL_law_1161 rfl ?_
  obtain ⟨mc, ms, hgm, hM⟩ := H_reachOf hG (xs (i + 1)) (O_reachOf hG hc h (xs (i + 1))) ou
  have hr := room_k hgm hc
  refine az_callH C Y_L_reachOf [.ref (ρ.1 0), .int (xs (i + 1)), .ref (ρ.1 90)] [] wm_L_217 wst_L_reachOf dL_law_1162 rfl hM rfl (Nat.le_of_ble_eq_true rfl) (Nat.le_of_ble_eq_true rfl) (Nat.le_of_ble_eq_true rfl) hr.1 hr.2 (fun v ad9 K9 hp => ?_) (fun E ad9 K9 hp => ?_)
  · obtain ⟨k9, ρ', x', ou', h9, rfl, rfl, hρ, hgr, d, hd, post, hMM, hpost⟩ := hp
    cases h9
    rw [congrFun hρ 100] at hMM
    have hn := room_n (c := c) hgr
    refine az_istore C (lv' := [(5, .int k9), (4, .int (nI i)), (3, .ref (ρ.1 90)), (2, .ref (ρ.1 100)), (1, .ref (ρ.1 0)), (0, .ref b)]) dL_law_1165 (by decide) rfl ?_
    refine az_aload_n C 3 dL_law_1167 rfl ?_
    refine az_arg C (i := i) (j := 1) (z0 := 5) (z4 := 1) S dL_law_1168 dL_law_1169 dL_law_1171 dL_law_1172 dL_law_1173 rfl rfl rfl (by omega) ?_
    refine az_callV C Y_X4_reachOf cX4 2 0 [.int (xs (i + 1))] [] wm_L_219 wi_X4_reachOf wse_X4_reachOf dL_law_1174 (congrFun hρ 100) rfl rfl hMM rfl (Nat.le_of_ble_eq_true rfl) (by show d + 1 ≤ 2048; omega) (by show 19 + 2 + 40 * d ≤ 84000; omega) hr.1 hr.2 (fun v ad9 K9 hp2 => ?_) (fun E ad9 K9 hp2 => ?_)
    · obtain ⟨bv, w, m', h9, hcv, rfl, rfl, hk0, hw, hN⟩ := hpost _ _ _ hp2
      cases h9
      obtain ⟨u, rfl, rfl⟩ := hcv
      refine az_istore C (lv' := [(6, .int u), (5, .int k9), (4, .int (nI i)), (3, .ref (ρ.1 90)), (2, .ref (ρ.1 100)), (1, .ref (ρ.1 0)), (0, .ref b)]) dL_law_1177 (by decide) rfl ?_
      refine az_aload_n C 4 dL_law_1179 rfl ?_
      have gT := Mthrown (ρ := ρ') (x := x') (m := m') (ou := ou') hG
      rw [congrFun hρ 100] at gT
      refine az_callV C Y_X4_thrown cX4 2 0 [] [] wm_L_159 wi_X4_thrown wse_X4_thrown dL_law_1180 (congrFun hρ 100) rfl rfl gT rfl (Nat.le_of_ble_eq_true rfl) (Nat.le_of_ble_eq_true rfl) (Nat.le_of_ble_eq_true rfl) hr.1 hr.2 (az_k1 rfl rfl ?_) (az_k0 rfl)
      refine az_top k9 hk0 ?_
      refine az_iload C 1 dL_law_1183 rfl ?_
      refine az_icmp_eq C 1190 dL_law_1185 (by decide) (fun _ => ?_) (fun q => absurd rfl q)
      refine az_iload C 1 dL_law_1190 rfl ?_
      have fin : az_W l G 9 Q p e room_1 s mm args below meth cd (AD ρ') (KK G ρ' x' m' ou') (kB c ρ + mc + 0 + 0) (nB c ρ + ms + 0 + 0) 1207 [(6, .int u), (5, .int k9), (4, .int (nI i)), (3, .ref (ρ.1 90)), (2, .ref (ρ.1 100)), (1, .ref (ρ.1 0)), (0, .ref b)] [] := by
        refine az_goto C 2935 dL_law_1207 (by decide) ?_
        exact az_lv [2, 3, 4, 5, 6] rfl (az_kn _ _ hn.1 hn.2 (kk ρ' x' m' ou' (congrFun hρ 0) (congrFun hρ 100) (congrFun hρ 90) hN))
      refine az_if_ne C 1207 dL_law_1192 (by decide) (fun _ => fin) (fun h0 => ?_)
      refine az_aload_n C 3 dL_law_1195 rfl ?_
      refine az_iconst C (v := 0) dL_law_1196 (by decide) ?_
      refine az_lald C (N := 1) (f := ou') 3 0 dL_law_1197 (congrFun hρ 90) KK_3 vi_01 ?_
      refine az_iload C 0 dL_law_1198 rfl ?_
      refine az_i2l C dL_law_1200 ?_
      refine az_lcmp C dL_law_1201 ?_
      refine az_top 0 (by rw [show ou' (0 : Int32).toNatClampNeg = u.toInt64 from hw h0]; exact lgc_self _) ?_
      exact az_if_eq C 1207 dL_law_1202 (by decide) (fun _ => fin) (fun q => absurd rfl q)
    · obtain ⟨_, _, _, h9, _⟩ := hpost _ _ _ hp2
      cases h9
  · obtain ⟨_, _, _, _, h9, _⟩ := hp
    cases h9
end
