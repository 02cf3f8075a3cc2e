section
variable {l : Launch} {G : az_G} {ρ : Rp} {x : Xs} {m : Mz} {M : Ms} {ou : Nat → Int64} {n nr nb sb : Nat} {cs : List (List Nat)}
theorem nI_le0 {q : Nat} (hq : q < 2 ^ 30) (h : nI q ≤ 0) : q = 0 := by
  rw [i_le, i_nI (by omega), i_0] at h
  omega
theorem bo_300 {q : Nat} (h : 1 ≤ q ∧ q ≤ 300) : (1 ≤ nI q ∧ nI q ≤ 300) ∧ (1 ≤ (nI q).toInt ∧ (nI q).toInt ≤ 300) := by
  have e := i_nI (k := q) (by omega)
  refine ⟨⟨?_, ?_⟩, by omega, by omega⟩
  · rw [i_le, e, i_1]; omega
  · rw [i_le, e, show (300 : Int32).toInt = 300 from rfl]; omega
set_option maxHeartbeats 4000000 in
set_option maxRecDepth 100000 in
theorem WayS (hG : az_okS l G) {p : Program} {e : Env} {s : State} {mm : MethodId} {args : Array Value} {below : List Frame} {meth : Method} {c : Code} {tab : List ExceptionTableEntry} (C : az_C l G p s mm args meth c cL_law RL 14 (Option.some FieldType.boolean) tab) : ∀ {Qx : State → Prop} {c0 : Nat} (hc : c0 ≤ 60) (S : ST c0 ρ x M n nr nb cs) (kb kc kr ka v i : Nat) (w8 : Int32) (hkb : kb < nb) (hkc : kc < nb) (hkr : kr < nr) (hka : 1 ≤ ka ∧ ka ≤ 300) (hv : v < 2 ^ 31)  (k9 n9 : Nat) (hk9 : k9 + 17000 ≤ 600086) (hn9 : n9 + 100000 ≤ 7301442) (hx : ∀ (ρ' : Rp) (x' : Xs) (M' : Ms) (m' : Mz) (n' : Nat) (cs' : List (List Nat)), ρ'.1 0 = ρ.1 0 → ST (c0 + 1) ρ' x' M' n' nr nb cs' → ∀ k8 n8 : Nat, k8 ≤ k9 + 16600 → n8 ≤ n9 + 99600 → az_W l G 14 Qx p e room_1 s mm args below meth c (AD ρ') (KK G ρ' x' m' ou) k8 n8 743 [(10, .int 1), (3, .int (nI i)), (2, .int (nI nr)), (1, .ref (ρ'.1 0)), (0, .ref sb)] []), az_W l G 14 Qx p e room_1 s mm args below meth c (AD ρ) (KK G ρ x m ou) k9 n9 280 [(9, .int (nI ka)), (8, .int w8), (7, .int (nI kr)), (6, .int (nI kc)), (5, .int (nI kb)), (4, .int (nI v)), (3, .int (nI i)), (2, .int (nI nr)), (1, .ref (ρ.1 0)), (0, .ref sb)] [] := by
  intro Qx c0 hc S kb kc kr ka v i w8 hkb hkc hkr hka hv k9 n9 hk9 hn9 hx
  have h := S.1
  have hn6 := h.n6
  have hn1 := h.n1
  have hb8 := h.b8
  refine az_aload_n C 8 dL_law_280 rfl ?_
  refine az_iload C 4 dL_law_281 rfl ?_
  refine az_iload C 2 dL_law_283 rfl ?_
  refine az_callS C Y_L_sails [.ref (ρ.1 0), .int (nI kb), .int (nI kr)] [] wm_L_280 wst_L_sails dL_law_285 rfl (sails_ok (ρ := ρ) (x := x) (m := m) (ou := ou) hG hc S hkb hkr) rfl (Nat.le_of_ble_eq_true rfl) (Nat.le_of_ble_eq_true rfl) (Nat.le_of_ble_eq_true rfl) (by show _ ≤ 600086; omega) (by show _ ≤ 7301442; omega) ?_ (by rintro E ad9 K9 ⟨_, _, _, _, _, _, h9, -⟩; cases h9)
  rintro v9 ad9 K9 ⟨ρ1, x1, M1, m1, n1, cs1, h9, rfl, rfl, e0, S1⟩
  cases h9
  rw [← e0]
  refine az_istore C (lv' := [(10, .int 1), (9, .int (nI ka)), (8, .int w8), (7, .int (nI kr)), (6, .int (nI kc)), (5, .int (nI kb)), (4, .int (nI v)), (3, .int (nI i)), (2, .int (nI nr)), (1, .ref (ρ1.1 0)), (0, .ref sb)]) dL_law_288 (by decide) rfl ?_
  refine az_goto C 743 dL_law_290 (by decide) ?_
  exact az_lv [0, 7, 8, 9, 10] rfl (hx ρ1 _ _ _ _ _ e0 S1 _ _ (by omega) (by omega))

set_option maxHeartbeats 4000000 in
set_option maxRecDepth 100000 in
theorem WayP (hG : az_okS l G) {p : Program} {e : Env} {s : State} {mm : MethodId} {args : Array Value} {below : List Frame} {meth : Method} {c : Code} {tab : List ExceptionTableEntry} (C : az_C l G p s mm args meth c cL_law RL 14 (Option.some FieldType.boolean) tab) : ∀ {Qx : State → Prop} {c0 : Nat} (hc : c0 ≤ 60) (S : ST c0 ρ x M n nr nb cs) (kb kc kr ka v i : Nat) (w8 : Int32) (hkb : kb < nb) (hkc : kc < nb) (hkr : kr < nr) (hka : 1 ≤ ka ∧ ka ≤ 300) (hv : v < 2 ^ 31)  (k9 n9 : Nat) (hk9 : k9 + 17000 ≤ 600086) (hn9 : n9 + 100000 ≤ 7301442) (hx : ∀ (ρ' : Rp) (x' : Xs) (M' : Ms) (m' : Mz) (n' : Nat) (cs' : List (List Nat)), ρ'.1 0 = ρ.1 0 → ST (c0 + 1) ρ' x' M' n' nr nb cs' → ∀ k8 n8 : Nat, k8 ≤ k9 + 16600 → n8 ≤ n9 + 99600 → az_W l G 14 Qx p e room_1 s mm args below meth c (AD ρ') (KK G ρ' x' m' ou) k8 n8 743 [(10, .int 1), (3, .int (nI i)), (2, .int (nI nr)), (1, .ref (ρ'.1 0)), (0, .ref sb)] []), az_W l G 14 Qx p e room_1 s mm args below meth c (AD ρ) (KK G ρ x m ou) k9 n9 300 [(9, .int (nI ka)), (8, .int w8), (7, .int (nI kr)), (6, .int (nI kc)), (5, .int (nI kb)), (4, .int (nI v)), (3, .int (nI i)), (2, .int (nI nr)), (1, .ref (ρ.1 0)), (0, .ref sb)] [] := by
  intro Qx c0 hc S kb kc kr ka v i w8 hkb hkc hkr hka hv k9 n9 hk9 hn9 hx
  have h := S.1
  have hn6 := h.n6
  have hn1 := h.n1
  have hb8 := h.b8
  refine az_aload_n C 8 dL_law_300 rfl ?_
  refine az_iload C 4 dL_law_301 rfl ?_
  refine az_iload C 5 dL_law_303 rfl ?_
  refine az_bipush C (v := 64) dL_law_305 (by decide) ?_
  refine az_idiv C dL_law_307 (by decide) ?_
  refine az_top (nI (v / 64)) (div_nI (q := 64) (by omega) (by decide) (by decide)) ?_
  refine az_iconst C (v := 2) dL_law_308 (by decide) ?_
  refine az_irem C dL_law_309 (by decide) ?_
  refine az_top (nI (v / 64 % 2)) (rem_nI (q := 2) (by omega) (by decide) (by decide)) ?_
  refine az_if_ne C 317 dL_law_310 (by decide) (fun c1 => ?_) (fun c1 => ?_)
  · refine az_iconst C (v := 0) dL_law_317 (by decide) ?_
    refine az_callS C Y_L_passes [.ref (ρ.1 0), .int (nI kb), .int 0] [] wm_L_284 wst_L_passes dL_law_318 rfl (passes_ok (ρ := ρ) (x := x) (m := m) (ou := ou) hG hc S hkb 0 (Or.inl rfl)) rfl (Nat.le_of_ble_eq_true rfl) (Nat.le_of_ble_eq_true rfl) (Nat.le_of_ble_eq_true rfl) (by show _ ≤ 600086; omega) (by show _ ≤ 7301442; omega) ?_ (by rintro E ad9 K9 ⟨_, _, _, _, _, _, h9, -⟩; cases h9)
    rintro v9 ad9 K9 ⟨ρ1, x1, M1, m1, n1, cs1, h9, rfl, rfl, e0, S1⟩
    cases h9
    rw [← e0]
    refine az_istore C (lv' := [(10, .int 1), (9, .int (nI ka)), (8, .int w8), (7, .int (nI kr)), (6, .int (nI kc)), (5, .int (nI kb)), (4, .int (nI v)), (3, .int (nI i)), (2, .int (nI nr)), (1, .ref (ρ1.1 0)), (0, .ref sb)]) dL_law_321 (by decide) rfl ?_
    refine az_goto C 743 dL_law_323 (by decide) ?_
    exact az_lv [0, 7, 8, 9, 10] rfl (hx ρ1 _ _ _ _ _ e0 S1 _ _ (by omega) (by omega))
  · refine az_iconst C (v := 1) dL_law_313 (by decide) ?_
    refine az_goto C 318 dL_law_314 (by decide) ?_
    refine az_callS C Y_L_passes [.ref (ρ.1 0), .int (nI kb), .int 1] [] wm_L_284 wst_L_passes dL_law_318 rfl (passes_ok (ρ := ρ) (x := x) (m := m) (ou := ou) hG hc S hkb 1 (Or.inr rfl)) rfl (Nat.le_of_ble_eq_true rfl) (Nat.le_of_ble_eq_true rfl) (Nat.le_of_ble_eq_true rfl) (by show _ ≤ 600086; omega) (by show _ ≤ 7301442; omega) ?_ (by rintro E ad9 K9 ⟨_, _, _, _, _, _, h9, -⟩; cases h9)
    rintro v9 ad9 K9 ⟨ρ1, x1, M1, m1, n1, cs1, h9, rfl, rfl, e0, S1⟩
    cases h9
    rw [← e0]
    refine az_istore C (lv' := [(10, .int 1), (9, .int (nI ka)), (8, .int w8), (7, .int (nI kr)), (6, .int (nI kc)), (5, .int (nI kb)), (4, .int (nI v)), (3, .int (nI i)), (2, .int (nI nr)), (1, .ref (ρ1.1 0)), (0, .ref sb)]) dL_law_321 (by decide) rfl ?_
    refine az_goto C 743 dL_law_323 (by decide) ?_
    exact az_lv [0, 7, 8, 9, 10] rfl (hx ρ1 _ _ _ _ _ e0 S1 _ _ (by omega) (by omega))

set_option maxHeartbeats 4000000 in
set_option maxRecDepth 100000 in
theorem WayC (hG : az_okS l G) {p : Program} {e : Env} {s : State} {mm : MethodId} {args : Array Value} {below : List Frame} {meth : Method} {c : Code} {tab : List ExceptionTableEntry} (C : az_C l G p s mm args meth c cL_law RL 14 (Option.some FieldType.boolean) tab) : ∀ {Qx : State → Prop} {c0 : Nat} (hc : c0 ≤ 60) (S : ST c0 ρ x M n nr nb cs) (kb kc kr ka v i : Nat) (w8 : Int32) (hkb : kb < nb) (hkc : kc < nb) (hkr : kr < nr) (hka : 1 ≤ ka ∧ ka ≤ 300) (hv : v < 2 ^ 31)  (k9 n9 : Nat) (hk9 : k9 + 17000 ≤ 600086) (hn9 : n9 + 100000 ≤ 7301442) (hx : ∀ (ρ' : Rp) (x' : Xs) (M' : Ms) (m' : Mz) (n' : Nat) (cs' : List (List Nat)), ρ'.1 0 = ρ.1 0 → ST (c0 + 1) ρ' x' M' n' nr nb cs' → ∀ k8 n8 : Nat, k8 ≤ k9 + 16600 → n8 ≤ n9 + 99600 → az_W l G 14 Qx p e room_1 s mm args below meth c (AD ρ') (KK G ρ' x' m' ou) k8 n8 743 [(10, .int 1), (3, .int (nI i)), (2, .int (nI nr)), (1, .ref (ρ'.1 0)), (0, .ref sb)] []), az_W l G 14 Qx p e room_1 s mm args below meth c (AD ρ) (KK G ρ x m ou) k9 n9 333 [(9, .int (nI ka)), (8, .int w8), (7, .int (nI kr)), (6, .int (nI kc)), (5, .int (nI kb)), (4, .int (nI v)), (3, .int (nI i)), (2, .int (nI nr)), (1, .ref (ρ.1 0)), (0, .ref sb)] [] := by
  intro Qx c0 hc S kb kc kr ka v i w8 hkb hkc hkr hka hv k9 n9 hk9 hn9 hx
  have h := S.1
  have hn6 := h.n6
  have hn1 := h.n1
  have hb8 := h.b8
  obtain ⟨rlb, fb, tb, rb, a1, a2, a3, a4, a5, hrb, lb4, ndb, hcb, hqb, hatb, hsb⟩ := h.voy hkb
  have hib : kb ∈ fb :: tb := a2.2.2.2.2.2.2.2
  have hatb := hatb kb hib
  obtain ⟨rlc, fc, tc, rc, z1, z2, z3, z4, z5, hrc, lc4, ndc, hcc, hqc, hatc, hsc⟩ := h.voy hkc
  have hic : kc ∈ fc :: tc := z2.2.2.2.2.2.2.2
  have hatc := hatc kc hic
  refine az_aload_n C 8 dL_law_333 rfl ?_
  refine az_iload C 4 dL_law_334 rfl ?_
  refine az_callH C Y_L_convoySize [.ref (ρ.1 0), .int (nI kb)] [] wm_L_209 wst_L_convoySize dL_law_336 rfl (S_convoySize (ρ := ρ) (x := x) (m := m) (ou := ou) hG (by omega) S hkb hcb hib hrb hatb) rfl (Nat.le_of_ble_eq_true rfl) (Nat.le_of_ble_eq_true rfl) (Nat.le_of_ble_eq_true rfl) (by show _ ≤ 600086; omega) (by show _ ≤ 7301442; omega) (az_k1 rfl rfl ?_) (az_k0 rfl)
  refine az_aload_n C 8 dL_law_339 rfl ?_
  refine az_iload C 3 dL_law_340 rfl ?_
  refine az_callH C Y_L_convoySize [.ref (ρ.1 0), .int (nI kc)] [.int ((nI (tb.length + 1)))] wm_L_209 wst_L_convoySize dL_law_342 rfl (S_convoySize (ρ := ρ) (x := x) (m := m) (ou := ou) hG (by omega) S hkc hcc hic hrc hatc) rfl (Nat.le_of_ble_eq_true rfl) (Nat.le_of_ble_eq_true rfl) (Nat.le_of_ble_eq_true rfl) (by show _ ≤ 600086; omega) (by show _ ≤ 7301442; omega) (az_k1 rfl rfl ?_) (az_k0 rfl)
  refine az_iadd C dL_law_345 ?_
  refine az_istore C (lv' := [(11, .int (((nI (tb.length + 1)) + (nI (tc.length + 1))))), (9, .int (nI ka)), (8, .int w8), (7, .int (nI kr)), (6, .int (nI kc)), (5, .int (nI kb)), (4, .int (nI v)), (3, .int (nI i)), (2, .int (nI nr)), (1, .ref (ρ.1 0)), (0, .ref sb)]) dL_law_346 (by decide) rfl ?_
  refine az_aload_n C 9 dL_law_348 rfl ?_
  refine az_iload C 5 dL_law_349 rfl ?_
  refine az_iload C 4 dL_law_351 rfl ?_
  obtain ⟨mc1, ms1, hm1, hm2, hP1⟩ := couple_ok (m := m) (ou := ou) hG S hkb hkc hcb hib hrb hatb hcc hic hrc hatc
  refine az_callH C Y_L_couple [.ref (ρ.1 0), .int (nI kb), .int (nI kc)] [] wm_L_288 wst_L_couple dL_law_353 rfl (hP1) rfl (Nat.le_of_ble_eq_true rfl) (Nat.le_of_ble_eq_true rfl) (Nat.le_of_ble_eq_true rfl) (by show _ ≤ 600086; omega) (by show _ ≤ 7301442; omega) ?_ (by rintro E ad9 K9 ⟨_, _, _, h9, -⟩; cases h9)
  rintro v9 ad9 K9 ⟨ρ1, x1, v1, h9, rfl, rfl, e0, M1, cs1, S1, hP⟩
  cases h9
  rw [← e0]
  refine az_istore C (lv' := [(12, .int v1), (11, .int (((nI (tb.length + 1)) + (nI (tc.length + 1))))), (9, .int (nI ka)), (8, .int w8), (7, .int (nI kr)), (6, .int (nI kc)), (5, .int (nI kb)), (4, .int (nI v)), (3, .int (nI i)), (2, .int (nI nr)), (1, .ref (ρ1.1 0)), (0, .ref sb)]) dL_law_356 (by decide) rfl ?_
  refine az_iload C 0 dL_law_358 rfl ?_
  refine az_if_lt C 381 dL_law_360 (by decide) (fun c1 => ?_) (fun c1 => ?_)
  · refine az_iconst C (v := 1) dL_law_381 (by decide) ?_
    refine az_goto C 386 dL_law_382 (by decide) ?_
    refine az_istore C (lv' := [(10, .int 1), (12, .int v1), (11, .int (((nI (tb.length + 1)) + (nI (tc.length + 1))))), (9, .int (nI ka)), (8, .int w8), (7, .int (nI kr)), (6, .int (nI kc)), (5, .int (nI kb)), (4, .int (nI v)), (3, .int (nI i)), (2, .int (nI nr)), (1, .ref (ρ1.1 0)), (0, .ref sb)]) dL_law_386 (by decide) rfl ?_
    refine az_goto C 743 dL_law_388 (by decide) ?_
    exact az_lv [0, 9, 10, 11, 12] rfl (hx ρ1 _ _ _ _ _ e0 (S1.le (Nat.le_succ c0)) _ _ (by omega) (by omega))
  · obtain ⟨-, hv1, f1, t1, hc1, hb1, ha1, hl1⟩ := hP.resolve_left c1
    refine az_iload C 0 dL_law_363 rfl ?_
    refine az_iload C 1 dL_law_365 rfl ?_
    refine az_icmp_ne C 385 dL_law_367 (by decide) (fun q => absurd hv1 q) (fun _ => ?_)
    refine az_aload_n C 10 dL_law_370 rfl ?_
    refine az_iload C 5 dL_law_371 rfl ?_
    refine az_callH C Y_L_convoySize [.ref (ρ1.1 0), .int (nI kc)] [] wm_L_209 wst_L_convoySize dL_law_373 rfl (S_convoySize (ρ := ρ1) (x := x1) (m := m) (ou := ou) hG (by omega) S1 hkc hc1 hb1 hrc ha1) rfl (Nat.le_of_ble_eq_true rfl) (Nat.le_of_ble_eq_true rfl) (Nat.le_of_ble_eq_true rfl) (by show _ ≤ 600086; omega) (by show _ ≤ 7301442; omega) (az_k1 rfl rfl ?_) (az_k0 rfl)
    refine az_iload C 1 dL_law_376 rfl ?_
    refine az_icmp_ne C 385 dL_law_378 (by decide) (fun q => absurd (by rw [nI_ad9, hl1]) q) (fun _ => ?_)
    refine az_iconst C (v := 1) dL_law_381 (by decide) ?_
    refine az_goto C 386 dL_law_382 (by decide) ?_
    refine az_istore C (lv' := [(10, .int 1), (12, .int v1), (11, .int (((nI (tb.length + 1)) + (nI (tc.length + 1))))), (9, .int (nI ka)), (8, .int w8), (7, .int (nI kr)), (6, .int (nI kc)), (5, .int (nI kb)), (4, .int (nI v)), (3, .int (nI i)), (2, .int (nI nr)), (1, .ref (ρ1.1 0)), (0, .ref sb)]) dL_law_386 (by decide) rfl ?_
    refine az_goto C 743 dL_law_388 (by decide) ?_
    exact az_lv [0, 9, 10, 11, 12] rfl (hx ρ1 _ _ _ _ _ e0 (S1.le (Nat.le_succ c0)) _ _ (by omega) (by omega))

set_option maxHeartbeats 4000000 in
set_option maxRecDepth 100000 in
theorem WayU (hG : az_okS l G) {p : Program} {e : Env} {s : State} {mm : MethodId} {args : Array Value} {below : List Frame} {meth : Method} {c : Code} {tab : List ExceptionTableEntry} (C : az_C l G p s mm args meth c cL_law RL 14 (Option.some FieldType.boolean) tab) : ∀ {Qx : State → Prop} {c0 : Nat} (hc : c0 ≤ 60) (S : ST c0 ρ x M n nr nb cs) (kb kc kr ka v i : Nat) (w8 : Int32) (hkb : kb < nb) (hkc : kc < nb) (hkr : kr < nr) (hka : 1 ≤ ka ∧ ka ≤ 300) (hv : v < 2 ^ 31)  (k9 n9 : Nat) (hk9 : k9 + 17000 ≤ 600086) (hn9 : n9 + 100000 ≤ 7301442) (hx : ∀ (ρ' : Rp) (x' : Xs) (M' : Ms) (m' : Mz) (n' : Nat) (cs' : List (List Nat)), ρ'.1 0 = ρ.1 0 → ST (c0 + 1) ρ' x' M' n' nr nb cs' → ∀ k8 n8 : Nat, k8 ≤ k9 + 16600 → n8 ≤ n9 + 99600 → az_W l G 14 Qx p e room_1 s mm args below meth c (AD ρ') (KK G ρ' x' m' ou) k8 n8 743 [(10, .int 1), (3, .int (nI i)), (2, .int (nI nr)), (1, .ref (ρ'.1 0)), (0, .ref sb)] []), az_W l G 14 Qx p e room_1 s mm args below meth c (AD ρ) (KK G ρ x m ou) k9 n9 398 [(9, .int (nI ka)), (8, .int w8), (7, .int (nI kr)), (6, .int (nI kc)), (5, .int (nI kb)), (4, .int (nI v)), (3, .int (nI i)), (2, .int (nI nr)), (1, .ref (ρ.1 0)), (0, .ref sb)] [] := by
  intro Qx c0 hc S kb kc kr ka v i w8 hkb hkc hkr hka hv k9 n9 hk9 hn9 hx
  have h := S.1
  have hn6 := h.n6
  have hn1 := h.n1
  have hb8 := h.b8
  obtain ⟨rlb, fb, tb, rb, a1, a2, a3, a4, a5, hrb, lb4, ndb, hcb, hqb, hatb, hsb⟩ := h.voy hkb
  have hib : kb ∈ fb :: tb := a2.2.2.2.2.2.2.2
  have hatb := hatb kb hib
  refine az_aload_n C 8 dL_law_398 rfl ?_
  refine az_iload C 4 dL_law_399 rfl ?_
  refine az_callH C Y_L_convoySize [.ref (ρ.1 0), .int (nI kb)] [] wm_L_209 wst_L_convoySize dL_law_401 rfl (S_convoySize (ρ := ρ) (x := x) (m := m) (ou := ou) hG (by omega) S hkb hcb hib hrb hatb) rfl (Nat.le_of_ble_eq_true rfl) (Nat.le_of_ble_eq_true rfl) (Nat.le_of_ble_eq_true rfl) (by show _ ≤ 600086; omega) (by show _ ≤ 7301442; omega) (az_k1 rfl rfl ?_) (az_k0 rfl)
  refine az_istore C (lv' := [(11, .int ((nI (tb.length + 1)))), (9, .int (nI ka)), (8, .int w8), (7, .int (nI kr)), (6, .int (nI kc)), (5, .int (nI kb)), (4, .int (nI v)), (3, .int (nI i)), (2, .int (nI nr)), (1, .ref (ρ.1 0)), (0, .ref sb)]) dL_law_404 (by decide) rfl ?_
  refine az_aload_n C 9 dL_law_406 rfl ?_
  refine az_iload C 5 dL_law_407 rfl ?_
  obtain ⟨mc1, ms1, hm1, hm2, hP1⟩ := uncouple_ok (m := m) (ou := ou) hG S hkb hcb hib hrb hatb
  refine az_callH C Y_L_uncouple [.ref (ρ.1 0), .int (nI kb)] [] wm_L_290 wst_L_uncouple dL_law_409 rfl (hP1) rfl (Nat.le_of_ble_eq_true rfl) (Nat.le_of_ble_eq_true rfl) (Nat.le_of_ble_eq_true rfl) (by show _ ≤ 600086; omega) (by show _ ≤ 7301442; omega) ?_ (by rintro E ad9 K9 ⟨_, _, _, h9, -⟩; cases h9)
  rintro v9 ad9 K9 ⟨ρ1, x1, v1, h9, rfl, rfl, e0, hP⟩
  cases h9
  rw [← e0]
  refine az_istore C (lv' := [(12, .int v1), (11, .int ((nI (tb.length + 1)))), (9, .int (nI ka)), (8, .int w8), (7, .int (nI kr)), (6, .int (nI kc)), (5, .int (nI kb)), (4, .int (nI v)), (3, .int (nI i)), (2, .int (nI nr)), (1, .ref (ρ1.1 0)), (0, .ref sb)]) dL_law_412 (by decide) rfl ?_
  refine az_iload C 0 dL_law_414 rfl ?_
  refine az_sipush C (v := (-1002)) dL_law_416 (by decide) ?_
  refine az_icmp_ne C 442 dL_law_419 (by decide) (fun c1 => ?_) (fun c1 => ?_)
  · obtain ⟨-, M1, cs1, s1, g1, S1, hv1, hc1, ha1, hl1⟩ := hP.resolve_left (fun z => c1 z.1)
    refine az_aload_n C 10 dL_law_442 rfl ?_
    refine az_iload C 6 dL_law_443 rfl ?_
    refine az_callH C Y_L_convoySize [.ref (ρ1.1 0), .int (nI kb)] [] wm_L_209 wst_L_convoySize dL_law_445 rfl (S_convoySize (ρ := ρ1) (x := x1) (m := m) (ou := ou) hG (by omega) S1 hkb hc1 List.mem_cons_self hrb ha1) rfl (Nat.le_of_ble_eq_true rfl) (Nat.le_of_ble_eq_true rfl) (Nat.le_of_ble_eq_true rfl) (by show _ ≤ 600086; omega) (by show _ ≤ 7301442; omega) (az_k1 rfl rfl ?_) (az_k0 rfl)
    refine az_iload C 1 dL_law_448 rfl ?_
    refine az_iload C 0 dL_law_450 rfl ?_
    refine az_isub C dL_law_452 ?_
    refine az_top (nI (s1.length + 1)) (by rw [hv1, show s1.length + 1 = tb.length + 1 - g1 by omega]; exact pk_sub (by omega)) ?_
    refine az_icmp_ne C 472 dL_law_453 (by decide) (fun q => absurd rfl q) (fun _ => ?_)
    refine az_aload_n C 10 dL_law_456 rfl ?_
    refine az_iload C 6 dL_law_457 rfl ?_
    refine az_iconst C (v := 0) dL_law_459 (by decide) ?_
    refine az_callH C Y_L_convoyAt [.ref (ρ1.1 0), .int (nI kb), .int 0] [] wm_L_211 wst_L_convoyAt dL_law_460 rfl (S_convoyAt (ρ := ρ1) (x := x1) (m := m) (ou := ou) hG (by omega) S1 hkb hc1 List.mem_cons_self hrb ha1 (i := 0) (d := kb) rfl) rfl (Nat.le_of_ble_eq_true rfl) (Nat.le_of_ble_eq_true rfl) (Nat.le_of_ble_eq_true rfl) (by show _ ≤ 600086; omega) (by show _ ≤ 7301442; omega) (az_k1 rfl rfl ?_) (az_k0 rfl)
    refine az_iload C 6 dL_law_463 rfl ?_
    refine az_icmp_ne C 472 dL_law_465 (by decide) (fun q => absurd rfl q) (fun _ => ?_)
    refine az_iconst C (v := 1) dL_law_468 (by decide) ?_
    refine az_goto C 473 dL_law_469 (by decide) ?_
    refine az_istore C (lv' := [(10, .int 1), (12, .int v1), (11, .int ((nI (tb.length + 1)))), (9, .int (nI ka)), (8, .int w8), (7, .int (nI kr)), (6, .int (nI kc)), (5, .int (nI kb)), (4, .int (nI v)), (3, .int (nI i)), (2, .int (nI nr)), (1, .ref (ρ1.1 0)), (0, .ref sb)]) dL_law_473 (by decide) rfl ?_
    refine az_goto C 743 dL_law_475 (by decide) ?_
    exact az_lv [0, 9, 10, 11, 12] rfl (hx ρ1 _ _ _ _ _ e0 (S1.le (Nat.le_succ c0)) _ _ (by omega) (by omega))
  · obtain ⟨-, S1, hf⟩ := hP.resolve_right (fun z => z.1 c1)
    refine az_aload_n C 10 dL_law_422 rfl ?_
    refine az_iload C 6 dL_law_423 rfl ?_
    refine az_iconst C (v := 0) dL_law_425 (by decide) ?_
    refine az_callH C Y_L_convoyAt [.ref (ρ1.1 0), .int (nI kb), .int 0] [] wm_L_211 wst_L_convoyAt dL_law_426 rfl (S_convoyAt (ρ := ρ1) (x := x1) (m := m) (ou := ou) hG (by omega) S1 hkb hcb hib hrb hatb (i := 0) (d := kb) (by rw [hf]; rfl)) rfl (Nat.le_of_ble_eq_true rfl) (Nat.le_of_ble_eq_true rfl) (Nat.le_of_ble_eq_true rfl) (by show _ ≤ 600086; omega) (by show _ ≤ 7301442; omega) (az_k1 rfl rfl ?_) (az_k0 rfl)
    refine az_iload C 6 dL_law_429 rfl ?_
    refine az_icmp_ne C 438 dL_law_431 (by decide) (fun q => absurd rfl q) (fun _ => ?_)
    refine az_iconst C (v := 1) dL_law_434 (by decide) ?_
    refine az_goto C 473 dL_law_435 (by decide) ?_
    refine az_istore C (lv' := [(10, .int 1), (12, .int v1), (11, .int ((nI (tb.length + 1)))), (9, .int (nI ka)), (8, .int w8), (7, .int (nI kr)), (6, .int (nI kc)), (5, .int (nI kb)), (4, .int (nI v)), (3, .int (nI i)), (2, .int (nI nr)), (1, .ref (ρ1.1 0)), (0, .ref sb)]) dL_law_473 (by decide) rfl ?_
    refine az_goto C 743 dL_law_475 (by decide) ?_
    exact az_lv [0, 9, 10, 11, 12] rfl (hx ρ1 _ _ _ _ _ e0 (S1.le (Nat.le_succ c0)) _ _ (by omega) (by omega))

set_option maxHeartbeats 4000000 in
set_option maxRecDepth 100000 in
theorem WayT (hG : az_okS l G) {p : Program} {e : Env} {s : State} {mm : MethodId} {args : Array Value} {below : List Frame} {meth : Method} {c : Code} {tab : List ExceptionTableEntry} (C : az_C l G p s mm args meth c cL_law RL 14 (Option.some FieldType.boolean) tab) : ∀ {Qx : State → Prop} {c0 : Nat} (hc : c0 ≤ 60) (S : ST c0 ρ x M n nr nb cs) (kb kc kr ka v i : Nat) (w8 : Int32) (hkb : kb < nb) (hkc : kc < nb) (hkr : kr < nr) (hka : 1 ≤ ka ∧ ka ≤ 300) (hv : v < 2 ^ 31)  (k9 n9 : Nat) (hk9 : k9 + 17000 ≤ 600086) (hn9 : n9 + 100000 ≤ 7301442) (hx : ∀ (ρ' : Rp) (x' : Xs) (M' : Ms) (m' : Mz) (n' : Nat) (cs' : List (List Nat)), ρ'.1 0 = ρ.1 0 → ST (c0 + 1) ρ' x' M' n' nr nb cs' → ∀ k8 n8 : Nat, k8 ≤ k9 + 16600 → n8 ≤ n9 + 99600 → az_W l G 14 Qx p e room_1 s mm args below meth c (AD ρ') (KK G ρ' x' m' ou) k8 n8 743 [(10, .int 1), (3, .int (nI i)), (2, .int (nI nr)), (1, .ref (ρ'.1 0)), (0, .ref sb)] []), az_W l G 14 Qx p e room_1 s mm args below meth c (AD ρ) (KK G ρ x m ou) k9 n9 485 [(9, .int (nI ka)), (8, .int w8), (7, .int (nI kr)), (6, .int (nI kc)), (5, .int (nI kb)), (4, .int (nI v)), (3, .int (nI i)), (2, .int (nI nr)), (1, .ref (ρ.1 0)), (0, .ref sb)] [] := by
  intro Qx c0 hc S kb kc kr ka v i w8 hkb hkc hkr hka hv k9 n9 hk9 hn9 hx
  have h := S.1
  have hn6 := h.n6
  have hn1 := h.n1
  have hb8 := h.b8
  refine az_aload_n C 8 dL_law_485 rfl ?_
  refine az_iload C 4 dL_law_486 rfl ?_
  refine az_iload C 0 dL_law_488 rfl ?_
  obtain ⟨po, hP1, hP2⟩ := trades_ok (m := m) (ou := ou) hG S hkb (bo_300 hka).2
  refine az_callS C Y_L_trades [.ref (ρ.1 0), .int (nI kb), .int (nI ka)] [] wm_L_292 wst_L_trades dL_law_490 rfl (hP1) rfl (Nat.le_of_ble_eq_true rfl) (Nat.le_of_ble_eq_true rfl) (Nat.le_of_ble_eq_true rfl) (by show _ ≤ 600086; omega) (by show _ ≤ 7301442; omega) ?_ (fun E ad9 K9 h9 => by obtain ⟨_, _, h9, -⟩ := hP2 _ _ _ h9; cases h9)
  intro v9 ad9 K9 h8
  obtain ⟨x1, M1, h9, rfl, rfl, S1⟩ := hP2 _ _ _ h8
  cases h9
  refine az_istore C (lv' := [(10, .int 1), (9, .int (nI ka)), (8, .int w8), (7, .int (nI kr)), (6, .int (nI kc)), (5, .int (nI kb)), (4, .int (nI v)), (3, .int (nI i)), (2, .int (nI nr)), (1, .ref (ρ.1 0)), (0, .ref sb)]) dL_law_493 (by decide) rfl ?_
  refine az_goto C 743 dL_law_495 (by decide) ?_
  exact az_lv [0, 7, 8, 9, 10] rfl (hx ρ _ _ _ _ _ rfl (S1.le (Nat.le_succ c0)) _ _ (by omega) (by omega))

set_option maxHeartbeats 4000000 in
set_option maxRecDepth 100000 in
theorem WayR (hG : az_okS l G) {p : Program} {e : Env} {s : State} {mm : MethodId} {args : Array Value} {below : List Frame} {meth : Method} {c : Code} {tab : List ExceptionTableEntry} (C : az_C l G p s mm args meth c cL_law RL 14 (Option.some FieldType.boolean) tab) : ∀ {Qx : State → Prop} {c0 : Nat} (hc : c0 ≤ 60) (S : ST c0 ρ x M n nr nb cs) (kb kc kr ka v i : Nat) (w8 : Int32) (hkb : kb < nb) (hkc : kc < nb) (hkr : kr < nr) (hka : 1 ≤ ka ∧ ka ≤ 300) (hv : v < 2 ^ 31)  (k9 n9 : Nat) (hk9 : k9 + 17000 ≤ 600086) (hn9 : n9 + 100000 ≤ 7301442) (hx : ∀ (ρ' : Rp) (x' : Xs) (M' : Ms) (m' : Mz) (n' : Nat) (cs' : List (List Nat)), ρ'.1 0 = ρ.1 0 → ST (c0 + 1) ρ' x' M' n' nr nb cs' → ∀ k8 n8 : Nat, k8 ≤ k9 + 16600 → n8 ≤ n9 + 99600 → az_W l G 14 Qx p e room_1 s mm args below meth c (AD ρ') (KK G ρ' x' m' ou) k8 n8 743 [(10, .int 1), (3, .int (nI i)), (2, .int (nI nr)), (1, .ref (ρ'.1 0)), (0, .ref sb)] []), az_W l G 14 Qx p e room_1 s mm args below meth c (AD ρ) (KK G ρ x m ou) k9 n9 505 [(9, .int (nI ka)), (8, .int w8), (7, .int (nI kr)), (6, .int (nI kc)), (5, .int (nI kb)), (4, .int (nI v)), (3, .int (nI i)), (2, .int (nI nr)), (1, .ref (ρ.1 0)), (0, .ref sb)] [] := by
  intro Qx c0 hc S kb kc kr ka v i w8 hkb hkc hkr hka hv k9 n9 hk9 hn9 hx
  have h := S.1
  have hn6 := h.n6
  have hn1 := h.n1
  have hb8 := h.b8
  refine az_aload_n C 8 dL_law_505 rfl ?_
  refine az_iload C 2 dL_law_506 rfl ?_
  refine az_iload C 0 dL_law_508 rfl ?_
  obtain ⟨mc1, ms1, hm1, hm2, hP1⟩ := rain_ok (m := m) (ou := ou) hG (by omega) S hkr (bo_300 hka).1
  refine az_callH C Y_L_rain [.ref (ρ.1 0), .int (nI kr), .int (nI ka)] [] wm_L_295 wst_L_rain dL_law_510 rfl (hP1) rfl (Nat.le_of_ble_eq_true rfl) (Nat.le_of_ble_eq_true rfl) (Nat.le_of_ble_eq_true rfl) (by show _ ≤ 600086; omega) (by show _ ≤ 7301442; omega) ?_ (by rintro E ad9 K9 ⟨_, _, _, h9, -⟩; cases h9)
  rintro v9 ad9 K9 ⟨ρ1, x1, v1, h9, rfl, rfl, e0, hv1, M1, n1, S1⟩
  cases h9
  rw [← e0]
  refine az_if_lt C 520 dL_law_513 (by decide) (fun q => absurd q hv1) (fun _ => ?_)
  refine az_iconst C (v := 1) dL_law_516 (by decide) ?_
  refine az_goto C 521 dL_law_517 (by decide) ?_
  refine az_istore C (lv' := [(10, .int 1), (9, .int (nI ka)), (8, .int w8), (7, .int (nI kr)), (6, .int (nI kc)), (5, .int (nI kb)), (4, .int (nI v)), (3, .int (nI i)), (2, .int (nI nr)), (1, .ref (ρ1.1 0)), (0, .ref sb)]) dL_law_521 (by decide) rfl ?_
  refine az_goto C 743 dL_law_523 (by decide) ?_
  exact az_lv [0, 7, 8, 9, 10] rfl (hx ρ1 _ _ _ _ _ e0 S1 _ _ (by omega) (by omega))

set_option maxHeartbeats 4000000 in
set_option maxRecDepth 100000 in
theorem WayW (hG : az_okS l G) {p : Program} {e : Env} {s : State} {mm : MethodId} {args : Array Value} {below : List Frame} {meth : Method} {c : Code} {tab : List ExceptionTableEntry} (C : az_C l G p s mm args meth c cL_law RL 14 (Option.some FieldType.boolean) tab) : ∀ {Qx : State → Prop} {c0 : Nat} (hc : c0 ≤ 60) (S : ST c0 ρ x M n nr nb cs) (kb kc kr ka v i : Nat) (w8 : Int32) (hkb : kb < nb) (hkc : kc < nb) (hkr : kr < nr) (hka : 1 ≤ ka ∧ ka ≤ 300) (hv : v < 2 ^ 31)  (k9 n9 : Nat) (hk9 : k9 + 17000 ≤ 600086) (hn9 : n9 + 100000 ≤ 7301442) (hx : ∀ (ρ' : Rp) (x' : Xs) (M' : Ms) (m' : Mz) (n' : Nat) (cs' : List (List Nat)), ρ'.1 0 = ρ.1 0 → ST (c0 + 1) ρ' x' M' n' nr nb cs' → ∀ k8 n8 : Nat, k8 ≤ k9 + 16600 → n8 ≤ n9 + 99600 → az_W l G 14 Qx p e room_1 s mm args below meth c (AD ρ') (KK G ρ' x' m' ou) k8 n8 743 [(10, .int 1), (3, .int (nI i)), (2, .int (nI nr)), (1, .ref (ρ'.1 0)), (0, .ref sb)] []), az_W l G 14 Qx p e room_1 s mm args below meth c (AD ρ) (KK G ρ x m ou) k9 n9 533 [(9, .int (nI ka)), (8, .int w8), (7, .int (nI kr)), (6, .int (nI kc)), (5, .int (nI kb)), (4, .int (nI v)), (3, .int (nI i)), (2, .int (nI nr)), (1, .ref (ρ.1 0)), (0, .ref sb)] [] := by
  intro Qx c0 hc S kb kc kr ka v i w8 hkb hkc hkr hka hv k9 n9 hk9 hn9 hx
  have h := S.1
  have hn6 := h.n6
  have hn1 := h.n1
  have hb8 := h.b8
  refine az_aload_n C 8 dL_law_533 rfl ?_
  refine az_callV C Y_X3_weekCount cX3 0 0 [] [] wm_L_297 wi_X3_weekCount wse_X3_weekCount dL_law_534 rfl rfl rfl (XweekCount hG) rfl (Nat.le_of_ble_eq_true rfl) (Nat.le_of_ble_eq_true rfl) (Nat.le_of_ble_eq_true rfl) (by show _ ≤ 600086; omega) (by show _ ≤ 7301442; omega) (az_k1 rfl rfl ?_) (az_k0 rfl)
  refine az_istore C (lv' := [(11, .int ((x.1 0 8))), (9, .int (nI ka)), (8, .int w8), (7, .int (nI kr)), (6, .int (nI kc)), (5, .int (nI kb)), (4, .int (nI v)), (3, .int (nI i)), (2, .int (nI nr)), (1, .ref (ρ.1 0)), (0, .ref sb)]) dL_law_537 (by decide) rfl ?_
  refine az_aload_n C 9 dL_law_539 rfl ?_
  obtain ⟨mc1, ms1, w1, C9, x1, hm1, hm2, hw1, h8, hST, hP1⟩ := week_ok (m := m) (ou := ou) hG (by omega) S
  refine az_callV C Y_X3_endWeek cX3 0 0 [] [] wm_L_300 wi_X3_endWeek wse_X3_endWeek dL_law_540 rfl rfl rfl (hP1) rfl (Nat.le_of_ble_eq_true rfl) (Nat.le_of_ble_eq_true rfl) (Nat.le_of_ble_eq_true rfl) (by show _ ≤ 600086; omega) (by show _ ≤ 7301442; omega) ?_ (by rintro E ad9 K9 ⟨_, -, h9, -⟩; cases h9)
  rintro v9 ad9 K9 ⟨a9, -, h9, rfl, rfl⟩
  cases h9
  obtain ⟨M1, n1, S1⟩ := hST a9
  refine az_istore C (lv' := [(12, .int ((nI w1))), (11, .int ((x.1 0 8))), (9, .int (nI ka)), (8, .int w8), (7, .int (nI kr)), (6, .int (nI kc)), (5, .int (nI kb)), (4, .int (nI v)), (3, .int (nI i)), (2, .int (nI nr)), (1, .ref (ρ.1 0)), (0, .ref sb)]) dL_law_543 (by decide) rfl ?_
  refine az_iload C 0 dL_law_545 rfl ?_
  refine az_if_lt C 571 dL_law_547 (by decide) (fun q => absurd q (Int32.not_lt.mpr (nI_pos' (by omega)))) (fun _ => ?_)
  refine az_iload C 0 dL_law_550 rfl ?_
  refine az_iload_n C 9 dL_law_552 rfl ?_
  refine az_icmp_gt C 571 dL_law_553 (by decide) (fun q => absurd q (Int32.not_lt.mpr (nI_leT hw1 (by omega)))) (fun _ => ?_)
  refine az_aload_n C 10 dL_law_556 rfl ?_
  refine az_callV C Y_X3_weekCount cX3 0 0 [] [] wm_L_297 wi_X3_weekCount wse_X3_weekCount dL_law_557 rfl rfl rfl (XweekCount hG) rfl (Nat.le_of_ble_eq_true rfl) (Nat.le_of_ble_eq_true rfl) (Nat.le_of_ble_eq_true rfl) (by show _ ≤ 600086; omega) (by show _ ≤ 7301442; omega) (az_k1 rfl rfl ?_) (az_k0 rfl)
  refine az_top (x.1 0 8 + 1) h8 ?_
  refine az_iload C 1 dL_law_560 rfl ?_
  refine az_iconst C (v := 1) dL_law_562 (by decide) ?_
  refine az_iadd C dL_law_563 ?_
  refine az_icmp_ne C 571 dL_law_564 (by decide) (fun q => absurd rfl q) (fun _ => ?_)
  refine az_iconst C (v := 1) dL_law_567 (by decide) ?_
  refine az_goto C 572 dL_law_568 (by decide) ?_
  refine az_istore C (lv' := [(10, .int 1), (12, .int ((nI w1))), (11, .int ((x.1 0 8))), (9, .int (nI ka)), (8, .int w8), (7, .int (nI kr)), (6, .int (nI kc)), (5, .int (nI kb)), (4, .int (nI v)), (3, .int (nI i)), (2, .int (nI nr)), (1, .ref (ρ.1 0)), (0, .ref sb)]) dL_law_572 (by decide) rfl ?_
  refine az_goto C 743 dL_law_574 (by decide) ?_
  exact az_lv [0, 9, 10, 11, 12] rfl (hx (gR ρ a9 C9) _ _ _ _ _ rfl S1 _ _ (by omega) (by omega))

set_option maxHeartbeats 4000000 in
set_option maxRecDepth 100000 in
theorem WayG (hG : az_okS l G) {p : Program} {e : Env} {s : State} {mm : MethodId} {args : Array Value} {below : List Frame} {meth : Method} {c : Code} {tab : List ExceptionTableEntry} (C : az_C l G p s mm args meth c cL_law RL 14 (Option.some FieldType.boolean) tab) : ∀ {Qx : State → Prop} {c0 : Nat} (hc : c0 ≤ 60) (S : ST c0 ρ x M n nr nb cs) (kb kc kr ka v i : Nat) (w8 : Int32) (hkb : kb < nb) (hkc : kc < nb) (hkr : kr < nr) (hka : 1 ≤ ka ∧ ka ≤ 300) (hv : v < 2 ^ 31) (hr2 : 2 ≤ nr) (k9 n9 : Nat) (hk9 : k9 + 17000 ≤ 600086) (hn9 : n9 + 100000 ≤ 7301442) (hx : ∀ (ρ' : Rp) (x' : Xs) (M' : Ms) (m' : Mz) (n' : Nat) (cs' : List (List Nat)), ρ'.1 0 = ρ.1 0 → ST (c0 + 1) ρ' x' M' n' nr nb cs' → ∀ k8 n8 : Nat, k8 ≤ k9 + 16600 → n8 ≤ n9 + 99600 → az_W l G 14 Qx p e room_1 s mm args below meth c (AD ρ') (KK G ρ' x' m' ou) k8 n8 743 [(10, .int 1), (3, .int (nI i)), (2, .int (nI nr)), (1, .ref (ρ'.1 0)), (0, .ref sb)] []), az_W l G 14 Qx p e room_1 s mm args below meth c (AD ρ) (KK G ρ x m ou) k9 n9 584 [(9, .int (nI ka)), (8, .int w8), (7, .int (nI kr)), (6, .int (nI kc)), (5, .int (nI kb)), (4, .int (nI v)), (3, .int (nI i)), (2, .int (nI nr)), (1, .ref (ρ.1 0)), (0, .ref sb)] [] := by
  intro Qx c0 hc S kb kc kr ka v i w8 hkb hkc hkr hka hv hr2 k9 n9 hk9 hn9 hx
  have h := S.1
  have hn6 := h.n6
  have hn1 := h.n1
  have hb8 := h.b8
  have hlk : (v / 64 % (nr - 1)) + 1 < nr := by have := Nat.mod_lt (v / 64) (show 0 < nr - 1 by omega); omega
  refine az_iload C 5 dL_law_584 rfl ?_
  refine az_bipush C (v := 64) dL_law_586 (by decide) ?_
  refine az_idiv C dL_law_588 (by decide) ?_
  refine az_top (nI (v / 64)) (div_nI (q := 64) (by omega) (by decide) (by decide)) ?_
  refine az_iload_n C 7 dL_law_589 rfl ?_
  refine az_iconst C (v := 1) dL_law_590 (by decide) ?_
  refine az_isub C dL_law_591 ?_
  refine az_top (nI (nr - 1)) (show nI nr - 1 = nI (nr - 1) from pk_sub (b := 1) (by omega)) ?_
  refine az_irem C dL_law_592 (nz_nI (by omega) (by omega)) ?_
  refine az_top (nI (v / 64 % (nr - 1))) (rem_nI (by omega) (by omega) (by omega)) ?_
  refine az_istore C (lv' := [(11, .int (nI (v / 64 % (nr - 1)))), (9, .int (nI ka)), (8, .int w8), (7, .int (nI kr)), (6, .int (nI kc)), (5, .int (nI kb)), (4, .int (nI v)), (3, .int (nI i)), (2, .int (nI nr)), (1, .ref (ρ.1 0)), (0, .ref sb)]) dL_law_593 (by decide) rfl ?_
  refine az_aload_n C 9 dL_law_595 rfl ?_
  refine az_iload C 0 dL_law_596 rfl ?_
  refine az_callH C Y_L_isFull [.ref (ρ.1 0), .int (nI (v / 64 % (nr - 1)))] [] wm_L_163 wst_L_isFull dL_law_598 rfl (S_isFull (ρ := ρ) (x := x) (m := m) (ou := ou) hG (by omega) S (k := (v / 64 % (nr - 1))) hlk) rfl (Nat.le_of_ble_eq_true rfl) (Nat.le_of_ble_eq_true rfl) (Nat.le_of_ble_eq_true rfl) (by show _ ≤ 600086; omega) (by show _ ≤ 7301442; omega) (az_k1 rfl rfl ?_) (az_k0 rfl)
  refine az_istore C (lv' := [(12, .int ((fuM M (v / 64 % (nr - 1))))), (11, .int (nI (v / 64 % (nr - 1)))), (9, .int (nI ka)), (8, .int w8), (7, .int (nI kr)), (6, .int (nI kc)), (5, .int (nI kb)), (4, .int (nI v)), (3, .int (nI i)), (2, .int (nI nr)), (1, .ref (ρ.1 0)), (0, .ref sb)]) dL_law_601 (by decide) rfl ?_
  refine az_aload_n C 10 dL_law_603 rfl ?_
  refine az_iload C 1 dL_law_604 rfl ?_
  obtain ⟨mc1, ms1, hm1, hm2, hP1⟩ := turn_ok (m := m) (ou := ou) hG (by omega) S hlk
  refine az_callH C Y_L_turn [.ref (ρ.1 0), .int (nI (v / 64 % (nr - 1)))] [] wm_L_303 wst_L_turn dL_law_606 rfl (hP1) rfl (Nat.le_of_ble_eq_true rfl) (Nat.le_of_ble_eq_true rfl) (Nat.le_of_ble_eq_true rfl) (by show _ ≤ 600086; omega) (by show _ ≤ 7301442; omega) ?_ (by rintro E ad9 K9 ⟨_, _, _, h9, -⟩; cases h9)
  rintro v9 ad9 K9 ⟨ρ1, x1, v1, h9, rfl, rfl, e0, hP⟩
  cases h9
  rw [← e0]
  refine az_istore C (lv' := [(13, .int v1), (12, .int ((fuM M (v / 64 % (nr - 1))))), (11, .int (nI (v / 64 % (nr - 1)))), (9, .int (nI ka)), (8, .int w8), (7, .int (nI kr)), (6, .int (nI kc)), (5, .int (nI kb)), (4, .int (nI v)), (3, .int (nI i)), (2, .int (nI nr)), (1, .ref (ρ1.1 0)), (0, .ref sb)]) dL_law_609 (by decide) rfl ?_
  refine az_iload C 0 dL_law_611 rfl ?_
  refine az_sipush C (v := (-1002)) dL_law_613 (by decide) ?_
  refine az_icmp_ne C 647 dL_law_616 (by decide) (fun c1 => ?_) (fun c1 => ?_)
  · obtain ⟨-, hv1, M1, n1, S1, hf⟩ := hP.resolve_left (fun z => c1 z.1)
    refine az_iload C 0 dL_law_647 rfl ?_
    refine az_iconst C (v := 1) dL_law_649 (by decide) ?_
    refine az_iload C 1 dL_law_650 rfl ?_
    refine az_isub C dL_law_652 ?_
    refine az_icmp_ne C 671 dL_law_653 (by decide) (fun q => absurd hv1 q) (fun _ => ?_)
    refine az_aload_n C 11 dL_law_656 rfl ?_
    refine az_iload C 2 dL_law_657 rfl ?_
    refine az_callH C Y_L_isFull [.ref (ρ1.1 0), .int (nI (v / 64 % (nr - 1)))] [] wm_L_163 wst_L_isFull dL_law_659 rfl (S_isFull (ρ := ρ1) (x := x1) (m := m) (ou := ou) hG (by omega) S1 (k := (v / 64 % (nr - 1))) hlk) rfl (Nat.le_of_ble_eq_true rfl) (Nat.le_of_ble_eq_true rfl) (Nat.le_of_ble_eq_true rfl) (by show _ ≤ 600086; omega) (by show _ ≤ 7301442; omega) (az_k1 rfl rfl ?_) (az_k0 rfl)
    refine az_iload C 0 dL_law_662 rfl ?_
    refine az_icmp_ne C 671 dL_law_664 (by decide) (fun q => absurd hf q) (fun _ => ?_)
    refine az_iconst C (v := 1) dL_law_667 (by decide) ?_
    refine az_goto C 672 dL_law_668 (by decide) ?_
    refine az_istore C (lv' := [(10, .int 1), (13, .int v1), (12, .int ((fuM M (v / 64 % (nr - 1))))), (11, .int (nI (v / 64 % (nr - 1)))), (9, .int (nI ka)), (8, .int w8), (7, .int (nI kr)), (6, .int (nI kc)), (5, .int (nI kb)), (4, .int (nI v)), (3, .int (nI i)), (2, .int (nI nr)), (1, .ref (ρ1.1 0)), (0, .ref sb)]) dL_law_672 (by decide) rfl ?_
    refine az_goto C 743 dL_law_674 (by decide) ?_
    exact az_lv [0, 10, 11, 12, 13] rfl (hx ρ1 _ _ _ _ _ e0 S1 _ _ (by omega) (by omega))
  · obtain ⟨-, S1, hf, hlt⟩ := hP.resolve_right (fun z => z.1 c1)
    refine az_iload C 1 dL_law_619 rfl ?_
    refine az_if_ne C 643 dL_law_621 (by decide) (fun q => absurd hf q) (fun _ => ?_)
    refine az_aload_n C 11 dL_law_624 rfl ?_
    refine az_iload C 2 dL_law_625 rfl ?_
    refine az_callH C Y_L_volumeOf [.ref (ρ1.1 0), .int (nI (v / 64 % (nr - 1)))] [] wm_L_160 wst_L_volumeOf dL_law_627 rfl (S_volumeOf (ρ := ρ1) (x := x1) (m := m) (ou := ou) hG (by omega) S1 (k := (v / 64 % (nr - 1))) (by omega)) rfl (Nat.le_of_ble_eq_true rfl) (Nat.le_of_ble_eq_true rfl) (Nat.le_of_ble_eq_true rfl) (by show _ ≤ 600086; omega) (by show _ ≤ 7301442; omega) (az_k1 rfl rfl ?_) (az_k0 rfl)
    refine az_aload_n C 11 dL_law_630 rfl ?_
    refine az_iload C 2 dL_law_631 rfl ?_
    refine az_callH C Y_L_lockfulOf [.ref (ρ1.1 0), .int (nI (v / 64 % (nr - 1)))] [.int ((M.1 4 (v / 64 % (nr - 1))))] wm_L_184 wst_L_lockfulOf dL_law_633 rfl (S_lockfulOf (ρ := ρ1) (x := x1) (m := m) (ou := ou) hG (by omega) S1 (k := (v / 64 % (nr - 1))) hlk) rfl (Nat.le_of_ble_eq_true rfl) (Nat.le_of_ble_eq_true rfl) (Nat.le_of_ble_eq_true rfl) (by show _ ≤ 600086; omega) (by show _ ≤ 7301442; omega) (az_k1 rfl rfl ?_) (az_k0 rfl)
    refine az_icmp_ge C 643 dL_law_636 (by decide) (fun q => absurd q (Int32.not_le.mpr hlt)) (fun _ => ?_)
    refine az_iconst C (v := 1) dL_law_639 (by decide) ?_
    refine az_goto C 672 dL_law_640 (by decide) ?_
    refine az_istore C (lv' := [(10, .int 1), (13, .int v1), (12, .int ((fuM M (v / 64 % (nr - 1))))), (11, .int (nI (v / 64 % (nr - 1)))), (9, .int (nI ka)), (8, .int w8), (7, .int (nI kr)), (6, .int (nI kc)), (5, .int (nI kb)), (4, .int (nI v)), (3, .int (nI i)), (2, .int (nI nr)), (1, .ref (ρ1.1 0)), (0, .ref sb)]) dL_law_672 (by decide) rfl ?_
    refine az_goto C 743 dL_law_674 (by decide) ?_
    exact az_lv [0, 10, 11, 12, 13] rfl (hx ρ1 _ _ _ _ _ e0 (S1.le (Nat.le_succ c0)) _ _ (by omega) (by omega))

set_option maxHeartbeats 4000000 in
set_option maxRecDepth 100000 in
theorem WayD (hG : az_okS l G) {p : Program} {e : Env} {s : State} {mm : MethodId} {args : Array Value} {below : List Frame} {meth : Method} {c : Code} {tab : List ExceptionTableEntry} (C : az_C l G p s mm args meth c cL_law RL 14 (Option.some FieldType.boolean) tab) : ∀ {Qx : State → Prop} {c0 : Nat} (hc : c0 ≤ 60) (S : ST c0 ρ x M n nr nb cs) (kb kc kr ka v i : Nat) (w8 : Int32) (hkb : kb < nb) (hkc : kc < nb) (hkr : kr < nr) (hka : 1 ≤ ka ∧ ka ≤ 300) (hv : v < 2 ^ 31)  (k9 n9 : Nat) (hk9 : k9 + 17000 ≤ 600086) (hn9 : n9 + 100000 ≤ 7301442) (hx : ∀ (ρ' : Rp) (x' : Xs) (M' : Ms) (m' : Mz) (n' : Nat) (cs' : List (List Nat)), ρ'.1 0 = ρ.1 0 → ST (c0 + 1) ρ' x' M' n' nr nb cs' → ∀ k8 n8 : Nat, k8 ≤ k9 + 16600 → n8 ≤ n9 + 99600 → az_W l G 14 Qx p e room_1 s mm args below meth c (AD ρ') (KK G ρ' x' m' ou) k8 n8 743 [(10, .int 1), (3, .int (nI i)), (2, .int (nI nr)), (1, .ref (ρ'.1 0)), (0, .ref sb)] []), az_W l G 14 Qx p e room_1 s mm args below meth c (AD ρ) (KK G ρ x m ou) k9 n9 677 [(9, .int (nI ka)), (8, .int w8), (7, .int (nI kr)), (6, .int (nI kc)), (5, .int (nI kb)), (4, .int (nI v)), (3, .int (nI i)), (2, .int (nI nr)), (1, .ref (ρ.1 0)), (0, .ref sb)] [] := by
  intro Qx c0 hc S kb kc kr ka v i w8 hkb hkc hkr hka hv k9 n9 hk9 hn9 hx
  have h := S.1
  have hn6 := h.n6
  have hn1 := h.n1
  have hb8 := h.b8
  obtain ⟨rlb, fb, tb, rb, a1, a2, a3, a4, a5, hrb, lb4, ndb, hcb, hqb, hatb, hsb⟩ := h.voy hkb
  have hib : kb ∈ fb :: tb := a2.2.2.2.2.2.2.2
  have hatb := hatb kb hib
  refine az_aload_n C 8 dL_law_677 rfl ?_
  refine az_iload C 4 dL_law_678 rfl ?_
  refine az_callH C Y_L_draughtOf [.ref (ρ.1 0), .int (nI kb)] [] wm_L_214 wst_L_draughtOf dL_law_680 rfl (S_draughtOf (ρ := ρ) (x := x) (m := m) (ou := ou) hG (by omega) S hkb) rfl (Nat.le_of_ble_eq_true rfl) (Nat.le_of_ble_eq_true rfl) (Nat.le_of_ble_eq_true rfl) (by show _ ≤ 600086; omega) (by show _ ≤ 7301442; omega) (az_k1 rfl rfl ?_) (az_k0 rfl)
  refine az_istore C (lv' := [(11, .int ((deepM M kb))), (9, .int (nI ka)), (8, .int w8), (7, .int (nI kr)), (6, .int (nI kc)), (5, .int (nI kb)), (4, .int (nI v)), (3, .int (nI i)), (2, .int (nI nr)), (1, .ref (ρ.1 0)), (0, .ref sb)]) dL_law_683 (by decide) rfl ?_
  refine az_aload_n C 9 dL_law_685 rfl ?_
  refine az_iload C 5 dL_law_686 rfl ?_
  refine az_bipush C (v := 20) dL_law_688 (by decide) ?_
  refine az_callH C Y_L_sellToDraught [.ref (ρ.1 0), .int (nI kb), .int 20] [] wm_L_305 wst_L_sellToDraught dL_law_690 rfl (stdr_ok (m := m) (ou := ou) hG S hkb hrb hatb) rfl (Nat.le_of_ble_eq_true rfl) (Nat.le_of_ble_eq_true rfl) (Nat.le_of_ble_eq_true rfl) (by show _ ≤ 600086; omega) (by show _ ≤ 7301442; omega) ?_ (by rintro E ad9 K9 ⟨_, _, _, h9, -⟩; cases h9)
  rintro v9 ad9 K9 ⟨ρ1, x1, v1, h9, rfl, rfl, e0, M1, q1, hq1, rfl, S1, hd1, hz1⟩
  cases h9
  rw [← e0]
  refine az_istore C (lv' := [(12, .int ((nI q1))), (11, .int ((deepM M kb))), (9, .int (nI ka)), (8, .int w8), (7, .int (nI kr)), (6, .int (nI kc)), (5, .int (nI kb)), (4, .int (nI v)), (3, .int (nI i)), (2, .int (nI nr)), (1, .ref (ρ1.1 0)), (0, .ref sb)]) dL_law_693 (by decide) rfl ?_
  refine az_iload C 0 dL_law_695 rfl ?_
  refine az_if_lt C 740 dL_law_697 (by decide) (fun q => absurd q (Int32.not_lt.mpr (nI_pos' (by omega)))) (fun _ => ?_)
  refine az_aload_n C 10 dL_law_700 rfl ?_
  refine az_iload C 6 dL_law_701 rfl ?_
  refine az_callH C Y_L_draughtOf [.ref (ρ1.1 0), .int (nI kb)] [] wm_L_214 wst_L_draughtOf dL_law_703 rfl (S_draughtOf (ρ := ρ1) (x := x1) (m := m) (ou := ou) hG (by omega) S1 hkb) rfl (Nat.le_of_ble_eq_true rfl) (Nat.le_of_ble_eq_true rfl) (Nat.le_of_ble_eq_true rfl) (by show _ ≤ 600086; omega) (by show _ ≤ 7301442; omega) (az_k1 rfl rfl ?_) (az_k0 rfl)
  refine az_bipush C (v := 20) dL_law_706 (by decide) ?_
  refine az_icmp_gt C 740 dL_law_708 (by decide) (fun q => absurd q (Int32.not_lt.mpr hd1)) (fun _ => ?_)
  refine az_iload C 0 dL_law_711 rfl ?_
  refine az_if_le C 720 dL_law_713 (by decide) (fun c1 => ?_) (fun c1 => ?_)
  · refine az_iconst C (v := 0) dL_law_720 (by decide) ?_
    refine az_iload C 1 dL_law_721 rfl ?_
    refine az_bipush C (v := 20) dL_law_723 (by decide) ?_
    refine az_icmp_le C 732 dL_law_725 (by decide) (fun _ => ?_) (fun q => absurd (hz1.mp (nI_le0 hq1 c1)) q)
    refine az_iconst C (v := 0) dL_law_732 (by decide) ?_
    refine az_icmp_ne C 740 dL_law_733 (by decide) (fun q => absurd (by decide) q) (fun _ => ?_)
    refine az_iconst C (v := 1) dL_law_736 (by decide) ?_
    refine az_goto C 741 dL_law_737 (by decide) ?_
    refine az_istore C (lv' := [(10, .int 1), (12, .int ((nI q1))), (11, .int ((deepM M kb))), (9, .int (nI ka)), (8, .int w8), (7, .int (nI kr)), (6, .int (nI kc)), (5, .int (nI kb)), (4, .int (nI v)), (3, .int (nI i)), (2, .int (nI nr)), (1, .ref (ρ1.1 0)), (0, .ref sb)]) dL_law_741 (by decide) rfl ?_
    exact az_lv [0, 9, 10, 11, 12] rfl (hx ρ1 _ _ _ _ _ e0 (S1.le (Nat.le_succ c0)) _ _ (by omega) (by omega))
  · refine az_iconst C (v := 1) dL_law_716 (by decide) ?_
    refine az_goto C 721 dL_law_717 (by decide) ?_
    refine az_iload C 1 dL_law_721 rfl ?_
    refine az_bipush C (v := 20) dL_law_723 (by decide) ?_
    refine az_icmp_le C 732 dL_law_725 (by decide) (fun q => absurd q (fun z => c1 (by rw [hz1.mpr z]; decide))) (fun _ => ?_)
    refine az_iconst C (v := 1) dL_law_728 (by decide) ?_
    refine az_goto C 733 dL_law_729 (by decide) ?_
    refine az_icmp_ne C 740 dL_law_733 (by decide) (fun q => absurd (by decide) q) (fun _ => ?_)
    refine az_iconst C (v := 1) dL_law_736 (by decide) ?_
    refine az_goto C 741 dL_law_737 (by decide) ?_
    refine az_istore C (lv' := [(10, .int 1), (12, .int ((nI q1))), (11, .int ((deepM M kb))), (9, .int (nI ka)), (8, .int w8), (7, .int (nI kr)), (6, .int (nI kc)), (5, .int (nI kb)), (4, .int (nI v)), (3, .int (nI i)), (2, .int (nI nr)), (1, .ref (ρ1.1 0)), (0, .ref sb)]) dL_law_741 (by decide) rfl ?_
    exact az_lv [0, 9, 10, 11, 12] rfl (hx ρ1 _ _ _ _ _ e0 (S1.le (Nat.le_succ c0)) _ _ (by omega) (by omega))

end
