section
variable {l : Launch} {G : az_G} {ρ : Rp} {x : Xs} {m : Mz} {ou : Nat → Int64}
set_option maxHeartbeats 4000000 in
set_option maxRecDepth 100000 in
theorem XneedReach1 (hG : az_okS l G) (nr k : Nat) (hr : x.1 1 8 = nI nr) (hn : nr ≤ 6) (hk : k + 1 ≤ nr) : az_M l G yX3_needReach (az_ws yX3_needReach cX3_needReach 2 (Option.none : Option FieldType)) 1 [.ref (ρ.1 0), .int (nI k)] (AD ρ) (KK G ρ x m ou) 0 0 (az_r none (AD ρ) (KK G ρ x m ou)) := by
  refine az_start hG.1 (by decide +kernel) (Nat.le_of_ble_eq_true rfl) ?_
  intro p e s mm args below meth c C hnm
  show az_W l G 2 _ p e _ s mm args below meth c _ _ 0 0 0 [(0, .ref (ρ.1 0)), (1, .int (nI k))] []
  refine az_iload_n C 1 dX3_needReach_0 rfl ?_
  refine az_if_lt C 15 dX3_needReach_1 (by decide) (fun q => absurd q (Int32.not_lt.mpr (nI_pos' (by omega)))) (fun _ => ?_)
  refine az_iload_n C 1 dX3_needReach_4 rfl ?_
  refine az_aload_n C 0 dX3_needReach_5 rfl ?_
  refine az_get C cX3 0 0 0 (v := .ref (ρ.1 1)) wl_X3_12 dX3_needReach_6 rfl rfl rfl (by decide) ?_
  refine az_getN C cX2 0 1 8 (v := .int (x.1 1 8)) (az_bw C hG nx_X3_67 rfl) dX3_needReach_9 rfl rfl rfl (by decide) ?_
  refine az_top (nI nr) hr ?_
  refine az_icmp_lt C 26 dX3_needReach_12 (by decide) (fun _ => ?_) (fun q => absurd (show nI k < nI nr from Int32.not_le.mp (nlt_nle (show k < nr by omega) (by omega))) q)
  exact az_vret C rfl dX3_needReach_26 (Nat.le_of_ble_eq_true rfl) (Nat.le_of_ble_eq_true rfl) ⟨rfl, rfl, rfl⟩

set_option maxHeartbeats 4000000 in
set_option maxRecDepth 100000 in
theorem XneedReach0 (hG : az_okS l G) (nr : Nat) (v : Int32) (hr : x.1 1 8 = nI nr) (hn : nr ≤ 6) (hv : oo nr v) : az_M l G yX3_needReach (az_ws yX3_needReach cX3_needReach 2 (Option.none : Option FieldType)) 6 [.ref (ρ.1 0), .int v] (AD ρ) (KK G ρ x m ou) 1 6 (az_x "java/lang/IndexOutOfBoundsException" (AD ρ) (KK G ρ x m ou)) := by
  refine az_start hG.1 (by decide +kernel) (Nat.le_of_ble_eq_true rfl) ?_
  intro p e s mm args below meth c C hnm
  show az_W l G 2 _ p e _ s mm args below meth c _ _ 0 0 0 [(0, .ref (ρ.1 0)), (1, .int v)] []
  refine az_iload_n C 1 dX3_needReach_0 rfl ?_
  refine az_if_lt C 15 dX3_needReach_1 (by decide) (fun c1 => ?_) (fun c1 => ?_)
  · exact az_thrSW_IOB C hG (List.mem_of_getElem? (i := 2) rfl) dX3_needReach_15 dX3_needReach_18 dX3_needReach_19 dX3_needReach_22 dX3_needReach_25 (Nat.le_of_ble_eq_true rfl) (Nat.le_of_ble_eq_true rfl) (Nat.le_of_ble_eq_true rfl) (Nat.le_of_ble_eq_true rfl) (Nat.le_of_ble_eq_true rfl) (Nat.le_of_ble_eq_true rfl) ⟨rfl, rfl, rfl⟩
  · refine az_iload_n C 1 dX3_needReach_4 rfl ?_
    refine az_aload_n C 0 dX3_needReach_5 rfl ?_
    refine az_get C cX3 0 0 0 (v := .ref (ρ.1 1)) wl_X3_12 dX3_needReach_6 rfl rfl rfl (by decide) ?_
    refine az_getN C cX2 0 1 8 (v := .int (x.1 1 8)) (az_bw C hG nx_X3_67 rfl) dX3_needReach_9 rfl rfl rfl (by decide) ?_
    refine az_top (nI nr) hr ?_
    refine az_icmp_lt C 26 dX3_needReach_12 (by decide) (fun q => absurd q (Int32.not_lt.mpr (hv.resolve_left c1))) (fun _ => ?_)
    exact az_thrSW_IOB C hG (List.mem_of_getElem? (i := 2) rfl) dX3_needReach_15 dX3_needReach_18 dX3_needReach_19 dX3_needReach_22 dX3_needReach_25 (Nat.le_of_ble_eq_true rfl) (Nat.le_of_ble_eq_true rfl) (Nat.le_of_ble_eq_true rfl) (Nat.le_of_ble_eq_true rfl) (Nat.le_of_ble_eq_true rfl) (Nat.le_of_ble_eq_true rfl) ⟨rfl, rfl, rfl⟩

set_option maxHeartbeats 4000000 in
set_option maxRecDepth 100000 in
theorem XneedLock1 (hG : az_okS l G) (nr k : Nat) (hr : x.1 1 8 = nI nr) (hn : nr ≤ 6) (hk : k + 2 ≤ nr) : az_M l G yX3_needLock (az_ws yX3_needLock cX3_needLock 2 (Option.none : Option FieldType)) 1 [.ref (ρ.1 0), .int (nI k)] (AD ρ) (KK G ρ x m ou) 0 0 (az_r none (AD ρ) (KK G ρ x m ou)) := by
  refine az_start hG.1 (by decide +kernel) (Nat.le_of_ble_eq_true rfl) ?_
  intro p e s mm args below meth c C hnm
  show az_W l G 2 _ p e _ s mm args below meth c _ _ 0 0 0 [(0, .ref (ρ.1 0)), (1, .int (nI k))] []
  refine az_iload_n C 1 dX3_needLock_0 rfl ?_
  refine az_if_lt C 17 dX3_needLock_1 (by decide) (fun q => absurd q (Int32.not_lt.mpr (nI_pos' (by omega)))) (fun _ => ?_)
  refine az_iload_n C 1 dX3_needLock_4 rfl ?_
  refine az_aload_n C 0 dX3_needLock_5 rfl ?_
  refine az_get C cX3 0 0 0 (v := .ref (ρ.1 1)) wl_X3_12 dX3_needLock_6 rfl rfl rfl (by decide) ?_
  refine az_getN C cX2 0 1 8 (v := .int (x.1 1 8)) (az_bw C hG nx_X3_67 rfl) dX3_needLock_9 rfl rfl rfl (by decide) ?_
  refine az_top (nI nr) hr ?_
  refine az_iconst C (v := 1) dX3_needLock_12 (by decide) ?_
  refine az_isub C dX3_needLock_13 ?_
  refine az_top (nI (nr - 1)) (show nI nr - 1 = nI (nr - 1) from pk_sub (b := 1) (by omega)) ?_
  refine az_icmp_lt C 28 dX3_needLock_14 (by decide) (fun _ => ?_) (fun q => absurd (show nI k < nI (nr - 1) from Int32.not_le.mp (nlt_nle (show k < (nr - 1) by omega) (by omega))) q)
  exact az_vret C rfl dX3_needLock_28 (Nat.le_of_ble_eq_true rfl) (Nat.le_of_ble_eq_true rfl) ⟨rfl, rfl, rfl⟩

set_option maxHeartbeats 4000000 in
set_option maxRecDepth 100000 in
theorem XneedLock0 (hG : az_okS l G) (nr : Nat) (v : Int32) (hr : x.1 1 8 = nI nr) (hn : nr ≤ 6) (h1 : 1 ≤ nr) (hv : oo (nr - 1) v) : az_M l G yX3_needLock (az_ws yX3_needLock cX3_needLock 2 (Option.none : Option FieldType)) 6 [.ref (ρ.1 0), .int v] (AD ρ) (KK G ρ x m ou) 1 6 (az_x "java/lang/IndexOutOfBoundsException" (AD ρ) (KK G ρ x m ou)) := by
  refine az_start hG.1 (by decide +kernel) (Nat.le_of_ble_eq_true rfl) ?_
  intro p e s mm args below meth c C hnm
  show az_W l G 2 _ p e _ s mm args below meth c _ _ 0 0 0 [(0, .ref (ρ.1 0)), (1, .int v)] []
  refine az_iload_n C 1 dX3_needLock_0 rfl ?_
  refine az_if_lt C 17 dX3_needLock_1 (by decide) (fun c1 => ?_) (fun c1 => ?_)
  · exact az_thrSW_IOB C hG (List.mem_of_getElem? (i := 3) rfl) dX3_needLock_17 dX3_needLock_20 dX3_needLock_21 dX3_needLock_24 dX3_needLock_27 (Nat.le_of_ble_eq_true rfl) (Nat.le_of_ble_eq_true rfl) (Nat.le_of_ble_eq_true rfl) (Nat.le_of_ble_eq_true rfl) (Nat.le_of_ble_eq_true rfl) (Nat.le_of_ble_eq_true rfl) ⟨rfl, rfl, rfl⟩
  · refine az_iload_n C 1 dX3_needLock_4 rfl ?_
    refine az_aload_n C 0 dX3_needLock_5 rfl ?_
    refine az_get C cX3 0 0 0 (v := .ref (ρ.1 1)) wl_X3_12 dX3_needLock_6 rfl rfl rfl (by decide) ?_
    refine az_getN C cX2 0 1 8 (v := .int (x.1 1 8)) (az_bw C hG nx_X3_67 rfl) dX3_needLock_9 rfl rfl rfl (by decide) ?_
    refine az_top (nI nr) hr ?_
    refine az_iconst C (v := 1) dX3_needLock_12 (by decide) ?_
    refine az_isub C dX3_needLock_13 ?_
    refine az_top (nI (nr - 1)) (show nI nr - 1 = nI (nr - 1) from pk_sub (b := 1) (by omega)) ?_
    refine az_icmp_lt C 28 dX3_needLock_14 (by decide) (fun q => absurd q (Int32.not_lt.mpr (hv.resolve_left c1))) (fun _ => ?_)
    exact az_thrSW_IOB C hG (List.mem_of_getElem? (i := 3) rfl) dX3_needLock_17 dX3_needLock_20 dX3_needLock_21 dX3_needLock_24 dX3_needLock_27 (Nat.le_of_ble_eq_true rfl) (Nat.le_of_ble_eq_true rfl) (Nat.le_of_ble_eq_true rfl) (Nat.le_of_ble_eq_true rfl) (Nat.le_of_ble_eq_true rfl) (Nat.le_of_ble_eq_true rfl) ⟨rfl, rfl, rfl⟩

set_option maxHeartbeats 4000000 in
set_option maxRecDepth 100000 in
theorem XneedMv1 (hG : az_okS l G) (mv k : Nat) (hm : x.1 8 3 = nI mv) (hmv : mv < 100000) (hk : k + 1 ≤ mv) : az_M l G yX3_needMovement (az_ws yX3_needMovement cX3_needMovement 2 (Option.none : Option FieldType)) 1 [.ref (ρ.1 0), .int (nI k)] (AD ρ) (KK G ρ x m ou) 0 0 (az_r none (AD ρ) (KK G ρ x m ou)) := by
  refine az_start hG.1 (by decide +kernel) (Nat.le_of_ble_eq_true rfl) ?_
  intro p e s mm args below meth c C hnm
  show az_W l G 2 _ p e _ s mm args below meth c _ _ 0 0 0 [(0, .ref (ρ.1 0)), (1, .int (nI k))] []
  refine az_iload_n C 1 dX3_needMovement_0 rfl ?_
  refine az_if_lt C 18 dX3_needMovement_1 (by decide) (fun q => absurd q (Int32.not_lt.mpr (nI_pos' (by omega)))) (fun _ => ?_)
  refine az_iload_n C 1 dX3_needMovement_4 rfl ?_
  refine az_aload_n C 0 dX3_needMovement_5 rfl ?_
  refine az_get C cX3 0 0 0 (v := .ref (ρ.1 1)) wl_X3_12 dX3_needMovement_6 rfl rfl rfl (by decide) ?_
  refine az_getN C cX2 0 1 6 (v := .ref (ρ.1 8)) (az_bw C hG nx_X3_89 rfl) dX3_needMovement_9 rfl rfl rfl (by decide) ?_
  refine az_getN C cX1 0 8 3 (v := .int (x.1 8 3)) (az_bw C hG nx_X3_267 rfl) dX3_needMovement_12 rfl rfl rfl (by decide) ?_
  refine az_top (nI mv) hm ?_
  refine az_icmp_lt C 29 dX3_needMovement_15 (by decide) (fun _ => ?_) (fun q => absurd (show nI k < nI mv from Int32.not_le.mp (nlt_nle (show k < mv by omega) (by omega))) q)
  exact az_vret C rfl dX3_needMovement_29 (Nat.le_of_ble_eq_true rfl) (Nat.le_of_ble_eq_true rfl) ⟨rfl, rfl, rfl⟩

set_option maxHeartbeats 4000000 in
set_option maxRecDepth 100000 in
theorem XneedMv0 (hG : az_okS l G) (mv : Nat) (v : Int32) (hm : x.1 8 3 = nI mv) (hmv : mv < 100000) (hv : oo mv v) : az_M l G yX3_needMovement (az_ws yX3_needMovement cX3_needMovement 2 (Option.none : Option FieldType)) 6 [.ref (ρ.1 0), .int v] (AD ρ) (KK G ρ x m ou) 1 6 (az_x "java/lang/IndexOutOfBoundsException" (AD ρ) (KK G ρ x m ou)) := by
  refine az_start hG.1 (by decide +kernel) (Nat.le_of_ble_eq_true rfl) ?_
  intro p e s mm args below meth c C hnm
  show az_W l G 2 _ p e _ s mm args below meth c _ _ 0 0 0 [(0, .ref (ρ.1 0)), (1, .int v)] []
  refine az_iload_n C 1 dX3_needMovement_0 rfl ?_
  refine az_if_lt C 18 dX3_needMovement_1 (by decide) (fun c1 => ?_) (fun c1 => ?_)
  · exact az_thrSW_IOB C hG (List.mem_of_getElem? (i := 16) rfl) dX3_needMovement_18 dX3_needMovement_21 dX3_needMovement_22 dX3_needMovement_25 dX3_needMovement_28 (Nat.le_of_ble_eq_true rfl) (Nat.le_of_ble_eq_true rfl) (Nat.le_of_ble_eq_true rfl) (Nat.le_of_ble_eq_true rfl) (Nat.le_of_ble_eq_true rfl) (Nat.le_of_ble_eq_true rfl) ⟨rfl, rfl, rfl⟩
  · refine az_iload_n C 1 dX3_needMovement_4 rfl ?_
    refine az_aload_n C 0 dX3_needMovement_5 rfl ?_
    refine az_get C cX3 0 0 0 (v := .ref (ρ.1 1)) wl_X3_12 dX3_needMovement_6 rfl rfl rfl (by decide) ?_
    refine az_getN C cX2 0 1 6 (v := .ref (ρ.1 8)) (az_bw C hG nx_X3_89 rfl) dX3_needMovement_9 rfl rfl rfl (by decide) ?_
    refine az_getN C cX1 0 8 3 (v := .int (x.1 8 3)) (az_bw C hG nx_X3_267 rfl) dX3_needMovement_12 rfl rfl rfl (by decide) ?_
    refine az_top (nI mv) hm ?_
    refine az_icmp_lt C 29 dX3_needMovement_15 (by decide) (fun q => absurd q (Int32.not_lt.mpr (hv.resolve_left c1))) (fun _ => ?_)
    exact az_thrSW_IOB C hG (List.mem_of_getElem? (i := 16) rfl) dX3_needMovement_18 dX3_needMovement_21 dX3_needMovement_22 dX3_needMovement_25 dX3_needMovement_28 (Nat.le_of_ble_eq_true rfl) (Nat.le_of_ble_eq_true rfl) (Nat.le_of_ble_eq_true rfl) (Nat.le_of_ble_eq_true rfl) (Nat.le_of_ble_eq_true rfl) (Nat.le_of_ble_eq_true rfl) ⟨rfl, rfl, rfl⟩

set_option maxHeartbeats 4000000 in
set_option maxRecDepth 100000 in
theorem XneedRef1 (hG : az_okS l G) (h : ¬ x.1 0 12 = 0) : az_M l G yX3_needRefusal (az_ws yX3_needRefusal cX3_needRefusal 1 (Option.none : Option FieldType)) 1 [.ref (ρ.1 0)] (AD ρ) (KK G ρ x m ou) 0 0 (az_r none (AD ρ) (KK G ρ x m ou)) := by
  refine az_start hG.1 (by decide +kernel) (Nat.le_of_ble_eq_true rfl) ?_
  intro p e s mm args below meth c C hnm
  show az_W l G 1 _ p e _ s mm args below meth c _ _ 0 0 0 [(0, .ref (ρ.1 0))] []
  refine az_aload_n C 0 dX3_needRefusal_0 rfl ?_
  refine az_get C cX3 0 0 12 (v := .int (x.1 0 12)) wl_X3_48 dX3_needRefusal_1 rfl rfl rfl (by decide) ?_
  refine az_if_ne C 18 dX3_needRefusal_4 (by decide) (fun _ => ?_) (fun q => absurd q h)
  exact az_vret C rfl dX3_needRefusal_18 (Nat.le_of_ble_eq_true rfl) (Nat.le_of_ble_eq_true rfl) ⟨rfl, rfl, rfl⟩

set_option maxHeartbeats 4000000 in
set_option maxRecDepth 100000 in
theorem XneedRef0 (hG : az_okS l G) (h : x.1 0 12 = 0) : az_M l G yX3_needRefusal (az_ws yX3_needRefusal cX3_needRefusal 1 (Option.none : Option FieldType)) 6 [.ref (ρ.1 0)] (AD ρ) (KK G ρ x m ou) 1 6 (az_x "java/util/NoSuchElementException" (AD ρ) (KK G ρ x m ou)) := by
  refine az_start hG.1 (by decide +kernel) (Nat.le_of_ble_eq_true rfl) ?_
  intro p e s mm args below meth c C hnm
  show az_W l G 1 _ p e _ s mm args below meth c _ _ 0 0 0 [(0, .ref (ρ.1 0))] []
  refine az_aload_n C 0 dX3_needRefusal_0 rfl ?_
  refine az_get C cX3 0 0 12 (v := .int (x.1 0 12)) wl_X3_48 dX3_needRefusal_1 rfl rfl rfl (by decide) ?_
  refine az_if_ne C 18 dX3_needRefusal_4 (by decide) (fun q => absurd h q) (fun _ => ?_)
  exact az_thrSW_NSE C hG (List.mem_of_getElem? (i := 21) rfl) dX3_needRefusal_7 dX3_needRefusal_10 dX3_needRefusal_11 dX3_needRefusal_14 dX3_needRefusal_17 (Nat.le_of_ble_eq_true rfl) (Nat.le_of_ble_eq_true rfl) (Nat.le_of_ble_eq_true rfl) (Nat.le_of_ble_eq_true rfl) (Nat.le_of_ble_eq_true rfl) (Nat.le_of_ble_eq_true rfl) ⟨rfl, rfl, rfl⟩

set_option maxHeartbeats 4000000 in
set_option maxRecDepth 100000 in
theorem Xwithin (hG : az_okS l G) (v u w : Int32) : az_M l G yX3_isWithin (az_ws yX3_isWithin cX3_isWithin 3 (Option.some FieldType.boolean)) 1 [.int v, .int u, .int w] (AD ρ) (KK G ρ x m ou) 0 0 (az_r (some (.int (inI v u w))) (AD ρ) (KK G ρ x m ou)) := by
  refine az_start hG.1 (by decide +kernel) (Nat.le_of_ble_eq_true rfl) ?_
  intro p e s mm args below meth c C hnm
  show az_W l G 3 _ p e _ s mm args below meth c _ _ 0 0 0 [(0, .int v), (1, .int u), (2, .int w)] []
  refine az_iload_n C 0 dX3_isWithin_0 rfl ?_
  refine az_iload_n C 1 dX3_isWithin_1 rfl ?_
  refine az_icmp_lt C 14 dX3_isWithin_2 (by decide) (fun c1 => ?_) (fun c1 => ?_)
  · refine az_iconst C (v := 0) dX3_isWithin_14 (by decide) ?_
    exact az_zret C .boolean rfl rfl dX3_isWithin_15 (Nat.le_of_ble_eq_true rfl) (Nat.le_of_ble_eq_true rfl) ⟨(by unfold inI; simp only [c1, if_true, if_false]), rfl, rfl⟩
  · refine az_iload_n C 0 dX3_isWithin_5 rfl ?_
    refine az_iload_n C 2 dX3_isWithin_6 rfl ?_
    refine az_icmp_gt C 14 dX3_isWithin_7 (by decide) (fun c2 => ?_) (fun c2 => ?_)
    · refine az_iconst C (v := 0) dX3_isWithin_14 (by decide) ?_
      exact az_zret C .boolean rfl rfl dX3_isWithin_15 (Nat.le_of_ble_eq_true rfl) (Nat.le_of_ble_eq_true rfl) ⟨(by unfold inI; simp only [c1, c2, if_true, if_false]), rfl, rfl⟩
    · refine az_iconst C (v := 1) dX3_isWithin_10 (by decide) ?_
      refine az_goto C 15 dX3_isWithin_11 (by decide) ?_
      exact az_zret C .boolean rfl rfl dX3_isWithin_15 (Nat.le_of_ble_eq_true rfl) (Nat.le_of_ble_eq_true rfl) ⟨(by unfold inI; simp only [c1, c2, if_true, if_false]), rfl, rfl⟩

set_option maxHeartbeats 4000000 in
set_option maxRecDepth 100000 in
theorem XneedTons1 (hG : az_okS l G) (v : Int32) (h : ¬ inI v 1 999 = 0) : az_M l G yX3_needTons (az_ws yX3_needTons cX3_needTons 1 (Option.none : Option FieldType)) 2 [.int v] (AD ρ) (KK G ρ x m ou) 0 0 (az_r none (AD ρ) (KK G ρ x m ou)) := by
  refine az_start hG.1 (by decide +kernel) (Nat.le_of_ble_eq_true rfl) ?_
  intro p e s mm args below meth c C hnm
  show az_W l G 1 _ p e _ s mm args below meth c _ _ 0 0 0 [(0, .int v)] []
  refine az_iload_n C 0 dX3_needTons_0 rfl ?_
  refine az_iconst C (v := 1) dX3_needTons_1 (by decide) ?_
  refine az_sipush C (v := 999) dX3_needTons_2 (by decide) ?_
  refine az_callS C Y_X3_isWithin [.int v, .int 1, .int 999] [] wm_X3_56 wst_X3_isWithin dX3_needTons_5 rfl (Xwithin hG (v) (1) (999)) rfl (Nat.le_of_ble_eq_true rfl) (Nat.le_of_ble_eq_true rfl) (Nat.le_of_ble_eq_true rfl) (Nat.le_of_ble_eq_true rfl) (Nat.le_of_ble_eq_true rfl) (az_k1 rfl rfl ?_) (az_k0 rfl)
  refine az_if_ne C 22 dX3_needTons_8 (by decide) (fun _ => ?_) (fun q => absurd q h)
  exact az_vret C rfl dX3_needTons_22 (Nat.le_of_ble_eq_true rfl) (Nat.le_of_ble_eq_true rfl) ⟨rfl, rfl, rfl⟩

set_option maxHeartbeats 4000000 in
set_option maxRecDepth 100000 in
theorem XneedTons0 (hG : az_okS l G) (v : Int32) (h : inI v 1 999 = 0) : az_M l G yX3_needTons (az_ws yX3_needTons cX3_needTons 1 (Option.none : Option FieldType)) 6 [.int v] (AD ρ) (KK G ρ x m ou) 1 6 (az_x "java/lang/IllegalArgumentException" (AD ρ) (KK G ρ x m ou)) := by
  refine az_start hG.1 (by decide +kernel) (Nat.le_of_ble_eq_true rfl) ?_
  intro p e s mm args below meth c C hnm
  show az_W l G 1 _ p e _ s mm args below meth c _ _ 0 0 0 [(0, .int v)] []
  refine az_iload_n C 0 dX3_needTons_0 rfl ?_
  refine az_iconst C (v := 1) dX3_needTons_1 (by decide) ?_
  refine az_sipush C (v := 999) dX3_needTons_2 (by decide) ?_
  refine az_callS C Y_X3_isWithin [.int v, .int 1, .int 999] [] wm_X3_56 wst_X3_isWithin dX3_needTons_5 rfl (Xwithin hG (v) (1) (999)) rfl (Nat.le_of_ble_eq_true rfl) (Nat.le_of_ble_eq_true rfl) (Nat.le_of_ble_eq_true rfl) (Nat.le_of_ble_eq_true rfl) (Nat.le_of_ble_eq_true rfl) (az_k1 rfl rfl ?_) (az_k0 rfl)
  refine az_if_ne C 22 dX3_needTons_8 (by decide) (fun q => absurd h q) (fun _ => ?_)
  exact az_thrSW_IAE C hG (List.mem_of_getElem? (i := 23) rfl) dX3_needTons_11 dX3_needTons_14 dX3_needTons_15 dX3_needTons_18 dX3_needTons_21 (Nat.le_of_ble_eq_true rfl) (Nat.le_of_ble_eq_true rfl) (Nat.le_of_ble_eq_true rfl) (Nat.le_of_ble_eq_true rfl) (Nat.le_of_ble_eq_true rfl) (Nat.le_of_ble_eq_true rfl) ⟨rfl, rfl, rfl⟩

theorem oo8 {nb : Nat} {v : Int32} (hn : nb ≤ 8) (hv : oo nb v) (h0 : ¬ v < 0) (h8 : v < 8) : ∃ j, v = nI j ∧ nb ≤ j ∧ j < 8 := by
  rcases oo_or 8 (by decide) v with h | ⟨k, hk, e⟩
  · rcases h with h | h
    · exact absurd h h0
    · exact absurd h (Int32.not_le.mpr h8)
  · refine ⟨k, e, ?_, hk⟩
    rcases hv with h | h
    · exact absurd h h0
    · rw [e] at h
      rcases Nat.lt_or_ge k nb with q | q
      · exact absurd h (nlt_nle q (by omega))
      · exact q
set_option maxHeartbeats 4000000 in
set_option maxRecDepth 100000 in
theorem Xbarge1 (hG : az_okS l G) (nb k : Nat) (hb : x.1 0 7 = nI nb) (hnb : nb = ρ.2.2.2.2.2) (hn : nb ≤ 8) (hk : k + 1 ≤ nb) : az_M l G yX3_bargeNumbered (az_ws yX3_bargeNumbered cX3_bargeNumbered 3 (Option.some (FieldType.object "BargeRiver$Barge"))) 1 [.ref (ρ.1 0), .int (nI k)] (AD ρ) (KK G ρ x m ou) 0 0 (az_r (some (.ref (ρ.2.2.1 k))) (AD ρ) (KK G ρ x m ou)) := by
  refine az_start hG.1 (by decide +kernel) (Nat.le_of_ble_eq_true rfl) ?_
  intro p e s mm args below meth c C hnm
  show az_W l G 3 _ p e _ s mm args below meth c _ _ 0 0 0 [(0, .ref (ρ.1 0)), (1, .int (nI k))] []
  refine az_iload_n C 1 dX3_bargeNumbered_0 rfl ?_
  refine az_if_lt C 10 dX3_bargeNumbered_1 (by decide) (fun q => absurd q (Int32.not_lt.mpr (nI_pos' (by omega)))) (fun _ => ?_)
  refine az_iload_n C 1 dX3_bargeNumbered_4 rfl ?_
  refine az_bipush C (v := 8) dX3_bargeNumbered_5 (by decide) ?_
  refine az_icmp_lt C 14 dX3_bargeNumbered_7 (by decide) (fun _ => ?_) (fun q => absurd (show nI k < nI 8 from Int32.not_le.mp (nlt_nle (show k < 8 by omega) (by omega))) q)
  refine az_aload_n C 0 dX3_bargeNumbered_14 rfl ?_
  refine az_get C cX3 0 0 5 (v := .ref (ρ.1 13)) wl_X3_31 dX3_bargeNumbered_15 rfl rfl rfl (by decide) ?_
  refine az_iload_n C 1 dX3_bargeNumbered_18 rfl ?_
  refine az_aald C 0 13 (N := 8) (f := bgs ρ) dX3_bargeNumbered_19 rfl rfl (vp_in_nI (show k < 8 from Nat.lt_of_lt_of_le (show k < ρ.2.2.2.2.2 by omega) (show ρ.2.2.2.2.2 ≤ 8 by omega)) (by decide)) ?_
  refine az_st [.ref (ρ.2.2.1 k)] (by rw [nI_clamp (Nat.lt_of_lt_of_le (Nat.lt_of_lt_of_le (show k < ρ.2.2.2.2.2 by omega) (show ρ.2.2.2.2.2 ≤ 8 by omega)) (by decide)), bgs, if_pos (show k < ρ.2.2.2.2.2 by omega)]; rfl) ?_
  refine az_astore_n C (lv' := [(2, .ref (ρ.2.2.1 k)), (0, .ref (ρ.1 0)), (1, .int (nI k))]) (j := 2) rfl dX3_bargeNumbered_20 (by decide) rfl ?_
  refine az_aload_n C 0 dX3_bargeNumbered_21 rfl ?_
  refine az_ifnonnull C 36 dX3_bargeNumbered_22 (by decide) ?_
  refine az_aload_n C 0 dX3_bargeNumbered_36 rfl ?_
  exact az_aret C (.object "BargeRiver$Barge") rfl (Or.inl ⟨_, rfl⟩) (Or.inr ⟨_, rfl⟩) dX3_bargeNumbered_37 (Nat.le_of_ble_eq_true rfl) (Nat.le_of_ble_eq_true rfl) ⟨rfl, rfl, rfl⟩

set_option maxHeartbeats 4000000 in
set_option maxRecDepth 100000 in
theorem Xbarge0 (hG : az_okS l G) (nb : Nat) (v : Int32) (hb : x.1 0 7 = nI nb) (hnb : nb = ρ.2.2.2.2.2) (hn : nb ≤ 8) (hv : oo nb v) : az_M l G yX3_bargeNumbered (az_ws yX3_bargeNumbered cX3_bargeNumbered 3 (Option.some (FieldType.object "BargeRiver$Barge"))) 6 [.ref (ρ.1 0), .int v] (AD ρ) (KK G ρ x m ou) 1 6 (az_x "java/lang/IndexOutOfBoundsException" (AD ρ) (KK G ρ x m ou)) := by
  refine az_start hG.1 (by decide +kernel) (Nat.le_of_ble_eq_true rfl) ?_
  intro p e s mm args below meth c C hnm
  show az_W l G 3 _ p e _ s mm args below meth c _ _ 0 0 0 [(0, .ref (ρ.1 0)), (1, .int v)] []
  refine az_iload_n C 1 dX3_bargeNumbered_0 rfl ?_
  refine az_if_lt C 10 dX3_bargeNumbered_1 (by decide) (fun c1 => ?_) (fun c1 => ?_)
  · refine az_null C dX3_bargeNumbered_10 ?_
    refine az_goto C 20 dX3_bargeNumbered_11 (by decide) ?_
    refine az_astore_nN C (lv' := [(2, .null), (0, .ref (ρ.1 0)), (1, .int v)]) (j := 2) rfl dX3_bargeNumbered_20 (by decide) rfl ?_
    refine az_aload_nN C 0 dX3_bargeNumbered_21 rfl ?_
    refine az_ifnonnullN C dX3_bargeNumbered_22 ?_
    exact az_thrSW_IOB C hG (List.mem_of_getElem? (i := 9) rfl) dX3_bargeNumbered_25 dX3_bargeNumbered_28 dX3_bargeNumbered_29 dX3_bargeNumbered_32 dX3_bargeNumbered_35 (Nat.le_of_ble_eq_true rfl) (Nat.le_of_ble_eq_true rfl) (Nat.le_of_ble_eq_true rfl) (Nat.le_of_ble_eq_true rfl) (Nat.le_of_ble_eq_true rfl) (Nat.le_of_ble_eq_true rfl) ⟨rfl, rfl, rfl⟩
  · refine az_iload_n C 1 dX3_bargeNumbered_4 rfl ?_
    refine az_bipush C (v := 8) dX3_bargeNumbered_5 (by decide) ?_
    refine az_icmp_lt C 14 dX3_bargeNumbered_7 (by decide) (fun c2 => ?_) (fun c2 => ?_)
    · refine az_aload_n C 0 dX3_bargeNumbered_14 rfl ?_
      refine az_get C cX3 0 0 5 (v := .ref (ρ.1 13)) wl_X3_31 dX3_bargeNumbered_15 rfl rfl rfl (by decide) ?_
      refine az_iload_n C 1 dX3_bargeNumbered_18 rfl ?_
      obtain ⟨j9, hj9, hjn, hj8⟩ := oo8 hn hv c1 c2
      refine az_aald C 0 13 (N := 8) (f := bgs ρ) dX3_bargeNumbered_19 rfl rfl (by rw [hj9]; exact vp_in_nI hj8 (by decide)) ?_
      refine az_st [.null] (by rw [hj9, nI_clamp (Nat.lt_of_lt_of_le hj8 (by decide)), bgs, if_neg (by omega)]; rfl) ?_
      refine az_astore_nN C (lv' := [(2, .null), (0, .ref (ρ.1 0)), (1, .int v)]) (j := 2) rfl dX3_bargeNumbered_20 (by decide) rfl ?_
      refine az_aload_nN C 0 dX3_bargeNumbered_21 rfl ?_
      refine az_ifnonnullN C dX3_bargeNumbered_22 ?_
      exact az_thrSW_IOB C hG (List.mem_of_getElem? (i := 9) rfl) dX3_bargeNumbered_25 dX3_bargeNumbered_28 dX3_bargeNumbered_29 dX3_bargeNumbered_32 dX3_bargeNumbered_35 (Nat.le_of_ble_eq_true rfl) (Nat.le_of_ble_eq_true rfl) (Nat.le_of_ble_eq_true rfl) (Nat.le_of_ble_eq_true rfl) (Nat.le_of_ble_eq_true rfl) (Nat.le_of_ble_eq_true rfl) ⟨rfl, rfl, rfl⟩
    · refine az_null C dX3_bargeNumbered_10 ?_
      refine az_goto C 20 dX3_bargeNumbered_11 (by decide) ?_
      refine az_astore_nN C (lv' := [(2, .null), (0, .ref (ρ.1 0)), (1, .int v)]) (j := 2) rfl dX3_bargeNumbered_20 (by decide) rfl ?_
      refine az_aload_nN C 0 dX3_bargeNumbered_21 rfl ?_
      refine az_ifnonnullN C dX3_bargeNumbered_22 ?_
      exact az_thrSW_IOB C hG (List.mem_of_getElem? (i := 9) rfl) dX3_bargeNumbered_25 dX3_bargeNumbered_28 dX3_bargeNumbered_29 dX3_bargeNumbered_32 dX3_bargeNumbered_35 (Nat.le_of_ble_eq_true rfl) (Nat.le_of_ble_eq_true rfl) (Nat.le_of_ble_eq_true rfl) (Nat.le_of_ble_eq_true rfl) (Nat.le_of_ble_eq_true rfl) (Nat.le_of_ble_eq_true rfl) ⟨rfl, rfl, rfl⟩

set_option maxHeartbeats 4000000 in
set_option maxRecDepth 100000 in
theorem XareaOf1 (hG : az_okS l G) (nr k : Nat) (hr : x.1 1 8 = nI nr) (hn : nr ≤ 6) (hk : k + 1 ≤ nr) : az_M l G yX3_areaOf (az_ws yX3_areaOf cX3_areaOf 2 (Option.some FieldType.int)) 3 [.ref (ρ.1 0), .int (nI k)] (AD ρ) (KK G ρ x m ou) 0 0 (az_r (some (.int (x.1 2 k))) (AD ρ) (KK G ρ x m ou)) := by
  refine az_start hG.1 (by decide +kernel) (Nat.le_of_ble_eq_true rfl) ?_
  intro p e s mm args below meth c C hnm
  show az_W l G 2 _ p e _ s mm args below meth c _ _ 0 0 0 [(0, .ref (ρ.1 0)), (1, .int (nI k))] []
  refine az_aload_n C 0 dX3_areaOf_0 rfl ?_
  refine az_iload_n C 1 dX3_areaOf_1 rfl ?_
  refine az_callV C Y_X3_needReach cX3 0 0 [.int (nI k)] [] wm_X3_78 wi_X3_needReach wse_X3_needReach dX3_areaOf_2 rfl rfl rfl (XneedReach1 hG nr k hr hn hk) rfl (Nat.le_of_ble_eq_true rfl) (Nat.le_of_ble_eq_true rfl) (Nat.le_of_ble_eq_true rfl) (Nat.le_of_ble_eq_true rfl) (Nat.le_of_ble_eq_true rfl) (az_k1 rfl rfl ?_) (az_k0 rfl)
  refine az_aload_n C 0 dX3_areaOf_5 rfl ?_
  refine az_get C cX3 0 0 0 (v := .ref (ρ.1 1)) wl_X3_12 dX3_areaOf_6 rfl rfl rfl (by decide) ?_
  refine az_getN C cX2 0 1 0 (v := .ref (ρ.1 2)) (az_bw C hG nx_X3_82 rfl) dX3_areaOf_9 rfl rfl rfl (by decide) ?_
  refine az_iload_n C 1 dX3_areaOf_12 rfl ?_
  refine az_ialdN C 0 2 k (v := x.1 2 k) dX3_areaOf_13 rfl rfl (by omega) (by decide) rfl ?_
  exact az_iret C rfl dX3_areaOf_14 (Nat.le_of_ble_eq_true rfl) (Nat.le_of_ble_eq_true rfl) ⟨rfl, rfl, rfl⟩

set_option maxHeartbeats 4000000 in
set_option maxRecDepth 100000 in
theorem XareaOf0 (hG : az_okS l G) (nr : Nat) (v : Int32) (hr : x.1 1 8 = nI nr) (hn : nr ≤ 6) (hv : oo nr v) : az_M l G yX3_areaOf (az_ws yX3_areaOf cX3_areaOf 2 (Option.some FieldType.int)) 7 [.ref (ρ.1 0), .int v] (AD ρ) (KK G ρ x m ou) 1 6 (az_x "java/lang/IndexOutOfBoundsException" (AD ρ) (KK G ρ x m ou)) := by
  refine az_start hG.1 (by decide +kernel) (Nat.le_of_ble_eq_true rfl) ?_
  intro p e s mm args below meth c C hnm
  show az_W l G 2 _ p e _ s mm args below meth c _ _ 0 0 0 [(0, .ref (ρ.1 0)), (1, .int v)] []
  refine az_aload_n C 0 dX3_areaOf_0 rfl ?_
  refine az_iload_n C 1 dX3_areaOf_1 rfl ?_
  refine az_callV C Y_X3_needReach cX3 0 0 [.int v] [] wm_X3_78 wi_X3_needReach wse_X3_needReach dX3_areaOf_2 rfl rfl rfl (XneedReach0 hG nr v hr hn hv) rfl (Nat.le_of_ble_eq_true rfl) (Nat.le_of_ble_eq_true rfl) (Nat.le_of_ble_eq_true rfl) (Nat.le_of_ble_eq_true rfl) (Nat.le_of_ble_eq_true rfl) (az_x0 rfl) (az_x1 rfl ?_)
  exact az_out C (fun _ h => by cases h) (Nat.le_of_ble_eq_true rfl) (Nat.le_of_ble_eq_true rfl) ⟨rfl, rfl, rfl⟩

set_option maxHeartbeats 4000000 in
set_option maxRecDepth 100000 in
theorem XvolumeOf1 (hG : az_okS l G) (nr k : Nat) (hr : x.1 1 8 = nI nr) (hn : nr ≤ 6) (hk : k + 1 ≤ nr) : az_M l G yX3_volumeOf (az_ws yX3_volumeOf cX3_volumeOf 2 (Option.some FieldType.int)) 3 [.ref (ρ.1 0), .int (nI k)] (AD ρ) (KK G ρ x m ou) 0 0 (az_r (some (.int (x.1 4 (k + 3)))) (AD ρ) (KK G ρ x m ou)) := by
  refine az_start hG.1 (by decide +kernel) (Nat.le_of_ble_eq_true rfl) ?_
  intro p e s mm args below meth c C hnm
  show az_W l G 2 _ p e _ s mm args below meth c _ _ 0 0 0 [(0, .ref (ρ.1 0)), (1, .int (nI k))] []
  refine az_aload_n C 0 dX3_volumeOf_0 rfl ?_
  refine az_iload_n C 1 dX3_volumeOf_1 rfl ?_
  refine az_callV C Y_X3_needReach cX3 0 0 [.int (nI k)] [] wm_X3_78 wi_X3_needReach wse_X3_needReach dX3_volumeOf_2 rfl rfl rfl (XneedReach1 hG nr k hr hn hk) rfl (Nat.le_of_ble_eq_true rfl) (Nat.le_of_ble_eq_true rfl) (Nat.le_of_ble_eq_true rfl) (Nat.le_of_ble_eq_true rfl) (Nat.le_of_ble_eq_true rfl) (az_k1 rfl rfl ?_) (az_k0 rfl)
  refine az_aload_n C 0 dX3_volumeOf_5 rfl ?_
  refine az_get C cX3 0 0 0 (v := .ref (ρ.1 1)) wl_X3_12 dX3_volumeOf_6 rfl rfl rfl (by decide) ?_
  refine az_iload_n C 1 dX3_volumeOf_9 rfl ?_
  refine az_callV C Y_X2_at cX2 0 1 [.int (nI k)] [] wm_X3_85 wi_X2_at wse_X2_at dX3_volumeOf_10 rfl rfl rfl (kat hG (nI k) (k + 3) (nI_m3 k) (by omega)) rfl (Nat.le_of_ble_eq_true rfl) (Nat.le_of_ble_eq_true rfl) (Nat.le_of_ble_eq_true rfl) (Nat.le_of_ble_eq_true rfl) (Nat.le_of_ble_eq_true rfl) (az_k1 rfl rfl ?_) (az_k0 rfl)
  exact az_iret C rfl dX3_volumeOf_13 (Nat.le_of_ble_eq_true rfl) (Nat.le_of_ble_eq_true rfl) ⟨rfl, rfl, rfl⟩

set_option maxHeartbeats 4000000 in
set_option maxRecDepth 100000 in
theorem XvolumeOf0 (hG : az_okS l G) (nr : Nat) (v : Int32) (hr : x.1 1 8 = nI nr) (hn : nr ≤ 6) (hv : oo nr v) : az_M l G yX3_volumeOf (az_ws yX3_volumeOf cX3_volumeOf 2 (Option.some FieldType.int)) 7 [.ref (ρ.1 0), .int v] (AD ρ) (KK G ρ x m ou) 1 6 (az_x "java/lang/IndexOutOfBoundsException" (AD ρ) (KK G ρ x m ou)) := by
  refine az_start hG.1 (by decide +kernel) (Nat.le_of_ble_eq_true rfl) ?_
  intro p e s mm args below meth c C hnm
  show az_W l G 2 _ p e _ s mm args below meth c _ _ 0 0 0 [(0, .ref (ρ.1 0)), (1, .int v)] []
  refine az_aload_n C 0 dX3_volumeOf_0 rfl ?_
  refine az_iload_n C 1 dX3_volumeOf_1 rfl ?_
  refine az_callV C Y_X3_needReach cX3 0 0 [.int v] [] wm_X3_78 wi_X3_needReach wse_X3_needReach dX3_volumeOf_2 rfl rfl rfl (XneedReach0 hG nr v hr hn hv) rfl (Nat.le_of_ble_eq_true rfl) (Nat.le_of_ble_eq_true rfl) (Nat.le_of_ble_eq_true rfl) (Nat.le_of_ble_eq_true rfl) (Nat.le_of_ble_eq_true rfl) (az_x0 rfl) (az_x1 rfl ?_)
  exact az_out C (fun _ h => by cases h) (Nat.le_of_ble_eq_true rfl) (Nat.le_of_ble_eq_true rfl) ⟨rfl, rfl, rfl⟩

set_option maxHeartbeats 4000000 in
set_option maxRecDepth 100000 in
theorem XlevelOf1 (hG : az_okS l G) (nr k : Nat) (hr : x.1 1 8 = nI nr) (hn : nr ≤ 6) (hk : k + 1 ≤ nr) (ha : ¬ x.1 2 k < 1) : az_M l G yX3_levelOf (az_ws yX3_levelOf cX3_levelOf 2 (Option.some FieldType.int)) 3 [.ref (ρ.1 0), .int (nI k)] (AD ρ) (KK G ρ x m ou) 0 0 (az_r (some (.int (x.1 4 (k + 3) / x.1 2 k))) (AD ρ) (KK G ρ x m ou)) := by
  refine az_start hG.1 (by decide +kernel) (Nat.le_of_ble_eq_true rfl) ?_
  intro p e s mm args below meth c C hnm
  show az_W l G 2 _ p e _ s mm args below meth c _ _ 0 0 0 [(0, .ref (ρ.1 0)), (1, .int (nI k))] []
  refine az_aload_n C 0 dX3_levelOf_0 rfl ?_
  refine az_iload_n C 1 dX3_levelOf_1 rfl ?_
  refine az_callV C Y_X3_needReach cX3 0 0 [.int (nI k)] [] wm_X3_78 wi_X3_needReach wse_X3_needReach dX3_levelOf_2 rfl rfl rfl (XneedReach1 hG nr k hr hn hk) rfl (Nat.le_of_ble_eq_true rfl) (Nat.le_of_ble_eq_true rfl) (Nat.le_of_ble_eq_true rfl) (Nat.le_of_ble_eq_true rfl) (Nat.le_of_ble_eq_true rfl) (az_k1 rfl rfl ?_) (az_k0 rfl)
  refine az_aload_n C 0 dX3_levelOf_5 rfl ?_
  refine az_get C cX3 0 0 0 (v := .ref (ρ.1 1)) wl_X3_12 dX3_levelOf_6 rfl rfl rfl (by decide) ?_
  refine az_iload_n C 1 dX3_levelOf_9 rfl ?_
  refine az_callV C Y_X2_level cX2 0 1 [.int (nI k)] [] wm_X3_98 wi_X2_level wse_X2_level dX3_levelOf_10 rfl rfl rfl (klevel hG k (by omega) ha) rfl (Nat.le_of_ble_eq_true rfl) (Nat.le_of_ble_eq_true rfl) (Nat.le_of_ble_eq_true rfl) (Nat.le_of_ble_eq_true rfl) (Nat.le_of_ble_eq_true rfl) (az_k1 rfl rfl ?_) (az_k0 rfl)
  exact az_iret C rfl dX3_levelOf_13 (Nat.le_of_ble_eq_true rfl) (Nat.le_of_ble_eq_true rfl) ⟨rfl, rfl, rfl⟩

set_option maxHeartbeats 4000000 in
set_option maxRecDepth 100000 in
theorem XlevelOf0 (hG : az_okS l G) (nr : Nat) (v : Int32) (hr : x.1 1 8 = nI nr) (hn : nr ≤ 6) (hv : oo nr v) : az_M l G yX3_levelOf (az_ws yX3_levelOf cX3_levelOf 2 (Option.some FieldType.int)) 7 [.ref (ρ.1 0), .int v] (AD ρ) (KK G ρ x m ou) 1 6 (az_x "java/lang/IndexOutOfBoundsException" (AD ρ) (KK G ρ x m ou)) := by
  refine az_start hG.1 (by decide +kernel) (Nat.le_of_ble_eq_true rfl) ?_
  intro p e s mm args below meth c C hnm
  show az_W l G 2 _ p e _ s mm args below meth c _ _ 0 0 0 [(0, .ref (ρ.1 0)), (1, .int v)] []
  refine az_aload_n C 0 dX3_levelOf_0 rfl ?_
  refine az_iload_n C 1 dX3_levelOf_1 rfl ?_
  refine az_callV C Y_X3_needReach cX3 0 0 [.int v] [] wm_X3_78 wi_X3_needReach wse_X3_needReach dX3_levelOf_2 rfl rfl rfl (XneedReach0 hG nr v hr hn hv) rfl (Nat.le_of_ble_eq_true rfl) (Nat.le_of_ble_eq_true rfl) (Nat.le_of_ble_eq_true rfl) (Nat.le_of_ble_eq_true rfl) (Nat.le_of_ble_eq_true rfl) (az_x0 rfl) (az_x1 rfl ?_)
  exact az_out C (fun _ h => by cases h) (Nat.le_of_ble_eq_true rfl) (Nat.le_of_ble_eq_true rfl) ⟨rfl, rfl, rfl⟩

set_option maxHeartbeats 4000000 in
set_option maxRecDepth 100000 in
theorem XpriceIn1 (hG : az_okS l G) (nr k : Nat) (hr : x.1 1 8 = nI nr) (hn : nr ≤ 6) (hk : k + 1 ≤ nr) : az_M l G yX3_priceIn (az_ws yX3_priceIn cX3_priceIn 2 (Option.some FieldType.int)) 3 [.ref (ρ.1 0), .int (nI k)] (AD ρ) (KK G ρ x m ou) 0 0 (az_r (some (.int (x.1 11 k))) (AD ρ) (KK G ρ x m ou)) := by
  refine az_start hG.1 (by decide +kernel) (Nat.le_of_ble_eq_true rfl) ?_
  intro p e s mm args below meth c C hnm
  show az_W l G 2 _ p e _ s mm args below meth c _ _ 0 0 0 [(0, .ref (ρ.1 0)), (1, .int (nI k))] []
  refine az_aload_n C 0 dX3_priceIn_0 rfl ?_
  refine az_iload_n C 1 dX3_priceIn_1 rfl ?_
  refine az_callV C Y_X3_needReach cX3 0 0 [.int (nI k)] [] wm_X3_78 wi_X3_needReach wse_X3_needReach dX3_priceIn_2 rfl rfl rfl (XneedReach1 hG nr k hr hn hk) rfl (Nat.le_of_ble_eq_true rfl) (Nat.le_of_ble_eq_true rfl) (Nat.le_of_ble_eq_true rfl) (Nat.le_of_ble_eq_true rfl) (Nat.le_of_ble_eq_true rfl) (az_k1 rfl rfl ?_) (az_k0 rfl)
  refine az_aload_n C 0 dX3_priceIn_5 rfl ?_
  refine az_get C cX3 0 0 3 (v := .ref (ρ.1 11)) wl_X3_23 dX3_priceIn_6 rfl rfl rfl (by decide) ?_
  refine az_iload_n C 1 dX3_priceIn_9 rfl ?_
  refine az_ialdN C 0 11 k (v := x.1 11 k) dX3_priceIn_10 rfl rfl (by omega) (by decide) rfl ?_
  exact az_iret C rfl dX3_priceIn_11 (Nat.le_of_ble_eq_true rfl) (Nat.le_of_ble_eq_true rfl) ⟨rfl, rfl, rfl⟩

set_option maxHeartbeats 4000000 in
set_option maxRecDepth 100000 in
theorem XpriceIn0 (hG : az_okS l G) (nr : Nat) (v : Int32) (hr : x.1 1 8 = nI nr) (hn : nr ≤ 6) (hv : oo nr v) : az_M l G yX3_priceIn (az_ws yX3_priceIn cX3_priceIn 2 (Option.some FieldType.int)) 7 [.ref (ρ.1 0), .int v] (AD ρ) (KK G ρ x m ou) 1 6 (az_x "java/lang/IndexOutOfBoundsException" (AD ρ) (KK G ρ x m ou)) := by
  refine az_start hG.1 (by decide +kernel) (Nat.le_of_ble_eq_true rfl) ?_
  intro p e s mm args below meth c C hnm
  show az_W l G 2 _ p e _ s mm args below meth c _ _ 0 0 0 [(0, .ref (ρ.1 0)), (1, .int v)] []
  refine az_aload_n C 0 dX3_priceIn_0 rfl ?_
  refine az_iload_n C 1 dX3_priceIn_1 rfl ?_
  refine az_callV C Y_X3_needReach cX3 0 0 [.int v] [] wm_X3_78 wi_X3_needReach wse_X3_needReach dX3_priceIn_2 rfl rfl rfl (XneedReach0 hG nr v hr hn hv) rfl (Nat.le_of_ble_eq_true rfl) (Nat.le_of_ble_eq_true rfl) (Nat.le_of_ble_eq_true rfl) (Nat.le_of_ble_eq_true rfl) (Nat.le_of_ble_eq_true rfl) (az_x0 rfl) (az_x1 rfl ?_)
  exact az_out C (fun _ h => by cases h) (Nat.le_of_ble_eq_true rfl) (Nat.le_of_ble_eq_true rfl) ⟨rfl, rfl, rfl⟩

set_option maxHeartbeats 4000000 in
set_option maxRecDepth 100000 in
theorem XlockfulOf1 (hG : az_okS l G) (nr k : Nat) (hr : x.1 1 8 = nI nr) (hn : nr ≤ 6) (hk : k + 2 ≤ nr) : az_M l G yX3_lockfulOf (az_ws yX3_lockfulOf cX3_lockfulOf 2 (Option.some FieldType.int)) 3 [.ref (ρ.1 0), .int (nI k)] (AD ρ) (KK G ρ x m ou) 0 0 (az_r (some (.int (x.1 3 k))) (AD ρ) (KK G ρ x m ou)) := by
  refine az_start hG.1 (by decide +kernel) (Nat.le_of_ble_eq_true rfl) ?_
  intro p e s mm args below meth c C hnm
  show az_W l G 2 _ p e _ s mm args below meth c _ _ 0 0 0 [(0, .ref (ρ.1 0)), (1, .int (nI k))] []
  refine az_aload_n C 0 dX3_lockfulOf_0 rfl ?_
  refine az_iload_n C 1 dX3_lockfulOf_1 rfl ?_
  refine az_callV C Y_X3_needLock cX3 0 0 [.int (nI k)] [] wm_X3_101 wi_X3_needLock wse_X3_needLock dX3_lockfulOf_2 rfl rfl rfl (XneedLock1 hG nr k hr hn hk) rfl (Nat.le_of_ble_eq_true rfl) (Nat.le_of_ble_eq_true rfl) (Nat.le_of_ble_eq_true rfl) (Nat.le_of_ble_eq_true rfl) (Nat.le_of_ble_eq_true rfl) (az_k1 rfl rfl ?_) (az_k0 rfl)
  refine az_aload_n C 0 dX3_lockfulOf_5 rfl ?_
  refine az_get C cX3 0 0 0 (v := .ref (ρ.1 1)) wl_X3_12 dX3_lockfulOf_6 rfl rfl rfl (by decide) ?_
  refine az_getN C cX2 0 1 1 (v := .ref (ρ.1 3)) (az_bw C hG nx_X3_75 rfl) dX3_lockfulOf_9 rfl rfl rfl (by decide) ?_
  refine az_iload_n C 1 dX3_lockfulOf_12 rfl ?_
  refine az_ialdN C 0 3 k (v := x.1 3 k) dX3_lockfulOf_13 rfl rfl (by omega) (by decide) rfl ?_
  exact az_iret C rfl dX3_lockfulOf_14 (Nat.le_of_ble_eq_true rfl) (Nat.le_of_ble_eq_true rfl) ⟨rfl, rfl, rfl⟩

set_option maxHeartbeats 4000000 in
set_option maxRecDepth 100000 in
theorem XlockfulOf0 (hG : az_okS l G) (nr : Nat) (v : Int32) (hr : x.1 1 8 = nI nr) (hn : nr ≤ 6) (h1 : 1 ≤ nr) (hv : oo (nr - 1) v) : az_M l G yX3_lockfulOf (az_ws yX3_lockfulOf cX3_lockfulOf 2 (Option.some FieldType.int)) 7 [.ref (ρ.1 0), .int v] (AD ρ) (KK G ρ x m ou) 1 6 (az_x "java/lang/IndexOutOfBoundsException" (AD ρ) (KK G ρ x m ou)) := by
  refine az_start hG.1 (by decide +kernel) (Nat.le_of_ble_eq_true rfl) ?_
  intro p e s mm args below meth c C hnm
  show az_W l G 2 _ p e _ s mm args below meth c _ _ 0 0 0 [(0, .ref (ρ.1 0)), (1, .int v)] []
  refine az_aload_n C 0 dX3_lockfulOf_0 rfl ?_
  refine az_iload_n C 1 dX3_lockfulOf_1 rfl ?_
  refine az_callV C Y_X3_needLock cX3 0 0 [.int v] [] wm_X3_101 wi_X3_needLock wse_X3_needLock dX3_lockfulOf_2 rfl rfl rfl (XneedLock0 hG nr v hr hn h1 hv) rfl (Nat.le_of_ble_eq_true rfl) (Nat.le_of_ble_eq_true rfl) (Nat.le_of_ble_eq_true rfl) (Nat.le_of_ble_eq_true rfl) (Nat.le_of_ble_eq_true rfl) (az_x0 rfl) (az_x1 rfl ?_)
  exact az_out C (fun _ h => by cases h) (Nat.le_of_ble_eq_true rfl) (Nat.le_of_ble_eq_true rfl) ⟨rfl, rfl, rfl⟩

set_option maxHeartbeats 4000000 in
set_option maxRecDepth 100000 in
theorem XwaterThrough1 (hG : az_okS l G) (nr k : Nat) (hr : x.1 1 8 = nI nr) (hn : nr ≤ 6) (hk : k + 2 ≤ nr) : az_M l G yX3_waterThrough (az_ws yX3_waterThrough cX3_waterThrough 2 (Option.some FieldType.int)) 3 [.ref (ρ.1 0), .int (nI k)] (AD ρ) (KK G ρ x m ou) 0 0 (az_r (some (.int (x.1 5 k))) (AD ρ) (KK G ρ x m ou)) := by
  refine az_start hG.1 (by decide +kernel) (Nat.le_of_ble_eq_true rfl) ?_
  intro p e s mm args below meth c C hnm
  show az_W l G 2 _ p e _ s mm args below meth c _ _ 0 0 0 [(0, .ref (ρ.1 0)), (1, .int (nI k))] []
  refine az_aload_n C 0 dX3_waterThrough_0 rfl ?_
  refine az_iload_n C 1 dX3_waterThrough_1 rfl ?_
  refine az_callV C Y_X3_needLock cX3 0 0 [.int (nI k)] [] wm_X3_101 wi_X3_needLock wse_X3_needLock dX3_waterThrough_2 rfl rfl rfl (XneedLock1 hG nr k hr hn hk) rfl (Nat.le_of_ble_eq_true rfl) (Nat.le_of_ble_eq_true rfl) (Nat.le_of_ble_eq_true rfl) (Nat.le_of_ble_eq_true rfl) (Nat.le_of_ble_eq_true rfl) (az_k1 rfl rfl ?_) (az_k0 rfl)
  refine az_aload_n C 0 dX3_waterThrough_5 rfl ?_
  refine az_get C cX3 0 0 0 (v := .ref (ρ.1 1)) wl_X3_12 dX3_waterThrough_6 rfl rfl rfl (by decide) ?_
  refine az_getN C cX2 0 1 3 (v := .ref (ρ.1 5)) (az_bw C hG nx_X3_122 rfl) dX3_waterThrough_9 rfl rfl rfl (by decide) ?_
  refine az_iload_n C 1 dX3_waterThrough_12 rfl ?_
  refine az_ialdN C 0 5 k (v := x.1 5 k) dX3_waterThrough_13 rfl rfl (by omega) (by decide) rfl ?_
  exact az_iret C rfl dX3_waterThrough_14 (Nat.le_of_ble_eq_true rfl) (Nat.le_of_ble_eq_true rfl) ⟨rfl, rfl, rfl⟩

set_option maxHeartbeats 4000000 in
set_option maxRecDepth 100000 in
theorem XwaterThrough0 (hG : az_okS l G) (nr : Nat) (v : Int32) (hr : x.1 1 8 = nI nr) (hn : nr ≤ 6) (h1 : 1 ≤ nr) (hv : oo (nr - 1) v) : az_M l G yX3_waterThrough (az_ws yX3_waterThrough cX3_waterThrough 2 (Option.some FieldType.int)) 7 [.ref (ρ.1 0), .int v] (AD ρ) (KK G ρ x m ou) 1 6 (az_x "java/lang/IndexOutOfBoundsException" (AD ρ) (KK G ρ x m ou)) := by
  refine az_start hG.1 (by decide +kernel) (Nat.le_of_ble_eq_true rfl) ?_
  intro p e s mm args below meth c C hnm
  show az_W l G 2 _ p e _ s mm args below meth c _ _ 0 0 0 [(0, .ref (ρ.1 0)), (1, .int v)] []
  refine az_aload_n C 0 dX3_waterThrough_0 rfl ?_
  refine az_iload_n C 1 dX3_waterThrough_1 rfl ?_
  refine az_callV C Y_X3_needLock cX3 0 0 [.int v] [] wm_X3_101 wi_X3_needLock wse_X3_needLock dX3_waterThrough_2 rfl rfl rfl (XneedLock0 hG nr v hr hn h1 hv) rfl (Nat.le_of_ble_eq_true rfl) (Nat.le_of_ble_eq_true rfl) (Nat.le_of_ble_eq_true rfl) (Nat.le_of_ble_eq_true rfl) (Nat.le_of_ble_eq_true rfl) (az_x0 rfl) (az_x1 rfl ?_)
  exact az_out C (fun _ h => by cases h) (Nat.le_of_ble_eq_true rfl) (Nat.le_of_ble_eq_true rfl) ⟨rfl, rfl, rfl⟩

set_option maxHeartbeats 4000000 in
set_option maxRecDepth 100000 in
theorem XreachOf1 (hG : az_okS l G) (nb k : Nat) (hb : x.1 0 7 = nI nb) (hnb : nb = ρ.2.2.2.2.2) (hn : nb ≤ 8) (hk : k + 1 ≤ nb) : az_M l G yX3_reachOf (az_ws yX3_reachOf cX3_reachOf 2 (Option.some FieldType.int)) 3 [.ref (ρ.1 0), .int (nI k)] (AD ρ) (KK G ρ x m ou) 0 0 (az_r (some (.int (x.2.1 k 4))) (AD ρ) (KK G ρ x m ou)) := by
  refine az_start hG.1 (by decide +kernel) (Nat.le_of_ble_eq_true rfl) ?_
  intro p e s mm args below meth c C hnm
  show az_W l G 2 _ p e _ s mm args below meth c _ _ 0 0 0 [(0, .ref (ρ.1 0)), (1, .int (nI k))] []
  refine az_aload_n C 0 dX3_reachOf_0 rfl ?_
  refine az_iload_n C 1 dX3_reachOf_1 rfl ?_
  refine az_callV C Y_X3_bargeNumbered cX3 0 0 [.int (nI k)] [] wm_X3_155 wi_X3_bargeNumbered wse_X3_bargeNumbered dX3_reachOf_2 rfl rfl rfl (Xbarge1 hG nb k hb hnb hn hk) rfl (Nat.le_of_ble_eq_true rfl) (Nat.le_of_ble_eq_true rfl) (Nat.le_of_ble_eq_true rfl) (Nat.le_of_ble_eq_true rfl) (Nat.le_of_ble_eq_true rfl) (az_k1 rfl rfl ?_) (az_k0 rfl)
  refine az_getN C cX0 1 k 4 (v := .int (x.2.1 k 4)) (az_bw C hG nx_X3_159 rfl) dX3_reachOf_5 rfl (KK_b (show k < ρ.2.2.2.2.2 by omega)) rfl (by decide) ?_
  exact az_iret C rfl dX3_reachOf_8 (Nat.le_of_ble_eq_true rfl) (Nat.le_of_ble_eq_true rfl) ⟨rfl, rfl, rfl⟩

set_option maxHeartbeats 4000000 in
set_option maxRecDepth 100000 in
theorem XreachOf0 (hG : az_okS l G) (nb : Nat) (v : Int32) (hb : x.1 0 7 = nI nb) (hnb : nb = ρ.2.2.2.2.2) (hn : nb ≤ 8) (hv : oo nb v) : az_M l G yX3_reachOf (az_ws yX3_reachOf cX3_reachOf 2 (Option.some FieldType.int)) 7 [.ref (ρ.1 0), .int v] (AD ρ) (KK G ρ x m ou) 1 6 (az_x "java/lang/IndexOutOfBoundsException" (AD ρ) (KK G ρ x m ou)) := by
  refine az_start hG.1 (by decide +kernel) (Nat.le_of_ble_eq_true rfl) ?_
  intro p e s mm args below meth c C hnm
  show az_W l G 2 _ p e _ s mm args below meth c _ _ 0 0 0 [(0, .ref (ρ.1 0)), (1, .int v)] []
  refine az_aload_n C 0 dX3_reachOf_0 rfl ?_
  refine az_iload_n C 1 dX3_reachOf_1 rfl ?_
  refine az_callV C Y_X3_bargeNumbered cX3 0 0 [.int v] [] wm_X3_155 wi_X3_bargeNumbered wse_X3_bargeNumbered dX3_reachOf_2 rfl rfl rfl (Xbarge0 hG nb v hb hnb hn hv) rfl (Nat.le_of_ble_eq_true rfl) (Nat.le_of_ble_eq_true rfl) (Nat.le_of_ble_eq_true rfl) (Nat.le_of_ble_eq_true rfl) (Nat.le_of_ble_eq_true rfl) (az_x0 rfl) (az_x1 rfl ?_)
  exact az_out C (fun _ h => by cases h) (Nat.le_of_ble_eq_true rfl) (Nat.le_of_ble_eq_true rfl) ⟨rfl, rfl, rfl⟩

set_option maxHeartbeats 4000000 in
set_option maxRecDepth 100000 in
theorem XcargoOf1 (hG : az_okS l G) (nb k : Nat) (hb : x.1 0 7 = nI nb) (hnb : nb = ρ.2.2.2.2.2) (hn : nb ≤ 8) (hk : k + 1 ≤ nb) : az_M l G yX3_cargoOf (az_ws yX3_cargoOf cX3_cargoOf 2 (Option.some FieldType.int)) 3 [.ref (ρ.1 0), .int (nI k)] (AD ρ) (KK G ρ x m ou) 0 0 (az_r (some (.int (x.2.1 k 5))) (AD ρ) (KK G ρ x m ou)) := by
  refine az_start hG.1 (by decide +kernel) (Nat.le_of_ble_eq_true rfl) ?_
  intro p e s mm args below meth c C hnm
  show az_W l G 2 _ p e _ s mm args below meth c _ _ 0 0 0 [(0, .ref (ρ.1 0)), (1, .int (nI k))] []
  refine az_aload_n C 0 dX3_cargoOf_0 rfl ?_
  refine az_iload_n C 1 dX3_cargoOf_1 rfl ?_
  refine az_callV C Y_X3_bargeNumbered cX3 0 0 [.int (nI k)] [] wm_X3_155 wi_X3_bargeNumbered wse_X3_bargeNumbered dX3_cargoOf_2 rfl rfl rfl (Xbarge1 hG nb k hb hnb hn hk) rfl (Nat.le_of_ble_eq_true rfl) (Nat.le_of_ble_eq_true rfl) (Nat.le_of_ble_eq_true rfl) (Nat.le_of_ble_eq_true rfl) (Nat.le_of_ble_eq_true rfl) (az_k1 rfl rfl ?_) (az_k0 rfl)
  refine az_getN C cX0 1 k 5 (v := .int (x.2.1 k 5)) (az_bw C hG nx_X3_162 rfl) dX3_cargoOf_5 rfl (KK_b (show k < ρ.2.2.2.2.2 by omega)) rfl (by decide) ?_
  exact az_iret C rfl dX3_cargoOf_8 (Nat.le_of_ble_eq_true rfl) (Nat.le_of_ble_eq_true rfl) ⟨rfl, rfl, rfl⟩

set_option maxHeartbeats 4000000 in
set_option maxRecDepth 100000 in
theorem XcargoOf0 (hG : az_okS l G) (nb : Nat) (v : Int32) (hb : x.1 0 7 = nI nb) (hnb : nb = ρ.2.2.2.2.2) (hn : nb ≤ 8) (hv : oo nb v) : az_M l G yX3_cargoOf (az_ws yX3_cargoOf cX3_cargoOf 2 (Option.some FieldType.int)) 7 [.ref (ρ.1 0), .int v] (AD ρ) (KK G ρ x m ou) 1 6 (az_x "java/lang/IndexOutOfBoundsException" (AD ρ) (KK G ρ x m ou)) := by
  refine az_start hG.1 (by decide +kernel) (Nat.le_of_ble_eq_true rfl) ?_
  intro p e s mm args below meth c C hnm
  show az_W l G 2 _ p e _ s mm args below meth c _ _ 0 0 0 [(0, .ref (ρ.1 0)), (1, .int v)] []
  refine az_aload_n C 0 dX3_cargoOf_0 rfl ?_
  refine az_iload_n C 1 dX3_cargoOf_1 rfl ?_
  refine az_callV C Y_X3_bargeNumbered cX3 0 0 [.int v] [] wm_X3_155 wi_X3_bargeNumbered wse_X3_bargeNumbered dX3_cargoOf_2 rfl rfl rfl (Xbarge0 hG nb v hb hnb hn hv) rfl (Nat.le_of_ble_eq_true rfl) (Nat.le_of_ble_eq_true rfl) (Nat.le_of_ble_eq_true rfl) (Nat.le_of_ble_eq_true rfl) (Nat.le_of_ble_eq_true rfl) (az_x0 rfl) (az_x1 rfl ?_)
  exact az_out C (fun _ h => by cases h) (Nat.le_of_ble_eq_true rfl) (Nat.le_of_ble_eq_true rfl) ⟨rfl, rfl, rfl⟩

set_option maxHeartbeats 4000000 in
set_option maxRecDepth 100000 in
theorem XdraughtOf1 (hG : az_okS l G) (nb k : Nat) (hb : x.1 0 7 = nI nb) (hnb : nb = ρ.2.2.2.2.2) (hn : nb ≤ 8) (hk : k + 1 ≤ nb) (ht : ¬ x.2.1 k 3 < 1) : az_M l G yX3_draughtOf (az_ws yX3_draughtOf cX3_draughtOf 2 (Option.some FieldType.int)) 3 [.ref (ρ.1 0), .int (nI k)] (AD ρ) (KK G ρ x m ou) 0 0 (az_r (some (.int (deepX x k (x.2.1 k 5)))) (AD ρ) (KK G ρ x m ou)) := by
  refine az_start hG.1 (by decide +kernel) (Nat.le_of_ble_eq_true rfl) ?_
  intro p e s mm args below meth c C hnm
  show az_W l G 2 _ p e _ s mm args below meth c _ _ 0 0 0 [(0, .ref (ρ.1 0)), (1, .int (nI k))] []
  refine az_aload_n C 0 dX3_draughtOf_0 rfl ?_
  refine az_iload_n C 1 dX3_draughtOf_1 rfl ?_
  refine az_callV C Y_X3_bargeNumbered cX3 0 0 [.int (nI k)] [] wm_X3_155 wi_X3_bargeNumbered wse_X3_bargeNumbered dX3_draughtOf_2 rfl rfl rfl (Xbarge1 hG nb k hb hnb hn hk) rfl (Nat.le_of_ble_eq_true rfl) (Nat.le_of_ble_eq_true rfl) (Nat.le_of_ble_eq_true rfl) (Nat.le_of_ble_eq_true rfl) (Nat.le_of_ble_eq_true rfl) (az_k1 rfl rfl ?_) (az_k0 rfl)
  refine az_callV C Y_X0_draught cX0 1 k [] [] wm_X3_165 wi_X0_draught wse_X0_draught dX3_draughtOf_5 rfl (KK_b (show k < ρ.2.2.2.2.2 by omega)) rfl (Xdraught hG k (show k < ρ.2.2.2.2.2 by omega) ht) rfl (Nat.le_of_ble_eq_true rfl) (Nat.le_of_ble_eq_true rfl) (Nat.le_of_ble_eq_true rfl) (Nat.le_of_ble_eq_true rfl) (Nat.le_of_ble_eq_true rfl) (az_k1 rfl rfl ?_) (az_k0 rfl)
  exact az_iret C rfl dX3_draughtOf_8 (Nat.le_of_ble_eq_true rfl) (Nat.le_of_ble_eq_true rfl) ⟨rfl, rfl, rfl⟩

set_option maxHeartbeats 4000000 in
set_option maxRecDepth 100000 in
theorem XdraughtOf0 (hG : az_okS l G) (nb : Nat) (v : Int32) (hb : x.1 0 7 = nI nb) (hnb : nb = ρ.2.2.2.2.2) (hn : nb ≤ 8) (hv : oo nb v) : az_M l G yX3_draughtOf (az_ws yX3_draughtOf cX3_draughtOf 2 (Option.some FieldType.int)) 7 [.ref (ρ.1 0), .int v] (AD ρ) (KK G ρ x m ou) 1 6 (az_x "java/lang/IndexOutOfBoundsException" (AD ρ) (KK G ρ x m ou)) := by
  refine az_start hG.1 (by decide +kernel) (Nat.le_of_ble_eq_true rfl) ?_
  intro p e s mm args below meth c C hnm
  show az_W l G 2 _ p e _ s mm args below meth c _ _ 0 0 0 [(0, .ref (ρ.1 0)), (1, .int v)] []
  refine az_aload_n C 0 dX3_draughtOf_0 rfl ?_
  refine az_iload_n C 1 dX3_draughtOf_1 rfl ?_
  refine az_callV C Y_X3_bargeNumbered cX3 0 0 [.int v] [] wm_X3_155 wi_X3_bargeNumbered wse_X3_bargeNumbered dX3_draughtOf_2 rfl rfl rfl (Xbarge0 hG nb v hb hnb hn hv) rfl (Nat.le_of_ble_eq_true rfl) (Nat.le_of_ble_eq_true rfl) (Nat.le_of_ble_eq_true rfl) (Nat.le_of_ble_eq_true rfl) (Nat.le_of_ble_eq_true rfl) (az_x0 rfl) (az_x1 rfl ?_)
  exact az_out C (fun _ h => by cases h) (Nat.le_of_ble_eq_true rfl) (Nat.le_of_ble_eq_true rfl) ⟨rfl, rfl, rfl⟩

set_option maxHeartbeats 4000000 in
set_option maxRecDepth 100000 in
theorem XreachCount (hG : az_okS l G)  : az_M l G yX3_reachCount (az_ws yX3_reachCount cX3_reachCount 1 (Option.some FieldType.int)) 1 [.ref (ρ.1 0)] (AD ρ) (KK G ρ x m ou) 0 0 (az_r (some (.int (x.1 1 8))) (AD ρ) (KK G ρ x m ou)) := by
  refine az_start hG.1 (by decide +kernel) (Nat.le_of_ble_eq_true rfl) ?_
  intro p e s mm args below meth c C hnm
  show az_W l G 1 _ p e _ s mm args below meth c _ _ 0 0 0 [(0, .ref (ρ.1 0))] []
  refine az_aload_n C 0 dX3_reachCount_0 rfl ?_
  refine az_get C cX3 0 0 0 (v := .ref (ρ.1 1)) wl_X3_12 dX3_reachCount_1 rfl rfl rfl (by decide) ?_
  refine az_getN C cX2 0 1 8 (v := .int (x.1 1 8)) (az_bw C hG nx_X3_67 rfl) dX3_reachCount_4 rfl rfl rfl (by decide) ?_
  exact az_iret C rfl dX3_reachCount_7 (Nat.le_of_ble_eq_true rfl) (Nat.le_of_ble_eq_true rfl) ⟨rfl, rfl, rfl⟩

set_option maxHeartbeats 4000000 in
set_option maxRecDepth 100000 in
theorem XweekCount (hG : az_okS l G)  : az_M l G yX3_weekCount (az_ws yX3_weekCount cX3_weekCount 1 (Option.some FieldType.int)) 1 [.ref (ρ.1 0)] (AD ρ) (KK G ρ x m ou) 0 0 (az_r (some (.int (x.1 0 8))) (AD ρ) (KK G ρ x m ou)) := by
  refine az_start hG.1 (by decide +kernel) (Nat.le_of_ble_eq_true rfl) ?_
  intro p e s mm args below meth c C hnm
  show az_W l G 1 _ p e _ s mm args below meth c _ _ 0 0 0 [(0, .ref (ρ.1 0))] []
  refine az_aload_n C 0 dX3_weekCount_0 rfl ?_
  refine az_get C cX3 0 0 8 (v := .int (x.1 0 8)) wl_X3_140 dX3_weekCount_1 rfl rfl rfl (by decide) ?_
  exact az_iret C rfl dX3_weekCount_4 (Nat.le_of_ble_eq_true rfl) (Nat.le_of_ble_eq_true rfl) ⟨rfl, rfl, rfl⟩

set_option maxHeartbeats 4000000 in
set_option maxRecDepth 100000 in
theorem XbargeCount (hG : az_okS l G)  : az_M l G yX3_bargeCount (az_ws yX3_bargeCount cX3_bargeCount 1 (Option.some FieldType.int)) 1 [.ref (ρ.1 0)] (AD ρ) (KK G ρ x m ou) 0 0 (az_r (some (.int (x.1 0 7))) (AD ρ) (KK G ρ x m ou)) := by
  refine az_start hG.1 (by decide +kernel) (Nat.le_of_ble_eq_true rfl) ?_
  intro p e s mm args below meth c C hnm
  show az_W l G 1 _ p e _ s mm args below meth c _ _ 0 0 0 [(0, .ref (ρ.1 0))] []
  refine az_aload_n C 0 dX3_bargeCount_0 rfl ?_
  refine az_get C cX3 0 0 7 (v := .int (x.1 0 7)) wl_X3_145 dX3_bargeCount_1 rfl rfl rfl (by decide) ?_
  exact az_iret C rfl dX3_bargeCount_4 (Nat.le_of_ble_eq_true rfl) (Nat.le_of_ble_eq_true rfl) ⟨rfl, rfl, rfl⟩

set_option maxHeartbeats 4000000 in
set_option maxRecDepth 100000 in
theorem XmovementCount (hG : az_okS l G)  : az_M l G yX3_movementCount (az_ws yX3_movementCount cX3_movementCount 1 (Option.some FieldType.int)) 1 [.ref (ρ.1 0)] (AD ρ) (KK G ρ x m ou) 0 0 (az_r (some (.int (x.1 8 3))) (AD ρ) (KK G ρ x m ou)) := by
  refine az_start hG.1 (by decide +kernel) (Nat.le_of_ble_eq_true rfl) ?_
  intro p e s mm args below meth c C hnm
  show az_W l G 1 _ p e _ s mm args below meth c _ _ 0 0 0 [(0, .ref (ρ.1 0))] []
  refine az_aload_n C 0 dX3_movementCount_0 rfl ?_
  refine az_get C cX3 0 0 0 (v := .ref (ρ.1 1)) wl_X3_12 dX3_movementCount_1 rfl rfl rfl (by decide) ?_
  refine az_getN C cX2 0 1 6 (v := .ref (ρ.1 8)) (az_bw C hG nx_X3_89 rfl) dX3_movementCount_4 rfl rfl rfl (by decide) ?_
  refine az_getN C cX1 0 8 3 (v := .int (x.1 8 3)) (az_bw C hG nx_X3_267 rfl) dX3_movementCount_7 rfl rfl rfl (by decide) ?_
  exact az_iret C rfl dX3_movementCount_10 (Nat.le_of_ble_eq_true rfl) (Nat.le_of_ble_eq_true rfl) ⟨rfl, rfl, rfl⟩

set_option maxHeartbeats 4000000 in
set_option maxRecDepth 100000 in
theorem Xmoney (hG : az_okS l G)  : az_M l G yX3_money (az_ws yX3_money cX3_money 1 (Option.some FieldType.long)) 1 [.ref (ρ.1 0)] (AD ρ) (KK G ρ x m ou) 0 0 (az_r (some (.long x.2.2.2)) (AD ρ) (KK G ρ x m ou)) := by
  refine az_start hG.1 (by decide +kernel) (Nat.le_of_ble_eq_true rfl) ?_
  intro p e s mm args below meth c C hnm
  show az_W l G 1 _ p e _ s mm args below meth c _ _ 0 0 0 [(0, .ref (ρ.1 0))] []
  refine az_aload_n C 0 dX3_money_0 rfl ?_
  refine az_get C cX3 0 0 9 (v := .long x.2.2.2) wl_X3_44 dX3_money_1 rfl rfl rfl (by decide) ?_
  exact az_lret C rfl dX3_money_4 (Nat.le_of_ble_eq_true rfl) (Nat.le_of_ble_eq_true rfl) ⟨rfl, rfl, rfl⟩

set_option maxHeartbeats 4000000 in
set_option maxRecDepth 100000 in
theorem XcameTotal (hG : az_okS l G)  : az_M l G yX3_cameTotal (az_ws yX3_cameTotal cX3_cameTotal 1 (Option.some FieldType.int)) 2 [.ref (ρ.1 0)] (AD ρ) (KK G ρ x m ou) 0 0 (az_r (some (.int (-x.1 4 2))) (AD ρ) (KK G ρ x m ou)) := by
  refine az_start hG.1 (by decide +kernel) (Nat.le_of_ble_eq_true rfl) ?_
  intro p e s mm args below meth c C hnm
  show az_W l G 1 _ p e _ s mm args below meth c _ _ 0 0 0 [(0, .ref (ρ.1 0))] []
  refine az_aload_n C 0 dX3_cameTotal_0 rfl ?_
  refine az_get C cX3 0 0 0 (v := .ref (ρ.1 1)) wl_X3_12 dX3_cameTotal_1 rfl rfl rfl (by decide) ?_
  refine az_iconst C (v := (-1)) dX3_cameTotal_4 (by decide) ?_
  refine az_callV C Y_X2_at cX2 0 1 [.int ((-1))] [] wm_X3_85 wi_X2_at wse_X2_at dX3_cameTotal_5 rfl rfl rfl (kat hG ((-1)) 2 (by decide) (by omega)) rfl (Nat.le_of_ble_eq_true rfl) (Nat.le_of_ble_eq_true rfl) (Nat.le_of_ble_eq_true rfl) (Nat.le_of_ble_eq_true rfl) (Nat.le_of_ble_eq_true rfl) (az_k1 rfl rfl ?_) (az_k0 rfl)
  refine az_ineg C dX3_cameTotal_8 ?_
  exact az_iret C rfl dX3_cameTotal_9 (Nat.le_of_ble_eq_true rfl) (Nat.le_of_ble_eq_true rfl) ⟨rfl, rfl, rfl⟩

set_option maxHeartbeats 4000000 in
set_option maxRecDepth 100000 in
theorem XseaTotal (hG : az_okS l G)  : az_M l G yX3_seaTotal (az_ws yX3_seaTotal cX3_seaTotal 1 (Option.some FieldType.int)) 2 [.ref (ρ.1 0)] (AD ρ) (KK G ρ x m ou) 0 0 (az_r (some (.int (x.1 4 1))) (AD ρ) (KK G ρ x m ou)) := by
  refine az_start hG.1 (by decide +kernel) (Nat.le_of_ble_eq_true rfl) ?_
  intro p e s mm args below meth c C hnm
  show az_W l G 1 _ p e _ s mm args below meth c _ _ 0 0 0 [(0, .ref (ρ.1 0))] []
  refine az_aload_n C 0 dX3_seaTotal_0 rfl ?_
  refine az_get C cX3 0 0 0 (v := .ref (ρ.1 1)) wl_X3_12 dX3_seaTotal_1 rfl rfl rfl (by decide) ?_
  refine az_bipush C (v := (-2)) dX3_seaTotal_4 (by decide) ?_
  refine az_callV C Y_X2_at cX2 0 1 [.int ((-2))] [] wm_X3_85 wi_X2_at wse_X2_at dX3_seaTotal_6 rfl rfl rfl (kat hG ((-2)) 1 (by decide) (by omega)) rfl (Nat.le_of_ble_eq_true rfl) (Nat.le_of_ble_eq_true rfl) (Nat.le_of_ble_eq_true rfl) (Nat.le_of_ble_eq_true rfl) (Nat.le_of_ble_eq_true rfl) (az_k1 rfl rfl ?_) (az_k0 rfl)
  exact az_iret C rfl dX3_seaTotal_9 (Nat.le_of_ble_eq_true rfl) (Nat.le_of_ble_eq_true rfl) ⟨rfl, rfl, rfl⟩

set_option maxHeartbeats 4000000 in
set_option maxRecDepth 100000 in
theorem XairTotal (hG : az_okS l G)  : az_M l G yX3_airTotal (az_ws yX3_airTotal cX3_airTotal 1 (Option.some FieldType.int)) 2 [.ref (ρ.1 0)] (AD ρ) (KK G ρ x m ou) 0 0 (az_r (some (.int (x.1 4 0))) (AD ρ) (KK G ρ x m ou)) := by
  refine az_start hG.1 (by decide +kernel) (Nat.le_of_ble_eq_true rfl) ?_
  intro p e s mm args below meth c C hnm
  show az_W l G 1 _ p e _ s mm args below meth c _ _ 0 0 0 [(0, .ref (ρ.1 0))] []
  refine az_aload_n C 0 dX3_airTotal_0 rfl ?_
  refine az_get C cX3 0 0 0 (v := .ref (ρ.1 1)) wl_X3_12 dX3_airTotal_1 rfl rfl rfl (by decide) ?_
  refine az_bipush C (v := (-3)) dX3_airTotal_4 (by decide) ?_
  refine az_callV C Y_X2_at cX2 0 1 [.int ((-3))] [] wm_X3_85 wi_X2_at wse_X2_at dX3_airTotal_6 rfl rfl rfl (kat hG ((-3)) 0 (by decide) (by omega)) rfl (Nat.le_of_ble_eq_true rfl) (Nat.le_of_ble_eq_true rfl) (Nat.le_of_ble_eq_true rfl) (Nat.le_of_ble_eq_true rfl) (Nat.le_of_ble_eq_true rfl) (az_k1 rfl rfl ?_) (az_k0 rfl)
  exact az_iret C rfl dX3_airTotal_9 (Nat.le_of_ble_eq_true rfl) (Nat.le_of_ble_eq_true rfl) ⟨rfl, rfl, rfl⟩

theorem nar_x01 (c : Prop) (d : Decidable c) : narrow .boolean (.int (@ite Int32 c d 0 1)) = .int (@ite Int32 c d 0 1) := by split <;> rfl
set_option maxHeartbeats 4000000 in
set_option maxRecDepth 100000 in
theorem XisFull1 (hG : az_okS l G) (nr k : Nat) (hr : x.1 1 8 = nI nr) (hn : nr ≤ 6) (hk : k + 2 ≤ nr) : az_M l G yX3_isFull (az_ws yX3_isFull cX3_isFull 2 (Option.some FieldType.boolean)) 3 [.ref (ρ.1 0), .int (nI k)] (AD ρ) (KK G ρ x m ou) 0 0 (az_r (some (.int (if x.1 4 (k + 13) ≤ 0 then 0 else 1))) (AD ρ) (KK G ρ x m ou)) := by
  refine az_start hG.1 (by decide +kernel) (Nat.le_of_ble_eq_true rfl) ?_
  intro p e s mm args below meth c C hnm
  show az_W l G 2 _ p e _ s mm args below meth c _ _ 0 0 0 [(0, .ref (ρ.1 0)), (1, .int (nI k))] []
  refine az_aload_n C 0 dX3_isFull_0 rfl ?_
  refine az_iload_n C 1 dX3_isFull_1 rfl ?_
  refine az_callV C Y_X3_needLock cX3 0 0 [.int (nI k)] [] wm_X3_101 wi_X3_needLock wse_X3_needLock dX3_isFull_2 rfl rfl rfl (XneedLock1 hG nr k hr hn hk) rfl (Nat.le_of_ble_eq_true rfl) (Nat.le_of_ble_eq_true rfl) (Nat.le_of_ble_eq_true rfl) (Nat.le_of_ble_eq_true rfl) (Nat.le_of_ble_eq_true rfl) (az_k1 rfl rfl ?_) (az_k0 rfl)
  refine az_aload_n C 0 dX3_isFull_5 rfl ?_
  refine az_get C cX3 0 0 0 (v := .ref (ρ.1 1)) wl_X3_12 dX3_isFull_6 rfl rfl rfl (by decide) ?_
  refine az_iload_n C 1 dX3_isFull_9 rfl ?_
  refine az_callV C Y_X2_hasFullChamber cX2 0 1 [.int (nI k)] [] wm_X3_104 wi_X2_hasFullChamber wse_X2_hasFullChamber dX3_isFull_10 rfl rfl rfl (kfull hG k (by omega)) rfl (Nat.le_of_ble_eq_true rfl) (Nat.le_of_ble_eq_true rfl) (Nat.le_of_ble_eq_true rfl) (Nat.le_of_ble_eq_true rfl) (Nat.le_of_ble_eq_true rfl) (az_k1 rfl rfl ?_) (az_k0 rfl)
  exact az_zret C .boolean rfl (nar_x01 _ _) dX3_isFull_13 (Nat.le_of_ble_eq_true rfl) (Nat.le_of_ble_eq_true rfl) ⟨rfl, rfl, rfl⟩

set_option maxHeartbeats 4000000 in
set_option maxRecDepth 100000 in
theorem XisFull0 (hG : az_okS l G) (nr : Nat) (v : Int32) (hr : x.1 1 8 = nI nr) (hn : nr ≤ 6) (h1 : 1 ≤ nr) (hv : oo (nr - 1) v) : az_M l G yX3_isFull (az_ws yX3_isFull cX3_isFull 2 (Option.some FieldType.boolean)) 7 [.ref (ρ.1 0), .int v] (AD ρ) (KK G ρ x m ou) 1 6 (az_x "java/lang/IndexOutOfBoundsException" (AD ρ) (KK G ρ x m ou)) := by
  refine az_start hG.1 (by decide +kernel) (Nat.le_of_ble_eq_true rfl) ?_
  intro p e s mm args below meth c C hnm
  show az_W l G 2 _ p e _ s mm args below meth c _ _ 0 0 0 [(0, .ref (ρ.1 0)), (1, .int v)] []
  refine az_aload_n C 0 dX3_isFull_0 rfl ?_
  refine az_iload_n C 1 dX3_isFull_1 rfl ?_
  refine az_callV C Y_X3_needLock cX3 0 0 [.int v] [] wm_X3_101 wi_X3_needLock wse_X3_needLock dX3_isFull_2 rfl rfl rfl (XneedLock0 hG nr v hr hn h1 hv) rfl (Nat.le_of_ble_eq_true rfl) (Nat.le_of_ble_eq_true rfl) (Nat.le_of_ble_eq_true rfl) (Nat.le_of_ble_eq_true rfl) (Nat.le_of_ble_eq_true rfl) (az_x0 rfl) (az_x1 rfl ?_)
  exact az_out C (fun _ h => by cases h) (Nat.le_of_ble_eq_true rfl) (Nat.le_of_ble_eq_true rfl) ⟨rfl, rfl, rfl⟩

set_option maxHeartbeats 4000000 in
set_option maxRecDepth 100000 in
theorem XrefusalReason1 (hG : az_okS l G) (h : ¬ x.1 0 12 = 0) : az_M l G yX3_refusalReason (az_ws yX3_refusalReason cX3_refusalReason 1 (Option.some FieldType.int)) 3 [.ref (ρ.1 0)] (AD ρ) (KK G ρ x m ou) 0 0 (az_r (some (.int (x.1 0 12))) (AD ρ) (KK G ρ x m ou)) := by
  refine az_start hG.1 (by decide +kernel) (Nat.le_of_ble_eq_true rfl) ?_
  intro p e s mm args below meth c C hnm
  show az_W l G 1 _ p e _ s mm args below meth c _ _ 0 0 0 [(0, .ref (ρ.1 0))] []
  refine az_aload_n C 0 dX3_refusalReason_0 rfl ?_
  refine az_callV C Y_X3_needRefusal cX3 0 0 [] [] wm_X3_237 wi_X3_needRefusal wse_X3_needRefusal dX3_refusalReason_1 rfl rfl rfl (XneedRef1 hG h) rfl (Nat.le_of_ble_eq_true rfl) (Nat.le_of_ble_eq_true rfl) (Nat.le_of_ble_eq_true rfl) (Nat.le_of_ble_eq_true rfl) (Nat.le_of_ble_eq_true rfl) (az_k1 rfl rfl ?_) (az_k0 rfl)
  refine az_aload_n C 0 dX3_refusalReason_4 rfl ?_
  refine az_get C cX3 0 0 12 (v := .int (x.1 0 12)) wl_X3_48 dX3_refusalReason_5 rfl rfl rfl (by decide) ?_
  exact az_iret C rfl dX3_refusalReason_8 (Nat.le_of_ble_eq_true rfl) (Nat.le_of_ble_eq_true rfl) ⟨rfl, rfl, rfl⟩

set_option maxHeartbeats 4000000 in
set_option maxRecDepth 100000 in
theorem XrefusalReason0 (hG : az_okS l G) (h : x.1 0 12 = 0) : az_M l G yX3_refusalReason (az_ws yX3_refusalReason cX3_refusalReason 1 (Option.some FieldType.int)) 7 [.ref (ρ.1 0)] (AD ρ) (KK G ρ x m ou) 1 6 (az_x "java/util/NoSuchElementException" (AD ρ) (KK G ρ x m ou)) := by
  refine az_start hG.1 (by decide +kernel) (Nat.le_of_ble_eq_true rfl) ?_
  intro p e s mm args below meth c C hnm
  show az_W l G 1 _ p e _ s mm args below meth c _ _ 0 0 0 [(0, .ref (ρ.1 0))] []
  refine az_aload_n C 0 dX3_refusalReason_0 rfl ?_
  refine az_callV C Y_X3_needRefusal cX3 0 0 [] [] wm_X3_237 wi_X3_needRefusal wse_X3_needRefusal dX3_refusalReason_1 rfl rfl rfl (XneedRef0 hG h) rfl (Nat.le_of_ble_eq_true rfl) (Nat.le_of_ble_eq_true rfl) (Nat.le_of_ble_eq_true rfl) (Nat.le_of_ble_eq_true rfl) (Nat.le_of_ble_eq_true rfl) (az_x0 rfl) (az_x1 rfl ?_)
  exact az_out C (fun _ h => by cases h) (Nat.le_of_ble_eq_true rfl) (Nat.le_of_ble_eq_true rfl) ⟨rfl, rfl, rfl⟩

set_option maxHeartbeats 4000000 in
set_option maxRecDepth 100000 in
theorem XrefusalLock1 (hG : az_okS l G) (h : ¬ x.1 0 12 = 0) : az_M l G yX3_refusalLock (az_ws yX3_refusalLock cX3_refusalLock 1 (Option.some FieldType.int)) 3 [.ref (ρ.1 0)] (AD ρ) (KK G ρ x m ou) 0 0 (az_r (some (.int (x.1 0 13))) (AD ρ) (KK G ρ x m ou)) := by
  refine az_start hG.1 (by decide +kernel) (Nat.le_of_ble_eq_true rfl) ?_
  intro p e s mm args below meth c C hnm
  show az_W l G 1 _ p e _ s mm args below meth c _ _ 0 0 0 [(0, .ref (ρ.1 0))] []
  refine az_aload_n C 0 dX3_refusalLock_0 rfl ?_
  refine az_callV C Y_X3_needRefusal cX3 0 0 [] [] wm_X3_237 wi_X3_needRefusal wse_X3_needRefusal dX3_refusalLock_1 rfl rfl rfl (XneedRef1 hG h) rfl (Nat.le_of_ble_eq_true rfl) (Nat.le_of_ble_eq_true rfl) (Nat.le_of_ble_eq_true rfl) (Nat.le_of_ble_eq_true rfl) (Nat.le_of_ble_eq_true rfl) (az_k1 rfl rfl ?_) (az_k0 rfl)
  refine az_aload_n C 0 dX3_refusalLock_4 rfl ?_
  refine az_get C cX3 0 0 13 (v := .int (x.1 0 13)) wl_X3_240 dX3_refusalLock_5 rfl rfl rfl (by decide) ?_
  exact az_iret C rfl dX3_refusalLock_8 (Nat.le_of_ble_eq_true rfl) (Nat.le_of_ble_eq_true rfl) ⟨rfl, rfl, rfl⟩

set_option maxHeartbeats 4000000 in
set_option maxRecDepth 100000 in
theorem XrefusalLock0 (hG : az_okS l G) (h : x.1 0 12 = 0) : az_M l G yX3_refusalLock (az_ws yX3_refusalLock cX3_refusalLock 1 (Option.some FieldType.int)) 7 [.ref (ρ.1 0)] (AD ρ) (KK G ρ x m ou) 1 6 (az_x "java/util/NoSuchElementException" (AD ρ) (KK G ρ x m ou)) := by
  refine az_start hG.1 (by decide +kernel) (Nat.le_of_ble_eq_true rfl) ?_
  intro p e s mm args below meth c C hnm
  show az_W l G 1 _ p e _ s mm args below meth c _ _ 0 0 0 [(0, .ref (ρ.1 0))] []
  refine az_aload_n C 0 dX3_refusalLock_0 rfl ?_
  refine az_callV C Y_X3_needRefusal cX3 0 0 [] [] wm_X3_237 wi_X3_needRefusal wse_X3_needRefusal dX3_refusalLock_1 rfl rfl rfl (XneedRef0 hG h) rfl (Nat.le_of_ble_eq_true rfl) (Nat.le_of_ble_eq_true rfl) (Nat.le_of_ble_eq_true rfl) (Nat.le_of_ble_eq_true rfl) (Nat.le_of_ble_eq_true rfl) (az_x0 rfl) (az_x1 rfl ?_)
  exact az_out C (fun _ h => by cases h) (Nat.le_of_ble_eq_true rfl) (Nat.le_of_ble_eq_true rfl) ⟨rfl, rfl, rfl⟩

set_option maxHeartbeats 4000000 in
set_option maxRecDepth 100000 in
theorem XmovementFrom1 (hG : az_okS l G) (mv k : Nat) (hm : x.1 8 3 = nI mv) (hmv : mv < 100000) (hk : k + 1 ≤ mv) (hc : mv ≤ ρ.2.2.2.1) (hc2 : ρ.2.2.2.1 < 2 ^ 31) : az_M l G yX3_movementFrom (az_ws yX3_movementFrom cX3_movementFrom 2 (Option.some FieldType.int)) 3 [.ref (ρ.1 0), .int (nI k)] (AD ρ) (KK G ρ x m ou) 0 0 (az_r (some (.int (x.1 20 k))) (AD ρ) (KK G ρ x m ou)) := by
  refine az_start hG.1 (by decide +kernel) (Nat.le_of_ble_eq_true rfl) ?_
  intro p e s mm args below meth c C hnm
  show az_W l G 2 _ p e _ s mm args below meth c _ _ 0 0 0 [(0, .ref (ρ.1 0)), (1, .int (nI k))] []
  refine az_aload_n C 0 dX3_movementFrom_0 rfl ?_
  refine az_iload_n C 1 dX3_movementFrom_1 rfl ?_
  refine az_callV C Y_X3_needMovement cX3 0 0 [.int (nI k)] [] wm_X3_270 wi_X3_needMovement wse_X3_needMovement dX3_movementFrom_2 rfl rfl rfl (XneedMv1 hG mv k hm hmv hk) rfl (Nat.le_of_ble_eq_true rfl) (Nat.le_of_ble_eq_true rfl) (Nat.le_of_ble_eq_true rfl) (Nat.le_of_ble_eq_true rfl) (Nat.le_of_ble_eq_true rfl) (az_k1 rfl rfl ?_) (az_k0 rfl)
  refine az_aload_n C 0 dX3_movementFrom_5 rfl ?_
  refine az_get C cX3 0 0 0 (v := .ref (ρ.1 1)) wl_X3_12 dX3_movementFrom_6 rfl rfl rfl (by decide) ?_
  refine az_getN C cX2 0 1 6 (v := .ref (ρ.1 8)) (az_bw C hG nx_X3_89 rfl) dX3_movementFrom_9 rfl rfl rfl (by decide) ?_
  refine az_getN C cX1 0 8 0 (v := .ref (ρ.2.1 20)) (az_bw C hG nx_X3_273 rfl) dX3_movementFrom_12 rfl rfl rfl (by decide) ?_
  refine az_iload_n C 1 dX3_movementFrom_15 rfl ?_
  refine az_ialdN C 0 20 k (v := x.1 20 k) dX3_movementFrom_16 rfl rfl (by omega) hc2 rfl ?_
  exact az_iret C rfl dX3_movementFrom_17 (Nat.le_of_ble_eq_true rfl) (Nat.le_of_ble_eq_true rfl) ⟨rfl, rfl, rfl⟩

set_option maxHeartbeats 4000000 in
set_option maxRecDepth 100000 in
theorem XmovementFrom0 (hG : az_okS l G) (mv : Nat) (v : Int32) (hm : x.1 8 3 = nI mv) (hmv : mv < 100000) (hv : oo mv v) : az_M l G yX3_movementFrom (az_ws yX3_movementFrom cX3_movementFrom 2 (Option.some FieldType.int)) 7 [.ref (ρ.1 0), .int v] (AD ρ) (KK G ρ x m ou) 1 6 (az_x "java/lang/IndexOutOfBoundsException" (AD ρ) (KK G ρ x m ou)) := by
  refine az_start hG.1 (by decide +kernel) (Nat.le_of_ble_eq_true rfl) ?_
  intro p e s mm args below meth c C hnm
  show az_W l G 2 _ p e _ s mm args below meth c _ _ 0 0 0 [(0, .ref (ρ.1 0)), (1, .int v)] []
  refine az_aload_n C 0 dX3_movementFrom_0 rfl ?_
  refine az_iload_n C 1 dX3_movementFrom_1 rfl ?_
  refine az_callV C Y_X3_needMovement cX3 0 0 [.int v] [] wm_X3_270 wi_X3_needMovement wse_X3_needMovement dX3_movementFrom_2 rfl rfl rfl (XneedMv0 hG mv v hm hmv hv) rfl (Nat.le_of_ble_eq_true rfl) (Nat.le_of_ble_eq_true rfl) (Nat.le_of_ble_eq_true rfl) (Nat.le_of_ble_eq_true rfl) (Nat.le_of_ble_eq_true rfl) (az_x0 rfl) (az_x1 rfl ?_)
  exact az_out C (fun _ h => by cases h) (Nat.le_of_ble_eq_true rfl) (Nat.le_of_ble_eq_true rfl) ⟨rfl, rfl, rfl⟩

set_option maxHeartbeats 4000000 in
set_option maxRecDepth 100000 in
theorem XmovementTo1 (hG : az_okS l G) (mv k : Nat) (hm : x.1 8 3 = nI mv) (hmv : mv < 100000) (hk : k + 1 ≤ mv) (hc : mv ≤ ρ.2.2.2.1) (hc2 : ρ.2.2.2.1 < 2 ^ 31) : az_M l G yX3_movementTo (az_ws yX3_movementTo cX3_movementTo 2 (Option.some FieldType.int)) 3 [.ref (ρ.1 0), .int (nI k)] (AD ρ) (KK G ρ x m ou) 0 0 (az_r (some (.int (x.1 21 k))) (AD ρ) (KK G ρ x m ou)) := by
  refine az_start hG.1 (by decide +kernel) (Nat.le_of_ble_eq_true rfl) ?_
  intro p e s mm args below meth c C hnm
  show az_W l G 2 _ p e _ s mm args below meth c _ _ 0 0 0 [(0, .ref (ρ.1 0)), (1, .int (nI k))] []
  refine az_aload_n C 0 dX3_movementTo_0 rfl ?_
  refine az_iload_n C 1 dX3_movementTo_1 rfl ?_
  refine az_callV C Y_X3_needMovement cX3 0 0 [.int (nI k)] [] wm_X3_270 wi_X3_needMovement wse_X3_needMovement dX3_movementTo_2 rfl rfl rfl (XneedMv1 hG mv k hm hmv hk) rfl (Nat.le_of_ble_eq_true rfl) (Nat.le_of_ble_eq_true rfl) (Nat.le_of_ble_eq_true rfl) (Nat.le_of_ble_eq_true rfl) (Nat.le_of_ble_eq_true rfl) (az_k1 rfl rfl ?_) (az_k0 rfl)
  refine az_aload_n C 0 dX3_movementTo_5 rfl ?_
  refine az_get C cX3 0 0 0 (v := .ref (ρ.1 1)) wl_X3_12 dX3_movementTo_6 rfl rfl rfl (by decide) ?_
  refine az_getN C cX2 0 1 6 (v := .ref (ρ.1 8)) (az_bw C hG nx_X3_89 rfl) dX3_movementTo_9 rfl rfl rfl (by decide) ?_
  refine az_getN C cX1 0 8 1 (v := .ref (ρ.2.1 21)) (az_bw C hG nx_X3_276 rfl) dX3_movementTo_12 rfl rfl rfl (by decide) ?_
  refine az_iload_n C 1 dX3_movementTo_15 rfl ?_
  refine az_ialdN C 0 21 k (v := x.1 21 k) dX3_movementTo_16 rfl rfl (by omega) hc2 rfl ?_
  exact az_iret C rfl dX3_movementTo_17 (Nat.le_of_ble_eq_true rfl) (Nat.le_of_ble_eq_true rfl) ⟨rfl, rfl, rfl⟩

set_option maxHeartbeats 4000000 in
set_option maxRecDepth 100000 in
theorem XmovementTo0 (hG : az_okS l G) (mv : Nat) (v : Int32) (hm : x.1 8 3 = nI mv) (hmv : mv < 100000) (hv : oo mv v) : az_M l G yX3_movementTo (az_ws yX3_movementTo cX3_movementTo 2 (Option.some FieldType.int)) 7 [.ref (ρ.1 0), .int v] (AD ρ) (KK G ρ x m ou) 1 6 (az_x "java/lang/IndexOutOfBoundsException" (AD ρ) (KK G ρ x m ou)) := by
  refine az_start hG.1 (by decide +kernel) (Nat.le_of_ble_eq_true rfl) ?_
  intro p e s mm args below meth c C hnm
  show az_W l G 2 _ p e _ s mm args below meth c _ _ 0 0 0 [(0, .ref (ρ.1 0)), (1, .int v)] []
  refine az_aload_n C 0 dX3_movementTo_0 rfl ?_
  refine az_iload_n C 1 dX3_movementTo_1 rfl ?_
  refine az_callV C Y_X3_needMovement cX3 0 0 [.int v] [] wm_X3_270 wi_X3_needMovement wse_X3_needMovement dX3_movementTo_2 rfl rfl rfl (XneedMv0 hG mv v hm hmv hv) rfl (Nat.le_of_ble_eq_true rfl) (Nat.le_of_ble_eq_true rfl) (Nat.le_of_ble_eq_true rfl) (Nat.le_of_ble_eq_true rfl) (Nat.le_of_ble_eq_true rfl) (az_x0 rfl) (az_x1 rfl ?_)
  exact az_out C (fun _ h => by cases h) (Nat.le_of_ble_eq_true rfl) (Nat.le_of_ble_eq_true rfl) ⟨rfl, rfl, rfl⟩

set_option maxHeartbeats 4000000 in
set_option maxRecDepth 100000 in
theorem XmovementVolume1 (hG : az_okS l G) (mv k : Nat) (hm : x.1 8 3 = nI mv) (hmv : mv < 100000) (hk : k + 1 ≤ mv) (hc : mv ≤ ρ.2.2.2.1) (hc2 : ρ.2.2.2.1 < 2 ^ 31) : az_M l G yX3_movementVolume (az_ws yX3_movementVolume cX3_movementVolume 2 (Option.some FieldType.int)) 3 [.ref (ρ.1 0), .int (nI k)] (AD ρ) (KK G ρ x m ou) 0 0 (az_r (some (.int (x.1 22 k))) (AD ρ) (KK G ρ x m ou)) := by
  refine az_start hG.1 (by decide +kernel) (Nat.le_of_ble_eq_true rfl) ?_
  intro p e s mm args below meth c C hnm
  show az_W l G 2 _ p e _ s mm args below meth c _ _ 0 0 0 [(0, .ref (ρ.1 0)), (1, .int (nI k))] []
  refine az_aload_n C 0 dX3_movementVolume_0 rfl ?_
  refine az_iload_n C 1 dX3_movementVolume_1 rfl ?_
  refine az_callV C Y_X3_needMovement cX3 0 0 [.int (nI k)] [] wm_X3_270 wi_X3_needMovement wse_X3_needMovement dX3_movementVolume_2 rfl rfl rfl (XneedMv1 hG mv k hm hmv hk) rfl (Nat.le_of_ble_eq_true rfl) (Nat.le_of_ble_eq_true rfl) (Nat.le_of_ble_eq_true rfl) (Nat.le_of_ble_eq_true rfl) (Nat.le_of_ble_eq_true rfl) (az_k1 rfl rfl ?_) (az_k0 rfl)
  refine az_aload_n C 0 dX3_movementVolume_5 rfl ?_
  refine az_get C cX3 0 0 0 (v := .ref (ρ.1 1)) wl_X3_12 dX3_movementVolume_6 rfl rfl rfl (by decide) ?_
  refine az_getN C cX2 0 1 6 (v := .ref (ρ.1 8)) (az_bw C hG nx_X3_89 rfl) dX3_movementVolume_9 rfl rfl rfl (by decide) ?_
  refine az_getN C cX1 0 8 2 (v := .ref (ρ.2.1 22)) (az_bw C hG nx_X3_279 rfl) dX3_movementVolume_12 rfl rfl rfl (by decide) ?_
  refine az_iload_n C 1 dX3_movementVolume_15 rfl ?_
  refine az_ialdN C 0 22 k (v := x.1 22 k) dX3_movementVolume_16 rfl rfl (by omega) hc2 rfl ?_
  exact az_iret C rfl dX3_movementVolume_17 (Nat.le_of_ble_eq_true rfl) (Nat.le_of_ble_eq_true rfl) ⟨rfl, rfl, rfl⟩

set_option maxHeartbeats 4000000 in
set_option maxRecDepth 100000 in
theorem XmovementVolume0 (hG : az_okS l G) (mv : Nat) (v : Int32) (hm : x.1 8 3 = nI mv) (hmv : mv < 100000) (hv : oo mv v) : az_M l G yX3_movementVolume (az_ws yX3_movementVolume cX3_movementVolume 2 (Option.some FieldType.int)) 7 [.ref (ρ.1 0), .int v] (AD ρ) (KK G ρ x m ou) 1 6 (az_x "java/lang/IndexOutOfBoundsException" (AD ρ) (KK G ρ x m ou)) := by
  refine az_start hG.1 (by decide +kernel) (Nat.le_of_ble_eq_true rfl) ?_
  intro p e s mm args below meth c C hnm
  show az_W l G 2 _ p e _ s mm args below meth c _ _ 0 0 0 [(0, .ref (ρ.1 0)), (1, .int v)] []
  refine az_aload_n C 0 dX3_movementVolume_0 rfl ?_
  refine az_iload_n C 1 dX3_movementVolume_1 rfl ?_
  refine az_callV C Y_X3_needMovement cX3 0 0 [.int v] [] wm_X3_270 wi_X3_needMovement wse_X3_needMovement dX3_movementVolume_2 rfl rfl rfl (XneedMv0 hG mv v hm hmv hv) rfl (Nat.le_of_ble_eq_true rfl) (Nat.le_of_ble_eq_true rfl) (Nat.le_of_ble_eq_true rfl) (Nat.le_of_ble_eq_true rfl) (Nat.le_of_ble_eq_true rfl) (az_x0 rfl) (az_x1 rfl ?_)
  exact az_out C (fun _ h => by cases h) (Nat.le_of_ble_eq_true rfl) (Nat.le_of_ble_eq_true rfl) ⟨rfl, rfl, rfl⟩

end
