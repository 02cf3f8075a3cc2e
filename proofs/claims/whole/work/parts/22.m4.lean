section
variable {l : Launch} {G : az_G} {ρ : Rp} {x : Xs} {m : Ms} {ou : Nat → Int64}
set_option maxHeartbeats 4000000 in
set_option maxRecDepth 100000 in
theorem Mcomes (hG : az_okS l G) (nr : Nat) (h6 : nr ≤ 6) (src : Int32) (k : Nat) (left : Int32) (hr : m.1 0 1 = nI nr) (hk : k ≤ nr) (hm : mvok m (nr + 1 - k)) : az_M l G yX4_comes (az_ws yX4_comes cX4_comes 7 (Option.none : Option FieldType)) 3 [.ref (ρ.1 100), .int src, .int (nI k), .int left] (AD ρ) (KK G ρ x m ou) 0 0 (az_r none (AD ρ) (KK G ρ x (comesM (nr + 1 - k) m nr src k left) ou)) := by
  refine az_start hG.1 (by decide +kernel) (Nat.le_of_ble_eq_true rfl) ?_
  intro p e s mm args below meth c C hnm
  show az_W l G 7 _ p e _ s mm args below meth c _ _ 0 0 0 [(0, .ref (ρ.1 100)), (1, .int src), (2, .int (nI k)), (3, .int left)] []
  refine az_iload_n C 1 dX4_comes_0 rfl ?_
  refine az_istore C (lv' := [(4, .int src), (0, .ref (ρ.1 100)), (1, .int src), (2, .int (nI k)), (3, .int left)]) dX4_comes_1 (by decide) rfl ?_
  refine az_iload_n C 4 dX4_comes_3 rfl ?_
  refine az_istore C (lv' := [(5, .int left), (4, .int src), (0, .ref (ρ.1 100)), (1, .int src), (2, .int (nI k)), (3, .int left)]) dX4_comes_4 (by decide) rfl ?_
  refine az_iload_n C 4 dX4_comes_6 rfl ?_
  refine az_istore C (lv' := [(6, .int (nI k)), (5, .int left), (4, .int src), (0, .ref (ρ.1 100)), (1, .int src), (2, .int (nI k)), (3, .int left)]) dX4_comes_7 (by decide) rfl ?_
  refine az_lv [0, 1, 2, 3] rfl ?_
  exact Mcomes_l hG C nr h6 (nr + 1 - k) m src k left hr hk (by omega) hm

def fillsM (m : Ms) (k : Nat) : Ms := (mI (mI (recM m (nI k) ((10 + nI k)) (m.1 7 k)) 4 k (((recM m (nI k) ((10 + nI k)) (m.1 7 k)).1 4 k - (recM m (nI k) ((10 + nI k)) (m.1 7 k)).1 7 k))) 11 k (vp_nar .boolean 1))
set_option maxHeartbeats 4000000 in
set_option maxRecDepth 100000 in
theorem Mfills (hG : az_okS l G) (k : Nat) (hk : k < 5) (hm : mvok m 0) : az_M l G yX4_fills (az_ws yX4_fills cX4_fills 2 (Option.none : Option FieldType)) 2 [.ref (ρ.1 100), .int (nI k)] (AD ρ) (KK G ρ x m ou) 0 0 (az_r none (AD ρ) (KK G ρ x (fillsM m k) ou)) := by
  refine az_start hG.1 (by decide +kernel) (Nat.le_of_ble_eq_true rfl) ?_
  intro p e s mm args below meth c C hnm
  show az_W l G 2 _ p e _ s mm args below meth c _ _ 0 0 0 [(0, .ref (ρ.1 100)), (1, .int (nI k))] []
  refine az_aload_n C 0 dX4_fills_0 rfl ?_
  refine az_iload_n C 1 dX4_fills_1 rfl ?_
  refine az_bipush C (v := 10) dX4_fills_2 (by decide) ?_
  refine az_iload_n C 1 dX4_fills_4 rfl ?_
  refine az_iadd C dX4_fills_5 ?_
  refine az_aload_n C 0 dX4_fills_6 rfl ?_
  refine az_get C cX4 2 0 7 (v := .ref (ρ.1 107)) wl_X4_26 dX4_fills_7 rfl rfl rfl (by decide) ?_
  refine az_iload_n C 1 dX4_fills_10 rfl ?_
  refine az_ialdN C 2 7 k (v := m.1 7 k) dX4_fills_11 rfl rfl (by omega) (by decide) rfl ?_
  refine az_callV C Y_X4_records cX4 2 0 [.int (nI k), .int ((10 + nI k)), .int (m.1 7 k)] [] wm_X4_111 wi_X4_records wse_X4_records dX4_fills_12 rfl rfl rfl (Mrecords hG (nI k) ((10 + nI k)) (m.1 7 k) hm) rfl (Nat.le_of_ble_eq_true rfl) (Nat.le_of_ble_eq_true rfl) (Nat.le_of_ble_eq_true rfl) (Nat.le_of_ble_eq_true rfl) (Nat.le_of_ble_eq_true rfl) (az_k1 rfl rfl ?_) (az_k0 rfl)
  refine az_aload_n C 0 dX4_fills_15 rfl ?_
  refine az_get C cX4 2 0 4 (v := .ref (ρ.1 104)) wl_X4_17 dX4_fills_16 rfl rfl rfl (by decide) ?_
  refine az_iload_n C 1 dX4_fills_19 rfl ?_
  refine az_dup2 C dX4_fills_20 rfl rfl ?_
  refine az_ialdN C 2 4 k (v := (recM m (nI k) ((10 + nI k)) (m.1 7 k)).1 4 k) dX4_fills_21 rfl rfl (by omega) (by decide) rfl ?_
  refine az_aload_n C 0 dX4_fills_22 rfl ?_
  refine az_get C cX4 2 0 7 (v := .ref (ρ.1 107)) wl_X4_26 dX4_fills_23 rfl rfl rfl (by decide) ?_
  refine az_iload_n C 1 dX4_fills_26 rfl ?_
  refine az_ialdN C 2 7 k (v := (recM m (nI k) ((10 + nI k)) (m.1 7 k)).1 7 k) dX4_fills_27 rfl rfl (by omega) (by decide) rfl ?_
  refine az_isub C dX4_fills_28 ?_
  refine az_iastN C 2 4 k dX4_fills_29 rfl rfl (by omega) (by decide) (az_to rfl (K' := (KK G ρ x (mI (recM m (nI k) ((10 + nI k)) (m.1 7 k)) 4 k (((recM m (nI k) ((10 + nI k)) (m.1 7 k)).1 4 k - (recM m (nI k) ((10 + nI k)) (m.1 7 k)).1 7 k))) ou)) (KK_M rfl) ?_)
  refine az_aload_n C 0 dX4_fills_30 rfl ?_
  refine az_get C cX4 2 0 11 (v := .ref (ρ.1 111)) wl_X4_38 dX4_fills_31 rfl rfl rfl (by decide) ?_
  refine az_iload_n C 1 dX4_fills_34 rfl ?_
  refine az_iconst C (v := 1) dX4_fills_35 (by decide) ?_
  refine az_zastN C 2 11 k dX4_fills_36 rfl rfl (by omega) (by decide) (az_to rfl (K' := (KK G ρ x (mI (mI (recM m (nI k) ((10 + nI k)) (m.1 7 k)) 4 k (((recM m (nI k) ((10 + nI k)) (m.1 7 k)).1 4 k - (recM m (nI k) ((10 + nI k)) (m.1 7 k)).1 7 k))) 11 k (vp_nar .boolean 1)) ou)) (KK_M rfl) ?_)
  exact az_vret C rfl dX4_fills_37 (Nat.le_of_ble_eq_true rfl) (Nat.le_of_ble_eq_true rfl) ⟨rfl, rfl, rfl⟩

def emptiesM (m : Ms) (nr k : Nat) : Ms := (comesM (nr + 1 - (k + 1)) (mI (mI m 11 k (vp_nar .boolean 0)) 10 k ((m.1 10 k + m.1 7 k))) nr ((10 + nI k)) (k + 1) (m.1 7 k))
set_option maxHeartbeats 4000000 in
set_option maxRecDepth 100000 in
theorem Mempties (hG : az_okS l G) (nr k : Nat) (h6 : nr ≤ 6) (hk : k + 2 ≤ nr) (hr : m.1 0 1 = nI nr) (hm : mvok m (nr + 1 - (k + 1))) : az_M l G yX4_empties (az_ws yX4_empties cX4_empties 2 (Option.none : Option FieldType)) 4 [.ref (ρ.1 100), .int (nI k)] (AD ρ) (KK G ρ x m ou) 0 0 (az_r none (AD ρ) (KK G ρ x (emptiesM m nr k) ou)) := by
  refine az_start hG.1 (by decide +kernel) (Nat.le_of_ble_eq_true rfl) ?_
  intro p e s mm args below meth c C hnm
  show az_W l G 2 _ p e _ s mm args below meth c _ _ 0 0 0 [(0, .ref (ρ.1 100)), (1, .int (nI k))] []
  refine az_aload_n C 0 dX4_empties_0 rfl ?_
  refine az_get C cX4 2 0 11 (v := .ref (ρ.1 111)) wl_X4_38 dX4_empties_1 rfl rfl rfl (by decide) ?_
  refine az_iload_n C 1 dX4_empties_4 rfl ?_
  refine az_iconst C (v := 0) dX4_empties_5 (by decide) ?_
  refine az_zastN C 2 11 k dX4_empties_6 rfl rfl (by omega) (by decide) (az_to rfl (K' := (KK G ρ x (mI m 11 k (vp_nar .boolean 0)) ou)) (KK_M rfl) ?_)
  refine az_aload_n C 0 dX4_empties_7 rfl ?_
  refine az_get C cX4 2 0 10 (v := .ref (ρ.1 110)) wl_X4_35 dX4_empties_8 rfl rfl rfl (by decide) ?_
  refine az_iload_n C 1 dX4_empties_11 rfl ?_
  refine az_dup2 C dX4_empties_12 rfl rfl ?_
  refine az_ialdN C 2 10 k (v := m.1 10 k) dX4_empties_13 rfl rfl (by omega) (by decide) rfl ?_
  refine az_aload_n C 0 dX4_empties_14 rfl ?_
  refine az_get C cX4 2 0 7 (v := .ref (ρ.1 107)) wl_X4_26 dX4_empties_15 rfl rfl rfl (by decide) ?_
  refine az_iload_n C 1 dX4_empties_18 rfl ?_
  refine az_ialdN C 2 7 k (v := m.1 7 k) dX4_empties_19 rfl rfl (by omega) (by decide) rfl ?_
  refine az_iadd C dX4_empties_20 ?_
  refine az_iastN C 2 10 k dX4_empties_21 rfl rfl (by omega) (by decide) (az_to rfl (K' := (KK G ρ x (mI (mI m 11 k (vp_nar .boolean 0)) 10 k ((m.1 10 k + m.1 7 k))) ou)) (KK_M rfl) ?_)
  refine az_aload_n C 0 dX4_empties_22 rfl ?_
  refine az_bipush C (v := 10) dX4_empties_23 (by decide) ?_
  refine az_iload_n C 1 dX4_empties_25 rfl ?_
  refine az_iadd C dX4_empties_26 ?_
  refine az_iload_n C 1 dX4_empties_27 rfl ?_
  refine az_iconst C (v := 1) dX4_empties_28 (by decide) ?_
  refine az_iadd C dX4_empties_29 ?_
  refine az_top (nI (k + 1)) (nI_1 k) ?_
  refine az_aload_n C 0 dX4_empties_30 rfl ?_
  refine az_get C cX4 2 0 7 (v := .ref (ρ.1 107)) wl_X4_26 dX4_empties_31 rfl rfl rfl (by decide) ?_
  refine az_iload_n C 1 dX4_empties_34 rfl ?_
  refine az_ialdN C 2 7 k (v := m.1 7 k) dX4_empties_35 rfl rfl (by omega) (by decide) rfl ?_
  refine az_callV C Y_X4_comes cX4 2 0 [.int ((10 + nI k)), .int (nI (k + 1)), .int (m.1 7 k)] [] wm_X4_118 wi_X4_comes wse_X4_comes dX4_empties_36 rfl rfl rfl (Mcomes hG nr (by omega) ((10 + nI k)) (k + 1) (m.1 7 k) hr (by omega) (hm.eq rfl)) rfl (Nat.le_of_ble_eq_true rfl) (Nat.le_of_ble_eq_true rfl) (Nat.le_of_ble_eq_true rfl) (Nat.le_of_ble_eq_true rfl) (Nat.le_of_ble_eq_true rfl) (az_k1 rfl rfl ?_) (az_k0 rfl)
  exact az_vret C rfl dX4_empties_39 (Nat.le_of_ble_eq_true rfl) (Nat.le_of_ble_eq_true rfl) ⟨rfl, rfl, rfl⟩

def refM (m : Ms) (u v : Int32) : Ms := (mI (mI m 0 28 u) 0 29 v)
set_option maxHeartbeats 4000000 in
set_option maxRecDepth 100000 in
theorem Mrefuses (hG : az_okS l G) (u v : Int32) : az_M l G yX4_refuses (az_ws yX4_refuses cX4_refuses 3 (Option.some FieldType.int)) 1 [.ref (ρ.1 100), .int u, .int v] (AD ρ) (KK G ρ x m ou) 0 0 (az_r (some (.int 0)) (AD ρ) (KK G ρ x (refM m u v) ou)) := by
  refine az_start hG.1 (by decide +kernel) (Nat.le_of_ble_eq_true rfl) ?_
  intro p e s mm args below meth c C hnm
  show az_W l G 3 _ p e _ s mm args below meth c _ _ 0 0 0 [(0, .ref (ρ.1 100)), (1, .int u), (2, .int v)] []
  refine az_aload_n C 0 dX4_refuses_0 rfl ?_
  refine az_iload_n C 1 dX4_refuses_1 rfl ?_
  refine az_put C cX4 2 0 28 wl_X4_187 dX4_refuses_2 rfl rfl (by decide) (Nat.le_of_ble_eq_true rfl) rfl rfl rfl (az_to rfl (K' := (KK G ρ x (mI m 0 28 u) ou)) (KK_M rfl) ?_)
  refine az_aload_n C 0 dX4_refuses_5 rfl ?_
  refine az_iload_n C 2 dX4_refuses_6 rfl ?_
  refine az_put C cX4 2 0 29 wl_X4_190 dX4_refuses_7 rfl rfl (by decide) (Nat.le_of_ble_eq_true rfl) rfl rfl rfl (az_to rfl (K' := (KK G ρ x (mI (mI m 0 28 u) 0 29 v) ou)) (KK_M rfl) ?_)
  refine az_iconst C (v := 0) dX4_refuses_10 (by decide) ?_
  exact az_iret C rfl dX4_refuses_11 (Nat.le_of_ble_eq_true rfl) (Nat.le_of_ble_eq_true rfl) ⟨rfl, rfl, rfl⟩

def keepsM (m : Ms) : Ms := (mI (mI (mI (mI (mI (mI (mI (mI (mI (mI (mI (mI (mI (mI (mI (mI (mI (mI (mI (mI (mI (mI (mI (mI (mI (mI m 32 0 (m.1 4 0)) 32 1 (m.1 4 1)) 32 2 (m.1 4 2)) 32 3 (m.1 4 3)) 32 4 (m.1 4 4)) 32 5 (m.1 4 5)) 33 0 (m.1 10 0)) 35 0 (vp_nar .boolean (m.1 11 0))) 33 1 (m.1 10 1)) 35 1 (vp_nar .boolean (m.1 11 1))) 33 2 (m.1 10 2)) 35 2 (vp_nar .boolean (m.1 11 2))) 33 3 (m.1 10 3)) 35 3 (vp_nar .boolean (m.1 11 3))) 33 4 (m.1 10 4)) 35 4 (vp_nar .boolean (m.1 11 4))) 34 0 (m.1 13 0)) 34 1 (m.1 13 1)) 34 2 (m.1 13 2)) 34 3 (m.1 13 3)) 34 4 (m.1 13 4)) 34 5 (m.1 13 5)) 34 6 (m.1 13 6)) 34 7 (m.1 13 7)) 0 36 (m.1 0 22)) 0 37 (m.1 0 24))
set_option maxHeartbeats 4000000 in
set_option maxRecDepth 100000 in
theorem Mkeeps (hG : az_okS l G)  : az_M l G yX4_keeps (az_ws yX4_keeps cX4_keeps 2 (Option.none : Option FieldType)) 1 [.ref (ρ.1 100)] (AD ρ) (KK G ρ x m ou) 0 0 (az_r none (AD ρ) (KK G ρ x (keepsM m) ou)) := by
  refine az_start hG.1 (by decide +kernel) (Nat.le_of_ble_eq_true rfl) ?_
  intro p e s mm args below meth c C hnm
  show az_W l G 2 _ p e _ s mm args below meth c _ _ 0 0 0 [(0, .ref (ρ.1 100))] []
  refine az_iconst C (v := 0) dX4_keeps_0 (by decide) ?_
  refine az_istore_n C (lv' := [(1, .int 0), (0, .ref (ρ.1 100))]) (j := 1) rfl dX4_keeps_1 (by decide) rfl ?_
  refine az_iload_n C 0 dX4_keeps_2 rfl ?_
  refine az_bipush C (v := 6) dX4_keeps_3 (by decide) ?_
  refine az_icmp_ge C 26 dX4_keeps_5 (by decide) (fun q => absurd q (by decide)) (fun _ => ?_)
  refine az_aload_n C 1 dX4_keeps_8 rfl ?_
  refine az_get C cX4 2 0 32 (v := .ref (ρ.1 132)) wl_X4_85 dX4_keeps_9 rfl rfl rfl (by decide) ?_
  refine az_iload_n C 0 dX4_keeps_12 rfl ?_
  refine az_aload_n C 1 dX4_keeps_13 rfl ?_
  refine az_get C cX4 2 0 4 (v := .ref (ρ.1 104)) wl_X4_17 dX4_keeps_14 rfl rfl rfl (by decide) ?_
  refine az_iload_n C 0 dX4_keeps_17 rfl ?_
  refine az_ialdN C 2 4 0 (v := m.1 4 0) dX4_keeps_18 rfl rfl (by decide) (by decide) rfl ?_
  refine az_iastN C 2 32 0 dX4_keeps_19 rfl rfl (by decide) (by decide) (az_to rfl (K' := (KK G ρ x (mI m 32 0 (m.1 4 0)) ou)) (KK_M rfl) ?_)
  refine az_iinc C 0 (v := 1) (lv' := [(1, .int 1), (0, .ref (ρ.1 100))]) dX4_keeps_20 rfl (by decide) (by decide) rfl ?_
  refine az_goto C 2 dX4_keeps_23 (by decide) ?_
  refine az_iload_n C 0 dX4_keeps_2 rfl ?_
  refine az_bipush C (v := 6) dX4_keeps_3 (by decide) ?_
  refine az_icmp_ge C 26 dX4_keeps_5 (by decide) (fun q => absurd q (by decide)) (fun _ => ?_)
  refine az_aload_n C 1 dX4_keeps_8 rfl ?_
  refine az_get C cX4 2 0 32 (v := .ref (ρ.1 132)) wl_X4_85 dX4_keeps_9 rfl rfl rfl (by decide) ?_
  refine az_iload_n C 0 dX4_keeps_12 rfl ?_
  refine az_aload_n C 1 dX4_keeps_13 rfl ?_
  refine az_get C cX4 2 0 4 (v := .ref (ρ.1 104)) wl_X4_17 dX4_keeps_14 rfl rfl rfl (by decide) ?_
  refine az_iload_n C 0 dX4_keeps_17 rfl ?_
  refine az_ialdN C 2 4 1 (v := m.1 4 1) dX4_keeps_18 rfl rfl (by decide) (by decide) rfl ?_
  refine az_iastN C 2 32 1 dX4_keeps_19 rfl rfl (by decide) (by decide) (az_to rfl (K' := (KK G ρ x (mI (mI m 32 0 (m.1 4 0)) 32 1 (m.1 4 1)) ou)) (KK_M rfl) ?_)
  refine az_iinc C 0 (v := 2) (lv' := [(1, .int 2), (0, .ref (ρ.1 100))]) dX4_keeps_20 rfl (by decide) (by decide) rfl ?_
  refine az_goto C 2 dX4_keeps_23 (by decide) ?_
  refine az_iload_n C 0 dX4_keeps_2 rfl ?_
  refine az_bipush C (v := 6) dX4_keeps_3 (by decide) ?_
  refine az_icmp_ge C 26 dX4_keeps_5 (by decide) (fun q => absurd q (by decide)) (fun _ => ?_)
  refine az_aload_n C 1 dX4_keeps_8 rfl ?_
  refine az_get C cX4 2 0 32 (v := .ref (ρ.1 132)) wl_X4_85 dX4_keeps_9 rfl rfl rfl (by decide) ?_
  refine az_iload_n C 0 dX4_keeps_12 rfl ?_
  refine az_aload_n C 1 dX4_keeps_13 rfl ?_
  refine az_get C cX4 2 0 4 (v := .ref (ρ.1 104)) wl_X4_17 dX4_keeps_14 rfl rfl rfl (by decide) ?_
  refine az_iload_n C 0 dX4_keeps_17 rfl ?_
  refine az_ialdN C 2 4 2 (v := m.1 4 2) dX4_keeps_18 rfl rfl (by decide) (by decide) rfl ?_
  refine az_iastN C 2 32 2 dX4_keeps_19 rfl rfl (by decide) (by decide) (az_to rfl (K' := (KK G ρ x (mI (mI (mI m 32 0 (m.1 4 0)) 32 1 (m.1 4 1)) 32 2 (m.1 4 2)) ou)) (KK_M rfl) ?_)
  refine az_iinc C 0 (v := 3) (lv' := [(1, .int 3), (0, .ref (ρ.1 100))]) dX4_keeps_20 rfl (by decide) (by decide) rfl ?_
  refine az_goto C 2 dX4_keeps_23 (by decide) ?_
  refine az_iload_n C 0 dX4_keeps_2 rfl ?_
  refine az_bipush C (v := 6) dX4_keeps_3 (by decide) ?_
  refine az_icmp_ge C 26 dX4_keeps_5 (by decide) (fun q => absurd q (by decide)) (fun _ => ?_)
  refine az_aload_n C 1 dX4_keeps_8 rfl ?_
  refine az_get C cX4 2 0 32 (v := .ref (ρ.1 132)) wl_X4_85 dX4_keeps_9 rfl rfl rfl (by decide) ?_
  refine az_iload_n C 0 dX4_keeps_12 rfl ?_
  refine az_aload_n C 1 dX4_keeps_13 rfl ?_
  refine az_get C cX4 2 0 4 (v := .ref (ρ.1 104)) wl_X4_17 dX4_keeps_14 rfl rfl rfl (by decide) ?_
  refine az_iload_n C 0 dX4_keeps_17 rfl ?_
  refine az_ialdN C 2 4 3 (v := m.1 4 3) dX4_keeps_18 rfl rfl (by decide) (by decide) rfl ?_
  refine az_iastN C 2 32 3 dX4_keeps_19 rfl rfl (by decide) (by decide) (az_to rfl (K' := (KK G ρ x (mI (mI (mI (mI m 32 0 (m.1 4 0)) 32 1 (m.1 4 1)) 32 2 (m.1 4 2)) 32 3 (m.1 4 3)) ou)) (KK_M rfl) ?_)
  refine az_iinc C 0 (v := 4) (lv' := [(1, .int 4), (0, .ref (ρ.1 100))]) dX4_keeps_20 rfl (by decide) (by decide) rfl ?_
  refine az_goto C 2 dX4_keeps_23 (by decide) ?_
  refine az_iload_n C 0 dX4_keeps_2 rfl ?_
  refine az_bipush C (v := 6) dX4_keeps_3 (by decide) ?_
  refine az_icmp_ge C 26 dX4_keeps_5 (by decide) (fun q => absurd q (by decide)) (fun _ => ?_)
  refine az_aload_n C 1 dX4_keeps_8 rfl ?_
  refine az_get C cX4 2 0 32 (v := .ref (ρ.1 132)) wl_X4_85 dX4_keeps_9 rfl rfl rfl (by decide) ?_
  refine az_iload_n C 0 dX4_keeps_12 rfl ?_
  refine az_aload_n C 1 dX4_keeps_13 rfl ?_
  refine az_get C cX4 2 0 4 (v := .ref (ρ.1 104)) wl_X4_17 dX4_keeps_14 rfl rfl rfl (by decide) ?_
  refine az_iload_n C 0 dX4_keeps_17 rfl ?_
  refine az_ialdN C 2 4 4 (v := m.1 4 4) dX4_keeps_18 rfl rfl (by decide) (by decide) rfl ?_
  refine az_iastN C 2 32 4 dX4_keeps_19 rfl rfl (by decide) (by decide) (az_to rfl (K' := (KK G ρ x (mI (mI (mI (mI (mI m 32 0 (m.1 4 0)) 32 1 (m.1 4 1)) 32 2 (m.1 4 2)) 32 3 (m.1 4 3)) 32 4 (m.1 4 4)) ou)) (KK_M rfl) ?_)
  refine az_iinc C 0 (v := 5) (lv' := [(1, .int 5), (0, .ref (ρ.1 100))]) dX4_keeps_20 rfl (by decide) (by decide) rfl ?_
  refine az_goto C 2 dX4_keeps_23 (by decide) ?_
  refine az_iload_n C 0 dX4_keeps_2 rfl ?_
  refine az_bipush C (v := 6) dX4_keeps_3 (by decide) ?_
  refine az_icmp_ge C 26 dX4_keeps_5 (by decide) (fun q => absurd q (by decide)) (fun _ => ?_)
  refine az_aload_n C 1 dX4_keeps_8 rfl ?_
  refine az_get C cX4 2 0 32 (v := .ref (ρ.1 132)) wl_X4_85 dX4_keeps_9 rfl rfl rfl (by decide) ?_
  refine az_iload_n C 0 dX4_keeps_12 rfl ?_
  refine az_aload_n C 1 dX4_keeps_13 rfl ?_
  refine az_get C cX4 2 0 4 (v := .ref (ρ.1 104)) wl_X4_17 dX4_keeps_14 rfl rfl rfl (by decide) ?_
  refine az_iload_n C 0 dX4_keeps_17 rfl ?_
  refine az_ialdN C 2 4 5 (v := m.1 4 5) dX4_keeps_18 rfl rfl (by decide) (by decide) rfl ?_
  refine az_iastN C 2 32 5 dX4_keeps_19 rfl rfl (by decide) (by decide) (az_to rfl (K' := (KK G ρ x (mI (mI (mI (mI (mI (mI m 32 0 (m.1 4 0)) 32 1 (m.1 4 1)) 32 2 (m.1 4 2)) 32 3 (m.1 4 3)) 32 4 (m.1 4 4)) 32 5 (m.1 4 5)) ou)) (KK_M rfl) ?_)
  refine az_iinc C 0 (v := 6) (lv' := [(1, .int 6), (0, .ref (ρ.1 100))]) dX4_keeps_20 rfl (by decide) (by decide) rfl ?_
  refine az_goto C 2 dX4_keeps_23 (by decide) ?_
  refine az_iload_n C 0 dX4_keeps_2 rfl ?_
  refine az_bipush C (v := 6) dX4_keeps_3 (by decide) ?_
  refine az_icmp_ge C 26 dX4_keeps_5 (by decide) (fun _ => ?_) (fun q => absurd (by decide) q)
  refine az_iconst C (v := 0) dX4_keeps_26 (by decide) ?_
  refine az_istore_n C (lv' := [(1, .int 0), (0, .ref (ρ.1 100))]) (j := 1) rfl dX4_keeps_27 (by decide) rfl ?_
  refine az_iload_n C 0 dX4_keeps_28 rfl ?_
  refine az_iconst C (v := 5) dX4_keeps_29 (by decide) ?_
  refine az_icmp_ge C 63 dX4_keeps_30 (by decide) (fun q => absurd q (by decide)) (fun _ => ?_)
  refine az_aload_n C 1 dX4_keeps_33 rfl ?_
  refine az_get C cX4 2 0 33 (v := .ref (ρ.1 133)) wl_X4_88 dX4_keeps_34 rfl rfl rfl (by decide) ?_
  refine az_iload_n C 0 dX4_keeps_37 rfl ?_
  refine az_aload_n C 1 dX4_keeps_38 rfl ?_
  refine az_get C cX4 2 0 10 (v := .ref (ρ.1 110)) wl_X4_35 dX4_keeps_39 rfl rfl rfl (by decide) ?_
  refine az_iload_n C 0 dX4_keeps_42 rfl ?_
  refine az_ialdN C 2 10 0 (v := m.1 10 0) dX4_keeps_43 rfl rfl (by decide) (by decide) rfl ?_
  refine az_iastN C 2 33 0 dX4_keeps_44 rfl rfl (by decide) (by decide) (az_to rfl (K' := (KK G ρ x (mI (mI (mI (mI (mI (mI (mI m 32 0 (m.1 4 0)) 32 1 (m.1 4 1)) 32 2 (m.1 4 2)) 32 3 (m.1 4 3)) 32 4 (m.1 4 4)) 32 5 (m.1 4 5)) 33 0 (m.1 10 0)) ou)) (KK_M rfl) ?_)
  refine az_aload_n C 1 dX4_keeps_45 rfl ?_
  refine az_get C cX4 2 0 35 (v := .ref (ρ.1 135)) wl_X4_94 dX4_keeps_46 rfl rfl rfl (by decide) ?_
  refine az_iload_n C 0 dX4_keeps_49 rfl ?_
  refine az_aload_n C 1 dX4_keeps_50 rfl ?_
  refine az_get C cX4 2 0 11 (v := .ref (ρ.1 111)) wl_X4_38 dX4_keeps_51 rfl rfl rfl (by decide) ?_
  refine az_iload_n C 0 dX4_keeps_54 rfl ?_
  refine az_zaldN C 2 11 0 (v := m.1 11 0) dX4_keeps_55 rfl rfl (by decide) (by decide) rfl ?_
  refine az_zastN C 2 35 0 dX4_keeps_56 rfl rfl (by decide) (by decide) (az_to rfl (K' := (KK G ρ x (mI (mI (mI (mI (mI (mI (mI (mI m 32 0 (m.1 4 0)) 32 1 (m.1 4 1)) 32 2 (m.1 4 2)) 32 3 (m.1 4 3)) 32 4 (m.1 4 4)) 32 5 (m.1 4 5)) 33 0 (m.1 10 0)) 35 0 (vp_nar .boolean (m.1 11 0))) ou)) (KK_M rfl) ?_)
  refine az_iinc C 0 (v := 1) (lv' := [(1, .int 1), (0, .ref (ρ.1 100))]) dX4_keeps_57 rfl (by decide) (by decide) rfl ?_
  refine az_goto C 28 dX4_keeps_60 (by decide) ?_
  refine az_iload_n C 0 dX4_keeps_28 rfl ?_
  refine az_iconst C (v := 5) dX4_keeps_29 (by decide) ?_
  refine az_icmp_ge C 63 dX4_keeps_30 (by decide) (fun q => absurd q (by decide)) (fun _ => ?_)
  refine az_aload_n C 1 dX4_keeps_33 rfl ?_
  refine az_get C cX4 2 0 33 (v := .ref (ρ.1 133)) wl_X4_88 dX4_keeps_34 rfl rfl rfl (by decide) ?_
  refine az_iload_n C 0 dX4_keeps_37 rfl ?_
  refine az_aload_n C 1 dX4_keeps_38 rfl ?_
  refine az_get C cX4 2 0 10 (v := .ref (ρ.1 110)) wl_X4_35 dX4_keeps_39 rfl rfl rfl (by decide) ?_
  refine az_iload_n C 0 dX4_keeps_42 rfl ?_
  refine az_ialdN C 2 10 1 (v := m.1 10 1) dX4_keeps_43 rfl rfl (by decide) (by decide) rfl ?_
  refine az_iastN C 2 33 1 dX4_keeps_44 rfl rfl (by decide) (by decide) (az_to rfl (K' := (KK G ρ x (mI (mI (mI (mI (mI (mI (mI (mI (mI m 32 0 (m.1 4 0)) 32 1 (m.1 4 1)) 32 2 (m.1 4 2)) 32 3 (m.1 4 3)) 32 4 (m.1 4 4)) 32 5 (m.1 4 5)) 33 0 (m.1 10 0)) 35 0 (vp_nar .boolean (m.1 11 0))) 33 1 (m.1 10 1)) ou)) (KK_M rfl) ?_)
  refine az_aload_n C 1 dX4_keeps_45 rfl ?_
  refine az_get C cX4 2 0 35 (v := .ref (ρ.1 135)) wl_X4_94 dX4_keeps_46 rfl rfl rfl (by decide) ?_
  refine az_iload_n C 0 dX4_keeps_49 rfl ?_
  refine az_aload_n C 1 dX4_keeps_50 rfl ?_
  refine az_get C cX4 2 0 11 (v := .ref (ρ.1 111)) wl_X4_38 dX4_keeps_51 rfl rfl rfl (by decide) ?_
  refine az_iload_n C 0 dX4_keeps_54 rfl ?_
  refine az_zaldN C 2 11 1 (v := m.1 11 1) dX4_keeps_55 rfl rfl (by decide) (by decide) rfl ?_
  refine az_zastN C 2 35 1 dX4_keeps_56 rfl rfl (by decide) (by decide) (az_to rfl (K' := (KK G ρ x (mI (mI (mI (mI (mI (mI (mI (mI (mI (mI m 32 0 (m.1 4 0)) 32 1 (m.1 4 1)) 32 2 (m.1 4 2)) 32 3 (m.1 4 3)) 32 4 (m.1 4 4)) 32 5 (m.1 4 5)) 33 0 (m.1 10 0)) 35 0 (vp_nar .boolean (m.1 11 0))) 33 1 (m.1 10 1)) 35 1 (vp_nar .boolean (m.1 11 1))) ou)) (KK_M rfl) ?_)
  refine az_iinc C 0 (v := 2) (lv' := [(1, .int 2), (0, .ref (ρ.1 100))]) dX4_keeps_57 rfl (by decide) (by decide) rfl ?_
  refine az_goto C 28 dX4_keeps_60 (by decide) ?_
  refine az_iload_n C 0 dX4_keeps_28 rfl ?_
  refine az_iconst C (v := 5) dX4_keeps_29 (by decide) ?_
  refine az_icmp_ge C 63 dX4_keeps_30 (by decide) (fun q => absurd q (by decide)) (fun _ => ?_)
  refine az_aload_n C 1 dX4_keeps_33 rfl ?_
  refine az_get C cX4 2 0 33 (v := .ref (ρ.1 133)) wl_X4_88 dX4_keeps_34 rfl rfl rfl (by decide) ?_
  refine az_iload_n C 0 dX4_keeps_37 rfl ?_
  refine az_aload_n C 1 dX4_keeps_38 rfl ?_
  refine az_get C cX4 2 0 10 (v := .ref (ρ.1 110)) wl_X4_35 dX4_keeps_39 rfl rfl rfl (by decide) ?_
  refine az_iload_n C 0 dX4_keeps_42 rfl ?_
  refine az_ialdN C 2 10 2 (v := m.1 10 2) dX4_keeps_43 rfl rfl (by decide) (by decide) rfl ?_
  refine az_iastN C 2 33 2 dX4_keeps_44 rfl rfl (by decide) (by decide) (az_to rfl (K' := (KK G ρ x (mI (mI (mI (mI (mI (mI (mI (mI (mI (mI (mI m 32 0 (m.1 4 0)) 32 1 (m.1 4 1)) 32 2 (m.1 4 2)) 32 3 (m.1 4 3)) 32 4 (m.1 4 4)) 32 5 (m.1 4 5)) 33 0 (m.1 10 0)) 35 0 (vp_nar .boolean (m.1 11 0))) 33 1 (m.1 10 1)) 35 1 (vp_nar .boolean (m.1 11 1))) 33 2 (m.1 10 2)) ou)) (KK_M rfl) ?_)
  refine az_aload_n C 1 dX4_keeps_45 rfl ?_
  refine az_get C cX4 2 0 35 (v := .ref (ρ.1 135)) wl_X4_94 dX4_keeps_46 rfl rfl rfl (by decide) ?_
  refine az_iload_n C 0 dX4_keeps_49 rfl ?_
  refine az_aload_n C 1 dX4_keeps_50 rfl ?_
  refine az_get C cX4 2 0 11 (v := .ref (ρ.1 111)) wl_X4_38 dX4_keeps_51 rfl rfl rfl (by decide) ?_
  refine az_iload_n C 0 dX4_keeps_54 rfl ?_
  refine az_zaldN C 2 11 2 (v := m.1 11 2) dX4_keeps_55 rfl rfl (by decide) (by decide) rfl ?_
  refine az_zastN C 2 35 2 dX4_keeps_56 rfl rfl (by decide) (by decide) (az_to rfl (K' := (KK G ρ x (mI (mI (mI (mI (mI (mI (mI (mI (mI (mI (mI (mI m 32 0 (m.1 4 0)) 32 1 (m.1 4 1)) 32 2 (m.1 4 2)) 32 3 (m.1 4 3)) 32 4 (m.1 4 4)) 32 5 (m.1 4 5)) 33 0 (m.1 10 0)) 35 0 (vp_nar .boolean (m.1 11 0))) 33 1 (m.1 10 1)) 35 1 (vp_nar .boolean (m.1 11 1))) 33 2 (m.1 10 2)) 35 2 (vp_nar .boolean (m.1 11 2))) ou)) (KK_M rfl) ?_)
  refine az_iinc C 0 (v := 3) (lv' := [(1, .int 3), (0, .ref (ρ.1 100))]) dX4_keeps_57 rfl (by decide) (by decide) rfl ?_
  refine az_goto C 28 dX4_keeps_60 (by decide) ?_
  refine az_iload_n C 0 dX4_keeps_28 rfl ?_
  refine az_iconst C (v := 5) dX4_keeps_29 (by decide) ?_
  refine az_icmp_ge C 63 dX4_keeps_30 (by decide) (fun q => absurd q (by decide)) (fun _ => ?_)
  refine az_aload_n C 1 dX4_keeps_33 rfl ?_
  refine az_get C cX4 2 0 33 (v := .ref (ρ.1 133)) wl_X4_88 dX4_keeps_34 rfl rfl rfl (by decide) ?_
  refine az_iload_n C 0 dX4_keeps_37 rfl ?_
  refine az_aload_n C 1 dX4_keeps_38 rfl ?_
  refine az_get C cX4 2 0 10 (v := .ref (ρ.1 110)) wl_X4_35 dX4_keeps_39 rfl rfl rfl (by decide) ?_
  refine az_iload_n C 0 dX4_keeps_42 rfl ?_
  refine az_ialdN C 2 10 3 (v := m.1 10 3) dX4_keeps_43 rfl rfl (by decide) (by decide) rfl ?_
  refine az_iastN C 2 33 3 dX4_keeps_44 rfl rfl (by decide) (by decide) (az_to rfl (K' := (KK G ρ x (mI (mI (mI (mI (mI (mI (mI (mI (mI (mI (mI (mI (mI m 32 0 (m.1 4 0)) 32 1 (m.1 4 1)) 32 2 (m.1 4 2)) 32 3 (m.1 4 3)) 32 4 (m.1 4 4)) 32 5 (m.1 4 5)) 33 0 (m.1 10 0)) 35 0 (vp_nar .boolean (m.1 11 0))) 33 1 (m.1 10 1)) 35 1 (vp_nar .boolean (m.1 11 1))) 33 2 (m.1 10 2)) 35 2 (vp_nar .boolean (m.1 11 2))) 33 3 (m.1 10 3)) ou)) (KK_M rfl) ?_)
  refine az_aload_n C 1 dX4_keeps_45 rfl ?_
  refine az_get C cX4 2 0 35 (v := .ref (ρ.1 135)) wl_X4_94 dX4_keeps_46 rfl rfl rfl (by decide) ?_
  refine az_iload_n C 0 dX4_keeps_49 rfl ?_
  refine az_aload_n C 1 dX4_keeps_50 rfl ?_
  refine az_get C cX4 2 0 11 (v := .ref (ρ.1 111)) wl_X4_38 dX4_keeps_51 rfl rfl rfl (by decide) ?_
  refine az_iload_n C 0 dX4_keeps_54 rfl ?_
  refine az_zaldN C 2 11 3 (v := m.1 11 3) dX4_keeps_55 rfl rfl (by decide) (by decide) rfl ?_
  refine az_zastN C 2 35 3 dX4_keeps_56 rfl rfl (by decide) (by decide) (az_to rfl (K' := (KK G ρ x (mI (mI (mI (mI (mI (mI (mI (mI (mI (mI (mI (mI (mI (mI m 32 0 (m.1 4 0)) 32 1 (m.1 4 1)) 32 2 (m.1 4 2)) 32 3 (m.1 4 3)) 32 4 (m.1 4 4)) 32 5 (m.1 4 5)) 33 0 (m.1 10 0)) 35 0 (vp_nar .boolean (m.1 11 0))) 33 1 (m.1 10 1)) 35 1 (vp_nar .boolean (m.1 11 1))) 33 2 (m.1 10 2)) 35 2 (vp_nar .boolean (m.1 11 2))) 33 3 (m.1 10 3)) 35 3 (vp_nar .boolean (m.1 11 3))) ou)) (KK_M rfl) ?_)
  refine az_iinc C 0 (v := 4) (lv' := [(1, .int 4), (0, .ref (ρ.1 100))]) dX4_keeps_57 rfl (by decide) (by decide) rfl ?_
  refine az_goto C 28 dX4_keeps_60 (by decide) ?_
  refine az_iload_n C 0 dX4_keeps_28 rfl ?_
  refine az_iconst C (v := 5) dX4_keeps_29 (by decide) ?_
  refine az_icmp_ge C 63 dX4_keeps_30 (by decide) (fun q => absurd q (by decide)) (fun _ => ?_)
  refine az_aload_n C 1 dX4_keeps_33 rfl ?_
  refine az_get C cX4 2 0 33 (v := .ref (ρ.1 133)) wl_X4_88 dX4_keeps_34 rfl rfl rfl (by decide) ?_
  refine az_iload_n C 0 dX4_keeps_37 rfl ?_
  refine az_aload_n C 1 dX4_keeps_38 rfl ?_
  refine az_get C cX4 2 0 10 (v := .ref (ρ.1 110)) wl_X4_35 dX4_keeps_39 rfl rfl rfl (by decide) ?_
  refine az_iload_n C 0 dX4_keeps_42 rfl ?_
  refine az_ialdN C 2 10 4 (v := m.1 10 4) dX4_keeps_43 rfl rfl (by decide) (by decide) rfl ?_
  refine az_iastN C 2 33 4 dX4_keeps_44 rfl rfl (by decide) (by decide) (az_to rfl (K' := (KK G ρ x (mI (mI (mI (mI (mI (mI (mI (mI (mI (mI (mI (mI (mI (mI (mI m 32 0 (m.1 4 0)) 32 1 (m.1 4 1)) 32 2 (m.1 4 2)) 32 3 (m.1 4 3)) 32 4 (m.1 4 4)) 32 5 (m.1 4 5)) 33 0 (m.1 10 0)) 35 0 (vp_nar .boolean (m.1 11 0))) 33 1 (m.1 10 1)) 35 1 (vp_nar .boolean (m.1 11 1))) 33 2 (m.1 10 2)) 35 2 (vp_nar .boolean (m.1 11 2))) 33 3 (m.1 10 3)) 35 3 (vp_nar .boolean (m.1 11 3))) 33 4 (m.1 10 4)) ou)) (KK_M rfl) ?_)
  refine az_aload_n C 1 dX4_keeps_45 rfl ?_
  refine az_get C cX4 2 0 35 (v := .ref (ρ.1 135)) wl_X4_94 dX4_keeps_46 rfl rfl rfl (by decide) ?_
  refine az_iload_n C 0 dX4_keeps_49 rfl ?_
  refine az_aload_n C 1 dX4_keeps_50 rfl ?_
  refine az_get C cX4 2 0 11 (v := .ref (ρ.1 111)) wl_X4_38 dX4_keeps_51 rfl rfl rfl (by decide) ?_
  refine az_iload_n C 0 dX4_keeps_54 rfl ?_
  refine az_zaldN C 2 11 4 (v := m.1 11 4) dX4_keeps_55 rfl rfl (by decide) (by decide) rfl ?_
  refine az_zastN C 2 35 4 dX4_keeps_56 rfl rfl (by decide) (by decide) (az_to rfl (K' := (KK G ρ x (mI (mI (mI (mI (mI (mI (mI (mI (mI (mI (mI (mI (mI (mI (mI (mI m 32 0 (m.1 4 0)) 32 1 (m.1 4 1)) 32 2 (m.1 4 2)) 32 3 (m.1 4 3)) 32 4 (m.1 4 4)) 32 5 (m.1 4 5)) 33 0 (m.1 10 0)) 35 0 (vp_nar .boolean (m.1 11 0))) 33 1 (m.1 10 1)) 35 1 (vp_nar .boolean (m.1 11 1))) 33 2 (m.1 10 2)) 35 2 (vp_nar .boolean (m.1 11 2))) 33 3 (m.1 10 3)) 35 3 (vp_nar .boolean (m.1 11 3))) 33 4 (m.1 10 4)) 35 4 (vp_nar .boolean (m.1 11 4))) ou)) (KK_M rfl) ?_)
  refine az_iinc C 0 (v := 5) (lv' := [(1, .int 5), (0, .ref (ρ.1 100))]) dX4_keeps_57 rfl (by decide) (by decide) rfl ?_
  refine az_goto C 28 dX4_keeps_60 (by decide) ?_
  refine az_iload_n C 0 dX4_keeps_28 rfl ?_
  refine az_iconst C (v := 5) dX4_keeps_29 (by decide) ?_
  refine az_icmp_ge C 63 dX4_keeps_30 (by decide) (fun _ => ?_) (fun q => absurd (by decide) q)
  refine az_iconst C (v := 0) dX4_keeps_63 (by decide) ?_
  refine az_istore_n C (lv' := [(1, .int 0), (0, .ref (ρ.1 100))]) (j := 1) rfl dX4_keeps_64 (by decide) rfl ?_
  refine az_iload_n C 0 dX4_keeps_65 rfl ?_
  refine az_bipush C (v := 8) dX4_keeps_66 (by decide) ?_
  refine az_icmp_ge C 89 dX4_keeps_68 (by decide) (fun q => absurd q (by decide)) (fun _ => ?_)
  refine az_aload_n C 1 dX4_keeps_71 rfl ?_
  refine az_get C cX4 2 0 34 (v := .ref (ρ.1 134)) wl_X4_91 dX4_keeps_72 rfl rfl rfl (by decide) ?_
  refine az_iload_n C 0 dX4_keeps_75 rfl ?_
  refine az_aload_n C 1 dX4_keeps_76 rfl ?_
  refine az_get C cX4 2 0 13 (v := .ref (ρ.1 113)) wl_X4_42 dX4_keeps_77 rfl rfl rfl (by decide) ?_
  refine az_iload_n C 0 dX4_keeps_80 rfl ?_
  refine az_ialdN C 2 13 0 (v := m.1 13 0) dX4_keeps_81 rfl rfl (by decide) (by decide) rfl ?_
  refine az_iastN C 2 34 0 dX4_keeps_82 rfl rfl (by decide) (by decide) (az_to rfl (K' := (KK G ρ x (mI (mI (mI (mI (mI (mI (mI (mI (mI (mI (mI (mI (mI (mI (mI (mI (mI m 32 0 (m.1 4 0)) 32 1 (m.1 4 1)) 32 2 (m.1 4 2)) 32 3 (m.1 4 3)) 32 4 (m.1 4 4)) 32 5 (m.1 4 5)) 33 0 (m.1 10 0)) 35 0 (vp_nar .boolean (m.1 11 0))) 33 1 (m.1 10 1)) 35 1 (vp_nar .boolean (m.1 11 1))) 33 2 (m.1 10 2)) 35 2 (vp_nar .boolean (m.1 11 2))) 33 3 (m.1 10 3)) 35 3 (vp_nar .boolean (m.1 11 3))) 33 4 (m.1 10 4)) 35 4 (vp_nar .boolean (m.1 11 4))) 34 0 (m.1 13 0)) ou)) (KK_M rfl) ?_)
  refine az_iinc C 0 (v := 1) (lv' := [(1, .int 1), (0, .ref (ρ.1 100))]) dX4_keeps_83 rfl (by decide) (by decide) rfl ?_
  refine az_goto C 65 dX4_keeps_86 (by decide) ?_
  refine az_iload_n C 0 dX4_keeps_65 rfl ?_
  refine az_bipush C (v := 8) dX4_keeps_66 (by decide) ?_
  refine az_icmp_ge C 89 dX4_keeps_68 (by decide) (fun q => absurd q (by decide)) (fun _ => ?_)
  refine az_aload_n C 1 dX4_keeps_71 rfl ?_
  refine az_get C cX4 2 0 34 (v := .ref (ρ.1 134)) wl_X4_91 dX4_keeps_72 rfl rfl rfl (by decide) ?_
  refine az_iload_n C 0 dX4_keeps_75 rfl ?_
  refine az_aload_n C 1 dX4_keeps_76 rfl ?_
  refine az_get C cX4 2 0 13 (v := .ref (ρ.1 113)) wl_X4_42 dX4_keeps_77 rfl rfl rfl (by decide) ?_
  refine az_iload_n C 0 dX4_keeps_80 rfl ?_
  refine az_ialdN C 2 13 1 (v := m.1 13 1) dX4_keeps_81 rfl rfl (by decide) (by decide) rfl ?_
  refine az_iastN C 2 34 1 dX4_keeps_82 rfl rfl (by decide) (by decide) (az_to rfl (K' := (KK G ρ x (mI (mI (mI (mI (mI (mI (mI (mI (mI (mI (mI (mI (mI (mI (mI (mI (mI (mI m 32 0 (m.1 4 0)) 32 1 (m.1 4 1)) 32 2 (m.1 4 2)) 32 3 (m.1 4 3)) 32 4 (m.1 4 4)) 32 5 (m.1 4 5)) 33 0 (m.1 10 0)) 35 0 (vp_nar .boolean (m.1 11 0))) 33 1 (m.1 10 1)) 35 1 (vp_nar .boolean (m.1 11 1))) 33 2 (m.1 10 2)) 35 2 (vp_nar .boolean (m.1 11 2))) 33 3 (m.1 10 3)) 35 3 (vp_nar .boolean (m.1 11 3))) 33 4 (m.1 10 4)) 35 4 (vp_nar .boolean (m.1 11 4))) 34 0 (m.1 13 0)) 34 1 (m.1 13 1)) ou)) (KK_M rfl) ?_)
  refine az_iinc C 0 (v := 2) (lv' := [(1, .int 2), (0, .ref (ρ.1 100))]) dX4_keeps_83 rfl (by decide) (by decide) rfl ?_
  refine az_goto C 65 dX4_keeps_86 (by decide) ?_
  refine az_iload_n C 0 dX4_keeps_65 rfl ?_
  refine az_bipush C (v := 8) dX4_keeps_66 (by decide) ?_
  refine az_icmp_ge C 89 dX4_keeps_68 (by decide) (fun q => absurd q (by decide)) (fun _ => ?_)
  refine az_aload_n C 1 dX4_keeps_71 rfl ?_
  refine az_get C cX4 2 0 34 (v := .ref (ρ.1 134)) wl_X4_91 dX4_keeps_72 rfl rfl rfl (by decide) ?_
  refine az_iload_n C 0 dX4_keeps_75 rfl ?_
  refine az_aload_n C 1 dX4_keeps_76 rfl ?_
  refine az_get C cX4 2 0 13 (v := .ref (ρ.1 113)) wl_X4_42 dX4_keeps_77 rfl rfl rfl (by decide) ?_
  refine az_iload_n C 0 dX4_keeps_80 rfl ?_
  refine az_ialdN C 2 13 2 (v := m.1 13 2) dX4_keeps_81 rfl rfl (by decide) (by decide) rfl ?_
  refine az_iastN C 2 34 2 dX4_keeps_82 rfl rfl (by decide) (by decide) (az_to rfl (K' := (KK G ρ x (mI (mI (mI (mI (mI (mI (mI (mI (mI (mI (mI (mI (mI (mI (mI (mI (mI (mI (mI m 32 0 (m.1 4 0)) 32 1 (m.1 4 1)) 32 2 (m.1 4 2)) 32 3 (m.1 4 3)) 32 4 (m.1 4 4)) 32 5 (m.1 4 5)) 33 0 (m.1 10 0)) 35 0 (vp_nar .boolean (m.1 11 0))) 33 1 (m.1 10 1)) 35 1 (vp_nar .boolean (m.1 11 1))) 33 2 (m.1 10 2)) 35 2 (vp_nar .boolean (m.1 11 2))) 33 3 (m.1 10 3)) 35 3 (vp_nar .boolean (m.1 11 3))) 33 4 (m.1 10 4)) 35 4 (vp_nar .boolean (m.1 11 4))) 34 0 (m.1 13 0)) 34 1 (m.1 13 1)) 34 2 (m.1 13 2)) ou)) (KK_M rfl) ?_)
  refine az_iinc C 0 (v := 3) (lv' := [(1, .int 3), (0, .ref (ρ.1 100))]) dX4_keeps_83 rfl (by decide) (by decide) rfl ?_
  refine az_goto C 65 dX4_keeps_86 (by decide) ?_
  refine az_iload_n C 0 dX4_keeps_65 rfl ?_
  refine az_bipush C (v := 8) dX4_keeps_66 (by decide) ?_
  refine az_icmp_ge C 89 dX4_keeps_68 (by decide) (fun q => absurd q (by decide)) (fun _ => ?_)
  refine az_aload_n C 1 dX4_keeps_71 rfl ?_
  refine az_get C cX4 2 0 34 (v := .ref (ρ.1 134)) wl_X4_91 dX4_keeps_72 rfl rfl rfl (by decide) ?_
  refine az_iload_n C 0 dX4_keeps_75 rfl ?_
  refine az_aload_n C 1 dX4_keeps_76 rfl ?_
  refine az_get C cX4 2 0 13 (v := .ref (ρ.1 113)) wl_X4_42 dX4_keeps_77 rfl rfl rfl (by decide) ?_
  refine az_iload_n C 0 dX4_keeps_80 rfl ?_
  refine az_ialdN C 2 13 3 (v := m.1 13 3) dX4_keeps_81 rfl rfl (by decide) (by decide) rfl ?_
  refine az_iastN C 2 34 3 dX4_keeps_82 rfl rfl (by decide) (by decide) (az_to rfl (K' := (KK G ρ x (mI (mI (mI (mI (mI (mI (mI (mI (mI (mI (mI (mI (mI (mI (mI (mI (mI (mI (mI (mI m 32 0 (m.1 4 0)) 32 1 (m.1 4 1)) 32 2 (m.1 4 2)) 32 3 (m.1 4 3)) 32 4 (m.1 4 4)) 32 5 (m.1 4 5)) 33 0 (m.1 10 0)) 35 0 (vp_nar .boolean (m.1 11 0))) 33 1 (m.1 10 1)) 35 1 (vp_nar .boolean (m.1 11 1))) 33 2 (m.1 10 2)) 35 2 (vp_nar .boolean (m.1 11 2))) 33 3 (m.1 10 3)) 35 3 (vp_nar .boolean (m.1 11 3))) 33 4 (m.1 10 4)) 35 4 (vp_nar .boolean (m.1 11 4))) 34 0 (m.1 13 0)) 34 1 (m.1 13 1)) 34 2 (m.1 13 2)) 34 3 (m.1 13 3)) ou)) (KK_M rfl) ?_)
  refine az_iinc C 0 (v := 4) (lv' := [(1, .int 4), (0, .ref (ρ.1 100))]) dX4_keeps_83 rfl (by decide) (by decide) rfl ?_
  refine az_goto C 65 dX4_keeps_86 (by decide) ?_
  refine az_iload_n C 0 dX4_keeps_65 rfl ?_
  refine az_bipush C (v := 8) dX4_keeps_66 (by decide) ?_
  refine az_icmp_ge C 89 dX4_keeps_68 (by decide) (fun q => absurd q (by decide)) (fun _ => ?_)
  refine az_aload_n C 1 dX4_keeps_71 rfl ?_
  refine az_get C cX4 2 0 34 (v := .ref (ρ.1 134)) wl_X4_91 dX4_keeps_72 rfl rfl rfl (by decide) ?_
  refine az_iload_n C 0 dX4_keeps_75 rfl ?_
  refine az_aload_n C 1 dX4_keeps_76 rfl ?_
  refine az_get C cX4 2 0 13 (v := .ref (ρ.1 113)) wl_X4_42 dX4_keeps_77 rfl rfl rfl (by decide) ?_
  refine az_iload_n C 0 dX4_keeps_80 rfl ?_
  refine az_ialdN C 2 13 4 (v := m.1 13 4) dX4_keeps_81 rfl rfl (by decide) (by decide) rfl ?_
  refine az_iastN C 2 34 4 dX4_keeps_82 rfl rfl (by decide) (by decide) (az_to rfl (K' := (KK G ρ x (mI (mI (mI (mI (mI (mI (mI (mI (mI (mI (mI (mI (mI (mI (mI (mI (mI (mI (mI (mI (mI m 32 0 (m.1 4 0)) 32 1 (m.1 4 1)) 32 2 (m.1 4 2)) 32 3 (m.1 4 3)) 32 4 (m.1 4 4)) 32 5 (m.1 4 5)) 33 0 (m.1 10 0)) 35 0 (vp_nar .boolean (m.1 11 0))) 33 1 (m.1 10 1)) 35 1 (vp_nar .boolean (m.1 11 1))) 33 2 (m.1 10 2)) 35 2 (vp_nar .boolean (m.1 11 2))) 33 3 (m.1 10 3)) 35 3 (vp_nar .boolean (m.1 11 3))) 33 4 (m.1 10 4)) 35 4 (vp_nar .boolean (m.1 11 4))) 34 0 (m.1 13 0)) 34 1 (m.1 13 1)) 34 2 (m.1 13 2)) 34 3 (m.1 13 3)) 34 4 (m.1 13 4)) ou)) (KK_M rfl) ?_)
  refine az_iinc C 0 (v := 5) (lv' := [(1, .int 5), (0, .ref (ρ.1 100))]) dX4_keeps_83 rfl (by decide) (by decide) rfl ?_
  refine az_goto C 65 dX4_keeps_86 (by decide) ?_
  refine az_iload_n C 0 dX4_keeps_65 rfl ?_
  refine az_bipush C (v := 8) dX4_keeps_66 (by decide) ?_
  refine az_icmp_ge C 89 dX4_keeps_68 (by decide) (fun q => absurd q (by decide)) (fun _ => ?_)
  refine az_aload_n C 1 dX4_keeps_71 rfl ?_
  refine az_get C cX4 2 0 34 (v := .ref (ρ.1 134)) wl_X4_91 dX4_keeps_72 rfl rfl rfl (by decide) ?_
  refine az_iload_n C 0 dX4_keeps_75 rfl ?_
  refine az_aload_n C 1 dX4_keeps_76 rfl ?_
  refine az_get C cX4 2 0 13 (v := .ref (ρ.1 113)) wl_X4_42 dX4_keeps_77 rfl rfl rfl (by decide) ?_
  refine az_iload_n C 0 dX4_keeps_80 rfl ?_
  refine az_ialdN C 2 13 5 (v := m.1 13 5) dX4_keeps_81 rfl rfl (by decide) (by decide) rfl ?_
  refine az_iastN C 2 34 5 dX4_keeps_82 rfl rfl (by decide) (by decide) (az_to rfl (K' := (KK G ρ x (mI (mI (mI (mI (mI (mI (mI (mI (mI (mI (mI (mI (mI (mI (mI (mI (mI (mI (mI (mI (mI (mI m 32 0 (m.1 4 0)) 32 1 (m.1 4 1)) 32 2 (m.1 4 2)) 32 3 (m.1 4 3)) 32 4 (m.1 4 4)) 32 5 (m.1 4 5)) 33 0 (m.1 10 0)) 35 0 (vp_nar .boolean (m.1 11 0))) 33 1 (m.1 10 1)) 35 1 (vp_nar .boolean (m.1 11 1))) 33 2 (m.1 10 2)) 35 2 (vp_nar .boolean (m.1 11 2))) 33 3 (m.1 10 3)) 35 3 (vp_nar .boolean (m.1 11 3))) 33 4 (m.1 10 4)) 35 4 (vp_nar .boolean (m.1 11 4))) 34 0 (m.1 13 0)) 34 1 (m.1 13 1)) 34 2 (m.1 13 2)) 34 3 (m.1 13 3)) 34 4 (m.1 13 4)) 34 5 (m.1 13 5)) ou)) (KK_M rfl) ?_)
  refine az_iinc C 0 (v := 6) (lv' := [(1, .int 6), (0, .ref (ρ.1 100))]) dX4_keeps_83 rfl (by decide) (by decide) rfl ?_
  refine az_goto C 65 dX4_keeps_86 (by decide) ?_
  refine az_iload_n C 0 dX4_keeps_65 rfl ?_
  refine az_bipush C (v := 8) dX4_keeps_66 (by decide) ?_
  refine az_icmp_ge C 89 dX4_keeps_68 (by decide) (fun q => absurd q (by decide)) (fun _ => ?_)
  refine az_aload_n C 1 dX4_keeps_71 rfl ?_
  refine az_get C cX4 2 0 34 (v := .ref (ρ.1 134)) wl_X4_91 dX4_keeps_72 rfl rfl rfl (by decide) ?_
  refine az_iload_n C 0 dX4_keeps_75 rfl ?_
  refine az_aload_n C 1 dX4_keeps_76 rfl ?_
  refine az_get C cX4 2 0 13 (v := .ref (ρ.1 113)) wl_X4_42 dX4_keeps_77 rfl rfl rfl (by decide) ?_
  refine az_iload_n C 0 dX4_keeps_80 rfl ?_
  refine az_ialdN C 2 13 6 (v := m.1 13 6) dX4_keeps_81 rfl rfl (by decide) (by decide) rfl ?_
  refine az_iastN C 2 34 6 dX4_keeps_82 rfl rfl (by decide) (by decide) (az_to rfl (K' := (KK G ρ x (mI (mI (mI (mI (mI (mI (mI (mI (mI (mI (mI (mI (mI (mI (mI (mI (mI (mI (mI (mI (mI (mI (mI m 32 0 (m.1 4 0)) 32 1 (m.1 4 1)) 32 2 (m.1 4 2)) 32 3 (m.1 4 3)) 32 4 (m.1 4 4)) 32 5 (m.1 4 5)) 33 0 (m.1 10 0)) 35 0 (vp_nar .boolean (m.1 11 0))) 33 1 (m.1 10 1)) 35 1 (vp_nar .boolean (m.1 11 1))) 33 2 (m.1 10 2)) 35 2 (vp_nar .boolean (m.1 11 2))) 33 3 (m.1 10 3)) 35 3 (vp_nar .boolean (m.1 11 3))) 33 4 (m.1 10 4)) 35 4 (vp_nar .boolean (m.1 11 4))) 34 0 (m.1 13 0)) 34 1 (m.1 13 1)) 34 2 (m.1 13 2)) 34 3 (m.1 13 3)) 34 4 (m.1 13 4)) 34 5 (m.1 13 5)) 34 6 (m.1 13 6)) ou)) (KK_M rfl) ?_)
  refine az_iinc C 0 (v := 7) (lv' := [(1, .int 7), (0, .ref (ρ.1 100))]) dX4_keeps_83 rfl (by decide) (by decide) rfl ?_
  refine az_goto C 65 dX4_keeps_86 (by decide) ?_
  refine az_iload_n C 0 dX4_keeps_65 rfl ?_
  refine az_bipush C (v := 8) dX4_keeps_66 (by decide) ?_
  refine az_icmp_ge C 89 dX4_keeps_68 (by decide) (fun q => absurd q (by decide)) (fun _ => ?_)
  refine az_aload_n C 1 dX4_keeps_71 rfl ?_
  refine az_get C cX4 2 0 34 (v := .ref (ρ.1 134)) wl_X4_91 dX4_keeps_72 rfl rfl rfl (by decide) ?_
  refine az_iload_n C 0 dX4_keeps_75 rfl ?_
  refine az_aload_n C 1 dX4_keeps_76 rfl ?_
  refine az_get C cX4 2 0 13 (v := .ref (ρ.1 113)) wl_X4_42 dX4_keeps_77 rfl rfl rfl (by decide) ?_
  refine az_iload_n C 0 dX4_keeps_80 rfl ?_
  refine az_ialdN C 2 13 7 (v := m.1 13 7) dX4_keeps_81 rfl rfl (by decide) (by decide) rfl ?_
  refine az_iastN C 2 34 7 dX4_keeps_82 rfl rfl (by decide) (by decide) (az_to rfl (K' := (KK G ρ x (mI (mI (mI (mI (mI (mI (mI (mI (mI (mI (mI (mI (mI (mI (mI (mI (mI (mI (mI (mI (mI (mI (mI (mI m 32 0 (m.1 4 0)) 32 1 (m.1 4 1)) 32 2 (m.1 4 2)) 32 3 (m.1 4 3)) 32 4 (m.1 4 4)) 32 5 (m.1 4 5)) 33 0 (m.1 10 0)) 35 0 (vp_nar .boolean (m.1 11 0))) 33 1 (m.1 10 1)) 35 1 (vp_nar .boolean (m.1 11 1))) 33 2 (m.1 10 2)) 35 2 (vp_nar .boolean (m.1 11 2))) 33 3 (m.1 10 3)) 35 3 (vp_nar .boolean (m.1 11 3))) 33 4 (m.1 10 4)) 35 4 (vp_nar .boolean (m.1 11 4))) 34 0 (m.1 13 0)) 34 1 (m.1 13 1)) 34 2 (m.1 13 2)) 34 3 (m.1 13 3)) 34 4 (m.1 13 4)) 34 5 (m.1 13 5)) 34 6 (m.1 13 6)) 34 7 (m.1 13 7)) ou)) (KK_M rfl) ?_)
  refine az_iinc C 0 (v := 8) (lv' := [(1, .int 8), (0, .ref (ρ.1 100))]) dX4_keeps_83 rfl (by decide) (by decide) rfl ?_
  refine az_goto C 65 dX4_keeps_86 (by decide) ?_
  refine az_iload_n C 0 dX4_keeps_65 rfl ?_
  refine az_bipush C (v := 8) dX4_keeps_66 (by decide) ?_
  refine az_icmp_ge C 89 dX4_keeps_68 (by decide) (fun _ => ?_) (fun q => absurd (by decide) q)
  refine az_aload_n C 1 dX4_keeps_89 rfl ?_
  refine az_aload_n C 1 dX4_keeps_90 rfl ?_
  refine az_get C cX4 2 0 22 (v := .int (m.1 0 22)) wl_X4_115 dX4_keeps_91 rfl rfl rfl (by decide) ?_
  refine az_put C cX4 2 0 36 wl_X4_181 dX4_keeps_94 rfl rfl (by decide) (Nat.le_of_ble_eq_true rfl) rfl rfl rfl (az_to rfl (K' := (KK G ρ x (mI (mI (mI (mI (mI (mI (mI (mI (mI (mI (mI (mI (mI (mI (mI (mI (mI (mI (mI (mI (mI (mI (mI (mI (mI m 32 0 (m.1 4 0)) 32 1 (m.1 4 1)) 32 2 (m.1 4 2)) 32 3 (m.1 4 3)) 32 4 (m.1 4 4)) 32 5 (m.1 4 5)) 33 0 (m.1 10 0)) 35 0 (vp_nar .boolean (m.1 11 0))) 33 1 (m.1 10 1)) 35 1 (vp_nar .boolean (m.1 11 1))) 33 2 (m.1 10 2)) 35 2 (vp_nar .boolean (m.1 11 2))) 33 3 (m.1 10 3)) 35 3 (vp_nar .boolean (m.1 11 3))) 33 4 (m.1 10 4)) 35 4 (vp_nar .boolean (m.1 11 4))) 34 0 (m.1 13 0)) 34 1 (m.1 13 1)) 34 2 (m.1 13 2)) 34 3 (m.1 13 3)) 34 4 (m.1 13 4)) 34 5 (m.1 13 5)) 34 6 (m.1 13 6)) 34 7 (m.1 13 7)) 0 36 (m.1 0 22)) ou)) (KK_M rfl) ?_)
  refine az_aload_n C 1 dX4_keeps_97 rfl ?_
  refine az_aload_n C 1 dX4_keeps_98 rfl ?_
  refine az_get C cX4 2 0 24 (v := .int (m.1 0 24)) wl_X4_72 dX4_keeps_99 rfl rfl rfl (by decide) ?_
  refine az_put C cX4 2 0 37 wl_X4_184 dX4_keeps_102 rfl rfl (by decide) (Nat.le_of_ble_eq_true rfl) rfl rfl rfl (az_to rfl (K' := (KK G ρ x (mI (mI (mI (mI (mI (mI (mI (mI (mI (mI (mI (mI (mI (mI (mI (mI (mI (mI (mI (mI (mI (mI (mI (mI (mI (mI m 32 0 (m.1 4 0)) 32 1 (m.1 4 1)) 32 2 (m.1 4 2)) 32 3 (m.1 4 3)) 32 4 (m.1 4 4)) 32 5 (m.1 4 5)) 33 0 (m.1 10 0)) 35 0 (vp_nar .boolean (m.1 11 0))) 33 1 (m.1 10 1)) 35 1 (vp_nar .boolean (m.1 11 1))) 33 2 (m.1 10 2)) 35 2 (vp_nar .boolean (m.1 11 2))) 33 3 (m.1 10 3)) 35 3 (vp_nar .boolean (m.1 11 3))) 33 4 (m.1 10 4)) 35 4 (vp_nar .boolean (m.1 11 4))) 34 0 (m.1 13 0)) 34 1 (m.1 13 1)) 34 2 (m.1 13 2)) 34 3 (m.1 13 3)) 34 4 (m.1 13 4)) 34 5 (m.1 13 5)) 34 6 (m.1 13 6)) 34 7 (m.1 13 7)) 0 36 (m.1 0 22)) 0 37 (m.1 0 24)) ou)) (KK_M rfl) ?_)
  exact az_vret C rfl dX4_keeps_105 (Nat.le_of_ble_eq_true rfl) (Nat.le_of_ble_eq_true rfl) ⟨rfl, rfl, rfl⟩

def backM (m : Ms) : Ms := (mI (mI (mI (mI (mI (mI (mI (mI (mI (mI (mI (mI (mI (mI (mI (mI (mI (mI (mI (mI (mI (mI (mI (mI (mI (mI m 4 0 (m.1 32 0)) 4 1 (m.1 32 1)) 4 2 (m.1 32 2)) 4 3 (m.1 32 3)) 4 4 (m.1 32 4)) 4 5 (m.1 32 5)) 10 0 (m.1 33 0)) 11 0 (vp_nar .boolean (m.1 35 0))) 10 1 (m.1 33 1)) 11 1 (vp_nar .boolean (m.1 35 1))) 10 2 (m.1 33 2)) 11 2 (vp_nar .boolean (m.1 35 2))) 10 3 (m.1 33 3)) 11 3 (vp_nar .boolean (m.1 35 3))) 10 4 (m.1 33 4)) 11 4 (vp_nar .boolean (m.1 35 4))) 13 0 (m.1 34 0)) 13 1 (m.1 34 1)) 13 2 (m.1 34 2)) 13 3 (m.1 34 3)) 13 4 (m.1 34 4)) 13 5 (m.1 34 5)) 13 6 (m.1 34 6)) 13 7 (m.1 34 7)) 0 22 (m.1 0 36)) 0 24 (m.1 0 37))
set_option maxHeartbeats 4000000 in
set_option maxRecDepth 100000 in
theorem MtakesBack (hG : az_okS l G)  : az_M l G yX4_takesBack (az_ws yX4_takesBack cX4_takesBack 2 (Option.none : Option FieldType)) 1 [.ref (ρ.1 100)] (AD ρ) (KK G ρ x m ou) 0 0 (az_r none (AD ρ) (KK G ρ x (backM m) ou)) := by
  refine az_start hG.1 (by decide +kernel) (Nat.le_of_ble_eq_true rfl) ?_
  intro p e s mm args below meth c C hnm
  show az_W l G 2 _ p e _ s mm args below meth c _ _ 0 0 0 [(0, .ref (ρ.1 100))] []
  refine az_iconst C (v := 0) dX4_takesBack_0 (by decide) ?_
  refine az_istore_n C (lv' := [(1, .int 0), (0, .ref (ρ.1 100))]) (j := 1) rfl dX4_takesBack_1 (by decide) rfl ?_
  refine az_iload_n C 0 dX4_takesBack_2 rfl ?_
  refine az_bipush C (v := 6) dX4_takesBack_3 (by decide) ?_
  refine az_icmp_ge C 26 dX4_takesBack_5 (by decide) (fun q => absurd q (by decide)) (fun _ => ?_)
  refine az_aload_n C 1 dX4_takesBack_8 rfl ?_
  refine az_get C cX4 2 0 4 (v := .ref (ρ.1 104)) wl_X4_17 dX4_takesBack_9 rfl rfl rfl (by decide) ?_
  refine az_iload_n C 0 dX4_takesBack_12 rfl ?_
  refine az_aload_n C 1 dX4_takesBack_13 rfl ?_
  refine az_get C cX4 2 0 32 (v := .ref (ρ.1 132)) wl_X4_85 dX4_takesBack_14 rfl rfl rfl (by decide) ?_
  refine az_iload_n C 0 dX4_takesBack_17 rfl ?_
  refine az_ialdN C 2 32 0 (v := m.1 32 0) dX4_takesBack_18 rfl rfl (by decide) (by decide) rfl ?_
  refine az_iastN C 2 4 0 dX4_takesBack_19 rfl rfl (by decide) (by decide) (az_to rfl (K' := (KK G ρ x (mI m 4 0 (m.1 32 0)) ou)) (KK_M rfl) ?_)
  refine az_iinc C 0 (v := 1) (lv' := [(1, .int 1), (0, .ref (ρ.1 100))]) dX4_takesBack_20 rfl (by decide) (by decide) rfl ?_
  refine az_goto C 2 dX4_takesBack_23 (by decide) ?_
  refine az_iload_n C 0 dX4_takesBack_2 rfl ?_
  refine az_bipush C (v := 6) dX4_takesBack_3 (by decide) ?_
  refine az_icmp_ge C 26 dX4_takesBack_5 (by decide) (fun q => absurd q (by decide)) (fun _ => ?_)
  refine az_aload_n C 1 dX4_takesBack_8 rfl ?_
  refine az_get C cX4 2 0 4 (v := .ref (ρ.1 104)) wl_X4_17 dX4_takesBack_9 rfl rfl rfl (by decide) ?_
  refine az_iload_n C 0 dX4_takesBack_12 rfl ?_
  refine az_aload_n C 1 dX4_takesBack_13 rfl ?_
  refine az_get C cX4 2 0 32 (v := .ref (ρ.1 132)) wl_X4_85 dX4_takesBack_14 rfl rfl rfl (by decide) ?_
  refine az_iload_n C 0 dX4_takesBack_17 rfl ?_
  refine az_ialdN C 2 32 1 (v := m.1 32 1) dX4_takesBack_18 rfl rfl (by decide) (by decide) rfl ?_
  refine az_iastN C 2 4 1 dX4_takesBack_19 rfl rfl (by decide) (by decide) (az_to rfl (K' := (KK G ρ x (mI (mI m 4 0 (m.1 32 0)) 4 1 (m.1 32 1)) ou)) (KK_M rfl) ?_)
  refine az_iinc C 0 (v := 2) (lv' := [(1, .int 2), (0, .ref (ρ.1 100))]) dX4_takesBack_20 rfl (by decide) (by decide) rfl ?_
  refine az_goto C 2 dX4_takesBack_23 (by decide) ?_
  refine az_iload_n C 0 dX4_takesBack_2 rfl ?_
  refine az_bipush C (v := 6) dX4_takesBack_3 (by decide) ?_
  refine az_icmp_ge C 26 dX4_takesBack_5 (by decide) (fun q => absurd q (by decide)) (fun _ => ?_)
  refine az_aload_n C 1 dX4_takesBack_8 rfl ?_
  refine az_get C cX4 2 0 4 (v := .ref (ρ.1 104)) wl_X4_17 dX4_takesBack_9 rfl rfl rfl (by decide) ?_
  refine az_iload_n C 0 dX4_takesBack_12 rfl ?_
  refine az_aload_n C 1 dX4_takesBack_13 rfl ?_
  refine az_get C cX4 2 0 32 (v := .ref (ρ.1 132)) wl_X4_85 dX4_takesBack_14 rfl rfl rfl (by decide) ?_
  refine az_iload_n C 0 dX4_takesBack_17 rfl ?_
  refine az_ialdN C 2 32 2 (v := m.1 32 2) dX4_takesBack_18 rfl rfl (by decide) (by decide) rfl ?_
  refine az_iastN C 2 4 2 dX4_takesBack_19 rfl rfl (by decide) (by decide) (az_to rfl (K' := (KK G ρ x (mI (mI (mI m 4 0 (m.1 32 0)) 4 1 (m.1 32 1)) 4 2 (m.1 32 2)) ou)) (KK_M rfl) ?_)
  refine az_iinc C 0 (v := 3) (lv' := [(1, .int 3), (0, .ref (ρ.1 100))]) dX4_takesBack_20 rfl (by decide) (by decide) rfl ?_
  refine az_goto C 2 dX4_takesBack_23 (by decide) ?_
  refine az_iload_n C 0 dX4_takesBack_2 rfl ?_
  refine az_bipush C (v := 6) dX4_takesBack_3 (by decide) ?_
  refine az_icmp_ge C 26 dX4_takesBack_5 (by decide) (fun q => absurd q (by decide)) (fun _ => ?_)
  refine az_aload_n C 1 dX4_takesBack_8 rfl ?_
  refine az_get C cX4 2 0 4 (v := .ref (ρ.1 104)) wl_X4_17 dX4_takesBack_9 rfl rfl rfl (by decide) ?_
  refine az_iload_n C 0 dX4_takesBack_12 rfl ?_
  refine az_aload_n C 1 dX4_takesBack_13 rfl ?_
  refine az_get C cX4 2 0 32 (v := .ref (ρ.1 132)) wl_X4_85 dX4_takesBack_14 rfl rfl rfl (by decide) ?_
  refine az_iload_n C 0 dX4_takesBack_17 rfl ?_
  refine az_ialdN C 2 32 3 (v := m.1 32 3) dX4_takesBack_18 rfl rfl (by decide) (by decide) rfl ?_
  refine az_iastN C 2 4 3 dX4_takesBack_19 rfl rfl (by decide) (by decide) (az_to rfl (K' := (KK G ρ x (mI (mI (mI (mI m 4 0 (m.1 32 0)) 4 1 (m.1 32 1)) 4 2 (m.1 32 2)) 4 3 (m.1 32 3)) ou)) (KK_M rfl) ?_)
  refine az_iinc C 0 (v := 4) (lv' := [(1, .int 4), (0, .ref (ρ.1 100))]) dX4_takesBack_20 rfl (by decide) (by decide) rfl ?_
  refine az_goto C 2 dX4_takesBack_23 (by decide) ?_
  refine az_iload_n C 0 dX4_takesBack_2 rfl ?_
  refine az_bipush C (v := 6) dX4_takesBack_3 (by decide) ?_
  refine az_icmp_ge C 26 dX4_takesBack_5 (by decide) (fun q => absurd q (by decide)) (fun _ => ?_)
  refine az_aload_n C 1 dX4_takesBack_8 rfl ?_
  refine az_get C cX4 2 0 4 (v := .ref (ρ.1 104)) wl_X4_17 dX4_takesBack_9 rfl rfl rfl (by decide) ?_
  refine az_iload_n C 0 dX4_takesBack_12 rfl ?_
  refine az_aload_n C 1 dX4_takesBack_13 rfl ?_
  refine az_get C cX4 2 0 32 (v := .ref (ρ.1 132)) wl_X4_85 dX4_takesBack_14 rfl rfl rfl (by decide) ?_
  refine az_iload_n C 0 dX4_takesBack_17 rfl ?_
  refine az_ialdN C 2 32 4 (v := m.1 32 4) dX4_takesBack_18 rfl rfl (by decide) (by decide) rfl ?_
  refine az_iastN C 2 4 4 dX4_takesBack_19 rfl rfl (by decide) (by decide) (az_to rfl (K' := (KK G ρ x (mI (mI (mI (mI (mI m 4 0 (m.1 32 0)) 4 1 (m.1 32 1)) 4 2 (m.1 32 2)) 4 3 (m.1 32 3)) 4 4 (m.1 32 4)) ou)) (KK_M rfl) ?_)
  refine az_iinc C 0 (v := 5) (lv' := [(1, .int 5), (0, .ref (ρ.1 100))]) dX4_takesBack_20 rfl (by decide) (by decide) rfl ?_
  refine az_goto C 2 dX4_takesBack_23 (by decide) ?_
  refine az_iload_n C 0 dX4_takesBack_2 rfl ?_
  refine az_bipush C (v := 6) dX4_takesBack_3 (by decide) ?_
  refine az_icmp_ge C 26 dX4_takesBack_5 (by decide) (fun q => absurd q (by decide)) (fun _ => ?_)
  refine az_aload_n C 1 dX4_takesBack_8 rfl ?_
  refine az_get C cX4 2 0 4 (v := .ref (ρ.1 104)) wl_X4_17 dX4_takesBack_9 rfl rfl rfl (by decide) ?_
  refine az_iload_n C 0 dX4_takesBack_12 rfl ?_
  refine az_aload_n C 1 dX4_takesBack_13 rfl ?_
  refine az_get C cX4 2 0 32 (v := .ref (ρ.1 132)) wl_X4_85 dX4_takesBack_14 rfl rfl rfl (by decide) ?_
  refine az_iload_n C 0 dX4_takesBack_17 rfl ?_
  refine az_ialdN C 2 32 5 (v := m.1 32 5) dX4_takesBack_18 rfl rfl (by decide) (by decide) rfl ?_
  refine az_iastN C 2 4 5 dX4_takesBack_19 rfl rfl (by decide) (by decide) (az_to rfl (K' := (KK G ρ x (mI (mI (mI (mI (mI (mI m 4 0 (m.1 32 0)) 4 1 (m.1 32 1)) 4 2 (m.1 32 2)) 4 3 (m.1 32 3)) 4 4 (m.1 32 4)) 4 5 (m.1 32 5)) ou)) (KK_M rfl) ?_)
  refine az_iinc C 0 (v := 6) (lv' := [(1, .int 6), (0, .ref (ρ.1 100))]) dX4_takesBack_20 rfl (by decide) (by decide) rfl ?_
  refine az_goto C 2 dX4_takesBack_23 (by decide) ?_
  refine az_iload_n C 0 dX4_takesBack_2 rfl ?_
  refine az_bipush C (v := 6) dX4_takesBack_3 (by decide) ?_
  refine az_icmp_ge C 26 dX4_takesBack_5 (by decide) (fun _ => ?_) (fun q => absurd (by decide) q)
  refine az_iconst C (v := 0) dX4_takesBack_26 (by decide) ?_
  refine az_istore_n C (lv' := [(1, .int 0), (0, .ref (ρ.1 100))]) (j := 1) rfl dX4_takesBack_27 (by decide) rfl ?_
  refine az_iload_n C 0 dX4_takesBack_28 rfl ?_
  refine az_iconst C (v := 5) dX4_takesBack_29 (by decide) ?_
  refine az_icmp_ge C 63 dX4_takesBack_30 (by decide) (fun q => absurd q (by decide)) (fun _ => ?_)
  refine az_aload_n C 1 dX4_takesBack_33 rfl ?_
  refine az_get C cX4 2 0 10 (v := .ref (ρ.1 110)) wl_X4_35 dX4_takesBack_34 rfl rfl rfl (by decide) ?_
  refine az_iload_n C 0 dX4_takesBack_37 rfl ?_
  refine az_aload_n C 1 dX4_takesBack_38 rfl ?_
  refine az_get C cX4 2 0 33 (v := .ref (ρ.1 133)) wl_X4_88 dX4_takesBack_39 rfl rfl rfl (by decide) ?_
  refine az_iload_n C 0 dX4_takesBack_42 rfl ?_
  refine az_ialdN C 2 33 0 (v := m.1 33 0) dX4_takesBack_43 rfl rfl (by decide) (by decide) rfl ?_
  refine az_iastN C 2 10 0 dX4_takesBack_44 rfl rfl (by decide) (by decide) (az_to rfl (K' := (KK G ρ x (mI (mI (mI (mI (mI (mI (mI m 4 0 (m.1 32 0)) 4 1 (m.1 32 1)) 4 2 (m.1 32 2)) 4 3 (m.1 32 3)) 4 4 (m.1 32 4)) 4 5 (m.1 32 5)) 10 0 (m.1 33 0)) ou)) (KK_M rfl) ?_)
  refine az_aload_n C 1 dX4_takesBack_45 rfl ?_
  refine az_get C cX4 2 0 11 (v := .ref (ρ.1 111)) wl_X4_38 dX4_takesBack_46 rfl rfl rfl (by decide) ?_
  refine az_iload_n C 0 dX4_takesBack_49 rfl ?_
  refine az_aload_n C 1 dX4_takesBack_50 rfl ?_
  refine az_get C cX4 2 0 35 (v := .ref (ρ.1 135)) wl_X4_94 dX4_takesBack_51 rfl rfl rfl (by decide) ?_
  refine az_iload_n C 0 dX4_takesBack_54 rfl ?_
  refine az_zaldN C 2 35 0 (v := m.1 35 0) dX4_takesBack_55 rfl rfl (by decide) (by decide) rfl ?_
  refine az_zastN C 2 11 0 dX4_takesBack_56 rfl rfl (by decide) (by decide) (az_to rfl (K' := (KK G ρ x (mI (mI (mI (mI (mI (mI (mI (mI m 4 0 (m.1 32 0)) 4 1 (m.1 32 1)) 4 2 (m.1 32 2)) 4 3 (m.1 32 3)) 4 4 (m.1 32 4)) 4 5 (m.1 32 5)) 10 0 (m.1 33 0)) 11 0 (vp_nar .boolean (m.1 35 0))) ou)) (KK_M rfl) ?_)
  refine az_iinc C 0 (v := 1) (lv' := [(1, .int 1), (0, .ref (ρ.1 100))]) dX4_takesBack_57 rfl (by decide) (by decide) rfl ?_
  refine az_goto C 28 dX4_takesBack_60 (by decide) ?_
  refine az_iload_n C 0 dX4_takesBack_28 rfl ?_
  refine az_iconst C (v := 5) dX4_takesBack_29 (by decide) ?_
  refine az_icmp_ge C 63 dX4_takesBack_30 (by decide) (fun q => absurd q (by decide)) (fun _ => ?_)
  refine az_aload_n C 1 dX4_takesBack_33 rfl ?_
  refine az_get C cX4 2 0 10 (v := .ref (ρ.1 110)) wl_X4_35 dX4_takesBack_34 rfl rfl rfl (by decide) ?_
  refine az_iload_n C 0 dX4_takesBack_37 rfl ?_
  refine az_aload_n C 1 dX4_takesBack_38 rfl ?_
  refine az_get C cX4 2 0 33 (v := .ref (ρ.1 133)) wl_X4_88 dX4_takesBack_39 rfl rfl rfl (by decide) ?_
  refine az_iload_n C 0 dX4_takesBack_42 rfl ?_
  refine az_ialdN C 2 33 1 (v := m.1 33 1) dX4_takesBack_43 rfl rfl (by decide) (by decide) rfl ?_
  refine az_iastN C 2 10 1 dX4_takesBack_44 rfl rfl (by decide) (by decide) (az_to rfl (K' := (KK G ρ x (mI (mI (mI (mI (mI (mI (mI (mI (mI m 4 0 (m.1 32 0)) 4 1 (m.1 32 1)) 4 2 (m.1 32 2)) 4 3 (m.1 32 3)) 4 4 (m.1 32 4)) 4 5 (m.1 32 5)) 10 0 (m.1 33 0)) 11 0 (vp_nar .boolean (m.1 35 0))) 10 1 (m.1 33 1)) ou)) (KK_M rfl) ?_)
  refine az_aload_n C 1 dX4_takesBack_45 rfl ?_
  refine az_get C cX4 2 0 11 (v := .ref (ρ.1 111)) wl_X4_38 dX4_takesBack_46 rfl rfl rfl (by decide) ?_
  refine az_iload_n C 0 dX4_takesBack_49 rfl ?_
  refine az_aload_n C 1 dX4_takesBack_50 rfl ?_
  refine az_get C cX4 2 0 35 (v := .ref (ρ.1 135)) wl_X4_94 dX4_takesBack_51 rfl rfl rfl (by decide) ?_
  refine az_iload_n C 0 dX4_takesBack_54 rfl ?_
  refine az_zaldN C 2 35 1 (v := m.1 35 1) dX4_takesBack_55 rfl rfl (by decide) (by decide) rfl ?_
  refine az_zastN C 2 11 1 dX4_takesBack_56 rfl rfl (by decide) (by decide) (az_to rfl (K' := (KK G ρ x (mI (mI (mI (mI (mI (mI (mI (mI (mI (mI m 4 0 (m.1 32 0)) 4 1 (m.1 32 1)) 4 2 (m.1 32 2)) 4 3 (m.1 32 3)) 4 4 (m.1 32 4)) 4 5 (m.1 32 5)) 10 0 (m.1 33 0)) 11 0 (vp_nar .boolean (m.1 35 0))) 10 1 (m.1 33 1)) 11 1 (vp_nar .boolean (m.1 35 1))) ou)) (KK_M rfl) ?_)
  refine az_iinc C 0 (v := 2) (lv' := [(1, .int 2), (0, .ref (ρ.1 100))]) dX4_takesBack_57 rfl (by decide) (by decide) rfl ?_
  refine az_goto C 28 dX4_takesBack_60 (by decide) ?_
  refine az_iload_n C 0 dX4_takesBack_28 rfl ?_
  refine az_iconst C (v := 5) dX4_takesBack_29 (by decide) ?_
  refine az_icmp_ge C 63 dX4_takesBack_30 (by decide) (fun q => absurd q (by decide)) (fun _ => ?_)
  refine az_aload_n C 1 dX4_takesBack_33 rfl ?_
  refine az_get C cX4 2 0 10 (v := .ref (ρ.1 110)) wl_X4_35 dX4_takesBack_34 rfl rfl rfl (by decide) ?_
  refine az_iload_n C 0 dX4_takesBack_37 rfl ?_
  refine az_aload_n C 1 dX4_takesBack_38 rfl ?_
  refine az_get C cX4 2 0 33 (v := .ref (ρ.1 133)) wl_X4_88 dX4_takesBack_39 rfl rfl rfl (by decide) ?_
  refine az_iload_n C 0 dX4_takesBack_42 rfl ?_
  refine az_ialdN C 2 33 2 (v := m.1 33 2) dX4_takesBack_43 rfl rfl (by decide) (by decide) rfl ?_
  refine az_iastN C 2 10 2 dX4_takesBack_44 rfl rfl (by decide) (by decide) (az_to rfl (K' := (KK G ρ x (mI (mI (mI (mI (mI (mI (mI (mI (mI (mI (mI m 4 0 (m.1 32 0)) 4 1 (m.1 32 1)) 4 2 (m.1 32 2)) 4 3 (m.1 32 3)) 4 4 (m.1 32 4)) 4 5 (m.1 32 5)) 10 0 (m.1 33 0)) 11 0 (vp_nar .boolean (m.1 35 0))) 10 1 (m.1 33 1)) 11 1 (vp_nar .boolean (m.1 35 1))) 10 2 (m.1 33 2)) ou)) (KK_M rfl) ?_)
  refine az_aload_n C 1 dX4_takesBack_45 rfl ?_
  refine az_get C cX4 2 0 11 (v := .ref (ρ.1 111)) wl_X4_38 dX4_takesBack_46 rfl rfl rfl (by decide) ?_
  refine az_iload_n C 0 dX4_takesBack_49 rfl ?_
  refine az_aload_n C 1 dX4_takesBack_50 rfl ?_
  refine az_get C cX4 2 0 35 (v := .ref (ρ.1 135)) wl_X4_94 dX4_takesBack_51 rfl rfl rfl (by decide) ?_
  refine az_iload_n C 0 dX4_takesBack_54 rfl ?_
  refine az_zaldN C 2 35 2 (v := m.1 35 2) dX4_takesBack_55 rfl rfl (by decide) (by decide) rfl ?_
  refine az_zastN C 2 11 2 dX4_takesBack_56 rfl rfl (by decide) (by decide) (az_to rfl (K' := (KK G ρ x (mI (mI (mI (mI (mI (mI (mI (mI (mI (mI (mI (mI m 4 0 (m.1 32 0)) 4 1 (m.1 32 1)) 4 2 (m.1 32 2)) 4 3 (m.1 32 3)) 4 4 (m.1 32 4)) 4 5 (m.1 32 5)) 10 0 (m.1 33 0)) 11 0 (vp_nar .boolean (m.1 35 0))) 10 1 (m.1 33 1)) 11 1 (vp_nar .boolean (m.1 35 1))) 10 2 (m.1 33 2)) 11 2 (vp_nar .boolean (m.1 35 2))) ou)) (KK_M rfl) ?_)
  refine az_iinc C 0 (v := 3) (lv' := [(1, .int 3), (0, .ref (ρ.1 100))]) dX4_takesBack_57 rfl (by decide) (by decide) rfl ?_
  refine az_goto C 28 dX4_takesBack_60 (by decide) ?_
  refine az_iload_n C 0 dX4_takesBack_28 rfl ?_
  refine az_iconst C (v := 5) dX4_takesBack_29 (by decide) ?_
  refine az_icmp_ge C 63 dX4_takesBack_30 (by decide) (fun q => absurd q (by decide)) (fun _ => ?_)
  refine az_aload_n C 1 dX4_takesBack_33 rfl ?_
  refine az_get C cX4 2 0 10 (v := .ref (ρ.1 110)) wl_X4_35 dX4_takesBack_34 rfl rfl rfl (by decide) ?_
  refine az_iload_n C 0 dX4_takesBack_37 rfl ?_
  refine az_aload_n C 1 dX4_takesBack_38 rfl ?_
  refine az_get C cX4 2 0 33 (v := .ref (ρ.1 133)) wl_X4_88 dX4_takesBack_39 rfl rfl rfl (by decide) ?_
  refine az_iload_n C 0 dX4_takesBack_42 rfl ?_
  refine az_ialdN C 2 33 3 (v := m.1 33 3) dX4_takesBack_43 rfl rfl (by decide) (by decide) rfl ?_
  refine az_iastN C 2 10 3 dX4_takesBack_44 rfl rfl (by decide) (by decide) (az_to rfl (K' := (KK G ρ x (mI (mI (mI (mI (mI (mI (mI (mI (mI (mI (mI (mI (mI m 4 0 (m.1 32 0)) 4 1 (m.1 32 1)) 4 2 (m.1 32 2)) 4 3 (m.1 32 3)) 4 4 (m.1 32 4)) 4 5 (m.1 32 5)) 10 0 (m.1 33 0)) 11 0 (vp_nar .boolean (m.1 35 0))) 10 1 (m.1 33 1)) 11 1 (vp_nar .boolean (m.1 35 1))) 10 2 (m.1 33 2)) 11 2 (vp_nar .boolean (m.1 35 2))) 10 3 (m.1 33 3)) ou)) (KK_M rfl) ?_)
  refine az_aload_n C 1 dX4_takesBack_45 rfl ?_
  refine az_get C cX4 2 0 11 (v := .ref (ρ.1 111)) wl_X4_38 dX4_takesBack_46 rfl rfl rfl (by decide) ?_
  refine az_iload_n C 0 dX4_takesBack_49 rfl ?_
  refine az_aload_n C 1 dX4_takesBack_50 rfl ?_
  refine az_get C cX4 2 0 35 (v := .ref (ρ.1 135)) wl_X4_94 dX4_takesBack_51 rfl rfl rfl (by decide) ?_
  refine az_iload_n C 0 dX4_takesBack_54 rfl ?_
  refine az_zaldN C 2 35 3 (v := m.1 35 3) dX4_takesBack_55 rfl rfl (by decide) (by decide) rfl ?_
  refine az_zastN C 2 11 3 dX4_takesBack_56 rfl rfl (by decide) (by decide) (az_to rfl (K' := (KK G ρ x (mI (mI (mI (mI (mI (mI (mI (mI (mI (mI (mI (mI (mI (mI m 4 0 (m.1 32 0)) 4 1 (m.1 32 1)) 4 2 (m.1 32 2)) 4 3 (m.1 32 3)) 4 4 (m.1 32 4)) 4 5 (m.1 32 5)) 10 0 (m.1 33 0)) 11 0 (vp_nar .boolean (m.1 35 0))) 10 1 (m.1 33 1)) 11 1 (vp_nar .boolean (m.1 35 1))) 10 2 (m.1 33 2)) 11 2 (vp_nar .boolean (m.1 35 2))) 10 3 (m.1 33 3)) 11 3 (vp_nar .boolean (m.1 35 3))) ou)) (KK_M rfl) ?_)
  refine az_iinc C 0 (v := 4) (lv' := [(1, .int 4), (0, .ref (ρ.1 100))]) dX4_takesBack_57 rfl (by decide) (by decide) rfl ?_
  refine az_goto C 28 dX4_takesBack_60 (by decide) ?_
  refine az_iload_n C 0 dX4_takesBack_28 rfl ?_
  refine az_iconst C (v := 5) dX4_takesBack_29 (by decide) ?_
  refine az_icmp_ge C 63 dX4_takesBack_30 (by decide) (fun q => absurd q (by decide)) (fun _ => ?_)
  refine az_aload_n C 1 dX4_takesBack_33 rfl ?_
  refine az_get C cX4 2 0 10 (v := .ref (ρ.1 110)) wl_X4_35 dX4_takesBack_34 rfl rfl rfl (by decide) ?_
  refine az_iload_n C 0 dX4_takesBack_37 rfl ?_
  refine az_aload_n C 1 dX4_takesBack_38 rfl ?_
  refine az_get C cX4 2 0 33 (v := .ref (ρ.1 133)) wl_X4_88 dX4_takesBack_39 rfl rfl rfl (by decide) ?_
  refine az_iload_n C 0 dX4_takesBack_42 rfl ?_
  refine az_ialdN C 2 33 4 (v := m.1 33 4) dX4_takesBack_43 rfl rfl (by decide) (by decide) rfl ?_
  refine az_iastN C 2 10 4 dX4_takesBack_44 rfl rfl (by decide) (by decide) (az_to rfl (K' := (KK G ρ x (mI (mI (mI (mI (mI (mI (mI (mI (mI (mI (mI (mI (mI (mI (mI m 4 0 (m.1 32 0)) 4 1 (m.1 32 1)) 4 2 (m.1 32 2)) 4 3 (m.1 32 3)) 4 4 (m.1 32 4)) 4 5 (m.1 32 5)) 10 0 (m.1 33 0)) 11 0 (vp_nar .boolean (m.1 35 0))) 10 1 (m.1 33 1)) 11 1 (vp_nar .boolean (m.1 35 1))) 10 2 (m.1 33 2)) 11 2 (vp_nar .boolean (m.1 35 2))) 10 3 (m.1 33 3)) 11 3 (vp_nar .boolean (m.1 35 3))) 10 4 (m.1 33 4)) ou)) (KK_M rfl) ?_)
  refine az_aload_n C 1 dX4_takesBack_45 rfl ?_
  refine az_get C cX4 2 0 11 (v := .ref (ρ.1 111)) wl_X4_38 dX4_takesBack_46 rfl rfl rfl (by decide) ?_
  refine az_iload_n C 0 dX4_takesBack_49 rfl ?_
  refine az_aload_n C 1 dX4_takesBack_50 rfl ?_
  refine az_get C cX4 2 0 35 (v := .ref (ρ.1 135)) wl_X4_94 dX4_takesBack_51 rfl rfl rfl (by decide) ?_
  refine az_iload_n C 0 dX4_takesBack_54 rfl ?_
  refine az_zaldN C 2 35 4 (v := m.1 35 4) dX4_takesBack_55 rfl rfl (by decide) (by decide) rfl ?_
  refine az_zastN C 2 11 4 dX4_takesBack_56 rfl rfl (by decide) (by decide) (az_to rfl (K' := (KK G ρ x (mI (mI (mI (mI (mI (mI (mI (mI (mI (mI (mI (mI (mI (mI (mI (mI m 4 0 (m.1 32 0)) 4 1 (m.1 32 1)) 4 2 (m.1 32 2)) 4 3 (m.1 32 3)) 4 4 (m.1 32 4)) 4 5 (m.1 32 5)) 10 0 (m.1 33 0)) 11 0 (vp_nar .boolean (m.1 35 0))) 10 1 (m.1 33 1)) 11 1 (vp_nar .boolean (m.1 35 1))) 10 2 (m.1 33 2)) 11 2 (vp_nar .boolean (m.1 35 2))) 10 3 (m.1 33 3)) 11 3 (vp_nar .boolean (m.1 35 3))) 10 4 (m.1 33 4)) 11 4 (vp_nar .boolean (m.1 35 4))) ou)) (KK_M rfl) ?_)
  refine az_iinc C 0 (v := 5) (lv' := [(1, .int 5), (0, .ref (ρ.1 100))]) dX4_takesBack_57 rfl (by decide) (by decide) rfl ?_
  refine az_goto C 28 dX4_takesBack_60 (by decide) ?_
  refine az_iload_n C 0 dX4_takesBack_28 rfl ?_
  refine az_iconst C (v := 5) dX4_takesBack_29 (by decide) ?_
  refine az_icmp_ge C 63 dX4_takesBack_30 (by decide) (fun _ => ?_) (fun q => absurd (by decide) q)
  refine az_iconst C (v := 0) dX4_takesBack_63 (by decide) ?_
  refine az_istore_n C (lv' := [(1, .int 0), (0, .ref (ρ.1 100))]) (j := 1) rfl dX4_takesBack_64 (by decide) rfl ?_
  refine az_iload_n C 0 dX4_takesBack_65 rfl ?_
  refine az_bipush C (v := 8) dX4_takesBack_66 (by decide) ?_
  refine az_icmp_ge C 89 dX4_takesBack_68 (by decide) (fun q => absurd q (by decide)) (fun _ => ?_)
  refine az_aload_n C 1 dX4_takesBack_71 rfl ?_
  refine az_get C cX4 2 0 13 (v := .ref (ρ.1 113)) wl_X4_42 dX4_takesBack_72 rfl rfl rfl (by decide) ?_
  refine az_iload_n C 0 dX4_takesBack_75 rfl ?_
  refine az_aload_n C 1 dX4_takesBack_76 rfl ?_
  refine az_get C cX4 2 0 34 (v := .ref (ρ.1 134)) wl_X4_91 dX4_takesBack_77 rfl rfl rfl (by decide) ?_
  refine az_iload_n C 0 dX4_takesBack_80 rfl ?_
  refine az_ialdN C 2 34 0 (v := m.1 34 0) dX4_takesBack_81 rfl rfl (by decide) (by decide) rfl ?_
  refine az_iastN C 2 13 0 dX4_takesBack_82 rfl rfl (by decide) (by decide) (az_to rfl (K' := (KK G ρ x (mI (mI (mI (mI (mI (mI (mI (mI (mI (mI (mI (mI (mI (mI (mI (mI (mI m 4 0 (m.1 32 0)) 4 1 (m.1 32 1)) 4 2 (m.1 32 2)) 4 3 (m.1 32 3)) 4 4 (m.1 32 4)) 4 5 (m.1 32 5)) 10 0 (m.1 33 0)) 11 0 (vp_nar .boolean (m.1 35 0))) 10 1 (m.1 33 1)) 11 1 (vp_nar .boolean (m.1 35 1))) 10 2 (m.1 33 2)) 11 2 (vp_nar .boolean (m.1 35 2))) 10 3 (m.1 33 3)) 11 3 (vp_nar .boolean (m.1 35 3))) 10 4 (m.1 33 4)) 11 4 (vp_nar .boolean (m.1 35 4))) 13 0 (m.1 34 0)) ou)) (KK_M rfl) ?_)
  refine az_iinc C 0 (v := 1) (lv' := [(1, .int 1), (0, .ref (ρ.1 100))]) dX4_takesBack_83 rfl (by decide) (by decide) rfl ?_
  refine az_goto C 65 dX4_takesBack_86 (by decide) ?_
  refine az_iload_n C 0 dX4_takesBack_65 rfl ?_
  refine az_bipush C (v := 8) dX4_takesBack_66 (by decide) ?_
  refine az_icmp_ge C 89 dX4_takesBack_68 (by decide) (fun q => absurd q (by decide)) (fun _ => ?_)
  refine az_aload_n C 1 dX4_takesBack_71 rfl ?_
  refine az_get C cX4 2 0 13 (v := .ref (ρ.1 113)) wl_X4_42 dX4_takesBack_72 rfl rfl rfl (by decide) ?_
  refine az_iload_n C 0 dX4_takesBack_75 rfl ?_
  refine az_aload_n C 1 dX4_takesBack_76 rfl ?_
  refine az_get C cX4 2 0 34 (v := .ref (ρ.1 134)) wl_X4_91 dX4_takesBack_77 rfl rfl rfl (by decide) ?_
  refine az_iload_n C 0 dX4_takesBack_80 rfl ?_
  refine az_ialdN C 2 34 1 (v := m.1 34 1) dX4_takesBack_81 rfl rfl (by decide) (by decide) rfl ?_
  refine az_iastN C 2 13 1 dX4_takesBack_82 rfl rfl (by decide) (by decide) (az_to rfl (K' := (KK G ρ x (mI (mI (mI (mI (mI (mI (mI (mI (mI (mI (mI (mI (mI (mI (mI (mI (mI (mI m 4 0 (m.1 32 0)) 4 1 (m.1 32 1)) 4 2 (m.1 32 2)) 4 3 (m.1 32 3)) 4 4 (m.1 32 4)) 4 5 (m.1 32 5)) 10 0 (m.1 33 0)) 11 0 (vp_nar .boolean (m.1 35 0))) 10 1 (m.1 33 1)) 11 1 (vp_nar .boolean (m.1 35 1))) 10 2 (m.1 33 2)) 11 2 (vp_nar .boolean (m.1 35 2))) 10 3 (m.1 33 3)) 11 3 (vp_nar .boolean (m.1 35 3))) 10 4 (m.1 33 4)) 11 4 (vp_nar .boolean (m.1 35 4))) 13 0 (m.1 34 0)) 13 1 (m.1 34 1)) ou)) (KK_M rfl) ?_)
  refine az_iinc C 0 (v := 2) (lv' := [(1, .int 2), (0, .ref (ρ.1 100))]) dX4_takesBack_83 rfl (by decide) (by decide) rfl ?_
  refine az_goto C 65 dX4_takesBack_86 (by decide) ?_
  refine az_iload_n C 0 dX4_takesBack_65 rfl ?_
  refine az_bipush C (v := 8) dX4_takesBack_66 (by decide) ?_
  refine az_icmp_ge C 89 dX4_takesBack_68 (by decide) (fun q => absurd q (by decide)) (fun _ => ?_)
  refine az_aload_n C 1 dX4_takesBack_71 rfl ?_
  refine az_get C cX4 2 0 13 (v := .ref (ρ.1 113)) wl_X4_42 dX4_takesBack_72 rfl rfl rfl (by decide) ?_
  refine az_iload_n C 0 dX4_takesBack_75 rfl ?_
  refine az_aload_n C 1 dX4_takesBack_76 rfl ?_
  refine az_get C cX4 2 0 34 (v := .ref (ρ.1 134)) wl_X4_91 dX4_takesBack_77 rfl rfl rfl (by decide) ?_
  refine az_iload_n C 0 dX4_takesBack_80 rfl ?_
  refine az_ialdN C 2 34 2 (v := m.1 34 2) dX4_takesBack_81 rfl rfl (by decide) (by decide) rfl ?_
  refine az_iastN C 2 13 2 dX4_takesBack_82 rfl rfl (by decide) (by decide) (az_to rfl (K' := (KK G ρ x (mI (mI (mI (mI (mI (mI (mI (mI (mI (mI (mI (mI (mI (mI (mI (mI (mI (mI (mI m 4 0 (m.1 32 0)) 4 1 (m.1 32 1)) 4 2 (m.1 32 2)) 4 3 (m.1 32 3)) 4 4 (m.1 32 4)) 4 5 (m.1 32 5)) 10 0 (m.1 33 0)) 11 0 (vp_nar .boolean (m.1 35 0))) 10 1 (m.1 33 1)) 11 1 (vp_nar .boolean (m.1 35 1))) 10 2 (m.1 33 2)) 11 2 (vp_nar .boolean (m.1 35 2))) 10 3 (m.1 33 3)) 11 3 (vp_nar .boolean (m.1 35 3))) 10 4 (m.1 33 4)) 11 4 (vp_nar .boolean (m.1 35 4))) 13 0 (m.1 34 0)) 13 1 (m.1 34 1)) 13 2 (m.1 34 2)) ou)) (KK_M rfl) ?_)
  refine az_iinc C 0 (v := 3) (lv' := [(1, .int 3), (0, .ref (ρ.1 100))]) dX4_takesBack_83 rfl (by decide) (by decide) rfl ?_
  refine az_goto C 65 dX4_takesBack_86 (by decide) ?_
  refine az_iload_n C 0 dX4_takesBack_65 rfl ?_
  refine az_bipush C (v := 8) dX4_takesBack_66 (by decide) ?_
  refine az_icmp_ge C 89 dX4_takesBack_68 (by decide) (fun q => absurd q (by decide)) (fun _ => ?_)
  refine az_aload_n C 1 dX4_takesBack_71 rfl ?_
  refine az_get C cX4 2 0 13 (v := .ref (ρ.1 113)) wl_X4_42 dX4_takesBack_72 rfl rfl rfl (by decide) ?_
  refine az_iload_n C 0 dX4_takesBack_75 rfl ?_
  refine az_aload_n C 1 dX4_takesBack_76 rfl ?_
  refine az_get C cX4 2 0 34 (v := .ref (ρ.1 134)) wl_X4_91 dX4_takesBack_77 rfl rfl rfl (by decide) ?_
  refine az_iload_n C 0 dX4_takesBack_80 rfl ?_
  refine az_ialdN C 2 34 3 (v := m.1 34 3) dX4_takesBack_81 rfl rfl (by decide) (by decide) rfl ?_
  refine az_iastN C 2 13 3 dX4_takesBack_82 rfl rfl (by decide) (by decide) (az_to rfl (K' := (KK G ρ x (mI (mI (mI (mI (mI (mI (mI (mI (mI (mI (mI (mI (mI (mI (mI (mI (mI (mI (mI (mI m 4 0 (m.1 32 0)) 4 1 (m.1 32 1)) 4 2 (m.1 32 2)) 4 3 (m.1 32 3)) 4 4 (m.1 32 4)) 4 5 (m.1 32 5)) 10 0 (m.1 33 0)) 11 0 (vp_nar .boolean (m.1 35 0))) 10 1 (m.1 33 1)) 11 1 (vp_nar .boolean (m.1 35 1))) 10 2 (m.1 33 2)) 11 2 (vp_nar .boolean (m.1 35 2))) 10 3 (m.1 33 3)) 11 3 (vp_nar .boolean (m.1 35 3))) 10 4 (m.1 33 4)) 11 4 (vp_nar .boolean (m.1 35 4))) 13 0 (m.1 34 0)) 13 1 (m.1 34 1)) 13 2 (m.1 34 2)) 13 3 (m.1 34 3)) ou)) (KK_M rfl) ?_)
  refine az_iinc C 0 (v := 4) (lv' := [(1, .int 4), (0, .ref (ρ.1 100))]) dX4_takesBack_83 rfl (by decide) (by decide) rfl ?_
  refine az_goto C 65 dX4_takesBack_86 (by decide) ?_
  refine az_iload_n C 0 dX4_takesBack_65 rfl ?_
  refine az_bipush C (v := 8) dX4_takesBack_66 (by decide) ?_
  refine az_icmp_ge C 89 dX4_takesBack_68 (by decide) (fun q => absurd q (by decide)) (fun _ => ?_)
  refine az_aload_n C 1 dX4_takesBack_71 rfl ?_
  refine az_get C cX4 2 0 13 (v := .ref (ρ.1 113)) wl_X4_42 dX4_takesBack_72 rfl rfl rfl (by decide) ?_
  refine az_iload_n C 0 dX4_takesBack_75 rfl ?_
  refine az_aload_n C 1 dX4_takesBack_76 rfl ?_
  refine az_get C cX4 2 0 34 (v := .ref (ρ.1 134)) wl_X4_91 dX4_takesBack_77 rfl rfl rfl (by decide) ?_
  refine az_iload_n C 0 dX4_takesBack_80 rfl ?_
  refine az_ialdN C 2 34 4 (v := m.1 34 4) dX4_takesBack_81 rfl rfl (by decide) (by decide) rfl ?_
  refine az_iastN C 2 13 4 dX4_takesBack_82 rfl rfl (by decide) (by decide) (az_to rfl (K' := (KK G ρ x (mI (mI (mI (mI (mI (mI (mI (mI (mI (mI (mI (mI (mI (mI (mI (mI (mI (mI (mI (mI (mI m 4 0 (m.1 32 0)) 4 1 (m.1 32 1)) 4 2 (m.1 32 2)) 4 3 (m.1 32 3)) 4 4 (m.1 32 4)) 4 5 (m.1 32 5)) 10 0 (m.1 33 0)) 11 0 (vp_nar .boolean (m.1 35 0))) 10 1 (m.1 33 1)) 11 1 (vp_nar .boolean (m.1 35 1))) 10 2 (m.1 33 2)) 11 2 (vp_nar .boolean (m.1 35 2))) 10 3 (m.1 33 3)) 11 3 (vp_nar .boolean (m.1 35 3))) 10 4 (m.1 33 4)) 11 4 (vp_nar .boolean (m.1 35 4))) 13 0 (m.1 34 0)) 13 1 (m.1 34 1)) 13 2 (m.1 34 2)) 13 3 (m.1 34 3)) 13 4 (m.1 34 4)) ou)) (KK_M rfl) ?_)
  refine az_iinc C 0 (v := 5) (lv' := [(1, .int 5), (0, .ref (ρ.1 100))]) dX4_takesBack_83 rfl (by decide) (by decide) rfl ?_
  refine az_goto C 65 dX4_takesBack_86 (by decide) ?_
  refine az_iload_n C 0 dX4_takesBack_65 rfl ?_
  refine az_bipush C (v := 8) dX4_takesBack_66 (by decide) ?_
  refine az_icmp_ge C 89 dX4_takesBack_68 (by decide) (fun q => absurd q (by decide)) (fun _ => ?_)
  refine az_aload_n C 1 dX4_takesBack_71 rfl ?_
  refine az_get C cX4 2 0 13 (v := .ref (ρ.1 113)) wl_X4_42 dX4_takesBack_72 rfl rfl rfl (by decide) ?_
  refine az_iload_n C 0 dX4_takesBack_75 rfl ?_
  refine az_aload_n C 1 dX4_takesBack_76 rfl ?_
  refine az_get C cX4 2 0 34 (v := .ref (ρ.1 134)) wl_X4_91 dX4_takesBack_77 rfl rfl rfl (by decide) ?_
  refine az_iload_n C 0 dX4_takesBack_80 rfl ?_
  refine az_ialdN C 2 34 5 (v := m.1 34 5) dX4_takesBack_81 rfl rfl (by decide) (by decide) rfl ?_
  refine az_iastN C 2 13 5 dX4_takesBack_82 rfl rfl (by decide) (by decide) (az_to rfl (K' := (KK G ρ x (mI (mI (mI (mI (mI (mI (mI (mI (mI (mI (mI (mI (mI (mI (mI (mI (mI (mI (mI (mI (mI (mI m 4 0 (m.1 32 0)) 4 1 (m.1 32 1)) 4 2 (m.1 32 2)) 4 3 (m.1 32 3)) 4 4 (m.1 32 4)) 4 5 (m.1 32 5)) 10 0 (m.1 33 0)) 11 0 (vp_nar .boolean (m.1 35 0))) 10 1 (m.1 33 1)) 11 1 (vp_nar .boolean (m.1 35 1))) 10 2 (m.1 33 2)) 11 2 (vp_nar .boolean (m.1 35 2))) 10 3 (m.1 33 3)) 11 3 (vp_nar .boolean (m.1 35 3))) 10 4 (m.1 33 4)) 11 4 (vp_nar .boolean (m.1 35 4))) 13 0 (m.1 34 0)) 13 1 (m.1 34 1)) 13 2 (m.1 34 2)) 13 3 (m.1 34 3)) 13 4 (m.1 34 4)) 13 5 (m.1 34 5)) ou)) (KK_M rfl) ?_)
  refine az_iinc C 0 (v := 6) (lv' := [(1, .int 6), (0, .ref (ρ.1 100))]) dX4_takesBack_83 rfl (by decide) (by decide) rfl ?_
  refine az_goto C 65 dX4_takesBack_86 (by decide) ?_
  refine az_iload_n C 0 dX4_takesBack_65 rfl ?_
  refine az_bipush C (v := 8) dX4_takesBack_66 (by decide) ?_
  refine az_icmp_ge C 89 dX4_takesBack_68 (by decide) (fun q => absurd q (by decide)) (fun _ => ?_)
  refine az_aload_n C 1 dX4_takesBack_71 rfl ?_
  refine az_get C cX4 2 0 13 (v := .ref (ρ.1 113)) wl_X4_42 dX4_takesBack_72 rfl rfl rfl (by decide) ?_
  refine az_iload_n C 0 dX4_takesBack_75 rfl ?_
  refine az_aload_n C 1 dX4_takesBack_76 rfl ?_
  refine az_get C cX4 2 0 34 (v := .ref (ρ.1 134)) wl_X4_91 dX4_takesBack_77 rfl rfl rfl (by decide) ?_
  refine az_iload_n C 0 dX4_takesBack_80 rfl ?_
  refine az_ialdN C 2 34 6 (v := m.1 34 6) dX4_takesBack_81 rfl rfl (by decide) (by decide) rfl ?_
  refine az_iastN C 2 13 6 dX4_takesBack_82 rfl rfl (by decide) (by decide) (az_to rfl (K' := (KK G ρ x (mI (mI (mI (mI (mI (mI (mI (mI (mI (mI (mI (mI (mI (mI (mI (mI (mI (mI (mI (mI (mI (mI (mI m 4 0 (m.1 32 0)) 4 1 (m.1 32 1)) 4 2 (m.1 32 2)) 4 3 (m.1 32 3)) 4 4 (m.1 32 4)) 4 5 (m.1 32 5)) 10 0 (m.1 33 0)) 11 0 (vp_nar .boolean (m.1 35 0))) 10 1 (m.1 33 1)) 11 1 (vp_nar .boolean (m.1 35 1))) 10 2 (m.1 33 2)) 11 2 (vp_nar .boolean (m.1 35 2))) 10 3 (m.1 33 3)) 11 3 (vp_nar .boolean (m.1 35 3))) 10 4 (m.1 33 4)) 11 4 (vp_nar .boolean (m.1 35 4))) 13 0 (m.1 34 0)) 13 1 (m.1 34 1)) 13 2 (m.1 34 2)) 13 3 (m.1 34 3)) 13 4 (m.1 34 4)) 13 5 (m.1 34 5)) 13 6 (m.1 34 6)) ou)) (KK_M rfl) ?_)
  refine az_iinc C 0 (v := 7) (lv' := [(1, .int 7), (0, .ref (ρ.1 100))]) dX4_takesBack_83 rfl (by decide) (by decide) rfl ?_
  refine az_goto C 65 dX4_takesBack_86 (by decide) ?_
  refine az_iload_n C 0 dX4_takesBack_65 rfl ?_
  refine az_bipush C (v := 8) dX4_takesBack_66 (by decide) ?_
  refine az_icmp_ge C 89 dX4_takesBack_68 (by decide) (fun q => absurd q (by decide)) (fun _ => ?_)
  refine az_aload_n C 1 dX4_takesBack_71 rfl ?_
  refine az_get C cX4 2 0 13 (v := .ref (ρ.1 113)) wl_X4_42 dX4_takesBack_72 rfl rfl rfl (by decide) ?_
  refine az_iload_n C 0 dX4_takesBack_75 rfl ?_
  refine az_aload_n C 1 dX4_takesBack_76 rfl ?_
  refine az_get C cX4 2 0 34 (v := .ref (ρ.1 134)) wl_X4_91 dX4_takesBack_77 rfl rfl rfl (by decide) ?_
  refine az_iload_n C 0 dX4_takesBack_80 rfl ?_
  refine az_ialdN C 2 34 7 (v := m.1 34 7) dX4_takesBack_81 rfl rfl (by decide) (by decide) rfl ?_
  refine az_iastN C 2 13 7 dX4_takesBack_82 rfl rfl (by decide) (by decide) (az_to rfl (K' := (KK G ρ x (mI (mI (mI (mI (mI (mI (mI (mI (mI (mI (mI (mI (mI (mI (mI (mI (mI (mI (mI (mI (mI (mI (mI (mI m 4 0 (m.1 32 0)) 4 1 (m.1 32 1)) 4 2 (m.1 32 2)) 4 3 (m.1 32 3)) 4 4 (m.1 32 4)) 4 5 (m.1 32 5)) 10 0 (m.1 33 0)) 11 0 (vp_nar .boolean (m.1 35 0))) 10 1 (m.1 33 1)) 11 1 (vp_nar .boolean (m.1 35 1))) 10 2 (m.1 33 2)) 11 2 (vp_nar .boolean (m.1 35 2))) 10 3 (m.1 33 3)) 11 3 (vp_nar .boolean (m.1 35 3))) 10 4 (m.1 33 4)) 11 4 (vp_nar .boolean (m.1 35 4))) 13 0 (m.1 34 0)) 13 1 (m.1 34 1)) 13 2 (m.1 34 2)) 13 3 (m.1 34 3)) 13 4 (m.1 34 4)) 13 5 (m.1 34 5)) 13 6 (m.1 34 6)) 13 7 (m.1 34 7)) ou)) (KK_M rfl) ?_)
  refine az_iinc C 0 (v := 8) (lv' := [(1, .int 8), (0, .ref (ρ.1 100))]) dX4_takesBack_83 rfl (by decide) (by decide) rfl ?_
  refine az_goto C 65 dX4_takesBack_86 (by decide) ?_
  refine az_iload_n C 0 dX4_takesBack_65 rfl ?_
  refine az_bipush C (v := 8) dX4_takesBack_66 (by decide) ?_
  refine az_icmp_ge C 89 dX4_takesBack_68 (by decide) (fun _ => ?_) (fun q => absurd (by decide) q)
  refine az_aload_n C 1 dX4_takesBack_89 rfl ?_
  refine az_aload_n C 1 dX4_takesBack_90 rfl ?_
  refine az_get C cX4 2 0 36 (v := .int (m.1 0 36)) wl_X4_181 dX4_takesBack_91 rfl rfl rfl (by decide) ?_
  refine az_put C cX4 2 0 22 wl_X4_115 dX4_takesBack_94 rfl rfl (by decide) (Nat.le_of_ble_eq_true rfl) rfl rfl rfl (az_to rfl (K' := (KK G ρ x (mI (mI (mI (mI (mI (mI (mI (mI (mI (mI (mI (mI (mI (mI (mI (mI (mI (mI (mI (mI (mI (mI (mI (mI (mI m 4 0 (m.1 32 0)) 4 1 (m.1 32 1)) 4 2 (m.1 32 2)) 4 3 (m.1 32 3)) 4 4 (m.1 32 4)) 4 5 (m.1 32 5)) 10 0 (m.1 33 0)) 11 0 (vp_nar .boolean (m.1 35 0))) 10 1 (m.1 33 1)) 11 1 (vp_nar .boolean (m.1 35 1))) 10 2 (m.1 33 2)) 11 2 (vp_nar .boolean (m.1 35 2))) 10 3 (m.1 33 3)) 11 3 (vp_nar .boolean (m.1 35 3))) 10 4 (m.1 33 4)) 11 4 (vp_nar .boolean (m.1 35 4))) 13 0 (m.1 34 0)) 13 1 (m.1 34 1)) 13 2 (m.1 34 2)) 13 3 (m.1 34 3)) 13 4 (m.1 34 4)) 13 5 (m.1 34 5)) 13 6 (m.1 34 6)) 13 7 (m.1 34 7)) 0 22 (m.1 0 36)) ou)) (KK_M rfl) ?_)
  refine az_aload_n C 1 dX4_takesBack_97 rfl ?_
  refine az_aload_n C 1 dX4_takesBack_98 rfl ?_
  refine az_get C cX4 2 0 37 (v := .int (m.1 0 37)) wl_X4_184 dX4_takesBack_99 rfl rfl rfl (by decide) ?_
  refine az_put C cX4 2 0 24 wl_X4_72 dX4_takesBack_102 rfl rfl (by decide) (Nat.le_of_ble_eq_true rfl) rfl rfl rfl (az_to rfl (K' := (KK G ρ x (mI (mI (mI (mI (mI (mI (mI (mI (mI (mI (mI (mI (mI (mI (mI (mI (mI (mI (mI (mI (mI (mI (mI (mI (mI (mI m 4 0 (m.1 32 0)) 4 1 (m.1 32 1)) 4 2 (m.1 32 2)) 4 3 (m.1 32 3)) 4 4 (m.1 32 4)) 4 5 (m.1 32 5)) 10 0 (m.1 33 0)) 11 0 (vp_nar .boolean (m.1 35 0))) 10 1 (m.1 33 1)) 11 1 (vp_nar .boolean (m.1 35 1))) 10 2 (m.1 33 2)) 11 2 (vp_nar .boolean (m.1 35 2))) 10 3 (m.1 33 3)) 11 3 (vp_nar .boolean (m.1 35 3))) 10 4 (m.1 33 4)) 11 4 (vp_nar .boolean (m.1 35 4))) 13 0 (m.1 34 0)) 13 1 (m.1 34 1)) 13 2 (m.1 34 2)) 13 3 (m.1 34 3)) 13 4 (m.1 34 4)) 13 5 (m.1 34 5)) 13 6 (m.1 34 6)) 13 7 (m.1 34 7)) 0 22 (m.1 0 36)) 0 24 (m.1 0 37)) ou)) (KK_M rfl) ?_)
  exact az_vret C rfl dX4_takesBack_105 (Nat.le_of_ble_eq_true rfl) (Nat.le_of_ble_eq_true rfl) ⟨rfl, rfl, rfl⟩

set_option maxHeartbeats 4000000 in
set_option maxRecDepth 100000 in
theorem Mall (hG : az_okS l G)  : az_M l G yX4_allThrough (az_ws yX4_allThrough cX4_allThrough 3 (Option.some FieldType.int)) 1 [.ref (ρ.1 100)] (AD ρ) (KK G ρ x m ou) 0 0 (az_r (some (.int ((((((0 + m.1 10 0) + m.1 10 1) + m.1 10 2) + m.1 10 3) + m.1 10 4)))) (AD ρ) (KK G ρ x m ou)) := by
  refine az_start hG.1 (by decide +kernel) (Nat.le_of_ble_eq_true rfl) ?_
  intro p e s mm args below meth c C hnm
  show az_W l G 3 _ p e _ s mm args below meth c _ _ 0 0 0 [(0, .ref (ρ.1 100))] []
  refine az_iconst C (v := 0) dX4_allThrough_0 (by decide) ?_
  refine az_istore_n C (lv' := [(1, .int 0), (0, .ref (ρ.1 100))]) (j := 1) rfl dX4_allThrough_1 (by decide) rfl ?_
  refine az_iconst C (v := 0) dX4_allThrough_2 (by decide) ?_
  refine az_istore_n C (lv' := [(2, .int 0), (1, .int 0), (0, .ref (ρ.1 100))]) (j := 2) rfl dX4_allThrough_3 (by decide) rfl ?_
  refine az_iload_n C 0 dX4_allThrough_4 rfl ?_
  refine az_iconst C (v := 5) dX4_allThrough_5 (by decide) ?_
  refine az_icmp_ge C 24 dX4_allThrough_6 (by decide) (fun q => absurd q (by decide)) (fun _ => ?_)
  refine az_iload_n C 1 dX4_allThrough_9 rfl ?_
  refine az_aload_n C 2 dX4_allThrough_10 rfl ?_
  refine az_get C cX4 2 0 10 (v := .ref (ρ.1 110)) wl_X4_35 dX4_allThrough_11 rfl rfl rfl (by decide) ?_
  refine az_iload_n C 0 dX4_allThrough_14 rfl ?_
  refine az_ialdN C 2 10 0 (v := m.1 10 0) dX4_allThrough_15 rfl rfl (by decide) (by decide) rfl ?_
  refine az_iadd C dX4_allThrough_16 ?_
  refine az_istore_n C (lv' := [(1, .int ((0 + m.1 10 0))), (2, .int 0), (0, .ref (ρ.1 100))]) (j := 1) rfl dX4_allThrough_17 (by decide) rfl ?_
  refine az_iinc C 1 (v := 1) (lv' := [(2, .int 1), (1, .int ((0 + m.1 10 0))), (0, .ref (ρ.1 100))]) dX4_allThrough_18 rfl (by decide) (by decide) rfl ?_
  refine az_goto C 4 dX4_allThrough_21 (by decide) ?_
  refine az_iload_n C 0 dX4_allThrough_4 rfl ?_
  refine az_iconst C (v := 5) dX4_allThrough_5 (by decide) ?_
  refine az_icmp_ge C 24 dX4_allThrough_6 (by decide) (fun q => absurd q (by decide)) (fun _ => ?_)
  refine az_iload_n C 1 dX4_allThrough_9 rfl ?_
  refine az_aload_n C 2 dX4_allThrough_10 rfl ?_
  refine az_get C cX4 2 0 10 (v := .ref (ρ.1 110)) wl_X4_35 dX4_allThrough_11 rfl rfl rfl (by decide) ?_
  refine az_iload_n C 0 dX4_allThrough_14 rfl ?_
  refine az_ialdN C 2 10 1 (v := m.1 10 1) dX4_allThrough_15 rfl rfl (by decide) (by decide) rfl ?_
  refine az_iadd C dX4_allThrough_16 ?_
  refine az_istore_n C (lv' := [(1, .int (((0 + m.1 10 0) + m.1 10 1))), (2, .int 1), (0, .ref (ρ.1 100))]) (j := 1) rfl dX4_allThrough_17 (by decide) rfl ?_
  refine az_iinc C 1 (v := 2) (lv' := [(2, .int 2), (1, .int (((0 + m.1 10 0) + m.1 10 1))), (0, .ref (ρ.1 100))]) dX4_allThrough_18 rfl (by decide) (by decide) rfl ?_
  refine az_goto C 4 dX4_allThrough_21 (by decide) ?_
  refine az_iload_n C 0 dX4_allThrough_4 rfl ?_
  refine az_iconst C (v := 5) dX4_allThrough_5 (by decide) ?_
  refine az_icmp_ge C 24 dX4_allThrough_6 (by decide) (fun q => absurd q (by decide)) (fun _ => ?_)
  refine az_iload_n C 1 dX4_allThrough_9 rfl ?_
  refine az_aload_n C 2 dX4_allThrough_10 rfl ?_
  refine az_get C cX4 2 0 10 (v := .ref (ρ.1 110)) wl_X4_35 dX4_allThrough_11 rfl rfl rfl (by decide) ?_
  refine az_iload_n C 0 dX4_allThrough_14 rfl ?_
  refine az_ialdN C 2 10 2 (v := m.1 10 2) dX4_allThrough_15 rfl rfl (by decide) (by decide) rfl ?_
  refine az_iadd C dX4_allThrough_16 ?_
  refine az_istore_n C (lv' := [(1, .int ((((0 + m.1 10 0) + m.1 10 1) + m.1 10 2))), (2, .int 2), (0, .ref (ρ.1 100))]) (j := 1) rfl dX4_allThrough_17 (by decide) rfl ?_
  refine az_iinc C 1 (v := 3) (lv' := [(2, .int 3), (1, .int ((((0 + m.1 10 0) + m.1 10 1) + m.1 10 2))), (0, .ref (ρ.1 100))]) dX4_allThrough_18 rfl (by decide) (by decide) rfl ?_
  refine az_goto C 4 dX4_allThrough_21 (by decide) ?_
  refine az_iload_n C 0 dX4_allThrough_4 rfl ?_
  refine az_iconst C (v := 5) dX4_allThrough_5 (by decide) ?_
  refine az_icmp_ge C 24 dX4_allThrough_6 (by decide) (fun q => absurd q (by decide)) (fun _ => ?_)
  refine az_iload_n C 1 dX4_allThrough_9 rfl ?_
  refine az_aload_n C 2 dX4_allThrough_10 rfl ?_
  refine az_get C cX4 2 0 10 (v := .ref (ρ.1 110)) wl_X4_35 dX4_allThrough_11 rfl rfl rfl (by decide) ?_
  refine az_iload_n C 0 dX4_allThrough_14 rfl ?_
  refine az_ialdN C 2 10 3 (v := m.1 10 3) dX4_allThrough_15 rfl rfl (by decide) (by decide) rfl ?_
  refine az_iadd C dX4_allThrough_16 ?_
  refine az_istore_n C (lv' := [(1, .int (((((0 + m.1 10 0) + m.1 10 1) + m.1 10 2) + m.1 10 3))), (2, .int 3), (0, .ref (ρ.1 100))]) (j := 1) rfl dX4_allThrough_17 (by decide) rfl ?_
  refine az_iinc C 1 (v := 4) (lv' := [(2, .int 4), (1, .int (((((0 + m.1 10 0) + m.1 10 1) + m.1 10 2) + m.1 10 3))), (0, .ref (ρ.1 100))]) dX4_allThrough_18 rfl (by decide) (by decide) rfl ?_
  refine az_goto C 4 dX4_allThrough_21 (by decide) ?_
  refine az_iload_n C 0 dX4_allThrough_4 rfl ?_
  refine az_iconst C (v := 5) dX4_allThrough_5 (by decide) ?_
  refine az_icmp_ge C 24 dX4_allThrough_6 (by decide) (fun q => absurd q (by decide)) (fun _ => ?_)
  refine az_iload_n C 1 dX4_allThrough_9 rfl ?_
  refine az_aload_n C 2 dX4_allThrough_10 rfl ?_
  refine az_get C cX4 2 0 10 (v := .ref (ρ.1 110)) wl_X4_35 dX4_allThrough_11 rfl rfl rfl (by decide) ?_
  refine az_iload_n C 0 dX4_allThrough_14 rfl ?_
  refine az_ialdN C 2 10 4 (v := m.1 10 4) dX4_allThrough_15 rfl rfl (by decide) (by decide) rfl ?_
  refine az_iadd C dX4_allThrough_16 ?_
  refine az_istore_n C (lv' := [(1, .int ((((((0 + m.1 10 0) + m.1 10 1) + m.1 10 2) + m.1 10 3) + m.1 10 4))), (2, .int 4), (0, .ref (ρ.1 100))]) (j := 1) rfl dX4_allThrough_17 (by decide) rfl ?_
  refine az_iinc C 1 (v := 5) (lv' := [(2, .int 5), (1, .int ((((((0 + m.1 10 0) + m.1 10 1) + m.1 10 2) + m.1 10 3) + m.1 10 4))), (0, .ref (ρ.1 100))]) dX4_allThrough_18 rfl (by decide) (by decide) rfl ?_
  refine az_goto C 4 dX4_allThrough_21 (by decide) ?_
  refine az_iload_n C 0 dX4_allThrough_4 rfl ?_
  refine az_iconst C (v := 5) dX4_allThrough_5 (by decide) ?_
  refine az_icmp_ge C 24 dX4_allThrough_6 (by decide) (fun _ => ?_) (fun q => absurd (by decide) q)
  refine az_iload_n C 1 dX4_allThrough_24 rfl ?_
  exact az_iret C rfl dX4_allThrough_25 (Nat.le_of_ble_eq_true rfl) (Nat.le_of_ble_eq_true rfl) ⟨rfl, rfl, rfl⟩

set_option maxHeartbeats 4000000 in
set_option maxRecDepth 100000 in
theorem Mdeep (hG : az_okS l G) (b : Nat) (hb : b < 8) (ht : ¬ m.1 16 b = 0) : az_M l G yX4_deep (az_ws yX4_deep cX4_deep 2 (Option.some FieldType.int)) 1 [.ref (ρ.1 100), .int (nI b)] (AD ρ) (KK G ρ x m ou) 0 0 (az_r (some (.int (deepM m b))) (AD ρ) (KK G ρ x m ou)) := by
  refine az_start hG.1 (by decide +kernel) (Nat.le_of_ble_eq_true rfl) ?_
  intro p e s mm args below meth c C hnm
  show az_W l G 2 _ p e _ s mm args below meth c _ _ 0 0 0 [(0, .ref (ρ.1 100)), (1, .int (nI b))] []
  refine az_aload_n C 0 dX4_deep_0 rfl ?_
  refine az_get C cX4 2 0 15 (v := .ref (ρ.1 115)) wl_X4_48 dX4_deep_1 rfl rfl rfl (by decide) ?_
  refine az_iload_n C 1 dX4_deep_4 rfl ?_
  refine az_ialdN C 2 15 b (v := m.1 15 b) dX4_deep_5 rfl rfl (by omega) (by decide) rfl ?_
  refine az_aload_n C 0 dX4_deep_6 rfl ?_
  refine az_get C cX4 2 0 17 (v := .ref (ρ.1 117)) wl_X4_54 dX4_deep_7 rfl rfl rfl (by decide) ?_
  refine az_iload_n C 1 dX4_deep_10 rfl ?_
  refine az_ialdN C 2 17 b (v := m.1 17 b) dX4_deep_11 rfl rfl (by omega) (by decide) rfl ?_
  refine az_aload_n C 0 dX4_deep_12 rfl ?_
  refine az_get C cX4 2 0 16 (v := .ref (ρ.1 116)) wl_X4_51 dX4_deep_13 rfl rfl rfl (by decide) ?_
  refine az_iload_n C 1 dX4_deep_16 rfl ?_
  refine az_ialdN C 2 16 b (v := m.1 16 b) dX4_deep_17 rfl rfl (by omega) (by decide) rfl ?_
  refine az_iadd C dX4_deep_18 ?_
  refine az_iconst C (v := 1) dX4_deep_19 (by decide) ?_
  refine az_isub C dX4_deep_20 ?_
  refine az_aload_n C 0 dX4_deep_21 rfl ?_
  refine az_get C cX4 2 0 16 (v := .ref (ρ.1 116)) wl_X4_51 dX4_deep_22 rfl rfl rfl (by decide) ?_
  refine az_iload_n C 1 dX4_deep_25 rfl ?_
  refine az_ialdN C 2 16 b (v := m.1 16 b) dX4_deep_26 rfl rfl (by omega) (by decide) rfl ?_
  refine az_idiv C dX4_deep_27 ht ?_
  refine az_iadd C dX4_deep_28 ?_
  exact az_iret C rfl dX4_deep_29 (Nat.le_of_ble_eq_true rfl) (Nat.le_of_ble_eq_true rfl) ⟨rfl, rfl, rfl⟩

set_option maxHeartbeats 4000000 in
set_option maxRecDepth 100000 in
theorem Mfloats (hG : az_okS l G) (b r : Nat) (hb : b < 8) (hr8 : r < 6) (ht : ¬ m.1 16 b = 0) (hat : m.1 13 b = nI r) (ha : ¬ m.1 3 r = 0) : az_M l G yX4_floats (az_ws yX4_floats cX4_floats 2 (Option.some FieldType.boolean)) 2 [.ref (ρ.1 100), .int (nI b)] (AD ρ) (KK G ρ x m ou) 0 0 (az_r (some (.int (if levM m r ≤ deepM m b then 0 else 1))) (AD ρ) (KK G ρ x m ou)) := by
  refine az_start hG.1 (by decide +kernel) (Nat.le_of_ble_eq_true rfl) ?_
  intro p e s mm args below meth c C hnm
  show az_W l G 2 _ p e _ s mm args below meth c _ _ 0 0 0 [(0, .ref (ρ.1 100)), (1, .int (nI b))] []
  refine az_aload_n C 0 dX4_floats_0 rfl ?_
  refine az_iload_n C 1 dX4_floats_1 rfl ?_
  refine az_callV C Y_X4_deep cX4 2 0 [.int (nI b)] [] wm_X4_158 wi_X4_deep wse_X4_deep dX4_floats_2 rfl rfl rfl (Mdeep hG b (by omega) ht) rfl (Nat.le_of_ble_eq_true rfl) (Nat.le_of_ble_eq_true rfl) (Nat.le_of_ble_eq_true rfl) (Nat.le_of_ble_eq_true rfl) (Nat.le_of_ble_eq_true rfl) (az_k1 rfl rfl ?_) (az_k0 rfl)
  refine az_aload_n C 0 dX4_floats_5 rfl ?_
  refine az_aload_n C 0 dX4_floats_6 rfl ?_
  refine az_get C cX4 2 0 13 (v := .ref (ρ.1 113)) wl_X4_42 dX4_floats_7 rfl rfl rfl (by decide) ?_
  refine az_iload_n C 1 dX4_floats_10 rfl ?_
  refine az_ialdN C 2 13 b (v := m.1 13 b) dX4_floats_11 rfl rfl (by omega) (by decide) rfl ?_
  refine az_top (nI r) hat ?_
  refine az_callV C Y_X4_level cX4 2 0 [.int (nI r)] [.int (deepM m b)] wm_X4_135 wi_X4_level wse_X4_level dX4_floats_12 rfl rfl rfl (Mlevel hG r (by omega) ha) rfl (Nat.le_of_ble_eq_true rfl) (Nat.le_of_ble_eq_true rfl) (Nat.le_of_ble_eq_true rfl) (Nat.le_of_ble_eq_true rfl) (Nat.le_of_ble_eq_true rfl) (az_k1 rfl rfl ?_) (az_k0 rfl)
  refine az_icmp_ge C 22 dX4_floats_15 (by decide) (fun c1 => ?_) (fun c1 => ?_)
  · refine az_iconst C (v := 0) dX4_floats_22 (by decide) ?_
    exact az_zret C .boolean rfl rfl dX4_floats_23 (Nat.le_of_ble_eq_true rfl) (Nat.le_of_ble_eq_true rfl) ⟨(by simp only [c1, if_true, if_false, not_true_eq_false, not_false_eq_true]), rfl, rfl⟩
  · refine az_iconst C (v := 1) dX4_floats_18 (by decide) ?_
    refine az_goto C 23 dX4_floats_19 (by decide) ?_
    exact az_zret C .boolean rfl rfl dX4_floats_23 (Nat.le_of_ble_eq_true rfl) (Nat.le_of_ble_eq_true rfl) ⟨(by simp only [c1, if_true, if_false, not_true_eq_false, not_false_eq_true]), rfl, rfl⟩

/-- the word for the next of a chain: its first, or none -/
def hdI : List Nat → Int32
  | [] => -1
  | b :: _ => nI b
def lst : Nat → List Nat → Nat
  | b, [] => b
  | _, b :: r => lst b r
/-- the barges from one on, backwards -/
def MSuf (m : Ms) : List Nat → Prop
  | [] => True
  | b :: r => b < 8 ∧ m.1 19 b = hdI r ∧ MSuf m r
/-- the barges from one on, forwards -/
def MPre (m : Ms) : List Nat → Prop
  | [] => True
  | b :: r => b < 8 ∧ m.1 18 b = hdI r ∧ MPre m r
theorem nI_m1 {b : Nat} (h : b < 8) : ¬ nI b = (-1) := fun z => by
  have h1 := congrArg Int32.toInt z
  rw [nI_toInt (by omega)] at h1
  have h2 : (-1 : Int32).toInt = -1 := by decide
  omega
set_option maxHeartbeats 4000000 in
set_option maxRecDepth 100000 in
theorem Mfirst_l (hG : az_okS l G) {p : Program} {e : Env} {s : State} {mm : MethodId} {args : Array Value} {below : List Frame} {meth : Method} {c : Code} (C : az_C l G p s mm args meth c cX4_first yX4_first.cls 3 (Option.some FieldType.int) []) : ∀ (r : List Nat) (b : Nat) (hp : MPre m (b :: r)), az_W l G 3 (az_Q G (az_r (some (.int (nI (lst b r)))) (AD ρ) (KK G ρ x m ou)) below args s 0 0) p e (az_rm 1 0 0) s mm args below meth c (AD ρ) (KK G ρ x m ou) 0 0 2 [(2, .int (nI b)), (0, .ref (ρ.1 100))] [] := by
  intro r
  induction r with
  | nil =>
    intro b hp
    have hb := hp.1
    refine az_aload_n C 1 dX4_first_2 rfl ?_
    refine az_get C cX4 2 0 18 (v := .ref (ρ.1 118)) wl_X4_57 dX4_first_3 rfl rfl rfl (by decide) ?_
    refine az_iload_n C 0 dX4_first_6 rfl ?_
    refine az_ialdN C 2 18 b (v := m.1 18 b) dX4_first_7 rfl rfl (by omega) (by decide) rfl ?_
    refine az_top ((-1)) hp.2.1 ?_
    refine az_iconst C (v := (-1)) dX4_first_8 (by decide) ?_
    refine az_icmp_eq C 22 dX4_first_9 (by decide) (fun _ => ?_) (fun q => absurd (by decide) q)
    refine az_iload_n C 0 dX4_first_22 rfl ?_
    exact az_iret C rfl dX4_first_23 (Nat.le_of_ble_eq_true rfl) (Nat.le_of_ble_eq_true rfl) ⟨rfl, rfl, rfl⟩
  | cons d r ih =>
    intro b hp
    have hb := hp.1
    have hd := hp.2.2.1
    refine az_aload_n C 1 dX4_first_2 rfl ?_
    refine az_get C cX4 2 0 18 (v := .ref (ρ.1 118)) wl_X4_57 dX4_first_3 rfl rfl rfl (by decide) ?_
    refine az_iload_n C 0 dX4_first_6 rfl ?_
    refine az_ialdN C 2 18 b (v := m.1 18 b) dX4_first_7 rfl rfl (by omega) (by decide) rfl ?_
    refine az_top (nI d) hp.2.1 ?_
    refine az_iconst C (v := (-1)) dX4_first_8 (by decide) ?_
    refine az_icmp_eq C 22 dX4_first_9 (by decide) (fun q => absurd q (nI_m1 hd)) (fun _ => ?_)
    refine az_aload_n C 1 dX4_first_12 rfl ?_
    refine az_get C cX4 2 0 18 (v := .ref (ρ.1 118)) wl_X4_57 dX4_first_13 rfl rfl rfl (by decide) ?_
    refine az_iload_n C 0 dX4_first_16 rfl ?_
    refine az_ialdN C 2 18 b (v := m.1 18 b) dX4_first_17 rfl rfl (by omega) (by decide) rfl ?_
    refine az_top (nI d) hp.2.1 ?_
    refine az_istore_n C (lv' := [(2, .int (nI d)), (0, .ref (ρ.1 100))]) (j := 2) rfl dX4_first_18 (by decide) rfl ?_
    refine az_goto C 2 dX4_first_19 (by decide) ?_
    exact ih d hp.2.2

set_option maxHeartbeats 4000000 in
set_option maxRecDepth 100000 in
theorem Mfirst (hG : az_okS l G) (b : Nat) (r : List Nat) (hp : MPre m (b :: r)) : az_M l G yX4_first (az_ws yX4_first cX4_first 3 (Option.some FieldType.int)) 1 [.ref (ρ.1 100), .int (nI b)] (AD ρ) (KK G ρ x m ou) 0 0 (az_r (some (.int (nI (lst b r)))) (AD ρ) (KK G ρ x m ou)) := by
  refine az_start hG.1 (by decide +kernel) (Nat.le_of_ble_eq_true rfl) ?_
  intro p e s mm args below meth c C hnm
  show az_W l G 3 _ p e _ s mm args below meth c _ _ 0 0 0 [(0, .ref (ρ.1 100)), (1, .int (nI b))] []
  refine az_iload_n C 1 dX4_first_0 rfl ?_
  refine az_istore_n C (lv' := [(2, .int (nI b)), (0, .ref (ρ.1 100)), (1, .int (nI b))]) (j := 2) rfl dX4_first_1 (by decide) rfl ?_
  refine az_lv [0, 1] rfl ?_
  exact Mfirst_l hG C r b hp

/-- barge b with the barges r ahead of it; the convoy is f :: t -/
def MCv (m : Ms) (b : Nat) (r : List Nat) (f : Nat) (t : List Nat) : Prop := MPre m (b :: r) ∧ lst b r = f ∧ MSuf m (f :: t)
set_option maxHeartbeats 4000000 in
set_option maxRecDepth 100000 in
theorem Mfirst2 (hG : az_okS l G) (b : Nat) (r : List Nat) (f : Nat) (t : List Nat) (hc : MCv m b r f t) : az_M l G yX4_first (az_ws yX4_first cX4_first 3 (Option.some FieldType.int)) 1 [.ref (ρ.1 100), .int (nI b)] (AD ρ) (KK G ρ x m ou) 0 0 (az_r (some (.int (nI f))) (AD ρ) (KK G ρ x m ou)) := by
  refine az_start hG.1 (by decide +kernel) (Nat.le_of_ble_eq_true rfl) ?_
  intro p e s mm args below meth c C hnm
  show az_W l G 3 _ p e _ s mm args below meth c _ _ 0 0 0 [(0, .ref (ρ.1 100)), (1, .int (nI b))] []
  refine az_iload_n C 1 dX4_first_0 rfl ?_
  refine az_istore_n C (lv' := [(2, .int (nI b)), (0, .ref (ρ.1 100)), (1, .int (nI b))]) (j := 2) rfl dX4_first_1 (by decide) rfl ?_
  refine az_lv [0, 1] rfl ?_
  rw [← hc.2.1]
  exact Mfirst_l hG C r b hc.1

set_option maxHeartbeats 4000000 in
set_option maxRecDepth 100000 in
theorem Msize_l (hG : az_okS l G) {p : Program} {e : Env} {s : State} {mm : MethodId} {args : Array Value} {below : List Frame} {meth : Method} {c : Code} (C : az_C l G p s mm args meth c cX4_size yX4_size.cls 4 (Option.some FieldType.int) []) : ∀ (s9 : List Nat) (n9 : Nat) (hs : MSuf m s9), az_W l G 4 (az_Q G (az_r (some (.int (nI (n9 + s9.length)))) (AD ρ) (KK G ρ x m ou)) below args s 0 0) p e (az_rm 2 0 0) s mm args below meth c (AD ρ) (KK G ρ x m ou) 0 0 8 [(3, .int (hdI s9)), (2, .int (nI n9)), (0, .ref (ρ.1 100))] [] := by
  intro s9
  induction s9 with
  | nil =>
    intro n9 hs
    refine az_iload_n C 0 dX4_size_8 rfl ?_
    refine az_iconst C (v := (-1)) dX4_size_9 (by decide) ?_
    refine az_icmp_eq C 26 dX4_size_10 (by decide) (fun _ => ?_) (fun q => absurd (by decide) q)
    refine az_iload_n C 1 dX4_size_26 rfl ?_
    exact az_iret C rfl dX4_size_27 (Nat.le_of_ble_eq_true rfl) (Nat.le_of_ble_eq_true rfl) ⟨rfl, rfl, rfl⟩
  | cons b s9 ih =>
    intro n9 hs
    have hb := hs.1
    refine az_iload_n C 0 dX4_size_8 rfl ?_
    refine az_iconst C (v := (-1)) dX4_size_9 (by decide) ?_
    refine az_icmp_eq C 26 dX4_size_10 (by decide) (fun q => absurd q (nI_m1 hb)) (fun _ => ?_)
    refine az_iinc C 1 (v := nI (n9 + 1)) (lv' := [(2, .int (nI (n9 + 1))), (3, .int (nI b)), (0, .ref (ρ.1 100))]) dX4_size_13 rfl (nI_1 n9) (by decide) rfl ?_
    refine az_aload_n C 2 dX4_size_16 rfl ?_
    refine az_get C cX4 2 0 19 (v := .ref (ρ.1 119)) wl_X4_60 dX4_size_17 rfl rfl rfl (by decide) ?_
    refine az_iload_n C 1 dX4_size_20 rfl ?_
    refine az_ialdN C 2 19 b (v := m.1 19 b) dX4_size_21 rfl rfl (by omega) (by decide) rfl ?_
    refine az_top (hdI s9) hs.2.1 ?_
    refine az_istore_n C (lv' := [(3, .int (hdI s9)), (2, .int (nI (n9 + 1))), (0, .ref (ρ.1 100))]) (j := 3) rfl dX4_size_22 (by decide) rfl ?_
    refine az_goto C 8 dX4_size_23 (by decide) ?_
    rw [show n9 + (b :: s9).length = n9 + 1 + s9.length from by rw [List.length_cons]; omega]
    exact az_lv [0, 1, 2] rfl (ih (n9 + 1) hs.2.2)

set_option maxHeartbeats 4000000 in
set_option maxRecDepth 100000 in
theorem Msize (hG : az_okS l G) (b : Nat) (r : List Nat) (f : Nat) (t : List Nat) (hc : MCv m b r f t) : az_M l G yX4_size (az_ws yX4_size cX4_size 4 (Option.some FieldType.int)) 2 [.ref (ρ.1 100), .int (nI b)] (AD ρ) (KK G ρ x m ou) 0 0 (az_r (some (.int (nI (t.length + 1)))) (AD ρ) (KK G ρ x m ou)) := by
  refine az_start hG.1 (by decide +kernel) (Nat.le_of_ble_eq_true rfl) ?_
  intro p e s mm args below meth c C hnm
  show az_W l G 4 _ p e _ s mm args below meth c _ _ 0 0 0 [(0, .ref (ρ.1 100)), (1, .int (nI b))] []
  refine az_iconst C (v := 0) dX4_size_0 (by decide) ?_
  refine az_istore_n C (lv' := [(2, .int 0), (0, .ref (ρ.1 100)), (1, .int (nI b))]) (j := 2) rfl dX4_size_1 (by decide) rfl ?_
  refine az_aload_n C 1 dX4_size_2 rfl ?_
  refine az_iload_n C 2 dX4_size_3 rfl ?_
  refine az_callV C Y_X4_first cX4 2 0 [.int (nI b)] [] wm_X4_167 wi_X4_first wse_X4_first dX4_size_4 rfl rfl rfl (Mfirst2 hG b _ f _ hc) rfl (Nat.le_of_ble_eq_true rfl) (Nat.le_of_ble_eq_true rfl) (Nat.le_of_ble_eq_true rfl) (Nat.le_of_ble_eq_true rfl) (Nat.le_of_ble_eq_true rfl) (az_k1 rfl rfl ?_) (az_k0 rfl)
  refine az_istore_n C (lv' := [(3, .int (nI f)), (2, .int 0), (0, .ref (ρ.1 100)), (1, .int (nI b))]) (j := 3) rfl dX4_size_7 (by decide) rfl ?_
  rw [show t.length + 1 = 0 + (f :: t).length from by rw [List.length_cons]; omega]
  exact az_lv [0, 1, 2] rfl (Msize_l hG C (f :: t) 0 hc.2.2)

end
