section
variable {l : Launch} {G : az_G} {ρ : Rp} {x : Xs} {m : Mz} {ou : Nat → Int64}
theorem nI_c (k : Nat) : (10 : Int32) + nI k - (-3) = nI (k + 13) := by
  rw [show (10 : Int32) + nI k = nI (10 + k) from nI_add 10 k, nI_m3]
  congr 1
  omega
theorem nlt1 {v : Int32} (h : ¬ v < 1) : ¬ v = 0 := fun z => h (by rw [z]; decide)
theorem lt1e {u v : Int32} (e : u = v) (z : u < 1) : v < 1 := e ▸ z
-- Water.at
set_option maxHeartbeats 4000000 in
set_option maxRecDepth 100000 in
theorem kat (hG : az_okS l G) (v : Int32) (j : Nat) (hv : v - (-3) = nI j) (hj : j < 18) : az_M l G yX2_at (az_ws yX2_at cX2_at 2 (Option.some FieldType.int)) 1 [.ref (ρ.1 1), .int v] (AD ρ) (KK G ρ x m ou) 0 0 (az_r (some (.int (x.1 4 j))) (AD ρ) (KK G ρ x m ou)) := by
  refine az_start hG.1 (by decide +kernel) (Nat.le_of_ble_eq_true rfl) ?_
  intro p e s mm args below meth c C hnm
  show az_W l G 2 _ p e _ s mm args below meth c _ _ 0 0 0 [(0, .ref (ρ.1 1)), (1, .int v)] []
  refine az_aload_n C 0 dX2_at_0 rfl ?_
  refine az_get C cX2 0 1 2 (v := .ref (ρ.1 4)) wl_X2_18 dX2_at_1 rfl rfl rfl (by decide) ?_
  refine az_iload_n C 1 dX2_at_4 rfl ?_
  refine az_bipush C (v := (-3)) dX2_at_5 (by decide) ?_
  refine az_isub C dX2_at_7 ?_
  refine az_top (nI j) hv ?_
  refine az_ialdN C 0 4 j (v := x.1 4 j) dX2_at_8 rfl rfl (by omega) (by decide) rfl ?_
  exact az_iret C rfl dX2_at_9 (Nat.le_of_ble_eq_true rfl) (Nat.le_of_ble_eq_true rfl) ⟨rfl, rfl, rfl⟩

-- Water.level
set_option maxHeartbeats 4000000 in
set_option maxRecDepth 100000 in
theorem klevel (hG : az_okS l G) (k : Nat) (hk : k < 6) (ha : ¬ x.1 2 k < 1) : az_M l G yX2_level (az_ws yX2_level cX2_level 3 (Option.some FieldType.int)) 2 [.ref (ρ.1 1), .int (nI k)] (AD ρ) (KK G ρ x m ou) 0 0 (az_r (some (.int (x.1 4 (k + 3) / x.1 2 k))) (AD ρ) (KK G ρ x m ou)) := by
  refine az_start hG.1 (by decide +kernel) (Nat.le_of_ble_eq_true rfl) ?_
  intro p e s mm args below meth c C hnm
  show az_W l G 3 _ p e _ s mm args below meth c _ _ 0 0 0 [(0, .ref (ρ.1 1)), (1, .int (nI k))] []
  refine az_aload_n C 0 dX2_level_0 rfl ?_
  refine az_get C cX2 0 1 0 (v := .ref (ρ.1 2)) wl_X2_9 dX2_level_1 rfl rfl rfl (by decide) ?_
  refine az_iload_n C 1 dX2_level_4 rfl ?_
  refine az_ialdN C 0 2 k (v := x.1 2 k) dX2_level_5 rfl rfl (by omega) (by decide) rfl ?_
  refine az_istore_n C (lv' := [(2, .int (x.1 2 k)), (0, .ref (ρ.1 1)), (1, .int (nI k))]) (j := 2) rfl dX2_level_6 (by decide) rfl ?_
  refine az_iload_n C 0 dX2_level_7 rfl ?_
  refine az_iconst C (v := 1) dX2_level_8 (by decide) ?_
  refine az_icmp_ge C 16 dX2_level_9 (by decide) (fun _ => ?_) (fun q => absurd (Int32.not_lt.mp ha) q)
  refine az_aload_n C 1 dX2_level_16 rfl ?_
  refine az_iload_n C 2 dX2_level_17 rfl ?_
  refine az_callV C Y_X2_at cX2 0 1 [.int (nI k)] [] wm_X2_41 wi_X2_at wse_X2_at dX2_level_18 rfl rfl rfl (kat hG (nI k) (k + 3) (nI_m3 k) (by omega)) rfl (Nat.le_of_ble_eq_true rfl) (Nat.le_of_ble_eq_true rfl) (Nat.le_of_ble_eq_true rfl) (Nat.le_of_ble_eq_true rfl) (Nat.le_of_ble_eq_true rfl) (az_k1 rfl rfl ?_) (az_k0 rfl)
  refine az_iload_n C 0 dX2_level_21 rfl ?_
  refine az_idiv C dX2_level_22 (nlt1 ha) ?_
  exact az_iret C rfl dX2_level_23 (Nat.le_of_ble_eq_true rfl) (Nat.le_of_ble_eq_true rfl) ⟨rfl, rfl, rfl⟩

-- Water.hasFullChamber
set_option maxHeartbeats 4000000 in
set_option maxRecDepth 100000 in
theorem kfull (hG : az_okS l G) (k : Nat) (hk : k < 5) : az_M l G yX2_hasFullChamber (az_ws yX2_hasFullChamber cX2_hasFullChamber 2 (Option.some FieldType.boolean)) 2 [.ref (ρ.1 1), .int (nI k)] (AD ρ) (KK G ρ x m ou) 0 0 (az_r (some (.int (if x.1 4 (k + 13) ≤ 0 then 0 else 1))) (AD ρ) (KK G ρ x m ou)) := by
  refine az_start hG.1 (by decide +kernel) (Nat.le_of_ble_eq_true rfl) ?_
  intro p e s mm args below meth c C hnm
  show az_W l G 2 _ p e _ s mm args below meth c _ _ 0 0 0 [(0, .ref (ρ.1 1)), (1, .int (nI k))] []
  refine az_aload_n C 0 dX2_hasFullChamber_0 rfl ?_
  refine az_bipush C (v := 10) dX2_hasFullChamber_1 (by decide) ?_
  refine az_iload_n C 1 dX2_hasFullChamber_3 rfl ?_
  refine az_iadd C dX2_hasFullChamber_4 ?_
  refine az_callV C Y_X2_at cX2 0 1 [.int ((10 + nI k))] [] wm_X2_41 wi_X2_at wse_X2_at dX2_hasFullChamber_5 rfl rfl rfl (kat hG ((10 + nI k)) (k + 13) (nI_c k) (by omega)) rfl (Nat.le_of_ble_eq_true rfl) (Nat.le_of_ble_eq_true rfl) (Nat.le_of_ble_eq_true rfl) (Nat.le_of_ble_eq_true rfl) (Nat.le_of_ble_eq_true rfl) (az_k1 rfl rfl ?_) (az_k0 rfl)
  refine az_if_le C 15 dX2_hasFullChamber_8 (by decide) (fun c1 => ?_) (fun c1 => ?_)
  · refine az_iconst C (v := 0) dX2_hasFullChamber_15 (by decide) ?_
    exact az_zret C .boolean rfl rfl dX2_hasFullChamber_16 (Nat.le_of_ble_eq_true rfl) (Nat.le_of_ble_eq_true rfl) ⟨(by simp only [c1, if_true, if_false, not_true_eq_false, not_false_eq_true]), rfl, rfl⟩
  · refine az_iconst C (v := 1) dX2_hasFullChamber_11 (by decide) ?_
    refine az_goto C 16 dX2_hasFullChamber_12 (by decide) ?_
    exact az_zret C .boolean rfl rfl dX2_hasFullChamber_16 (Nat.le_of_ble_eq_true rfl) (Nat.le_of_ble_eq_true rfl) ⟨(by simp only [c1, if_true, if_false, not_true_eq_false, not_false_eq_true]), rfl, rfl⟩

-- Water.throughTotal
set_option maxHeartbeats 4000000 in
set_option maxRecDepth 100000 in
theorem kthrough (hG : az_okS l G)  : az_M l G yX2_throughTotal (az_ws yX2_throughTotal cX2_throughTotal 3 (Option.some FieldType.int)) 1 [.ref (ρ.1 1)] (AD ρ) (KK G ρ x m ou) 0 0 (az_r (some (.int (0 + x.1 5 0 + x.1 5 1 + x.1 5 2 + x.1 5 3 + x.1 5 4))) (AD ρ) (KK G ρ x m ou)) := by
  refine az_start hG.1 (by decide +kernel) (Nat.le_of_ble_eq_true rfl) ?_
  intro p e s mm args below meth c C hnm
  show az_W l G 3 _ p e _ s mm args below meth c _ _ 0 0 0 [(0, .ref (ρ.1 1))] []
  refine az_iconst C (v := 0) dX2_throughTotal_0 (by decide) ?_
  refine az_istore_n C (lv' := [(1, .int 0), (0, .ref (ρ.1 1))]) (j := 1) rfl dX2_throughTotal_1 (by decide) rfl ?_
  refine az_iconst C (v := 0) dX2_throughTotal_2 (by decide) ?_
  refine az_istore_n C (lv' := [(2, .int 0), (1, .int 0), (0, .ref (ρ.1 1))]) (j := 2) rfl dX2_throughTotal_3 (by decide) rfl ?_
  refine az_iload_n C 0 dX2_throughTotal_4 rfl ?_
  refine az_iconst C (v := 5) dX2_throughTotal_5 (by decide) ?_
  refine az_icmp_ge C 24 dX2_throughTotal_6 (by decide) (fun q => absurd q (by decide)) (fun _ => ?_)
  refine az_iload_n C 1 dX2_throughTotal_9 rfl ?_
  refine az_aload_n C 2 dX2_throughTotal_10 rfl ?_
  refine az_get C cX2 0 1 3 (v := .ref (ρ.1 5)) wl_X2_21 dX2_throughTotal_11 rfl rfl rfl (by decide) ?_
  refine az_iload_n C 0 dX2_throughTotal_14 rfl ?_
  refine az_ialdN C 0 5 0 (v := x.1 5 0) dX2_throughTotal_15 rfl rfl (by decide) (by decide) rfl ?_
  refine az_iadd C dX2_throughTotal_16 ?_
  refine az_istore_n C (lv' := [(1, .int ((0 + x.1 5 0))), (2, .int 0), (0, .ref (ρ.1 1))]) (j := 1) rfl dX2_throughTotal_17 (by decide) rfl ?_
  refine az_iinc C 1 (v := 1) (lv' := [(2, .int 1), (1, .int ((0 + x.1 5 0))), (0, .ref (ρ.1 1))]) dX2_throughTotal_18 rfl (by decide) (by decide) rfl ?_
  refine az_goto C 4 dX2_throughTotal_21 (by decide) ?_
  refine az_iload_n C 0 dX2_throughTotal_4 rfl ?_
  refine az_iconst C (v := 5) dX2_throughTotal_5 (by decide) ?_
  refine az_icmp_ge C 24 dX2_throughTotal_6 (by decide) (fun q => absurd q (by decide)) (fun _ => ?_)
  refine az_iload_n C 1 dX2_throughTotal_9 rfl ?_
  refine az_aload_n C 2 dX2_throughTotal_10 rfl ?_
  refine az_get C cX2 0 1 3 (v := .ref (ρ.1 5)) wl_X2_21 dX2_throughTotal_11 rfl rfl rfl (by decide) ?_
  refine az_iload_n C 0 dX2_throughTotal_14 rfl ?_
  refine az_ialdN C 0 5 1 (v := x.1 5 1) dX2_throughTotal_15 rfl rfl (by decide) (by decide) rfl ?_
  refine az_iadd C dX2_throughTotal_16 ?_
  refine az_istore_n C (lv' := [(1, .int (((0 + x.1 5 0) + x.1 5 1))), (2, .int 1), (0, .ref (ρ.1 1))]) (j := 1) rfl dX2_throughTotal_17 (by decide) rfl ?_
  refine az_iinc C 1 (v := 2) (lv' := [(2, .int 2), (1, .int (((0 + x.1 5 0) + x.1 5 1))), (0, .ref (ρ.1 1))]) dX2_throughTotal_18 rfl (by decide) (by decide) rfl ?_
  refine az_goto C 4 dX2_throughTotal_21 (by decide) ?_
  refine az_iload_n C 0 dX2_throughTotal_4 rfl ?_
  refine az_iconst C (v := 5) dX2_throughTotal_5 (by decide) ?_
  refine az_icmp_ge C 24 dX2_throughTotal_6 (by decide) (fun q => absurd q (by decide)) (fun _ => ?_)
  refine az_iload_n C 1 dX2_throughTotal_9 rfl ?_
  refine az_aload_n C 2 dX2_throughTotal_10 rfl ?_
  refine az_get C cX2 0 1 3 (v := .ref (ρ.1 5)) wl_X2_21 dX2_throughTotal_11 rfl rfl rfl (by decide) ?_
  refine az_iload_n C 0 dX2_throughTotal_14 rfl ?_
  refine az_ialdN C 0 5 2 (v := x.1 5 2) dX2_throughTotal_15 rfl rfl (by decide) (by decide) rfl ?_
  refine az_iadd C dX2_throughTotal_16 ?_
  refine az_istore_n C (lv' := [(1, .int ((((0 + x.1 5 0) + x.1 5 1) + x.1 5 2))), (2, .int 2), (0, .ref (ρ.1 1))]) (j := 1) rfl dX2_throughTotal_17 (by decide) rfl ?_
  refine az_iinc C 1 (v := 3) (lv' := [(2, .int 3), (1, .int ((((0 + x.1 5 0) + x.1 5 1) + x.1 5 2))), (0, .ref (ρ.1 1))]) dX2_throughTotal_18 rfl (by decide) (by decide) rfl ?_
  refine az_goto C 4 dX2_throughTotal_21 (by decide) ?_
  refine az_iload_n C 0 dX2_throughTotal_4 rfl ?_
  refine az_iconst C (v := 5) dX2_throughTotal_5 (by decide) ?_
  refine az_icmp_ge C 24 dX2_throughTotal_6 (by decide) (fun q => absurd q (by decide)) (fun _ => ?_)
  refine az_iload_n C 1 dX2_throughTotal_9 rfl ?_
  refine az_aload_n C 2 dX2_throughTotal_10 rfl ?_
  refine az_get C cX2 0 1 3 (v := .ref (ρ.1 5)) wl_X2_21 dX2_throughTotal_11 rfl rfl rfl (by decide) ?_
  refine az_iload_n C 0 dX2_throughTotal_14 rfl ?_
  refine az_ialdN C 0 5 3 (v := x.1 5 3) dX2_throughTotal_15 rfl rfl (by decide) (by decide) rfl ?_
  refine az_iadd C dX2_throughTotal_16 ?_
  refine az_istore_n C (lv' := [(1, .int (((((0 + x.1 5 0) + x.1 5 1) + x.1 5 2) + x.1 5 3))), (2, .int 3), (0, .ref (ρ.1 1))]) (j := 1) rfl dX2_throughTotal_17 (by decide) rfl ?_
  refine az_iinc C 1 (v := 4) (lv' := [(2, .int 4), (1, .int (((((0 + x.1 5 0) + x.1 5 1) + x.1 5 2) + x.1 5 3))), (0, .ref (ρ.1 1))]) dX2_throughTotal_18 rfl (by decide) (by decide) rfl ?_
  refine az_goto C 4 dX2_throughTotal_21 (by decide) ?_
  refine az_iload_n C 0 dX2_throughTotal_4 rfl ?_
  refine az_iconst C (v := 5) dX2_throughTotal_5 (by decide) ?_
  refine az_icmp_ge C 24 dX2_throughTotal_6 (by decide) (fun q => absurd q (by decide)) (fun _ => ?_)
  refine az_iload_n C 1 dX2_throughTotal_9 rfl ?_
  refine az_aload_n C 2 dX2_throughTotal_10 rfl ?_
  refine az_get C cX2 0 1 3 (v := .ref (ρ.1 5)) wl_X2_21 dX2_throughTotal_11 rfl rfl rfl (by decide) ?_
  refine az_iload_n C 0 dX2_throughTotal_14 rfl ?_
  refine az_ialdN C 0 5 4 (v := x.1 5 4) dX2_throughTotal_15 rfl rfl (by decide) (by decide) rfl ?_
  refine az_iadd C dX2_throughTotal_16 ?_
  refine az_istore_n C (lv' := [(1, .int ((((((0 + x.1 5 0) + x.1 5 1) + x.1 5 2) + x.1 5 3) + x.1 5 4))), (2, .int 4), (0, .ref (ρ.1 1))]) (j := 1) rfl dX2_throughTotal_17 (by decide) rfl ?_
  refine az_iinc C 1 (v := 5) (lv' := [(2, .int 5), (1, .int ((((((0 + x.1 5 0) + x.1 5 1) + x.1 5 2) + x.1 5 3) + x.1 5 4))), (0, .ref (ρ.1 1))]) dX2_throughTotal_18 rfl (by decide) (by decide) rfl ?_
  refine az_goto C 4 dX2_throughTotal_21 (by decide) ?_
  refine az_iload_n C 0 dX2_throughTotal_4 rfl ?_
  refine az_iconst C (v := 5) dX2_throughTotal_5 (by decide) ?_
  refine az_icmp_ge C 24 dX2_throughTotal_6 (by decide) (fun _ => ?_) (fun q => absurd (by decide) q)
  refine az_iload_n C 1 dX2_throughTotal_24 rfl ?_
  exact az_iret C rfl dX2_throughTotal_25 (Nat.le_of_ble_eq_true rfl) (Nat.le_of_ble_eq_true rfl) ⟨rfl, rfl, rfl⟩

end
