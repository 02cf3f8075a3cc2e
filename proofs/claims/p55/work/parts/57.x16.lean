section
variable {l : Launch} {G : az_G} {ρ : Rp} {x : Xs} {m : Mz} {ou : Nat → Int64}
def saveX (x : Xs) : Xs := (xI (xR (xR x 6 (va_cpy (x.1 4) (x.1 6) (0 : Int32).toNatClampNeg (0 : Int32).toNatClampNeg (18 : Int32).toNatClampNeg)) 7 (va_cpy ((xR x 6 (va_cpy (x.1 4) (x.1 6) (0 : Int32).toNatClampNeg (0 : Int32).toNatClampNeg (18 : Int32).toNatClampNeg)).1 5) ((xR x 6 (va_cpy (x.1 4) (x.1 6) (0 : Int32).toNatClampNeg (0 : Int32).toNatClampNeg (18 : Int32).toNatClampNeg)).1 7) (0 : Int32).toNatClampNeg (0 : Int32).toNatClampNeg (5 : Int32).toNatClampNeg)) 1 7 (x.1 8 3))
set_option maxHeartbeats 4000000 in
set_option maxRecDepth 100000 in
theorem Xsave (hG : az_okS l G)  : az_M l G yX2_save (az_ws yX2_save cX2_save 1 (Option.none : Option FieldType)) 2 [.ref (ρ.1 1)] (AD ρ) (KK G ρ x m ou) 0 0 (az_r none (AD ρ) (KK G ρ (saveX x) m ou)) := by
  refine az_start hG.1 (by decide +kernel) (Nat.le_of_ble_eq_true rfl) ?_
  intro p e s mm args below meth c C hnm
  show az_W l G 1 _ p e _ s mm args below meth c _ _ 0 0 0 [(0, .ref (ρ.1 1))] []
  refine az_aload_n C 0 dX2_save_0 rfl ?_
  refine az_get C cX2 0 1 2 (v := .ref (ρ.1 4)) wl_X2_18 dX2_save_1 rfl rfl rfl (by decide) ?_
  refine az_iconst C (v := 0) dX2_save_4 (by decide) ?_
  refine az_aload_n C 0 dX2_save_5 rfl ?_
  refine az_get C cX2 0 1 4 (v := .ref (ρ.1 6)) wl_X2_24 dX2_save_6 rfl rfl rfl (by decide) ?_
  refine az_iconst C (v := 0) dX2_save_9 (by decide) ?_
  refine az_bipush C (v := 18) dX2_save_10 (by decide) ?_
  refine az_copy C (f := (x.1 4)) (g := (x.1 6)) (n0 := 18) (n1 := 18) 0 4 0 6 0 .int rfl rfl wm_X2_55 wnat_copy wst_copy wini_System dX2_save_12 rfl rfl rfl rfl (by decide) (by decide) (by decide) (by decide) (by decide) (fun j hj => rfl) (Nat.le_of_ble_eq_true rfl) (Nat.le_of_ble_eq_true rfl) (az_to rfl (K' := (KK G ρ (xR x 6 (va_cpy (x.1 4) (x.1 6) (0 : Int32).toNatClampNeg (0 : Int32).toNatClampNeg (18 : Int32).toNatClampNeg)) m ou)) (KK_R rfl) ?_)
  refine az_aload_n C 0 dX2_save_15 rfl ?_
  refine az_get C cX2 0 1 3 (v := .ref (ρ.1 5)) wl_X2_21 dX2_save_16 rfl rfl rfl (by decide) ?_
  refine az_iconst C (v := 0) dX2_save_19 (by decide) ?_
  refine az_aload_n C 0 dX2_save_20 rfl ?_
  refine az_get C cX2 0 1 5 (v := .ref (ρ.1 7)) wl_X2_27 dX2_save_21 rfl rfl rfl (by decide) ?_
  refine az_iconst C (v := 0) dX2_save_24 (by decide) ?_
  refine az_iconst C (v := 5) dX2_save_25 (by decide) ?_
  refine az_copy C (f := ((xR x 6 (va_cpy (x.1 4) (x.1 6) (0 : Int32).toNatClampNeg (0 : Int32).toNatClampNeg (18 : Int32).toNatClampNeg)).1 5)) (g := ((xR x 6 (va_cpy (x.1 4) (x.1 6) (0 : Int32).toNatClampNeg (0 : Int32).toNatClampNeg (18 : Int32).toNatClampNeg)).1 7)) (n0 := 5) (n1 := 5) 0 5 0 7 0 .int rfl rfl wm_X2_55 wnat_copy wst_copy wini_System dX2_save_26 rfl rfl rfl rfl (by decide) (by decide) (by decide) (by decide) (by decide) (fun j hj => rfl) (Nat.le_of_ble_eq_true rfl) (Nat.le_of_ble_eq_true rfl) (az_to rfl (K' := (KK G ρ (xR (xR x 6 (va_cpy (x.1 4) (x.1 6) (0 : Int32).toNatClampNeg (0 : Int32).toNatClampNeg (18 : Int32).toNatClampNeg)) 7 (va_cpy ((xR x 6 (va_cpy (x.1 4) (x.1 6) (0 : Int32).toNatClampNeg (0 : Int32).toNatClampNeg (18 : Int32).toNatClampNeg)).1 5) ((xR x 6 (va_cpy (x.1 4) (x.1 6) (0 : Int32).toNatClampNeg (0 : Int32).toNatClampNeg (18 : Int32).toNatClampNeg)).1 7) (0 : Int32).toNatClampNeg (0 : Int32).toNatClampNeg (5 : Int32).toNatClampNeg)) m ou)) (KK_R rfl) ?_)
  refine az_aload_n C 0 dX2_save_29 rfl ?_
  refine az_aload_n C 0 dX2_save_30 rfl ?_
  refine az_get C cX2 0 1 6 (v := .ref (ρ.1 8)) wl_X2_33 dX2_save_31 rfl rfl rfl (by decide) ?_
  refine az_getN C cX1 0 8 3 (v := .int (x.1 8 3)) (az_bw C hG nx_X2_61 rfl) dX2_save_34 rfl rfl rfl (by decide) ?_
  refine az_put C cX2 0 1 7 wl_X2_64 dX2_save_37 rfl rfl (by decide) (Nat.le_of_ble_eq_true rfl) rfl rfl rfl (az_to rfl (K' := (KK G ρ (xI (xR (xR x 6 (va_cpy (x.1 4) (x.1 6) (0 : Int32).toNatClampNeg (0 : Int32).toNatClampNeg (18 : Int32).toNatClampNeg)) 7 (va_cpy ((xR x 6 (va_cpy (x.1 4) (x.1 6) (0 : Int32).toNatClampNeg (0 : Int32).toNatClampNeg (18 : Int32).toNatClampNeg)).1 5) ((xR x 6 (va_cpy (x.1 4) (x.1 6) (0 : Int32).toNatClampNeg (0 : Int32).toNatClampNeg (18 : Int32).toNatClampNeg)).1 7) (0 : Int32).toNatClampNeg (0 : Int32).toNatClampNeg (5 : Int32).toNatClampNeg)) 1 7 (x.1 8 3)) m ou)) (KK_X rfl) ?_)
  exact az_vret C rfl dX2_save_40 (Nat.le_of_ble_eq_true rfl) (Nat.le_of_ble_eq_true rfl) ⟨rfl, rfl, rfl⟩

def restoreX (x : Xs) : Xs := (xI (xR (xR x 4 (va_cpy (x.1 6) (x.1 4) (0 : Int32).toNatClampNeg (0 : Int32).toNatClampNeg (18 : Int32).toNatClampNeg)) 5 (va_cpy ((xR x 4 (va_cpy (x.1 6) (x.1 4) (0 : Int32).toNatClampNeg (0 : Int32).toNatClampNeg (18 : Int32).toNatClampNeg)).1 7) ((xR x 4 (va_cpy (x.1 6) (x.1 4) (0 : Int32).toNatClampNeg (0 : Int32).toNatClampNeg (18 : Int32).toNatClampNeg)).1 5) (0 : Int32).toNatClampNeg (0 : Int32).toNatClampNeg (5 : Int32).toNatClampNeg)) 8 3 (x.1 1 7))
set_option maxHeartbeats 4000000 in
set_option maxRecDepth 100000 in
theorem Xrestore (hG : az_okS l G)  : az_M l G yX2_restore (az_ws yX2_restore cX2_restore 1 (Option.none : Option FieldType)) 2 [.ref (ρ.1 1)] (AD ρ) (KK G ρ x m ou) 0 0 (az_r none (AD ρ) (KK G ρ (restoreX x) m ou)) := by
  refine az_start hG.1 (by decide +kernel) (Nat.le_of_ble_eq_true rfl) ?_
  intro p e s mm args below meth c C hnm
  show az_W l G 1 _ p e _ s mm args below meth c _ _ 0 0 0 [(0, .ref (ρ.1 1))] []
  refine az_aload_n C 0 dX2_restore_0 rfl ?_
  refine az_get C cX2 0 1 4 (v := .ref (ρ.1 6)) wl_X2_24 dX2_restore_1 rfl rfl rfl (by decide) ?_
  refine az_iconst C (v := 0) dX2_restore_4 (by decide) ?_
  refine az_aload_n C 0 dX2_restore_5 rfl ?_
  refine az_get C cX2 0 1 2 (v := .ref (ρ.1 4)) wl_X2_18 dX2_restore_6 rfl rfl rfl (by decide) ?_
  refine az_iconst C (v := 0) dX2_restore_9 (by decide) ?_
  refine az_bipush C (v := 18) dX2_restore_10 (by decide) ?_
  refine az_copy C (f := (x.1 6)) (g := (x.1 4)) (n0 := 18) (n1 := 18) 0 6 0 4 0 .int rfl rfl wm_X2_55 wnat_copy wst_copy wini_System dX2_restore_12 rfl rfl rfl rfl (by decide) (by decide) (by decide) (by decide) (by decide) (fun j hj => rfl) (Nat.le_of_ble_eq_true rfl) (Nat.le_of_ble_eq_true rfl) (az_to rfl (K' := (KK G ρ (xR x 4 (va_cpy (x.1 6) (x.1 4) (0 : Int32).toNatClampNeg (0 : Int32).toNatClampNeg (18 : Int32).toNatClampNeg)) m ou)) (KK_R rfl) ?_)
  refine az_aload_n C 0 dX2_restore_15 rfl ?_
  refine az_get C cX2 0 1 5 (v := .ref (ρ.1 7)) wl_X2_27 dX2_restore_16 rfl rfl rfl (by decide) ?_
  refine az_iconst C (v := 0) dX2_restore_19 (by decide) ?_
  refine az_aload_n C 0 dX2_restore_20 rfl ?_
  refine az_get C cX2 0 1 3 (v := .ref (ρ.1 5)) wl_X2_21 dX2_restore_21 rfl rfl rfl (by decide) ?_
  refine az_iconst C (v := 0) dX2_restore_24 (by decide) ?_
  refine az_iconst C (v := 5) dX2_restore_25 (by decide) ?_
  refine az_copy C (f := ((xR x 4 (va_cpy (x.1 6) (x.1 4) (0 : Int32).toNatClampNeg (0 : Int32).toNatClampNeg (18 : Int32).toNatClampNeg)).1 7)) (g := ((xR x 4 (va_cpy (x.1 6) (x.1 4) (0 : Int32).toNatClampNeg (0 : Int32).toNatClampNeg (18 : Int32).toNatClampNeg)).1 5)) (n0 := 5) (n1 := 5) 0 7 0 5 0 .int rfl rfl wm_X2_55 wnat_copy wst_copy wini_System dX2_restore_26 rfl rfl rfl rfl (by decide) (by decide) (by decide) (by decide) (by decide) (fun j hj => rfl) (Nat.le_of_ble_eq_true rfl) (Nat.le_of_ble_eq_true rfl) (az_to rfl (K' := (KK G ρ (xR (xR x 4 (va_cpy (x.1 6) (x.1 4) (0 : Int32).toNatClampNeg (0 : Int32).toNatClampNeg (18 : Int32).toNatClampNeg)) 5 (va_cpy ((xR x 4 (va_cpy (x.1 6) (x.1 4) (0 : Int32).toNatClampNeg (0 : Int32).toNatClampNeg (18 : Int32).toNatClampNeg)).1 7) ((xR x 4 (va_cpy (x.1 6) (x.1 4) (0 : Int32).toNatClampNeg (0 : Int32).toNatClampNeg (18 : Int32).toNatClampNeg)).1 5) (0 : Int32).toNatClampNeg (0 : Int32).toNatClampNeg (5 : Int32).toNatClampNeg)) m ou)) (KK_R rfl) ?_)
  refine az_aload_n C 0 dX2_restore_29 rfl ?_
  refine az_get C cX2 0 1 6 (v := .ref (ρ.1 8)) wl_X2_33 dX2_restore_30 rfl rfl rfl (by decide) ?_
  refine az_aload_n C 0 dX2_restore_33 rfl ?_
  refine az_get C cX2 0 1 7 (v := .int (x.1 1 7)) wl_X2_64 dX2_restore_34 rfl rfl rfl (by decide) ?_
  refine az_putN C cX1 0 8 3 (az_bw C hG nx_X2_61 rfl) dX2_restore_37 rfl rfl (by decide) (Nat.le_of_ble_eq_true rfl) rfl rfl rfl (az_to rfl (K' := (KK G ρ (xI (xR (xR x 4 (va_cpy (x.1 6) (x.1 4) (0 : Int32).toNatClampNeg (0 : Int32).toNatClampNeg (18 : Int32).toNatClampNeg)) 5 (va_cpy ((xR x 4 (va_cpy (x.1 6) (x.1 4) (0 : Int32).toNatClampNeg (0 : Int32).toNatClampNeg (18 : Int32).toNatClampNeg)).1 7) ((xR x 4 (va_cpy (x.1 6) (x.1 4) (0 : Int32).toNatClampNeg (0 : Int32).toNatClampNeg (18 : Int32).toNatClampNeg)).1 5) (0 : Int32).toNatClampNeg (0 : Int32).toNatClampNeg (5 : Int32).toNatClampNeg)) 8 3 (x.1 1 7)) m ou)) (KK_X rfl) ?_)
  exact az_vret C rfl dX2_restore_40 (Nat.le_of_ble_eq_true rfl) (Nat.le_of_ble_eq_true rfl) ⟨rfl, rfl, rfl⟩

set_option maxHeartbeats 4000000 in
set_option maxRecDepth 100000 in
theorem Xrain0 (hG : az_okS l G) (nr : Nat) (v u : Int32) (hr : x.1 1 8 = nI nr) (hn : nr ≤ 6) (hv : oo nr v) : az_M l G yX3_rain (az_ws yX3_rain cX3_rain 4 (Option.some FieldType.int)) 7 [.ref (ρ.1 0), .int v, .int u] (AD ρ) (KK G ρ x m ou) 1 6 (az_x "java/lang/IndexOutOfBoundsException" (AD ρ) (KK G ρ x m ou)) := by
  refine az_start hG.1 (by decide +kernel) (Nat.le_of_ble_eq_true rfl) ?_
  intro p e s mm args below meth c C hnm
  show az_W l G 4 _ p e _ s mm args below meth c _ _ 0 0 0 [(0, .ref (ρ.1 0)), (1, .int v), (2, .int u)] []
  refine az_aload_n C 0 dX3_rain_0 rfl ?_
  refine az_iload_n C 1 dX3_rain_1 rfl ?_
  refine az_callV C Y_X3_needReach cX3 0 0 [.int v] [] wm_X3_78 wi_X3_needReach wse_X3_needReach dX3_rain_2 rfl rfl rfl (XneedReach0 hG nr v hr hn hv) rfl (Nat.le_of_ble_eq_true rfl) (Nat.le_of_ble_eq_true rfl) (Nat.le_of_ble_eq_true rfl) (Nat.le_of_ble_eq_true rfl) (Nat.le_of_ble_eq_true rfl) (az_x0 rfl) (az_x1 rfl ?_)
  exact az_out C (fun _ h => by cases h) (Nat.le_of_ble_eq_true rfl) (Nat.le_of_ble_eq_true rfl) ⟨rfl, rfl, rfl⟩

set_option maxHeartbeats 4000000 in
set_option maxRecDepth 100000 in
theorem Xrain1 (hG : az_okS l G) (nr k : Nat) (hr : x.1 1 8 = nI nr) (hn : nr ≤ 6) (hk : k + 1 ≤ nr) (u : Int32) (hu : inI u 1 5000 = 0) : az_M l G yX3_rain (az_ws yX3_rain cX3_rain 4 (Option.some FieldType.int)) 7 [.ref (ρ.1 0), .int (nI k), .int u] (AD ρ) (KK G ρ x m ou) 1 6 (az_x "java/lang/IllegalArgumentException" (AD ρ) (KK G ρ x m ou)) := by
  refine az_start hG.1 (by decide +kernel) (Nat.le_of_ble_eq_true rfl) ?_
  intro p e s mm args below meth c C hnm
  show az_W l G 4 _ p e _ s mm args below meth c _ _ 0 0 0 [(0, .ref (ρ.1 0)), (1, .int (nI k)), (2, .int u)] []
  refine az_aload_n C 0 dX3_rain_0 rfl ?_
  refine az_iload_n C 1 dX3_rain_1 rfl ?_
  refine az_callV C Y_X3_needReach cX3 0 0 [.int (nI k)] [] wm_X3_78 wi_X3_needReach wse_X3_needReach dX3_rain_2 rfl rfl rfl (XneedReach1 hG nr k hr hn hk) rfl (Nat.le_of_ble_eq_true rfl) (Nat.le_of_ble_eq_true rfl) (Nat.le_of_ble_eq_true rfl) (Nat.le_of_ble_eq_true rfl) (Nat.le_of_ble_eq_true rfl) (az_k1 rfl rfl ?_) (az_k0 rfl)
  refine az_iload_n C 2 dX3_rain_5 rfl ?_
  refine az_iconst C (v := 1) dX3_rain_6 (by decide) ?_
  refine az_sipush C (v := 5000) dX3_rain_7 (by decide) ?_
  refine az_callS C Y_X3_isWithin [.int u, .int 1, .int 5000] [] wm_X3_56 wst_X3_isWithin dX3_rain_10 rfl (Xwithin hG (u) (1) (5000)) rfl (Nat.le_of_ble_eq_true rfl) (Nat.le_of_ble_eq_true rfl) (Nat.le_of_ble_eq_true rfl) (Nat.le_of_ble_eq_true rfl) (Nat.le_of_ble_eq_true rfl) (az_k1 rfl rfl ?_) (az_k0 rfl)
  refine az_if_ne C 26 dX3_rain_13 (by decide) (fun q => absurd hu q) (fun _ => ?_)
  exact az_thrS_IAE C hG (List.mem_of_getElem? (i := 5) rfl) dX3_rain_16 dX3_rain_19 dX3_rain_20 dX3_rain_22 dX3_rain_25 (Nat.le_of_ble_eq_true rfl) (Nat.le_of_ble_eq_true rfl) (Nat.le_of_ble_eq_true rfl) (Nat.le_of_ble_eq_true rfl) (Nat.le_of_ble_eq_true rfl) (Nat.le_of_ble_eq_true rfl) ⟨rfl, rfl, rfl⟩

def rainX (x : Xs) (n nr k : Nat) (u : Int32) : Xs × Nat := sendR nr (nr - k) x n (-1) 2 k u
set_option maxHeartbeats 4000000 in
set_option maxRecDepth 100000 in
theorem Xrain2 (hG : az_okS l G) (nr k : Nat) (hr : x.1 1 8 = nI nr) (hn : nr ≤ 6) (hk : k + 1 ≤ nr) (u : Int32) (hu : ¬ inI u 1 5000 = 0) (n : Nat) (hv : MvX ρ x n (nr + 1)) : az_M l G yX3_rain (az_ws yX3_rain cX3_rain 4 (Option.some FieldType.int)) 5 [.ref (ρ.1 0), .int (nI k), .int u] (AD ρ) (KK G ρ x m ou) (capT ρ.2.2.2.1 (rainX x n nr k u).2 - ρ.2.2.2.1) (6 * (capT ρ.2.2.2.1 (rainX x n nr k u).2 - ρ.2.2.2.1)) (az_g G (some (.int ((rainX x n nr k u).1.1 4 1 - x.1 4 1))) ρ (capT ρ.2.2.2.1 (rainX x n nr k u).2) (rainX x n nr k u).1 m ou) := by
  refine az_start hG.1 (by decide +kernel) (Nat.le_of_ble_eq_true rfl) ?_
  intro p e s mm args below meth c C hnm
  show az_W l G 4 _ p e _ s mm args below meth c _ _ 0 0 0 [(0, .ref (ρ.1 0)), (1, .int (nI k)), (2, .int u)] []
  refine az_aload_n C 0 dX3_rain_0 rfl ?_
  refine az_iload_n C 1 dX3_rain_1 rfl ?_
  refine az_callV C Y_X3_needReach cX3 0 0 [.int (nI k)] [] wm_X3_78 wi_X3_needReach wse_X3_needReach dX3_rain_2 rfl rfl rfl (XneedReach1 hG nr k hr hn hk) rfl (Nat.le_of_ble_eq_true rfl) (Nat.le_of_ble_eq_true rfl) (Nat.le_of_ble_eq_true rfl) (Nat.zero_le _) (Nat.zero_le _) (az_k1 rfl rfl ?_) (az_k0 rfl)
  refine az_iload_n C 2 dX3_rain_5 rfl ?_
  refine az_iconst C (v := 1) dX3_rain_6 (by decide) ?_
  refine az_sipush C (v := 5000) dX3_rain_7 (by decide) ?_
  refine az_callS C Y_X3_isWithin [.int u, .int 1, .int 5000] [] wm_X3_56 wst_X3_isWithin dX3_rain_10 rfl (Xwithin hG (u) (1) (5000)) rfl (Nat.le_of_ble_eq_true rfl) (Nat.le_of_ble_eq_true rfl) (Nat.le_of_ble_eq_true rfl) (Nat.zero_le _) (Nat.zero_le _) (az_k1 rfl rfl ?_) (az_k0 rfl)
  refine az_if_ne C 26 dX3_rain_13 (by decide) (fun _ => ?_) (fun q => absurd q hu)
  refine az_aload_n C 0 dX3_rain_26 rfl ?_
  refine az_get C cX3 0 0 0 (v := .ref (ρ.1 1)) wl_X3_12 dX3_rain_27 rfl rfl rfl (by decide) ?_
  refine az_bipush C (v := (-2)) dX3_rain_30 (by decide) ?_
  refine az_callV C Y_X2_at cX2 0 1 [.int ((-2))] [] wm_X3_85 wi_X2_at wse_X2_at dX3_rain_32 rfl rfl rfl (kat hG (-2) 1 (by decide) (by omega)) rfl (Nat.le_of_ble_eq_true rfl) (Nat.le_of_ble_eq_true rfl) (Nat.le_of_ble_eq_true rfl) (Nat.zero_le _) (Nat.zero_le _) (az_k1 rfl rfl ?_) (az_k0 rfl)
  refine az_istore_n C (lv' := [(3, .int (x.1 4 1)), (0, .ref (ρ.1 0)), (1, .int (nI k)), (2, .int u)]) (j := 3) rfl dX3_rain_35 (by decide) rfl ?_
  refine az_aload_n C 1 dX3_rain_36 rfl ?_
  refine az_get C cX3 0 0 0 (v := .ref (ρ.1 1)) wl_X3_12 dX3_rain_37 rfl rfl rfl (by decide) ?_
  refine az_iconst C (v := (-1)) dX3_rain_40 (by decide) ?_
  refine az_iload_n C 2 dX3_rain_41 rfl ?_
  refine az_iload_n C 3 dX3_rain_42 rfl ?_
  refine az_callV C Y_X2_send cX2 0 1 [.int ((-1)), .int (nI k), .int u] [] wm_X3_127 wi_X2_send wse_X2_send dX3_rain_43 rfl rfl rfl (Xsend_r hG nr k hn (by omega) hr n hv (-1) 2 (by decide) (by decide) u) rfl (Nat.le_of_ble_eq_true rfl) (Nat.le_of_ble_eq_true rfl) (Nat.le_of_ble_eq_true rfl) (Nat.le_of_eq (Nat.zero_add _)) (Nat.le_of_eq (Nat.zero_add _)) ?_ (by rintro E ad9 K9 ⟨q9, -, h9, -⟩; cases h9)
  rintro v9 ad9 K9 ⟨a9, ha9, h9, rfl, rfl⟩
  cases h9
  refine az_aload_n C 1 dX3_rain_46 rfl ?_
  refine az_get C cX3 0 0 0 (v := .ref ((gR ρ a9 (capT ρ.2.2.2.1 (rainX x n nr k u).2)).1 1)) wl_X3_12 dX3_rain_47 rfl rfl rfl (by decide) ?_
  refine az_bipush C (v := (-2)) dX3_rain_50 (by decide) ?_
  refine az_callV C Y_X2_at cX2 0 1 [.int ((-2))] [] wm_X3_85 wi_X2_at wse_X2_at dX3_rain_52 rfl rfl rfl (kat (ρ := (gR ρ a9 (capT ρ.2.2.2.1 (rainX x n nr k u).2))) (x := (rainX x n nr k u).1) hG (-2) 1 (by decide) (by omega)) rfl (Nat.le_of_ble_eq_true rfl) (Nat.le_of_ble_eq_true rfl) (Nat.le_of_ble_eq_true rfl) (Nat.le_of_eq (by rw [Nat.add_zero, Nat.zero_add] <;> rfl)) (Nat.le_of_eq (by rw [Nat.add_zero, Nat.zero_add] <;> rfl)) (az_k1 rfl rfl ?_) (az_k0 rfl)
  refine az_iload_n C 0 dX3_rain_55 rfl ?_
  refine az_isub C dX3_rain_56 ?_
  exact az_iret C rfl dX3_rain_57 (Nat.le_of_eq (by rw [Nat.add_zero, Nat.zero_add] <;> rfl)) (Nat.le_of_eq (by rw [Nat.add_zero, Nat.zero_add] <;> rfl)) ⟨a9, ha9, rfl, rfl, rfl⟩

set_option maxHeartbeats 4000000 in
set_option maxRecDepth 100000 in
theorem Xturn0 (hG : az_okS l G) (nr : Nat) (v : Int32) (hr : x.1 1 8 = nI nr) (hn : nr ≤ 6) (h1 : 1 ≤ nr) (hv : oo (nr - 1) v) : az_M l G yX3_turn (az_ws yX3_turn cX3_turn 2 (Option.some FieldType.boolean)) 7 [.ref (ρ.1 0), .int v] (AD ρ) (KK G ρ x m ou) 1 6 (az_x "java/lang/IndexOutOfBoundsException" (AD ρ) (KK G ρ x m ou)) := by
  refine az_start hG.1 (by decide +kernel) (Nat.le_of_ble_eq_true rfl) ?_
  intro p e s mm args below meth c C hnm
  show az_W l G 2 _ p e _ s mm args below meth c _ _ 0 0 0 [(0, .ref (ρ.1 0)), (1, .int v)] []
  refine az_aload_n C 0 dX3_turn_0 rfl ?_
  refine az_iload_n C 1 dX3_turn_1 rfl ?_
  refine az_callV C Y_X3_needLock cX3 0 0 [.int v] [] wm_X3_101 wi_X3_needLock wse_X3_needLock dX3_turn_2 rfl rfl rfl (XneedLock0 hG nr v hr hn h1 hv) rfl (Nat.le_of_ble_eq_true rfl) (Nat.le_of_ble_eq_true rfl) (Nat.le_of_ble_eq_true rfl) (Nat.le_of_ble_eq_true rfl) (Nat.le_of_ble_eq_true rfl) (az_x0 rfl) (az_x1 rfl ?_)
  exact az_out C (fun _ h => by cases h) (Nat.le_of_ble_eq_true rfl) (Nat.le_of_ble_eq_true rfl) ⟨rfl, rfl, rfl⟩

set_option maxHeartbeats 4000000 in
set_option maxRecDepth 100000 in
theorem Xturn1 (hG : az_okS l G) (nr k : Nat) (hr : x.1 1 8 = nI nr) (hn : nr ≤ 6) (hk : k + 2 ≤ nr) (hf : ¬ x.1 4 (k + 13) ≤ 0) (n : Nat) (hv : MvX ρ x n (nr + 1)) : az_M l G yX3_turn (az_ws yX3_turn cX3_turn 2 (Option.some FieldType.boolean)) 6 [.ref (ρ.1 0), .int (nI k)] (AD ρ) (KK G ρ x m ou) (capT ρ.2.2.2.1 (emptyX x n nr k).2 - ρ.2.2.2.1) (6 * (capT ρ.2.2.2.1 (emptyX x n nr k).2 - ρ.2.2.2.1)) (az_g G (some (.int 0)) ρ (capT ρ.2.2.2.1 (emptyX x n nr k).2) (emptyX x n nr k).1 m ou) := by
  refine az_start hG.1 (by decide +kernel) (Nat.le_of_ble_eq_true rfl) ?_
  intro p e s mm args below meth c C hnm
  show az_W l G 2 _ p e _ s mm args below meth c _ _ 0 0 0 [(0, .ref (ρ.1 0)), (1, .int (nI k))] []
  refine az_aload_n C 0 dX3_turn_0 rfl ?_
  refine az_iload_n C 1 dX3_turn_1 rfl ?_
  refine az_callV C Y_X3_needLock cX3 0 0 [.int (nI k)] [] wm_X3_101 wi_X3_needLock wse_X3_needLock dX3_turn_2 rfl rfl rfl (XneedLock1 hG nr k hr hn hk) rfl (Nat.le_of_ble_eq_true rfl) (Nat.le_of_ble_eq_true rfl) (Nat.le_of_ble_eq_true rfl) (Nat.zero_le _) (Nat.zero_le _) (az_k1 rfl rfl ?_) (az_k0 rfl)
  refine az_aload_n C 0 dX3_turn_5 rfl ?_
  refine az_get C cX3 0 0 0 (v := .ref (ρ.1 1)) wl_X3_12 dX3_turn_6 rfl rfl rfl (by decide) ?_
  refine az_iload_n C 1 dX3_turn_9 rfl ?_
  refine az_callV C Y_X2_hasFullChamber cX2 0 1 [.int (nI k)] [] wm_X3_104 wi_X2_hasFullChamber wse_X2_hasFullChamber dX3_turn_10 rfl rfl rfl (kfull hG k (by omega)) rfl (Nat.le_of_ble_eq_true rfl) (Nat.le_of_ble_eq_true rfl) (Nat.le_of_ble_eq_true rfl) (Nat.zero_le _) (Nat.zero_le _) (az_k1 rfl rfl ?_) (az_k0 rfl)
  refine az_top (1) (if_neg hf) ?_
  refine az_if_eq C 26 dX3_turn_13 (by decide) (fun q => absurd q (by decide)) (fun _ => ?_)
  refine az_aload_n C 0 dX3_turn_16 rfl ?_
  refine az_get C cX3 0 0 0 (v := .ref (ρ.1 1)) wl_X3_12 dX3_turn_17 rfl rfl rfl (by decide) ?_
  refine az_iload_n C 1 dX3_turn_20 rfl ?_
  refine az_callV C Y_X2_empty cX2 0 1 [.int (nI k)] [] wm_X3_108 wi_X2_empty wse_X2_empty dX3_turn_21 rfl rfl rfl (Xempty hG nr k hn hk hr n hv) rfl (Nat.le_of_ble_eq_true rfl) (Nat.le_of_ble_eq_true rfl) (Nat.le_of_ble_eq_true rfl) (Nat.le_of_eq (Nat.zero_add _)) (Nat.le_of_eq (Nat.zero_add _)) ?_ (by rintro E ad9 K9 ⟨q9, -, h9, -⟩; cases h9)
  rintro v9 ad9 K9 ⟨a9, ha9, h9, rfl, rfl⟩
  cases h9
  refine az_iconst C (v := 0) dX3_turn_24 (by decide) ?_
  exact az_zret C .boolean rfl rfl dX3_turn_25 (Nat.le_of_eq (Nat.zero_add _)) (Nat.le_of_eq (Nat.zero_add _)) ⟨a9, ha9, rfl, rfl, rfl⟩

set_option maxHeartbeats 4000000 in
set_option maxRecDepth 100000 in
theorem Xturn2 (hG : az_okS l G) (nr k : Nat) (hr : x.1 1 8 = nI nr) (hn : nr ≤ 6) (hk : k + 2 ≤ nr) (hf : x.1 4 (k + 13) ≤ 0) (hw : x.1 4 (k + 3) < x.1 3 k) : az_M l G yX3_turn (az_ws yX3_turn cX3_turn 2 (Option.some FieldType.boolean)) 6 [.ref (ρ.1 0), .int (nI k)] (AD ρ) (KK G ρ x m ou) 1 6 (az_x "java/lang/UnsupportedOperationException" (AD ρ) (KK G ρ x m ou)) := by
  refine az_start hG.1 (by decide +kernel) (Nat.le_of_ble_eq_true rfl) ?_
  intro p e s mm args below meth c C hnm
  show az_W l G 2 _ p e _ s mm args below meth c _ _ 0 0 0 [(0, .ref (ρ.1 0)), (1, .int (nI k))] []
  refine az_aload_n C 0 dX3_turn_0 rfl ?_
  refine az_iload_n C 1 dX3_turn_1 rfl ?_
  refine az_callV C Y_X3_needLock cX3 0 0 [.int (nI k)] [] wm_X3_101 wi_X3_needLock wse_X3_needLock dX3_turn_2 rfl rfl rfl (XneedLock1 hG nr k hr hn hk) rfl (Nat.le_of_ble_eq_true rfl) (Nat.le_of_ble_eq_true rfl) (Nat.le_of_ble_eq_true rfl) (Nat.le_of_ble_eq_true rfl) (Nat.le_of_ble_eq_true rfl) (az_k1 rfl rfl ?_) (az_k0 rfl)
  refine az_aload_n C 0 dX3_turn_5 rfl ?_
  refine az_get C cX3 0 0 0 (v := .ref (ρ.1 1)) wl_X3_12 dX3_turn_6 rfl rfl rfl (by decide) ?_
  refine az_iload_n C 1 dX3_turn_9 rfl ?_
  refine az_callV C Y_X2_hasFullChamber cX2 0 1 [.int (nI k)] [] wm_X3_104 wi_X2_hasFullChamber wse_X2_hasFullChamber dX3_turn_10 rfl rfl rfl (kfull hG k (by omega)) rfl (Nat.le_of_ble_eq_true rfl) (Nat.le_of_ble_eq_true rfl) (Nat.le_of_ble_eq_true rfl) (Nat.zero_le _) (Nat.zero_le _) (az_k1 rfl rfl ?_) (az_k0 rfl)
  refine az_top (0) (if_pos hf) ?_
  refine az_if_eq C 26 dX3_turn_13 (by decide) (fun _ => ?_) (fun q => absurd (by decide) q)
  refine az_aload_n C 0 dX3_turn_26 rfl ?_
  refine az_get C cX3 0 0 0 (v := .ref (ρ.1 1)) wl_X3_12 dX3_turn_27 rfl rfl rfl (by decide) ?_
  refine az_iload_n C 1 dX3_turn_30 rfl ?_
  refine az_callV C Y_X2_canFill cX2 0 1 [.int (nI k)] [] wm_X3_111 wi_X2_canFill wse_X2_canFill dX3_turn_31 rfl rfl rfl (XcanFill hG k (by omega)) rfl (Nat.le_of_ble_eq_true rfl) (Nat.le_of_ble_eq_true rfl) (Nat.le_of_ble_eq_true rfl) (Nat.zero_le _) (Nat.zero_le _) (az_k1 rfl rfl ?_) (az_k0 rfl)
  refine az_top (0) (if_pos hw) ?_
  refine az_if_ne C 47 dX3_turn_34 (by decide) (fun q => absurd (by decide) q) (fun _ => ?_)
  exact az_thrS_UOE C hG (List.mem_of_getElem? (i := 4) rfl) dX3_turn_37 dX3_turn_40 dX3_turn_41 dX3_turn_43 dX3_turn_46 (Nat.le_of_ble_eq_true rfl) (Nat.le_of_ble_eq_true rfl) (Nat.le_of_ble_eq_true rfl) (Nat.le_of_ble_eq_true rfl) (Nat.le_of_ble_eq_true rfl) (Nat.le_of_ble_eq_true rfl) ⟨rfl, rfl, rfl⟩

set_option maxHeartbeats 4000000 in
set_option maxRecDepth 100000 in
theorem Xturn3 (hG : az_okS l G) (nr k : Nat) (hr : x.1 1 8 = nI nr) (hn : nr ≤ 6) (hk : k + 2 ≤ nr) (hf : x.1 4 (k + 13) ≤ 0) (hw : ¬ x.1 4 (k + 3) < x.1 3 k) (n : Nat) (hv : MvX ρ x n 1) : az_M l G yX3_turn (az_ws yX3_turn cX3_turn 2 (Option.some FieldType.boolean)) 6 [.ref (ρ.1 0), .int (nI k)] (AD ρ) (KK G ρ x m ou) (capT ρ.2.2.2.1 (fillX x n k).2 - ρ.2.2.2.1) (6 * (capT ρ.2.2.2.1 (fillX x n k).2 - ρ.2.2.2.1)) (az_g G (some (.int 1)) ρ (capT ρ.2.2.2.1 (fillX x n k).2) (fillX x n k).1 m ou) := by
  refine az_start hG.1 (by decide +kernel) (Nat.le_of_ble_eq_true rfl) ?_
  intro p e s mm args below meth c C hnm
  show az_W l G 2 _ p e _ s mm args below meth c _ _ 0 0 0 [(0, .ref (ρ.1 0)), (1, .int (nI k))] []
  refine az_aload_n C 0 dX3_turn_0 rfl ?_
  refine az_iload_n C 1 dX3_turn_1 rfl ?_
  refine az_callV C Y_X3_needLock cX3 0 0 [.int (nI k)] [] wm_X3_101 wi_X3_needLock wse_X3_needLock dX3_turn_2 rfl rfl rfl (XneedLock1 hG nr k hr hn hk) rfl (Nat.le_of_ble_eq_true rfl) (Nat.le_of_ble_eq_true rfl) (Nat.le_of_ble_eq_true rfl) (Nat.zero_le _) (Nat.zero_le _) (az_k1 rfl rfl ?_) (az_k0 rfl)
  refine az_aload_n C 0 dX3_turn_5 rfl ?_
  refine az_get C cX3 0 0 0 (v := .ref (ρ.1 1)) wl_X3_12 dX3_turn_6 rfl rfl rfl (by decide) ?_
  refine az_iload_n C 1 dX3_turn_9 rfl ?_
  refine az_callV C Y_X2_hasFullChamber cX2 0 1 [.int (nI k)] [] wm_X3_104 wi_X2_hasFullChamber wse_X2_hasFullChamber dX3_turn_10 rfl rfl rfl (kfull hG k (by omega)) rfl (Nat.le_of_ble_eq_true rfl) (Nat.le_of_ble_eq_true rfl) (Nat.le_of_ble_eq_true rfl) (Nat.zero_le _) (Nat.zero_le _) (az_k1 rfl rfl ?_) (az_k0 rfl)
  refine az_top (0) (if_pos hf) ?_
  refine az_if_eq C 26 dX3_turn_13 (by decide) (fun _ => ?_) (fun q => absurd (by decide) q)
  refine az_aload_n C 0 dX3_turn_26 rfl ?_
  refine az_get C cX3 0 0 0 (v := .ref (ρ.1 1)) wl_X3_12 dX3_turn_27 rfl rfl rfl (by decide) ?_
  refine az_iload_n C 1 dX3_turn_30 rfl ?_
  refine az_callV C Y_X2_canFill cX2 0 1 [.int (nI k)] [] wm_X3_111 wi_X2_canFill wse_X2_canFill dX3_turn_31 rfl rfl rfl (XcanFill hG k (by omega)) rfl (Nat.le_of_ble_eq_true rfl) (Nat.le_of_ble_eq_true rfl) (Nat.le_of_ble_eq_true rfl) (Nat.zero_le _) (Nat.zero_le _) (az_k1 rfl rfl ?_) (az_k0 rfl)
  refine az_top (1) (if_neg hw) ?_
  refine az_if_ne C 47 dX3_turn_34 (by decide) (fun _ => ?_) (fun q => absurd q (by decide))
  refine az_aload_n C 0 dX3_turn_47 rfl ?_
  refine az_get C cX3 0 0 0 (v := .ref (ρ.1 1)) wl_X3_12 dX3_turn_48 rfl rfl rfl (by decide) ?_
  refine az_iload_n C 1 dX3_turn_51 rfl ?_
  refine az_callV C Y_X2_fill cX2 0 1 [.int (nI k)] [] wm_X3_119 wi_X2_fill wse_X2_fill dX3_turn_52 rfl rfl rfl (Xfill hG nr k hn (by omega) hr n hv) rfl (Nat.le_of_ble_eq_true rfl) (Nat.le_of_ble_eq_true rfl) (Nat.le_of_ble_eq_true rfl) (Nat.le_of_eq (Nat.zero_add _)) (Nat.le_of_eq (Nat.zero_add _)) ?_ (by rintro E ad9 K9 ⟨q9, -, h9, -⟩; cases h9)
  rintro v9 ad9 K9 ⟨a9, ha9, h9, rfl, rfl⟩
  cases h9
  refine az_iconst C (v := 1) dX3_turn_55 (by decide) ?_
  exact az_zret C .boolean rfl rfl dX3_turn_56 (Nat.le_of_eq (Nat.zero_add _)) (Nat.le_of_eq (Nat.zero_add _)) ⟨a9, ha9, rfl, rfl, rfl⟩

end
