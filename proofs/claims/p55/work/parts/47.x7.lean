section
variable {l : Launch} {G : az_G} {ρ : Rp} {x : Xs} {m : Mz} {ou : Nat → Int64}
set_option maxHeartbeats 4000000 in
set_option maxRecDepth 100000 in
theorem Xbuy0 (hG : az_okS l G) (nb : Nat) (v u : Int32) (hb : x.1 0 7 = nI nb) (hnb : nb = ρ.2.2.2.2.2) (hn : nb ≤ 8) (hv : oo nb v) : az_M l G yX3_buy (az_ws yX3_buy cX3_buy 6 (Option.some FieldType.long)) 7 [.ref (ρ.1 0), .int v, .int u] (AD ρ) (KK G ρ x m ou) 1 6 (az_x "java/lang/IndexOutOfBoundsException" (AD ρ) (KK G ρ x m ou)) := by
  refine az_start hG.1 (by decide +kernel) (Nat.le_of_ble_eq_true rfl) ?_
  intro p e s mm args below meth c C hnm
  show az_W l G 6 _ p e _ s mm args below meth c _ _ 0 0 0 [(0, .ref (ρ.1 0)), (1, .int v), (2, .int u)] []
  refine az_aload_n C 0 dX3_buy_0 rfl ?_
  refine az_iload_n C 1 dX3_buy_1 rfl ?_
  refine az_callV C Y_X3_bargeNumbered cX3 0 0 [.int v] [] wm_X3_155 wi_X3_bargeNumbered wse_X3_bargeNumbered dX3_buy_2 rfl rfl rfl (Xbarge0 hG nb v hb hnb hn hv) rfl (Nat.le_of_ble_eq_true rfl) (Nat.le_of_ble_eq_true rfl) (Nat.le_of_ble_eq_true rfl) (Nat.le_of_ble_eq_true rfl) (Nat.le_of_ble_eq_true rfl) (az_x0 rfl) (az_x1 rfl ?_)
  exact az_out C (fun _ h => by cases h) (Nat.le_of_ble_eq_true rfl) (Nat.le_of_ble_eq_true rfl) ⟨rfl, rfl, rfl⟩

set_option maxHeartbeats 4000000 in
set_option maxRecDepth 100000 in
theorem Xbuy1 (hG : az_okS l G) (nb k : Nat) (hb : x.1 0 7 = nI nb) (hnb : nb = ρ.2.2.2.2.2) (hn : nb ≤ 8) (hk : k + 1 ≤ nb) (u : Int32) (hu : inI u 1 999 = 0) : az_M l G yX3_buy (az_ws yX3_buy cX3_buy 6 (Option.some FieldType.long)) 7 [.ref (ρ.1 0), .int (nI k), .int u] (AD ρ) (KK G ρ x m ou) 1 6 (az_x "java/lang/IllegalArgumentException" (AD ρ) (KK G ρ x m ou)) := by
  refine az_start hG.1 (by decide +kernel) (Nat.le_of_ble_eq_true rfl) ?_
  intro p e s mm args below meth c C hnm
  show az_W l G 6 _ p e _ s mm args below meth c _ _ 0 0 0 [(0, .ref (ρ.1 0)), (1, .int (nI k)), (2, .int u)] []
  refine az_aload_n C 0 dX3_buy_0 rfl ?_
  refine az_iload_n C 1 dX3_buy_1 rfl ?_
  refine az_callV C Y_X3_bargeNumbered cX3 0 0 [.int (nI k)] [] wm_X3_155 wi_X3_bargeNumbered wse_X3_bargeNumbered dX3_buy_2 rfl rfl rfl (Xbarge1 hG nb k hb hnb hn hk) rfl (Nat.le_of_ble_eq_true rfl) (Nat.le_of_ble_eq_true rfl) (Nat.le_of_ble_eq_true rfl) (Nat.le_of_ble_eq_true rfl) (Nat.le_of_ble_eq_true rfl) (az_k1 rfl rfl ?_) (az_k0 rfl)
  refine az_astore_n C (lv' := [(3, .ref (ρ.2.2.1 k)), (0, .ref (ρ.1 0)), (1, .int (nI k)), (2, .int u)]) (j := 3) rfl dX3_buy_5 (by decide) rfl ?_
  refine az_iload_n C 3 dX3_buy_6 rfl ?_
  refine az_callS C Y_X3_needTons [.int u] [] wm_X3_243 wst_X3_needTons dX3_buy_7 rfl (XneedTons0 hG (u) hu) rfl (Nat.le_of_ble_eq_true rfl) (Nat.le_of_ble_eq_true rfl) (Nat.le_of_ble_eq_true rfl) (Nat.le_of_ble_eq_true rfl) (Nat.le_of_ble_eq_true rfl) (az_x0 rfl) (az_x1 rfl ?_)
  exact az_out C (fun _ h => by cases h) (Nat.le_of_ble_eq_true rfl) (Nat.le_of_ble_eq_true rfl) ⟨rfl, rfl, rfl⟩

set_option maxHeartbeats 4000000 in
set_option maxRecDepth 100000 in
theorem Xbuy2 (hG : az_okS l G) (nb k : Nat) (hb : x.1 0 7 = nI nb) (hnb : nb = ρ.2.2.2.2.2) (hn : nb ≤ 8) (hk : k + 1 ≤ nb) (u : Int32) (hu : ¬ inI u 1 999 = 0) (r : Nat) (hr6 : r < 6) (hat : x.2.1 k 4 = nI r) (ha : ¬ x.1 2 r < 1) (ht : ¬ x.2.1 k 3 < 1) (hf : floatX x k r u = 0) : az_M l G yX3_buy (az_ws yX3_buy cX3_buy 6 (Option.some FieldType.long)) 6 [.ref (ρ.1 0), .int (nI k), .int u] (AD ρ) (KK G ρ x m ou) 1 6 (az_x "java/lang/UnsupportedOperationException" (AD ρ) (KK G ρ x m ou)) := by
  refine az_start hG.1 (by decide +kernel) (Nat.le_of_ble_eq_true rfl) ?_
  intro p e s mm args below meth c C hnm
  show az_W l G 6 _ p e _ s mm args below meth c _ _ 0 0 0 [(0, .ref (ρ.1 0)), (1, .int (nI k)), (2, .int u)] []
  refine az_aload_n C 0 dX3_buy_0 rfl ?_
  refine az_iload_n C 1 dX3_buy_1 rfl ?_
  refine az_callV C Y_X3_bargeNumbered cX3 0 0 [.int (nI k)] [] wm_X3_155 wi_X3_bargeNumbered wse_X3_bargeNumbered dX3_buy_2 rfl rfl rfl (Xbarge1 hG nb k hb hnb hn hk) rfl (Nat.le_of_ble_eq_true rfl) (Nat.le_of_ble_eq_true rfl) (Nat.le_of_ble_eq_true rfl) (Nat.le_of_ble_eq_true rfl) (Nat.le_of_ble_eq_true rfl) (az_k1 rfl rfl ?_) (az_k0 rfl)
  refine az_astore_n C (lv' := [(3, .ref (ρ.2.2.1 k)), (0, .ref (ρ.1 0)), (1, .int (nI k)), (2, .int u)]) (j := 3) rfl dX3_buy_5 (by decide) rfl ?_
  refine az_iload_n C 3 dX3_buy_6 rfl ?_
  refine az_callS C Y_X3_needTons [.int u] [] wm_X3_243 wst_X3_needTons dX3_buy_7 rfl (XneedTons1 hG (u) hu) rfl (Nat.le_of_ble_eq_true rfl) (Nat.le_of_ble_eq_true rfl) (Nat.le_of_ble_eq_true rfl) (Nat.le_of_ble_eq_true rfl) (Nat.le_of_ble_eq_true rfl) (az_k1 rfl rfl ?_) (az_k0 rfl)
  refine az_aload_n C 1 dX3_buy_10 rfl ?_
  refine az_aload_n C 0 dX3_buy_11 rfl ?_
  refine az_iload_n C 3 dX3_buy_12 rfl ?_
  refine az_callV C Y_X3_floatsWith cX3 0 0 [.ref (ρ.2.2.1 k), .int u] [] wm_X3_169 wi_X3_floatsWith wse_X3_floatsWith dX3_buy_13 rfl rfl rfl (Xfloats hG k (show k < ρ.2.2.2.2.2 by omega) (u) r hr6 hat ha ht) rfl (Nat.le_of_ble_eq_true rfl) (Nat.le_of_ble_eq_true rfl) (Nat.le_of_ble_eq_true rfl) (Nat.le_of_ble_eq_true rfl) (Nat.le_of_ble_eq_true rfl) (az_k1 rfl rfl ?_) (az_k0 rfl)
  refine az_top (0) hf ?_
  refine az_if_ne C 29 dX3_buy_16 (by decide) (fun q => absurd (by decide) q) (fun _ => ?_)
  exact az_thrS_UOE C hG (List.mem_of_getElem? (i := 8) rfl) dX3_buy_19 dX3_buy_22 dX3_buy_23 dX3_buy_25 dX3_buy_28 (Nat.le_of_ble_eq_true rfl) (Nat.le_of_ble_eq_true rfl) (Nat.le_of_ble_eq_true rfl) (Nat.le_of_ble_eq_true rfl) (Nat.le_of_ble_eq_true rfl) (Nat.le_of_ble_eq_true rfl) ⟨rfl, rfl, rfl⟩

def costX (x : Xs) (r : Nat) (u : Int32) : Int64 := u.toInt64 * (x.1 11 r).toInt64
def buyX (x : Xs) (k r : Nat) (u : Int32) : Xs := xP (xY x k 5 (x.2.1 k 5 + u)) (x.2.2.2 - costX x r u)
set_option maxHeartbeats 4000000 in
set_option maxRecDepth 100000 in
theorem Xbuy3 (hG : az_okS l G) (nb k : Nat) (hb : x.1 0 7 = nI nb) (hnb : nb = ρ.2.2.2.2.2) (hn : nb ≤ 8) (hk : k + 1 ≤ nb) (u : Int32) (hu : ¬ inI u 1 999 = 0) (r : Nat) (hr6 : r < 6) (hat : x.2.1 k 4 = nI r) (ha : ¬ x.1 2 r < 1) (ht : ¬ x.2.1 k 3 < 1) (hf : floatX x k r u = 1) (hp : ¬ lg_cmp (costX x r u) x.2.2.2 ≤ 0) : az_M l G yX3_buy (az_ws yX3_buy cX3_buy 6 (Option.some FieldType.long)) 6 [.ref (ρ.1 0), .int (nI k), .int u] (AD ρ) (KK G ρ x m ou) 1 6 (az_x "java/lang/IllegalStateException" (AD ρ) (KK G ρ x m ou)) := by
  refine az_start hG.1 (by decide +kernel) (Nat.le_of_ble_eq_true rfl) ?_
  intro p e s mm args below meth c C hnm
  show az_W l G 6 _ p e _ s mm args below meth c _ _ 0 0 0 [(0, .ref (ρ.1 0)), (1, .int (nI k)), (2, .int u)] []
  refine az_aload_n C 0 dX3_buy_0 rfl ?_
  refine az_iload_n C 1 dX3_buy_1 rfl ?_
  refine az_callV C Y_X3_bargeNumbered cX3 0 0 [.int (nI k)] [] wm_X3_155 wi_X3_bargeNumbered wse_X3_bargeNumbered dX3_buy_2 rfl rfl rfl (Xbarge1 hG nb k hb hnb hn hk) rfl (Nat.le_of_ble_eq_true rfl) (Nat.le_of_ble_eq_true rfl) (Nat.le_of_ble_eq_true rfl) (Nat.le_of_ble_eq_true rfl) (Nat.le_of_ble_eq_true rfl) (az_k1 rfl rfl ?_) (az_k0 rfl)
  refine az_astore_n C (lv' := [(3, .ref (ρ.2.2.1 k)), (0, .ref (ρ.1 0)), (1, .int (nI k)), (2, .int u)]) (j := 3) rfl dX3_buy_5 (by decide) rfl ?_
  refine az_iload_n C 3 dX3_buy_6 rfl ?_
  refine az_callS C Y_X3_needTons [.int u] [] wm_X3_243 wst_X3_needTons dX3_buy_7 rfl (XneedTons1 hG (u) hu) rfl (Nat.le_of_ble_eq_true rfl) (Nat.le_of_ble_eq_true rfl) (Nat.le_of_ble_eq_true rfl) (Nat.le_of_ble_eq_true rfl) (Nat.le_of_ble_eq_true rfl) (az_k1 rfl rfl ?_) (az_k0 rfl)
  refine az_aload_n C 1 dX3_buy_10 rfl ?_
  refine az_aload_n C 0 dX3_buy_11 rfl ?_
  refine az_iload_n C 3 dX3_buy_12 rfl ?_
  refine az_callV C Y_X3_floatsWith cX3 0 0 [.ref (ρ.2.2.1 k), .int u] [] wm_X3_169 wi_X3_floatsWith wse_X3_floatsWith dX3_buy_13 rfl rfl rfl (Xfloats hG k (show k < ρ.2.2.2.2.2 by omega) (u) r hr6 hat ha ht) rfl (Nat.le_of_ble_eq_true rfl) (Nat.le_of_ble_eq_true rfl) (Nat.le_of_ble_eq_true rfl) (Nat.le_of_ble_eq_true rfl) (Nat.le_of_ble_eq_true rfl) (az_k1 rfl rfl ?_) (az_k0 rfl)
  refine az_top (1) hf ?_
  refine az_if_ne C 29 dX3_buy_16 (by decide) (fun _ => ?_) (fun q => absurd q (by decide))
  refine az_iload_n C 3 dX3_buy_29 rfl ?_
  refine az_i2l C dX3_buy_30 ?_
  refine az_aload_n C 1 dX3_buy_31 rfl ?_
  refine az_get C cX3 0 0 3 (v := .ref (ρ.1 11)) wl_X3_23 dX3_buy_32 rfl rfl rfl (by decide) ?_
  refine az_aload_n C 0 dX3_buy_35 rfl ?_
  refine az_getN C cX0 1 k 4 (v := .int (x.2.1 k 4)) (az_bw C hG nx_X3_159 rfl) dX3_buy_36 rfl (KK_b (show k < ρ.2.2.2.2.2 by omega)) rfl (by decide) ?_
  refine az_top (nI r) hat ?_
  refine az_ialdN C 0 11 r (v := x.1 11 r) dX3_buy_39 rfl rfl (by omega) (by decide) rfl ?_
  refine az_i2l C dX3_buy_40 ?_
  refine az_lmul C dX3_buy_41 ?_
  refine az_lstore C (lv' := [(4, .long (((u.toInt64) * ((x.1 11 r).toInt64)))), (3, .ref (ρ.2.2.1 k)), (0, .ref (ρ.1 0)), (1, .int (nI k)), (2, .int u)]) dX3_buy_42 (by decide) rfl ?_
  refine az_lload C 0 dX3_buy_44 rfl ?_
  refine az_aload_n C 2 dX3_buy_46 rfl ?_
  refine az_get C cX3 0 0 9 (v := .long x.2.2.2) wl_X3_44 dX3_buy_47 rfl rfl rfl (by decide) ?_
  refine az_lcmp C dX3_buy_50 ?_
  refine az_if_le C 64 dX3_buy_51 (by decide) (fun q => absurd q hp) (fun _ => ?_)
  exact az_thrS_ISE C hG (List.mem_of_getElem? (i := 24) rfl) dX3_buy_54 dX3_buy_57 dX3_buy_58 dX3_buy_60 dX3_buy_63 (Nat.le_of_ble_eq_true rfl) (Nat.le_of_ble_eq_true rfl) (Nat.le_of_ble_eq_true rfl) (Nat.le_of_ble_eq_true rfl) (Nat.le_of_ble_eq_true rfl) (Nat.le_of_ble_eq_true rfl) ⟨rfl, rfl, rfl⟩

set_option maxHeartbeats 4000000 in
set_option maxRecDepth 100000 in
theorem Xbuy4 (hG : az_okS l G) (nb k : Nat) (hb : x.1 0 7 = nI nb) (hnb : nb = ρ.2.2.2.2.2) (hn : nb ≤ 8) (hk : k + 1 ≤ nb) (u : Int32) (hu : ¬ inI u 1 999 = 0) (r : Nat) (hr6 : r < 6) (hat : x.2.1 k 4 = nI r) (ha : ¬ x.1 2 r < 1) (ht : ¬ x.2.1 k 3 < 1) (hf : floatX x k r u = 1) (hp : lg_cmp (costX x r u) x.2.2.2 ≤ 0) : az_M l G yX3_buy (az_ws yX3_buy cX3_buy 6 (Option.some FieldType.long)) 4 [.ref (ρ.1 0), .int (nI k), .int u] (AD ρ) (KK G ρ x m ou) 0 0 (az_r (some (.long ((buyX x k r u).2.2.2))) (AD ρ) (KK G ρ (buyX x k r u) m ou)) := by
  refine az_start hG.1 (by decide +kernel) (Nat.le_of_ble_eq_true rfl) ?_
  intro p e s mm args below meth c C hnm
  show az_W l G 6 _ p e _ s mm args below meth c _ _ 0 0 0 [(0, .ref (ρ.1 0)), (1, .int (nI k)), (2, .int u)] []
  refine az_aload_n C 0 dX3_buy_0 rfl ?_
  refine az_iload_n C 1 dX3_buy_1 rfl ?_
  refine az_callV C Y_X3_bargeNumbered cX3 0 0 [.int (nI k)] [] wm_X3_155 wi_X3_bargeNumbered wse_X3_bargeNumbered dX3_buy_2 rfl rfl rfl (Xbarge1 hG nb k hb hnb hn hk) rfl (Nat.le_of_ble_eq_true rfl) (Nat.le_of_ble_eq_true rfl) (Nat.le_of_ble_eq_true rfl) (Nat.le_of_ble_eq_true rfl) (Nat.le_of_ble_eq_true rfl) (az_k1 rfl rfl ?_) (az_k0 rfl)
  refine az_astore_n C (lv' := [(3, .ref (ρ.2.2.1 k)), (0, .ref (ρ.1 0)), (1, .int (nI k)), (2, .int u)]) (j := 3) rfl dX3_buy_5 (by decide) rfl ?_
  refine az_iload_n C 3 dX3_buy_6 rfl ?_
  refine az_callS C Y_X3_needTons [.int u] [] wm_X3_243 wst_X3_needTons dX3_buy_7 rfl (XneedTons1 hG (u) hu) rfl (Nat.le_of_ble_eq_true rfl) (Nat.le_of_ble_eq_true rfl) (Nat.le_of_ble_eq_true rfl) (Nat.le_of_ble_eq_true rfl) (Nat.le_of_ble_eq_true rfl) (az_k1 rfl rfl ?_) (az_k0 rfl)
  refine az_aload_n C 1 dX3_buy_10 rfl ?_
  refine az_aload_n C 0 dX3_buy_11 rfl ?_
  refine az_iload_n C 3 dX3_buy_12 rfl ?_
  refine az_callV C Y_X3_floatsWith cX3 0 0 [.ref (ρ.2.2.1 k), .int u] [] wm_X3_169 wi_X3_floatsWith wse_X3_floatsWith dX3_buy_13 rfl rfl rfl (Xfloats hG k (show k < ρ.2.2.2.2.2 by omega) (u) r hr6 hat ha ht) rfl (Nat.le_of_ble_eq_true rfl) (Nat.le_of_ble_eq_true rfl) (Nat.le_of_ble_eq_true rfl) (Nat.le_of_ble_eq_true rfl) (Nat.le_of_ble_eq_true rfl) (az_k1 rfl rfl ?_) (az_k0 rfl)
  refine az_top (1) hf ?_
  refine az_if_ne C 29 dX3_buy_16 (by decide) (fun _ => ?_) (fun q => absurd q (by decide))
  refine az_iload_n C 3 dX3_buy_29 rfl ?_
  refine az_i2l C dX3_buy_30 ?_
  refine az_aload_n C 1 dX3_buy_31 rfl ?_
  refine az_get C cX3 0 0 3 (v := .ref (ρ.1 11)) wl_X3_23 dX3_buy_32 rfl rfl rfl (by decide) ?_
  refine az_aload_n C 0 dX3_buy_35 rfl ?_
  refine az_getN C cX0 1 k 4 (v := .int (x.2.1 k 4)) (az_bw C hG nx_X3_159 rfl) dX3_buy_36 rfl (KK_b (show k < ρ.2.2.2.2.2 by omega)) rfl (by decide) ?_
  refine az_top (nI r) hat ?_
  refine az_ialdN C 0 11 r (v := x.1 11 r) dX3_buy_39 rfl rfl (by omega) (by decide) rfl ?_
  refine az_i2l C dX3_buy_40 ?_
  refine az_lmul C dX3_buy_41 ?_
  refine az_lstore C (lv' := [(4, .long (((u.toInt64) * ((x.1 11 r).toInt64)))), (3, .ref (ρ.2.2.1 k)), (0, .ref (ρ.1 0)), (1, .int (nI k)), (2, .int u)]) dX3_buy_42 (by decide) rfl ?_
  refine az_lload C 0 dX3_buy_44 rfl ?_
  refine az_aload_n C 2 dX3_buy_46 rfl ?_
  refine az_get C cX3 0 0 9 (v := .long x.2.2.2) wl_X3_44 dX3_buy_47 rfl rfl rfl (by decide) ?_
  refine az_lcmp C dX3_buy_50 ?_
  refine az_if_le C 64 dX3_buy_51 (by decide) (fun _ => ?_) (fun q => absurd hp q)
  refine az_aload_n C 1 dX3_buy_64 rfl ?_
  refine az_dup C dX3_buy_65 rfl ?_
  refine az_getN C cX0 1 k 5 (v := .int (x.2.1 k 5)) (az_bw C hG nx_X3_162 rfl) dX3_buy_66 rfl (KK_b (show k < ρ.2.2.2.2.2 by omega)) rfl (by decide) ?_
  refine az_iload_n C 4 dX3_buy_69 rfl ?_
  refine az_iadd C dX3_buy_70 ?_
  refine az_putN C cX0 1 k 5 (az_bw C hG nx_X3_162 rfl) dX3_buy_71 rfl (KK_b (show k < ρ.2.2.2.2.2 by omega)) (by decide) (Nat.le_of_ble_eq_true rfl) rfl rfl rfl (az_to rfl (K' := (KK G ρ (xY x k 5 ((x.2.1 k 5 + u))) m ou)) (KK_Y (x := x) (k := 5) (v := (x.2.1 k 5 + u)) (show k < ρ.2.2.2.2.2 by omega)) ?_)
  refine az_aload_n C 2 dX3_buy_74 rfl ?_
  refine az_dup C dX3_buy_75 rfl ?_
  refine az_get C cX3 0 0 9 (v := .long x.2.2.2) wl_X3_44 dX3_buy_76 rfl rfl rfl (by decide) ?_
  refine az_lload C 0 dX3_buy_79 rfl ?_
  refine az_lsub C dX3_buy_81 ?_
  refine az_put C cX3 0 0 9 wl_X3_44 dX3_buy_82 rfl rfl (by decide) (Nat.le_of_ble_eq_true rfl) rfl rfl rfl (az_to rfl (K' := (KK G ρ (xP (xY x k 5 ((x.2.1 k 5 + u))) ((x.2.2.2 - ((u.toInt64) * ((x.1 11 r).toInt64))))) m ou)) (KK_pu rfl) ?_)
  refine az_aload_n C 2 dX3_buy_85 rfl ?_
  refine az_get C cX3 0 0 9 (v := .long (((x.2.2.2 - ((u.toInt64) * ((x.1 11 r).toInt64)))))) wl_X3_44 dX3_buy_86 rfl rfl rfl (by decide) ?_
  exact az_lret C rfl dX3_buy_89 (Nat.le_of_ble_eq_true rfl) (Nat.le_of_ble_eq_true rfl) ⟨rfl, rfl, rfl⟩

set_option maxHeartbeats 4000000 in
set_option maxRecDepth 100000 in
theorem Xsell0 (hG : az_okS l G) (nb : Nat) (v u : Int32) (hb : x.1 0 7 = nI nb) (hnb : nb = ρ.2.2.2.2.2) (hn : nb ≤ 8) (hv : oo nb v) : az_M l G yX3_sell (az_ws yX3_sell cX3_sell 4 (Option.some FieldType.long)) 7 [.ref (ρ.1 0), .int v, .int u] (AD ρ) (KK G ρ x m ou) 1 6 (az_x "java/lang/IndexOutOfBoundsException" (AD ρ) (KK G ρ x m ou)) := by
  refine az_start hG.1 (by decide +kernel) (Nat.le_of_ble_eq_true rfl) ?_
  intro p e s mm args below meth c C hnm
  show az_W l G 4 _ p e _ s mm args below meth c _ _ 0 0 0 [(0, .ref (ρ.1 0)), (1, .int v), (2, .int u)] []
  refine az_aload_n C 0 dX3_sell_0 rfl ?_
  refine az_iload_n C 1 dX3_sell_1 rfl ?_
  refine az_callV C Y_X3_bargeNumbered cX3 0 0 [.int v] [] wm_X3_155 wi_X3_bargeNumbered wse_X3_bargeNumbered dX3_sell_2 rfl rfl rfl (Xbarge0 hG nb v hb hnb hn hv) rfl (Nat.le_of_ble_eq_true rfl) (Nat.le_of_ble_eq_true rfl) (Nat.le_of_ble_eq_true rfl) (Nat.le_of_ble_eq_true rfl) (Nat.le_of_ble_eq_true rfl) (az_x0 rfl) (az_x1 rfl ?_)
  exact az_out C (fun _ h => by cases h) (Nat.le_of_ble_eq_true rfl) (Nat.le_of_ble_eq_true rfl) ⟨rfl, rfl, rfl⟩

set_option maxHeartbeats 4000000 in
set_option maxRecDepth 100000 in
theorem Xsell1 (hG : az_okS l G) (nb k : Nat) (hb : x.1 0 7 = nI nb) (hnb : nb = ρ.2.2.2.2.2) (hn : nb ≤ 8) (hk : k + 1 ≤ nb) (u : Int32) (hu : inI u 1 999 = 0) : az_M l G yX3_sell (az_ws yX3_sell cX3_sell 4 (Option.some FieldType.long)) 7 [.ref (ρ.1 0), .int (nI k), .int u] (AD ρ) (KK G ρ x m ou) 1 6 (az_x "java/lang/IllegalArgumentException" (AD ρ) (KK G ρ x m ou)) := by
  refine az_start hG.1 (by decide +kernel) (Nat.le_of_ble_eq_true rfl) ?_
  intro p e s mm args below meth c C hnm
  show az_W l G 4 _ p e _ s mm args below meth c _ _ 0 0 0 [(0, .ref (ρ.1 0)), (1, .int (nI k)), (2, .int u)] []
  refine az_aload_n C 0 dX3_sell_0 rfl ?_
  refine az_iload_n C 1 dX3_sell_1 rfl ?_
  refine az_callV C Y_X3_bargeNumbered cX3 0 0 [.int (nI k)] [] wm_X3_155 wi_X3_bargeNumbered wse_X3_bargeNumbered dX3_sell_2 rfl rfl rfl (Xbarge1 hG nb k hb hnb hn hk) rfl (Nat.le_of_ble_eq_true rfl) (Nat.le_of_ble_eq_true rfl) (Nat.le_of_ble_eq_true rfl) (Nat.le_of_ble_eq_true rfl) (Nat.le_of_ble_eq_true rfl) (az_k1 rfl rfl ?_) (az_k0 rfl)
  refine az_astore_n C (lv' := [(3, .ref (ρ.2.2.1 k)), (0, .ref (ρ.1 0)), (1, .int (nI k)), (2, .int u)]) (j := 3) rfl dX3_sell_5 (by decide) rfl ?_
  refine az_iload_n C 3 dX3_sell_6 rfl ?_
  refine az_callS C Y_X3_needTons [.int u] [] wm_X3_243 wst_X3_needTons dX3_sell_7 rfl (XneedTons0 hG (u) hu) rfl (Nat.le_of_ble_eq_true rfl) (Nat.le_of_ble_eq_true rfl) (Nat.le_of_ble_eq_true rfl) (Nat.le_of_ble_eq_true rfl) (Nat.le_of_ble_eq_true rfl) (az_x0 rfl) (az_x1 rfl ?_)
  exact az_out C (fun _ h => by cases h) (Nat.le_of_ble_eq_true rfl) (Nat.le_of_ble_eq_true rfl) ⟨rfl, rfl, rfl⟩

set_option maxHeartbeats 4000000 in
set_option maxRecDepth 100000 in
theorem Xsell2 (hG : az_okS l G) (nb k : Nat) (hb : x.1 0 7 = nI nb) (hnb : nb = ρ.2.2.2.2.2) (hn : nb ≤ 8) (hk : k + 1 ≤ nb) (u : Int32) (hu : ¬ inI u 1 999 = 0) (hc : x.2.1 k 5 < u) : az_M l G yX3_sell (az_ws yX3_sell cX3_sell 4 (Option.some FieldType.long)) 6 [.ref (ρ.1 0), .int (nI k), .int u] (AD ρ) (KK G ρ x m ou) 1 6 (az_x "java/lang/IllegalStateException" (AD ρ) (KK G ρ x m ou)) := by
  refine az_start hG.1 (by decide +kernel) (Nat.le_of_ble_eq_true rfl) ?_
  intro p e s mm args below meth c C hnm
  show az_W l G 4 _ p e _ s mm args below meth c _ _ 0 0 0 [(0, .ref (ρ.1 0)), (1, .int (nI k)), (2, .int u)] []
  refine az_aload_n C 0 dX3_sell_0 rfl ?_
  refine az_iload_n C 1 dX3_sell_1 rfl ?_
  refine az_callV C Y_X3_bargeNumbered cX3 0 0 [.int (nI k)] [] wm_X3_155 wi_X3_bargeNumbered wse_X3_bargeNumbered dX3_sell_2 rfl rfl rfl (Xbarge1 hG nb k hb hnb hn hk) rfl (Nat.le_of_ble_eq_true rfl) (Nat.le_of_ble_eq_true rfl) (Nat.le_of_ble_eq_true rfl) (Nat.le_of_ble_eq_true rfl) (Nat.le_of_ble_eq_true rfl) (az_k1 rfl rfl ?_) (az_k0 rfl)
  refine az_astore_n C (lv' := [(3, .ref (ρ.2.2.1 k)), (0, .ref (ρ.1 0)), (1, .int (nI k)), (2, .int u)]) (j := 3) rfl dX3_sell_5 (by decide) rfl ?_
  refine az_iload_n C 3 dX3_sell_6 rfl ?_
  refine az_callS C Y_X3_needTons [.int u] [] wm_X3_243 wst_X3_needTons dX3_sell_7 rfl (XneedTons1 hG (u) hu) rfl (Nat.le_of_ble_eq_true rfl) (Nat.le_of_ble_eq_true rfl) (Nat.le_of_ble_eq_true rfl) (Nat.le_of_ble_eq_true rfl) (Nat.le_of_ble_eq_true rfl) (az_k1 rfl rfl ?_) (az_k0 rfl)
  refine az_aload_n C 0 dX3_sell_10 rfl ?_
  refine az_getN C cX0 1 k 5 (v := .int (x.2.1 k 5)) (az_bw C hG nx_X3_162 rfl) dX3_sell_11 rfl (KK_b (show k < ρ.2.2.2.2.2 by omega)) rfl (by decide) ?_
  refine az_iload_n C 3 dX3_sell_14 rfl ?_
  refine az_icmp_ge C 28 dX3_sell_15 (by decide) (fun q => absurd q (Int32.not_le.mpr hc)) (fun _ => ?_)
  exact az_thrS_ISE C hG (List.mem_of_getElem? (i := 25) rfl) dX3_sell_18 dX3_sell_21 dX3_sell_22 dX3_sell_24 dX3_sell_27 (Nat.le_of_ble_eq_true rfl) (Nat.le_of_ble_eq_true rfl) (Nat.le_of_ble_eq_true rfl) (Nat.le_of_ble_eq_true rfl) (Nat.le_of_ble_eq_true rfl) (Nat.le_of_ble_eq_true rfl) ⟨rfl, rfl, rfl⟩

set_option maxHeartbeats 4000000 in
set_option maxRecDepth 100000 in
theorem Xsell3 (hG : az_okS l G) (nb k : Nat) (hb : x.1 0 7 = nI nb) (hnb : nb = ρ.2.2.2.2.2) (hn : nb ≤ 8) (hk : k + 1 ≤ nb) (u : Int32) (hu : ¬ inI u 1 999 = 0) (r : Nat) (hr6 : r < 6) (hat : x.2.1 k 4 = nI r) (hc : u ≤ x.2.1 k 5) : az_M l G yX3_sell (az_ws yX3_sell cX3_sell 4 (Option.some FieldType.long)) 4 [.ref (ρ.1 0), .int (nI k), .int u] (AD ρ) (KK G ρ x m ou) 0 0 (az_r (some (.long ((unloadX x k r u).2.2.2))) (AD ρ) (KK G ρ (unloadX x k r u) m ou)) := by
  refine az_start hG.1 (by decide +kernel) (Nat.le_of_ble_eq_true rfl) ?_
  intro p e s mm args below meth c C hnm
  show az_W l G 4 _ p e _ s mm args below meth c _ _ 0 0 0 [(0, .ref (ρ.1 0)), (1, .int (nI k)), (2, .int u)] []
  refine az_aload_n C 0 dX3_sell_0 rfl ?_
  refine az_iload_n C 1 dX3_sell_1 rfl ?_
  refine az_callV C Y_X3_bargeNumbered cX3 0 0 [.int (nI k)] [] wm_X3_155 wi_X3_bargeNumbered wse_X3_bargeNumbered dX3_sell_2 rfl rfl rfl (Xbarge1 hG nb k hb hnb hn hk) rfl (Nat.le_of_ble_eq_true rfl) (Nat.le_of_ble_eq_true rfl) (Nat.le_of_ble_eq_true rfl) (Nat.le_of_ble_eq_true rfl) (Nat.le_of_ble_eq_true rfl) (az_k1 rfl rfl ?_) (az_k0 rfl)
  refine az_astore_n C (lv' := [(3, .ref (ρ.2.2.1 k)), (0, .ref (ρ.1 0)), (1, .int (nI k)), (2, .int u)]) (j := 3) rfl dX3_sell_5 (by decide) rfl ?_
  refine az_iload_n C 3 dX3_sell_6 rfl ?_
  refine az_callS C Y_X3_needTons [.int u] [] wm_X3_243 wst_X3_needTons dX3_sell_7 rfl (XneedTons1 hG (u) hu) rfl (Nat.le_of_ble_eq_true rfl) (Nat.le_of_ble_eq_true rfl) (Nat.le_of_ble_eq_true rfl) (Nat.le_of_ble_eq_true rfl) (Nat.le_of_ble_eq_true rfl) (az_k1 rfl rfl ?_) (az_k0 rfl)
  refine az_aload_n C 0 dX3_sell_10 rfl ?_
  refine az_getN C cX0 1 k 5 (v := .int (x.2.1 k 5)) (az_bw C hG nx_X3_162 rfl) dX3_sell_11 rfl (KK_b (show k < ρ.2.2.2.2.2 by omega)) rfl (by decide) ?_
  refine az_iload_n C 3 dX3_sell_14 rfl ?_
  refine az_icmp_ge C 28 dX3_sell_15 (by decide) (fun _ => ?_) (fun q => absurd hc q)
  refine az_aload_n C 1 dX3_sell_28 rfl ?_
  refine az_aload_n C 0 dX3_sell_29 rfl ?_
  refine az_iload_n C 3 dX3_sell_30 rfl ?_
  refine az_callV C Y_X3_unload cX3 0 0 [.ref (ρ.2.2.1 k), .int u] [] wm_X3_250 wi_X3_unload wse_X3_unload dX3_sell_31 rfl rfl rfl (Xunload hG k (show k < ρ.2.2.2.2.2 by omega) (u) r hr6 hat) rfl (Nat.le_of_ble_eq_true rfl) (Nat.le_of_ble_eq_true rfl) (Nat.le_of_ble_eq_true rfl) (Nat.le_of_ble_eq_true rfl) (Nat.le_of_ble_eq_true rfl) (az_k1 rfl rfl ?_) (az_k0 rfl)
  refine az_aload_n C 1 dX3_sell_34 rfl ?_
  refine az_get C cX3 0 0 9 (v := .long ((unloadX x k r u).2.2.2)) wl_X3_44 dX3_sell_35 rfl rfl rfl (by decide) ?_
  exact az_lret C rfl dX3_sell_38 (Nat.le_of_ble_eq_true rfl) (Nat.le_of_ble_eq_true rfl) ⟨rfl, rfl, rfl⟩

set_option maxHeartbeats 4000000 in
set_option maxRecDepth 100000 in
theorem XsellTo0 (hG : az_okS l G) (nb : Nat) (v u : Int32) (hb : x.1 0 7 = nI nb) (hnb : nb = ρ.2.2.2.2.2) (hn : nb ≤ 8) (hv : oo nb v) : az_M l G yX3_sellToDraught (az_ws yX3_sellToDraught cX3_sellToDraught 5 (Option.some FieldType.int)) 7 [.ref (ρ.1 0), .int v, .int u] (AD ρ) (KK G ρ x m ou) 1 6 (az_x "java/lang/IndexOutOfBoundsException" (AD ρ) (KK G ρ x m ou)) := by
  refine az_start hG.1 (by decide +kernel) (Nat.le_of_ble_eq_true rfl) ?_
  intro p e s mm args below meth c C hnm
  show az_W l G 5 _ p e _ s mm args below meth c _ _ 0 0 0 [(0, .ref (ρ.1 0)), (1, .int v), (2, .int u)] []
  refine az_aload_n C 0 dX3_sellToDraught_0 rfl ?_
  refine az_iload_n C 1 dX3_sellToDraught_1 rfl ?_
  refine az_callV C Y_X3_bargeNumbered cX3 0 0 [.int v] [] wm_X3_155 wi_X3_bargeNumbered wse_X3_bargeNumbered dX3_sellToDraught_2 rfl rfl rfl (Xbarge0 hG nb v hb hnb hn hv) rfl (Nat.le_of_ble_eq_true rfl) (Nat.le_of_ble_eq_true rfl) (Nat.le_of_ble_eq_true rfl) (Nat.le_of_ble_eq_true rfl) (Nat.le_of_ble_eq_true rfl) (az_x0 rfl) (az_x1 rfl ?_)
  exact az_out C (fun _ h => by cases h) (Nat.le_of_ble_eq_true rfl) (Nat.le_of_ble_eq_true rfl) ⟨rfl, rfl, rfl⟩

set_option maxHeartbeats 4000000 in
set_option maxRecDepth 100000 in
theorem XsellTo1 (hG : az_okS l G) (nb k : Nat) (hb : x.1 0 7 = nI nb) (hnb : nb = ρ.2.2.2.2.2) (hn : nb ≤ 8) (hk : k + 1 ≤ nb) (u : Int32) (hu : inI u 1 60 = 0) : az_M l G yX3_sellToDraught (az_ws yX3_sellToDraught cX3_sellToDraught 5 (Option.some FieldType.int)) 6 [.ref (ρ.1 0), .int (nI k), .int u] (AD ρ) (KK G ρ x m ou) 1 6 (az_x "java/lang/IllegalArgumentException" (AD ρ) (KK G ρ x m ou)) := by
  refine az_start hG.1 (by decide +kernel) (Nat.le_of_ble_eq_true rfl) ?_
  intro p e s mm args below meth c C hnm
  show az_W l G 5 _ p e _ s mm args below meth c _ _ 0 0 0 [(0, .ref (ρ.1 0)), (1, .int (nI k)), (2, .int u)] []
  refine az_aload_n C 0 dX3_sellToDraught_0 rfl ?_
  refine az_iload_n C 1 dX3_sellToDraught_1 rfl ?_
  refine az_callV C Y_X3_bargeNumbered cX3 0 0 [.int (nI k)] [] wm_X3_155 wi_X3_bargeNumbered wse_X3_bargeNumbered dX3_sellToDraught_2 rfl rfl rfl (Xbarge1 hG nb k hb hnb hn hk) rfl (Nat.le_of_ble_eq_true rfl) (Nat.le_of_ble_eq_true rfl) (Nat.le_of_ble_eq_true rfl) (Nat.le_of_ble_eq_true rfl) (Nat.le_of_ble_eq_true rfl) (az_k1 rfl rfl ?_) (az_k0 rfl)
  refine az_astore_n C (lv' := [(3, .ref (ρ.2.2.1 k)), (0, .ref (ρ.1 0)), (1, .int (nI k)), (2, .int u)]) (j := 3) rfl dX3_sellToDraught_5 (by decide) rfl ?_
  refine az_iload_n C 3 dX3_sellToDraught_6 rfl ?_
  refine az_iconst C (v := 1) dX3_sellToDraught_7 (by decide) ?_
  refine az_bipush C (v := 60) dX3_sellToDraught_8 (by decide) ?_
  refine az_callS C Y_X3_isWithin [.int u, .int 1, .int 60] [] wm_X3_56 wst_X3_isWithin dX3_sellToDraught_10 rfl (Xwithin hG (u) (1) (60)) rfl (Nat.le_of_ble_eq_true rfl) (Nat.le_of_ble_eq_true rfl) (Nat.le_of_ble_eq_true rfl) (Nat.le_of_ble_eq_true rfl) (Nat.le_of_ble_eq_true rfl) (az_k1 rfl rfl ?_) (az_k0 rfl)
  refine az_if_ne C 26 dX3_sellToDraught_13 (by decide) (fun q => absurd hu q) (fun _ => ?_)
  exact az_thrS_IAE C hG (List.mem_of_getElem? (i := 14) rfl) dX3_sellToDraught_16 dX3_sellToDraught_19 dX3_sellToDraught_20 dX3_sellToDraught_22 dX3_sellToDraught_25 (Nat.le_of_ble_eq_true rfl) (Nat.le_of_ble_eq_true rfl) (Nat.le_of_ble_eq_true rfl) (Nat.le_of_ble_eq_true rfl) (Nat.le_of_ble_eq_true rfl) (Nat.le_of_ble_eq_true rfl) ⟨rfl, rfl, rfl⟩

set_option maxHeartbeats 4000000 in
set_option maxRecDepth 100000 in
theorem XsellTo2 (hG : az_okS l G) (nb k : Nat) (hb : x.1 0 7 = nI nb) (hnb : nb = ρ.2.2.2.2.2) (hn : nb ≤ 8) (hk : k + 1 ≤ nb) (u : Int32) (hu : ¬ inI u 1 60 = 0) (hh : ¬ x.2.1 k 2 ≤ u) : az_M l G yX3_sellToDraught (az_ws yX3_sellToDraught cX3_sellToDraught 5 (Option.some FieldType.int)) 6 [.ref (ρ.1 0), .int (nI k), .int u] (AD ρ) (KK G ρ x m ou) 1 6 (az_x "java/lang/IllegalStateException" (AD ρ) (KK G ρ x m ou)) := by
  refine az_start hG.1 (by decide +kernel) (Nat.le_of_ble_eq_true rfl) ?_
  intro p e s mm args below meth c C hnm
  show az_W l G 5 _ p e _ s mm args below meth c _ _ 0 0 0 [(0, .ref (ρ.1 0)), (1, .int (nI k)), (2, .int u)] []
  refine az_aload_n C 0 dX3_sellToDraught_0 rfl ?_
  refine az_iload_n C 1 dX3_sellToDraught_1 rfl ?_
  refine az_callV C Y_X3_bargeNumbered cX3 0 0 [.int (nI k)] [] wm_X3_155 wi_X3_bargeNumbered wse_X3_bargeNumbered dX3_sellToDraught_2 rfl rfl rfl (Xbarge1 hG nb k hb hnb hn hk) rfl (Nat.le_of_ble_eq_true rfl) (Nat.le_of_ble_eq_true rfl) (Nat.le_of_ble_eq_true rfl) (Nat.le_of_ble_eq_true rfl) (Nat.le_of_ble_eq_true rfl) (az_k1 rfl rfl ?_) (az_k0 rfl)
  refine az_astore_n C (lv' := [(3, .ref (ρ.2.2.1 k)), (0, .ref (ρ.1 0)), (1, .int (nI k)), (2, .int u)]) (j := 3) rfl dX3_sellToDraught_5 (by decide) rfl ?_
  refine az_iload_n C 3 dX3_sellToDraught_6 rfl ?_
  refine az_iconst C (v := 1) dX3_sellToDraught_7 (by decide) ?_
  refine az_bipush C (v := 60) dX3_sellToDraught_8 (by decide) ?_
  refine az_callS C Y_X3_isWithin [.int u, .int 1, .int 60] [] wm_X3_56 wst_X3_isWithin dX3_sellToDraught_10 rfl (Xwithin hG (u) (1) (60)) rfl (Nat.le_of_ble_eq_true rfl) (Nat.le_of_ble_eq_true rfl) (Nat.le_of_ble_eq_true rfl) (Nat.le_of_ble_eq_true rfl) (Nat.le_of_ble_eq_true rfl) (az_k1 rfl rfl ?_) (az_k0 rfl)
  refine az_if_ne C 26 dX3_sellToDraught_13 (by decide) (fun _ => ?_) (fun q => absurd q hu)
  refine az_aload_n C 0 dX3_sellToDraught_26 rfl ?_
  refine az_getN C cX0 1 k 2 (v := .int (x.2.1 k 2)) (az_bw C hG nx_X3_256 rfl) dX3_sellToDraught_27 rfl (KK_b (show k < ρ.2.2.2.2.2 by omega)) rfl (by decide) ?_
  refine az_iload_n C 3 dX3_sellToDraught_30 rfl ?_
  refine az_icmp_le C 45 dX3_sellToDraught_31 (by decide) (fun q => absurd q hh) (fun _ => ?_)
  exact az_thrSW_ISE C hG (List.mem_of_getElem? (i := 15) rfl) dX3_sellToDraught_34 dX3_sellToDraught_37 dX3_sellToDraught_38 dX3_sellToDraught_41 dX3_sellToDraught_44 (Nat.le_of_ble_eq_true rfl) (Nat.le_of_ble_eq_true rfl) (Nat.le_of_ble_eq_true rfl) (Nat.le_of_ble_eq_true rfl) (Nat.le_of_ble_eq_true rfl) (Nat.le_of_ble_eq_true rfl) ⟨rfl, rfl, rfl⟩

def stdX (x : Xs) (k : Nat) (u : Int32) : Int32 := if 0 < x.2.1 k 5 - (u - x.2.1 k 2) * x.2.1 k 3 then x.2.1 k 5 - (u - x.2.1 k 2) * x.2.1 k 3 else 0
set_option maxHeartbeats 4000000 in
set_option maxRecDepth 100000 in
theorem XsellTo3 (hG : az_okS l G) (nb k : Nat) (hb : x.1 0 7 = nI nb) (hnb : nb = ρ.2.2.2.2.2) (hn : nb ≤ 8) (hk : k + 1 ≤ nb) (u : Int32) (hu : ¬ inI u 1 60 = 0) (hh : x.2.1 k 2 ≤ u) (r : Nat) (hr6 : r < 6) (hat : x.2.1 k 4 = nI r) : az_M l G yX3_sellToDraught (az_ws yX3_sellToDraught cX3_sellToDraught 5 (Option.some FieldType.int)) 4 [.ref (ρ.1 0), .int (nI k), .int u] (AD ρ) (KK G ρ x m ou) 0 0 (az_r (some (.int (stdX x k u))) (AD ρ) (KK G ρ (unloadX x k r (stdX x k u)) m ou)) := by
  refine az_start hG.1 (by decide +kernel) (Nat.le_of_ble_eq_true rfl) ?_
  intro p e s mm args below meth c C hnm
  show az_W l G 5 _ p e _ s mm args below meth c _ _ 0 0 0 [(0, .ref (ρ.1 0)), (1, .int (nI k)), (2, .int u)] []
  refine az_aload_n C 0 dX3_sellToDraught_0 rfl ?_
  refine az_iload_n C 1 dX3_sellToDraught_1 rfl ?_
  refine az_callV C Y_X3_bargeNumbered cX3 0 0 [.int (nI k)] [] wm_X3_155 wi_X3_bargeNumbered wse_X3_bargeNumbered dX3_sellToDraught_2 rfl rfl rfl (Xbarge1 hG nb k hb hnb hn hk) rfl (Nat.le_of_ble_eq_true rfl) (Nat.le_of_ble_eq_true rfl) (Nat.le_of_ble_eq_true rfl) (Nat.le_of_ble_eq_true rfl) (Nat.le_of_ble_eq_true rfl) (az_k1 rfl rfl ?_) (az_k0 rfl)
  refine az_astore_n C (lv' := [(3, .ref (ρ.2.2.1 k)), (0, .ref (ρ.1 0)), (1, .int (nI k)), (2, .int u)]) (j := 3) rfl dX3_sellToDraught_5 (by decide) rfl ?_
  refine az_iload_n C 3 dX3_sellToDraught_6 rfl ?_
  refine az_iconst C (v := 1) dX3_sellToDraught_7 (by decide) ?_
  refine az_bipush C (v := 60) dX3_sellToDraught_8 (by decide) ?_
  refine az_callS C Y_X3_isWithin [.int u, .int 1, .int 60] [] wm_X3_56 wst_X3_isWithin dX3_sellToDraught_10 rfl (Xwithin hG (u) (1) (60)) rfl (Nat.le_of_ble_eq_true rfl) (Nat.le_of_ble_eq_true rfl) (Nat.le_of_ble_eq_true rfl) (Nat.le_of_ble_eq_true rfl) (Nat.le_of_ble_eq_true rfl) (az_k1 rfl rfl ?_) (az_k0 rfl)
  refine az_if_ne C 26 dX3_sellToDraught_13 (by decide) (fun _ => ?_) (fun q => absurd q hu)
  refine az_aload_n C 0 dX3_sellToDraught_26 rfl ?_
  refine az_getN C cX0 1 k 2 (v := .int (x.2.1 k 2)) (az_bw C hG nx_X3_256 rfl) dX3_sellToDraught_27 rfl (KK_b (show k < ρ.2.2.2.2.2 by omega)) rfl (by decide) ?_
  refine az_iload_n C 3 dX3_sellToDraught_30 rfl ?_
  refine az_icmp_le C 45 dX3_sellToDraught_31 (by decide) (fun _ => ?_) (fun q => absurd hh q)
  refine az_iconst C (v := 0) dX3_sellToDraught_45 (by decide) ?_
  refine az_aload_n C 0 dX3_sellToDraught_46 rfl ?_
  refine az_getN C cX0 1 k 5 (v := .int (x.2.1 k 5)) (az_bw C hG nx_X3_162 rfl) dX3_sellToDraught_47 rfl (KK_b (show k < ρ.2.2.2.2.2 by omega)) rfl (by decide) ?_
  refine az_aload_n C 0 dX3_sellToDraught_50 rfl ?_
  refine az_iload_n C 3 dX3_sellToDraught_51 rfl ?_
  refine az_callV C Y_X0_greatestCargo cX0 1 k [.int u] [.int (x.2.1 k 5), .int 0] wm_X3_261 wi_X0_greatestCargo wse_X0_greatestCargo dX3_sellToDraught_52 rfl (KK_b (show k < ρ.2.2.2.2.2 by omega)) rfl (XgCargo hG k (show k < ρ.2.2.2.2.2 by omega) (u)) rfl (Nat.le_of_ble_eq_true rfl) (Nat.le_of_ble_eq_true rfl) (Nat.le_of_ble_eq_true rfl) (Nat.le_of_ble_eq_true rfl) (Nat.le_of_ble_eq_true rfl) (az_k1 rfl rfl ?_) (az_k0 rfl)
  refine az_isub C dX3_sellToDraught_55 ?_
  refine az_mmax C wm_X3_264 wst_max wini_Math wc_max (Nat.le_of_ble_eq_true rfl) (Nat.le_of_ble_eq_true rfl) (Nat.le_of_ble_eq_true rfl) (Nat.le_of_ble_eq_true rfl) dX3_sellToDraught_56 ?_
  refine az_top (stdX x k u) rfl ?_
  refine az_istore C (lv' := [(4, .int (stdX x k u)), (3, .ref (ρ.2.2.1 k)), (0, .ref (ρ.1 0)), (1, .int (nI k)), (2, .int u)]) dX3_sellToDraught_59 (by decide) rfl ?_
  refine az_aload_n C 2 dX3_sellToDraught_61 rfl ?_
  refine az_aload_n C 1 dX3_sellToDraught_62 rfl ?_
  refine az_iload C 0 dX3_sellToDraught_63 rfl ?_
  refine az_callV C Y_X3_unload cX3 0 0 [.ref (ρ.2.2.1 k), .int (stdX x k u)] [] wm_X3_250 wi_X3_unload wse_X3_unload dX3_sellToDraught_65 rfl rfl rfl (Xunload hG k (show k < ρ.2.2.2.2.2 by omega) (stdX x k u) r hr6 hat) rfl (Nat.le_of_ble_eq_true rfl) (Nat.le_of_ble_eq_true rfl) (Nat.le_of_ble_eq_true rfl) (Nat.le_of_ble_eq_true rfl) (Nat.le_of_ble_eq_true rfl) (az_k1 rfl rfl ?_) (az_k0 rfl)
  refine az_iload C 0 dX3_sellToDraught_68 rfl ?_
  exact az_iret C rfl dX3_sellToDraught_70 (Nat.le_of_ble_eq_true rfl) (Nat.le_of_ble_eq_true rfl) ⟨rfl, rfl, rfl⟩

set_option maxHeartbeats 4000000 in
set_option maxRecDepth 100000 in
theorem XgLoad0 (hG : az_okS l G) (nb : Nat) (v : Int32) (hb : x.1 0 7 = nI nb) (hnb : nb = ρ.2.2.2.2.2) (hn : nb ≤ 8) (hv : oo nb v) : az_M l G yX3_greatestLoad (az_ws yX3_greatestLoad cX3_greatestLoad 3 (Option.some FieldType.int)) 7 [.ref (ρ.1 0), .int v] (AD ρ) (KK G ρ x m ou) 1 6 (az_x "java/lang/IndexOutOfBoundsException" (AD ρ) (KK G ρ x m ou)) := by
  refine az_start hG.1 (by decide +kernel) (Nat.le_of_ble_eq_true rfl) ?_
  intro p e s mm args below meth c C hnm
  show az_W l G 3 _ p e _ s mm args below meth c _ _ 0 0 0 [(0, .ref (ρ.1 0)), (1, .int v)] []
  refine az_aload_n C 0 dX3_greatestLoad_0 rfl ?_
  refine az_iload_n C 1 dX3_greatestLoad_1 rfl ?_
  refine az_callV C Y_X3_bargeNumbered cX3 0 0 [.int v] [] wm_X3_155 wi_X3_bargeNumbered wse_X3_bargeNumbered dX3_greatestLoad_2 rfl rfl rfl (Xbarge0 hG nb v hb hnb hn hv) rfl (Nat.le_of_ble_eq_true rfl) (Nat.le_of_ble_eq_true rfl) (Nat.le_of_ble_eq_true rfl) (Nat.le_of_ble_eq_true rfl) (Nat.le_of_ble_eq_true rfl) (az_x0 rfl) (az_x1 rfl ?_)
  exact az_out C (fun _ h => by cases h) (Nat.le_of_ble_eq_true rfl) (Nat.le_of_ble_eq_true rfl) ⟨rfl, rfl, rfl⟩

set_option maxHeartbeats 4000000 in
set_option maxRecDepth 100000 in
theorem XgLoad2 (hG : az_okS l G) (nb k : Nat) (hb : x.1 0 7 = nI nb) (hnb : nb = ρ.2.2.2.2.2) (hn : nb ≤ 8) (hk : k + 1 ≤ nb) (r : Nat) (hr6 : r < 6) (hat : x.2.1 k 4 = nI r) (ha : ¬ x.1 2 r < 1) (ht : ¬ x.2.1 k 3 < 1) (hf : floatX x k r 0 = 0) : az_M l G yX3_greatestLoad (az_ws yX3_greatestLoad cX3_greatestLoad 3 (Option.some FieldType.int)) 4 [.ref (ρ.1 0), .int (nI k)] (AD ρ) (KK G ρ x m ou) 0 0 (az_r (some (.int 0)) (AD ρ) (KK G ρ x m ou)) := by
  refine az_start hG.1 (by decide +kernel) (Nat.le_of_ble_eq_true rfl) ?_
  intro p e s mm args below meth c C hnm
  show az_W l G 3 _ p e _ s mm args below meth c _ _ 0 0 0 [(0, .ref (ρ.1 0)), (1, .int (nI k))] []
  refine az_aload_n C 0 dX3_greatestLoad_0 rfl ?_
  refine az_iload_n C 1 dX3_greatestLoad_1 rfl ?_
  refine az_callV C Y_X3_bargeNumbered cX3 0 0 [.int (nI k)] [] wm_X3_155 wi_X3_bargeNumbered wse_X3_bargeNumbered dX3_greatestLoad_2 rfl rfl rfl (Xbarge1 hG nb k hb hnb hn hk) rfl (Nat.le_of_ble_eq_true rfl) (Nat.le_of_ble_eq_true rfl) (Nat.le_of_ble_eq_true rfl) (Nat.le_of_ble_eq_true rfl) (Nat.le_of_ble_eq_true rfl) (az_k1 rfl rfl ?_) (az_k0 rfl)
  refine az_astore_n C (lv' := [(2, .ref (ρ.2.2.1 k)), (0, .ref (ρ.1 0)), (1, .int (nI k))]) (j := 2) rfl dX3_greatestLoad_5 (by decide) rfl ?_
  refine az_aload_n C 1 dX3_greatestLoad_6 rfl ?_
  refine az_aload_n C 0 dX3_greatestLoad_7 rfl ?_
  refine az_iconst C (v := 0) dX3_greatestLoad_8 (by decide) ?_
  refine az_callV C Y_X3_floatsWith cX3 0 0 [.ref (ρ.2.2.1 k), .int 0] [] wm_X3_169 wi_X3_floatsWith wse_X3_floatsWith dX3_greatestLoad_9 rfl rfl rfl (Xfloats hG k (show k < ρ.2.2.2.2.2 by omega) (0) r hr6 hat ha ht) rfl (Nat.le_of_ble_eq_true rfl) (Nat.le_of_ble_eq_true rfl) (Nat.le_of_ble_eq_true rfl) (Nat.le_of_ble_eq_true rfl) (Nat.le_of_ble_eq_true rfl) (az_k1 rfl rfl ?_) (az_k0 rfl)
  refine az_top (0) hf ?_
  refine az_if_ne C 17 dX3_greatestLoad_12 (by decide) (fun q => absurd (by decide) q) (fun _ => ?_)
  refine az_iconst C (v := 0) dX3_greatestLoad_15 (by decide) ?_
  exact az_iret C rfl dX3_greatestLoad_16 (Nat.le_of_ble_eq_true rfl) (Nat.le_of_ble_eq_true rfl) ⟨rfl, rfl, rfl⟩

set_option maxHeartbeats 4000000 in
set_option maxRecDepth 100000 in
theorem XgLoad1 (hG : az_okS l G) (nb k : Nat) (hb : x.1 0 7 = nI nb) (hnb : nb = ρ.2.2.2.2.2) (hn : nb ≤ 8) (hk : k + 1 ≤ nb) (r : Nat) (hr6 : r < 6) (hat : x.2.1 k 4 = nI r) (ha : ¬ x.1 2 r < 1) (ht : ¬ x.2.1 k 3 < 1) (hf : floatX x k r 0 = 1) : az_M l G yX3_greatestLoad (az_ws yX3_greatestLoad cX3_greatestLoad 3 (Option.some FieldType.int)) 4 [.ref (ρ.1 0), .int (nI k)] (AD ρ) (KK G ρ x m ou) 0 0 (az_r (some (.int ((((x.1 4 (r + 3) / x.1 2 r - 1) - x.2.1 k 2) * x.2.1 k 3) - x.2.1 k 5))) (AD ρ) (KK G ρ x m ou)) := by
  refine az_start hG.1 (by decide +kernel) (Nat.le_of_ble_eq_true rfl) ?_
  intro p e s mm args below meth c C hnm
  show az_W l G 3 _ p e _ s mm args below meth c _ _ 0 0 0 [(0, .ref (ρ.1 0)), (1, .int (nI k))] []
  refine az_aload_n C 0 dX3_greatestLoad_0 rfl ?_
  refine az_iload_n C 1 dX3_greatestLoad_1 rfl ?_
  refine az_callV C Y_X3_bargeNumbered cX3 0 0 [.int (nI k)] [] wm_X3_155 wi_X3_bargeNumbered wse_X3_bargeNumbered dX3_greatestLoad_2 rfl rfl rfl (Xbarge1 hG nb k hb hnb hn hk) rfl (Nat.le_of_ble_eq_true rfl) (Nat.le_of_ble_eq_true rfl) (Nat.le_of_ble_eq_true rfl) (Nat.le_of_ble_eq_true rfl) (Nat.le_of_ble_eq_true rfl) (az_k1 rfl rfl ?_) (az_k0 rfl)
  refine az_astore_n C (lv' := [(2, .ref (ρ.2.2.1 k)), (0, .ref (ρ.1 0)), (1, .int (nI k))]) (j := 2) rfl dX3_greatestLoad_5 (by decide) rfl ?_
  refine az_aload_n C 1 dX3_greatestLoad_6 rfl ?_
  refine az_aload_n C 0 dX3_greatestLoad_7 rfl ?_
  refine az_iconst C (v := 0) dX3_greatestLoad_8 (by decide) ?_
  refine az_callV C Y_X3_floatsWith cX3 0 0 [.ref (ρ.2.2.1 k), .int 0] [] wm_X3_169 wi_X3_floatsWith wse_X3_floatsWith dX3_greatestLoad_9 rfl rfl rfl (Xfloats hG k (show k < ρ.2.2.2.2.2 by omega) (0) r hr6 hat ha ht) rfl (Nat.le_of_ble_eq_true rfl) (Nat.le_of_ble_eq_true rfl) (Nat.le_of_ble_eq_true rfl) (Nat.le_of_ble_eq_true rfl) (Nat.le_of_ble_eq_true rfl) (az_k1 rfl rfl ?_) (az_k0 rfl)
  refine az_top (1) hf ?_
  refine az_if_ne C 17 dX3_greatestLoad_12 (by decide) (fun _ => ?_) (fun q => absurd q (by decide))
  refine az_aload_n C 0 dX3_greatestLoad_17 rfl ?_
  refine az_aload_n C 1 dX3_greatestLoad_18 rfl ?_
  refine az_get C cX3 0 0 0 (v := .ref (ρ.1 1)) wl_X3_12 dX3_greatestLoad_19 rfl rfl rfl (by decide) ?_
  refine az_aload_n C 0 dX3_greatestLoad_22 rfl ?_
  refine az_getN C cX0 1 k 4 (v := .int (x.2.1 k 4)) (az_bw C hG nx_X3_159 rfl) dX3_greatestLoad_23 rfl (KK_b (show k < ρ.2.2.2.2.2 by omega)) rfl (by decide) ?_
  refine az_top (nI r) hat ?_
  refine az_callV C Y_X2_level cX2 0 1 [.int (nI r)] [.ref (ρ.2.2.1 k)] wm_X3_98 wi_X2_level wse_X2_level dX3_greatestLoad_26 rfl rfl rfl (klevel hG r hr6 ha) rfl (Nat.le_of_ble_eq_true rfl) (Nat.le_of_ble_eq_true rfl) (Nat.le_of_ble_eq_true rfl) (Nat.le_of_ble_eq_true rfl) (Nat.le_of_ble_eq_true rfl) (az_k1 rfl rfl ?_) (az_k0 rfl)
  refine az_iconst C (v := 1) dX3_greatestLoad_29 (by decide) ?_
  refine az_isub C dX3_greatestLoad_30 ?_
  refine az_callV C Y_X0_greatestCargo cX0 1 k [.int ((x.1 4 (r + 3) / x.1 2 r - 1))] [] wm_X3_261 wi_X0_greatestCargo wse_X0_greatestCargo dX3_greatestLoad_31 rfl (KK_b (show k < ρ.2.2.2.2.2 by omega)) rfl (XgCargo hG k (show k < ρ.2.2.2.2.2 by omega) ((x.1 4 (r + 3) / x.1 2 r - 1))) rfl (Nat.le_of_ble_eq_true rfl) (Nat.le_of_ble_eq_true rfl) (Nat.le_of_ble_eq_true rfl) (Nat.le_of_ble_eq_true rfl) (Nat.le_of_ble_eq_true rfl) (az_k1 rfl rfl ?_) (az_k0 rfl)
  refine az_aload_n C 0 dX3_greatestLoad_34 rfl ?_
  refine az_getN C cX0 1 k 5 (v := .int (x.2.1 k 5)) (az_bw C hG nx_X3_162 rfl) dX3_greatestLoad_35 rfl (KK_b (show k < ρ.2.2.2.2.2 by omega)) rfl (by decide) ?_
  refine az_isub C dX3_greatestLoad_38 ?_
  exact az_iret C rfl dX3_greatestLoad_39 (Nat.le_of_ble_eq_true rfl) (Nat.le_of_ble_eq_true rfl) ⟨rfl, rfl, rfl⟩

set_option maxHeartbeats 4000000 in
set_option maxRecDepth 100000 in
theorem XworthIn0 (hG : az_okS l G) (nb : Nat) (v u : Int32) (hb : x.1 0 7 = nI nb) (hnb : nb = ρ.2.2.2.2.2) (hn : nb ≤ 8) (hv : oo nb v) : az_M l G yX3_worthIn (az_ws yX3_worthIn cX3_worthIn 4 (Option.some FieldType.int)) 7 [.ref (ρ.1 0), .int v, .int u] (AD ρ) (KK G ρ x m ou) 1 6 (az_x "java/lang/IndexOutOfBoundsException" (AD ρ) (KK G ρ x m ou)) := by
  refine az_start hG.1 (by decide +kernel) (Nat.le_of_ble_eq_true rfl) ?_
  intro p e s mm args below meth c C hnm
  show az_W l G 4 _ p e _ s mm args below meth c _ _ 0 0 0 [(0, .ref (ρ.1 0)), (1, .int v), (2, .int u)] []
  refine az_aload_n C 0 dX3_worthIn_0 rfl ?_
  refine az_iload_n C 1 dX3_worthIn_1 rfl ?_
  refine az_callV C Y_X3_bargeNumbered cX3 0 0 [.int v] [] wm_X3_155 wi_X3_bargeNumbered wse_X3_bargeNumbered dX3_worthIn_2 rfl rfl rfl (Xbarge0 hG nb v hb hnb hn hv) rfl (Nat.le_of_ble_eq_true rfl) (Nat.le_of_ble_eq_true rfl) (Nat.le_of_ble_eq_true rfl) (Nat.le_of_ble_eq_true rfl) (Nat.le_of_ble_eq_true rfl) (az_x0 rfl) (az_x1 rfl ?_)
  exact az_out C (fun _ h => by cases h) (Nat.le_of_ble_eq_true rfl) (Nat.le_of_ble_eq_true rfl) ⟨rfl, rfl, rfl⟩

set_option maxHeartbeats 4000000 in
set_option maxRecDepth 100000 in
theorem XworthIn1 (hG : az_okS l G) (nb k : Nat) (hb : x.1 0 7 = nI nb) (hnb : nb = ρ.2.2.2.2.2) (hn : nb ≤ 8) (hk : k + 1 ≤ nb) (nr : Nat) (hr : x.1 1 8 = nI nr) (hn6 : nr ≤ 6) (r : Nat) (hr1 : r + 1 ≤ nr) : az_M l G yX3_worthIn (az_ws yX3_worthIn cX3_worthIn 4 (Option.some FieldType.int)) 4 [.ref (ρ.1 0), .int (nI k), .int (nI r)] (AD ρ) (KK G ρ x m ou) 0 0 (az_r (some (.int (x.2.1 k 5 * x.1 11 r))) (AD ρ) (KK G ρ x m ou)) := by
  refine az_start hG.1 (by decide +kernel) (Nat.le_of_ble_eq_true rfl) ?_
  intro p e s mm args below meth c C hnm
  show az_W l G 4 _ p e _ s mm args below meth c _ _ 0 0 0 [(0, .ref (ρ.1 0)), (1, .int (nI k)), (2, .int (nI r))] []
  refine az_aload_n C 0 dX3_worthIn_0 rfl ?_
  refine az_iload_n C 1 dX3_worthIn_1 rfl ?_
  refine az_callV C Y_X3_bargeNumbered cX3 0 0 [.int (nI k)] [] wm_X3_155 wi_X3_bargeNumbered wse_X3_bargeNumbered dX3_worthIn_2 rfl rfl rfl (Xbarge1 hG nb k hb hnb hn hk) rfl (Nat.le_of_ble_eq_true rfl) (Nat.le_of_ble_eq_true rfl) (Nat.le_of_ble_eq_true rfl) (Nat.le_of_ble_eq_true rfl) (Nat.le_of_ble_eq_true rfl) (az_k1 rfl rfl ?_) (az_k0 rfl)
  refine az_astore_n C (lv' := [(3, .ref (ρ.2.2.1 k)), (0, .ref (ρ.1 0)), (1, .int (nI k)), (2, .int (nI r))]) (j := 3) rfl dX3_worthIn_5 (by decide) rfl ?_
  refine az_aload_n C 1 dX3_worthIn_6 rfl ?_
  refine az_iload_n C 3 dX3_worthIn_7 rfl ?_
  refine az_callV C Y_X3_needReach cX3 0 0 [.int (nI r)] [] wm_X3_78 wi_X3_needReach wse_X3_needReach dX3_worthIn_8 rfl rfl rfl (XneedReach1 hG nr r hr hn6 hr1) rfl (Nat.le_of_ble_eq_true rfl) (Nat.le_of_ble_eq_true rfl) (Nat.le_of_ble_eq_true rfl) (Nat.le_of_ble_eq_true rfl) (Nat.le_of_ble_eq_true rfl) (az_k1 rfl rfl ?_) (az_k0 rfl)
  refine az_aload_n C 0 dX3_worthIn_11 rfl ?_
  refine az_getN C cX0 1 k 5 (v := .int (x.2.1 k 5)) (az_bw C hG nx_X3_162 rfl) dX3_worthIn_12 rfl (KK_b (show k < ρ.2.2.2.2.2 by omega)) rfl (by decide) ?_
  refine az_aload_n C 1 dX3_worthIn_15 rfl ?_
  refine az_get C cX3 0 0 3 (v := .ref (ρ.1 11)) wl_X3_23 dX3_worthIn_16 rfl rfl rfl (by decide) ?_
  refine az_iload_n C 3 dX3_worthIn_19 rfl ?_
  refine az_ialdN C 0 11 r (v := x.1 11 r) dX3_worthIn_20 rfl rfl (by omega) (by decide) rfl ?_
  refine az_imul C dX3_worthIn_21 ?_
  exact az_iret C rfl dX3_worthIn_22 (Nat.le_of_ble_eq_true rfl) (Nat.le_of_ble_eq_true rfl) ⟨rfl, rfl, rfl⟩

set_option maxHeartbeats 4000000 in
set_option maxRecDepth 100000 in
theorem XworthIn00 (hG : az_okS l G) (nb k : Nat) (hb : x.1 0 7 = nI nb) (hnb : nb = ρ.2.2.2.2.2) (hn : nb ≤ 8) (hk : k + 1 ≤ nb) (nr : Nat) (hr : x.1 1 8 = nI nr) (hn6 : nr ≤ 6) (v : Int32) (hv : oo nr v) : az_M l G yX3_worthIn (az_ws yX3_worthIn cX3_worthIn 4 (Option.some FieldType.int)) 7 [.ref (ρ.1 0), .int (nI k), .int v] (AD ρ) (KK G ρ x m ou) 1 6 (az_x "java/lang/IndexOutOfBoundsException" (AD ρ) (KK G ρ x m ou)) := by
  refine az_start hG.1 (by decide +kernel) (Nat.le_of_ble_eq_true rfl) ?_
  intro p e s mm args below meth c C hnm
  show az_W l G 4 _ p e _ s mm args below meth c _ _ 0 0 0 [(0, .ref (ρ.1 0)), (1, .int (nI k)), (2, .int v)] []
  refine az_aload_n C 0 dX3_worthIn_0 rfl ?_
  refine az_iload_n C 1 dX3_worthIn_1 rfl ?_
  refine az_callV C Y_X3_bargeNumbered cX3 0 0 [.int (nI k)] [] wm_X3_155 wi_X3_bargeNumbered wse_X3_bargeNumbered dX3_worthIn_2 rfl rfl rfl (Xbarge1 hG nb k hb hnb hn hk) rfl (Nat.le_of_ble_eq_true rfl) (Nat.le_of_ble_eq_true rfl) (Nat.le_of_ble_eq_true rfl) (Nat.le_of_ble_eq_true rfl) (Nat.le_of_ble_eq_true rfl) (az_k1 rfl rfl ?_) (az_k0 rfl)
  refine az_astore_n C (lv' := [(3, .ref (ρ.2.2.1 k)), (0, .ref (ρ.1 0)), (1, .int (nI k)), (2, .int v)]) (j := 3) rfl dX3_worthIn_5 (by decide) rfl ?_
  refine az_aload_n C 1 dX3_worthIn_6 rfl ?_
  refine az_iload_n C 3 dX3_worthIn_7 rfl ?_
  refine az_callV C Y_X3_needReach cX3 0 0 [.int v] [] wm_X3_78 wi_X3_needReach wse_X3_needReach dX3_worthIn_8 rfl rfl rfl (XneedReach0 hG nr v hr hn6 hv) rfl (Nat.le_of_ble_eq_true rfl) (Nat.le_of_ble_eq_true rfl) (Nat.le_of_ble_eq_true rfl) (Nat.le_of_ble_eq_true rfl) (Nat.le_of_ble_eq_true rfl) (az_x0 rfl) (az_x1 rfl ?_)
  exact az_out C (fun _ h => by cases h) (Nat.le_of_ble_eq_true rfl) (Nat.le_of_ble_eq_true rfl) ⟨rfl, rfl, rfl⟩

end
