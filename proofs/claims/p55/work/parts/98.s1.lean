section
variable {l : Launch} {G : az_G} {ρ : Rp} {x : Xs} {m : Mz} {ou : Nat → Int64}
theorem lgc_self (w : Int64) : lg_cmp w w = 0 := by
  unfold lg_cmp
  simp
theorem buy_5 {b r : Nat} {u : Int32} : (buyX x b r u).2.1 b 5 = x.2.1 b 5 + u := up2_s (f := x.2.1)
theorem buy_4 {b r : Nat} {u : Int32} : (buyX x b r u).2.1 b 4 = x.2.1 b 4 := up2_k (f := x.2.1) (by decide)
theorem ub_5 {b r : Nat} {u : Int32} : (unloadX (buyX x b r u) b r u).2.1 b 5 = x.2.1 b 5 := by
  show up2 (buyX x b r u).2.1 b 5 ((buyX x b r u).2.1 b 5 - u) b 5 = _
  rw [up2_s, buy_5]
  grind
theorem ub_m {b r : Nat} {u : Int32} : (unloadX (buyX x b r u) b r u).2.2.2 = x.2.2.2 := by
  show x.2.2.2 - u.toInt64 * (x.1 11 r).toInt64 + u.toInt64 * (x.1 11 r).toInt64 = x.2.2.2
  grind
set_option maxHeartbeats 4000000 in
set_option maxRecDepth 100000 in
theorem XtradeA (hG : az_okS l G) (nr : Nat) (hn : nr ≤ 6) (hr : x.1 1 8 = nI nr) (ha : ∀ k, k < nr → ¬ x.1 2 k < 1) (nb : Nat) (hb : x.1 0 7 = nI nb) (hnb : nb = ρ.2.2.2.2.2) (hn8 : nb ≤ 8) (ht : ∀ d, d < nb → ¬ x.2.1 d 3 < 1) (b : Nat) (hbb : b < nb) (r : Nat) (hrn : r < nr) (hat : x.2.1 b 4 = nI r) (u : Int32) (hu : ¬ inI u 1 999 = 0) (hf : floatX x b r u = 0) (hl : glX x b r < u) : az_M l G yL_trades (az_ws yL_trades cL_trades 10 (Option.some FieldType.boolean)) 11 [.ref (ρ.1 0), .int (nI b), .int u] (AD ρ) (KK G ρ x m ou) 1 6 (az_r (some (.int 1)) (AD ρ) (KK G ρ x m ou)) := by
  refine az_start hG.1 (by decide +kernel) (Nat.le_of_ble_eq_true rfl) ?_
  intro p e s mm args below meth c C hnm
  show az_W l G 10 _ p e _ s mm args below meth c _ _ 0 0 0 [(0, .ref (ρ.1 0)), (1, .int (nI b)), (2, .int u)] []
  refine az_aload_n C 0 dL_trades_0 rfl ?_
  refine az_iload_n C 1 dL_trades_1 rfl ?_
  refine az_callH C Y_L_greatestLoad [.ref (ρ.1 0), .int (nI b)] [] wm_L_220 wst_L_greatestLoad dL_trades_2 rfl (H_greatestLoad (ρ := ρ) (x := x) (m := m) (ou := ou) hG (nI b) (by decide) (XgLoadB hG nb b hb hnb hn8 hbb r (by omega) hat (ha _ hrn) (ht b hbb)) hq_v (fun _ _ _ h => hq_x h)) rfl (Nat.le_of_ble_eq_true rfl) (Nat.le_of_ble_eq_true rfl) (Nat.le_of_ble_eq_true rfl) (Nat.le_of_ble_eq_true rfl) (Nat.le_of_ble_eq_true rfl) (az_k1 rfl rfl ?_) (az_k0 rfl)
  refine az_istore_n C (lv' := [(3, .int (glX x b r)), (0, .ref (ρ.1 0)), (1, .int (nI b)), (2, .int u)]) (j := 3) rfl dL_trades_5 (by decide) rfl ?_
  refine az_aload_n C 1 dL_trades_6 rfl ?_
  refine az_iload_n C 2 dL_trades_7 rfl ?_
  refine az_callH C Y_L_cargoOf [.ref (ρ.1 0), .int (nI b)] [] wm_L_218 wst_L_cargoOf dL_trades_8 rfl (H_cargoOf (ρ := ρ) (x := x) (m := m) (ou := ou) hG (nI b) (by decide) (XcargoOf1 hG nb b hb hnb hn8 hbb) hq_v (fun _ _ _ h => hq_x h)) rfl (Nat.le_of_ble_eq_true rfl) (Nat.le_of_ble_eq_true rfl) (Nat.le_of_ble_eq_true rfl) (Nat.le_of_ble_eq_true rfl) (Nat.le_of_ble_eq_true rfl) (az_k1 rfl rfl ?_) (az_k0 rfl)
  refine az_istore C (lv' := [(4, .int (x.2.1 b 5)), (3, .int (glX x b r)), (0, .ref (ρ.1 0)), (1, .int (nI b)), (2, .int u)]) dL_trades_11 (by decide) rfl ?_
  refine az_aload_n C 2 dL_trades_13 rfl ?_
  refine az_aload_n C 2 dL_trades_14 rfl ?_
  refine az_iload_n C 3 dL_trades_15 rfl ?_
  refine az_callH C Y_L_reachOf [.ref (ρ.1 0), .int (nI b)] [.ref (ρ.1 0)] wm_L_170 wst_L_reachOf dL_trades_16 rfl (H_reachOf (ρ := ρ) (x := x) (m := m) (ou := ou) hG (nI b) (by decide) (XreachOf1 hG nb b hb hnb hn8 hbb) hq_v (fun _ _ _ h => hq_x h)) rfl (Nat.le_of_ble_eq_true rfl) (Nat.le_of_ble_eq_true rfl) (Nat.le_of_ble_eq_true rfl) (Nat.le_of_ble_eq_true rfl) (Nat.le_of_ble_eq_true rfl) (az_k1 rfl rfl ?_) (az_k0 rfl)
  refine az_top (nI r) hat ?_
  refine az_callH C Y_L_priceIn [.ref (ρ.1 0), .int (nI r)] [] wm_L_258 wst_L_priceIn dL_trades_19 rfl (H_priceIn (ρ := ρ) (x := x) (m := m) (ou := ou) hG (nI r) (by decide) (XpriceIn1 hG nr r hr hn hrn) hq_v (fun _ _ _ h => hq_x h)) rfl (Nat.le_of_ble_eq_true rfl) (Nat.le_of_ble_eq_true rfl) (Nat.le_of_ble_eq_true rfl) (Nat.le_of_ble_eq_true rfl) (Nat.le_of_ble_eq_true rfl) (az_k1 rfl rfl ?_) (az_k0 rfl)
  refine az_istore C (lv' := [(5, .int (x.1 11 r)), (4, .int (x.2.1 b 5)), (3, .int (glX x b r)), (0, .ref (ρ.1 0)), (1, .int (nI b)), (2, .int u)]) dL_trades_22 (by decide) rfl ?_
  refine az_aload_n C 3 dL_trades_24 rfl ?_
  refine az_callV C Y_X3_money cX3 0 0 [] [] wm_L_260 wi_X3_money wse_X3_money dL_trades_25 rfl rfl rfl (Xmoney hG) rfl (Nat.le_of_ble_eq_true rfl) (Nat.le_of_ble_eq_true rfl) (Nat.le_of_ble_eq_true rfl) (Nat.le_of_ble_eq_true rfl) (Nat.le_of_ble_eq_true rfl) (az_k1 rfl rfl ?_) (az_k0 rfl)
  refine az_lstore C (lv' := [(6, .long x.2.2.2), (5, .int (x.1 11 r)), (4, .int (x.2.1 b 5)), (3, .int (glX x b r)), (0, .ref (ρ.1 0)), (1, .int (nI b)), (2, .int u)]) dL_trades_28 (by decide) rfl ?_
  refine az_aload_n C 4 dL_trades_30 rfl ?_
  refine az_iload_n C 5 dL_trades_31 rfl ?_
  refine az_iload_n C 6 dL_trades_32 rfl ?_
  refine az_callH C Y_L_buy [.ref (ρ.1 0), .int (nI b), .int u] [] wm_L_264 wst_L_buy dL_trades_33 rfl (H_buy (ρ := ρ) (x := x) (m := m) (ou := ou) hG (nI b) (u) (by decide) (Xbuy2 hG nb b hb hnb hn8 hbb u hu r (by omega) hat (ha _ hrn) (ht b hbb) hf) (fun _ _ _ h => hx_v h) (fun _ _ _ h => Or.inr (Or.inr (Or.inl (hx_e h))))) rfl (Nat.le_of_ble_eq_true rfl) (Nat.le_of_ble_eq_true rfl) (Nat.le_of_ble_eq_true rfl) (Nat.le_of_ble_eq_true rfl) (Nat.le_of_ble_eq_true rfl) (az_k1 rfl rfl ?_) (az_k0 rfl)
  refine az_lstore C (lv' := [(8, .long ((-1003))), (6, .long x.2.2.2), (5, .int (x.1 11 r)), (4, .int (x.2.1 b 5)), (3, .int (glX x b r)), (0, .ref (ρ.1 0)), (1, .int (nI b)), (2, .int u)]) dL_trades_36 (by decide) rfl ?_
  refine az_lload C 0 dL_trades_38 rfl ?_
  refine az_lconst C (v := 0) dL_trades_40 (by decide) ?_
  refine az_lcmp C dL_trades_41 ?_
  refine az_if_ge C 109 dL_trades_42 (by decide) (fun q => absurd q (by decide)) (fun _ => ?_)
  refine az_aload_n C 5 dL_trades_45 rfl ?_
  refine az_iload_n C 6 dL_trades_46 rfl ?_
  refine az_callH C Y_L_cargoOf [.ref (ρ.1 0), .int (nI b)] [] wm_L_218 wst_L_cargoOf dL_trades_47 rfl (H_cargoOf (ρ := ρ) (x := x) (m := m) (ou := ou) hG (nI b) (by decide) (XcargoOf1 hG nb b hb hnb hn8 hbb) hq_v (fun _ _ _ h => hq_x h)) rfl (Nat.le_of_ble_eq_true rfl) (Nat.le_of_ble_eq_true rfl) (Nat.le_of_ble_eq_true rfl) (Nat.le_of_ble_eq_true rfl) (Nat.le_of_ble_eq_true rfl) (az_k1 rfl rfl ?_) (az_k0 rfl)
  refine az_iload C 3 dL_trades_50 rfl ?_
  refine az_icmp_ne C 107 dL_trades_52 (by decide) (fun q => absurd rfl q) (fun _ => ?_)
  refine az_aload_n C 5 dL_trades_55 rfl ?_
  refine az_callV C Y_X3_money cX3 0 0 [] [] wm_L_260 wi_X3_money wse_X3_money dL_trades_56 rfl rfl rfl (Xmoney hG) rfl (Nat.le_of_ble_eq_true rfl) (Nat.le_of_ble_eq_true rfl) (Nat.le_of_ble_eq_true rfl) (Nat.le_of_ble_eq_true rfl) (Nat.le_of_ble_eq_true rfl) (az_k1 rfl rfl ?_) (az_k0 rfl)
  refine az_lload C 1 dL_trades_59 rfl ?_
  refine az_lcmp C dL_trades_61 ?_
  refine az_if_ne C 107 dL_trades_62 (by decide) (fun q => absurd (lgc_self _) q) (fun _ => ?_)
  refine az_iload_n C 7 dL_trades_65 rfl ?_
  refine az_iload_n C 4 dL_trades_66 rfl ?_
  refine az_icmp_le C 82 dL_trades_67 (by decide) (fun q => absurd q (Int32.not_le.mpr hl)) (fun _ => ?_)
  refine az_lload C 0 dL_trades_70 rfl ?_
  refine az_ldc2 C (v := (-1003)) wn_L_129 dL_trades_72 ?_
  refine az_lcmp C dL_trades_75 ?_
  refine az_if_ne C 107 dL_trades_76 (by decide) (fun q => absurd (lgc_self _) q) (fun _ => ?_)
  refine az_goto C 103 dL_trades_79 (by decide) ?_
  refine az_iconst C (v := 1) dL_trades_103 (by decide) ?_
  refine az_goto C 108 dL_trades_104 (by decide) ?_
  exact az_zret C .boolean rfl rfl dL_trades_108 (Nat.le_of_ble_eq_true rfl) (Nat.le_of_ble_eq_true rfl) ⟨rfl, rfl, rfl⟩

set_option maxHeartbeats 4000000 in
set_option maxRecDepth 100000 in
theorem XtradeB (hG : az_okS l G) (nr : Nat) (hn : nr ≤ 6) (hr : x.1 1 8 = nI nr) (ha : ∀ k, k < nr → ¬ x.1 2 k < 1) (nb : Nat) (hb : x.1 0 7 = nI nb) (hnb : nb = ρ.2.2.2.2.2) (hn8 : nb ≤ 8) (ht : ∀ d, d < nb → ¬ x.2.1 d 3 < 1) (b : Nat) (hbb : b < nb) (r : Nat) (hrn : r < nr) (hat : x.2.1 b 4 = nI r) (u : Int32) (hu : ¬ inI u 1 999 = 0) (hf : floatX x b r u = 1) (hp : ¬ lg_cmp (costX x r u) x.2.2.2 ≤ 0) (hl : u ≤ glX x b r) : az_M l G yL_trades (az_ws yL_trades cL_trades 10 (Option.some FieldType.boolean)) 11 [.ref (ρ.1 0), .int (nI b), .int u] (AD ρ) (KK G ρ x m ou) 1 6 (az_r (some (.int 1)) (AD ρ) (KK G ρ x m ou)) := by
  refine az_start hG.1 (by decide +kernel) (Nat.le_of_ble_eq_true rfl) ?_
  intro p e s mm args below meth c C hnm
  show az_W l G 10 _ p e _ s mm args below meth c _ _ 0 0 0 [(0, .ref (ρ.1 0)), (1, .int (nI b)), (2, .int u)] []
  refine az_aload_n C 0 dL_trades_0 rfl ?_
  refine az_iload_n C 1 dL_trades_1 rfl ?_
  refine az_callH C Y_L_greatestLoad [.ref (ρ.1 0), .int (nI b)] [] wm_L_220 wst_L_greatestLoad dL_trades_2 rfl (H_greatestLoad (ρ := ρ) (x := x) (m := m) (ou := ou) hG (nI b) (by decide) (XgLoadB hG nb b hb hnb hn8 hbb r (by omega) hat (ha _ hrn) (ht b hbb)) hq_v (fun _ _ _ h => hq_x h)) rfl (Nat.le_of_ble_eq_true rfl) (Nat.le_of_ble_eq_true rfl) (Nat.le_of_ble_eq_true rfl) (Nat.le_of_ble_eq_true rfl) (Nat.le_of_ble_eq_true rfl) (az_k1 rfl rfl ?_) (az_k0 rfl)
  refine az_istore_n C (lv' := [(3, .int (glX x b r)), (0, .ref (ρ.1 0)), (1, .int (nI b)), (2, .int u)]) (j := 3) rfl dL_trades_5 (by decide) rfl ?_
  refine az_aload_n C 1 dL_trades_6 rfl ?_
  refine az_iload_n C 2 dL_trades_7 rfl ?_
  refine az_callH C Y_L_cargoOf [.ref (ρ.1 0), .int (nI b)] [] wm_L_218 wst_L_cargoOf dL_trades_8 rfl (H_cargoOf (ρ := ρ) (x := x) (m := m) (ou := ou) hG (nI b) (by decide) (XcargoOf1 hG nb b hb hnb hn8 hbb) hq_v (fun _ _ _ h => hq_x h)) rfl (Nat.le_of_ble_eq_true rfl) (Nat.le_of_ble_eq_true rfl) (Nat.le_of_ble_eq_true rfl) (Nat.le_of_ble_eq_true rfl) (Nat.le_of_ble_eq_true rfl) (az_k1 rfl rfl ?_) (az_k0 rfl)
  refine az_istore C (lv' := [(4, .int (x.2.1 b 5)), (3, .int (glX x b r)), (0, .ref (ρ.1 0)), (1, .int (nI b)), (2, .int u)]) dL_trades_11 (by decide) rfl ?_
  refine az_aload_n C 2 dL_trades_13 rfl ?_
  refine az_aload_n C 2 dL_trades_14 rfl ?_
  refine az_iload_n C 3 dL_trades_15 rfl ?_
  refine az_callH C Y_L_reachOf [.ref (ρ.1 0), .int (nI b)] [.ref (ρ.1 0)] wm_L_170 wst_L_reachOf dL_trades_16 rfl (H_reachOf (ρ := ρ) (x := x) (m := m) (ou := ou) hG (nI b) (by decide) (XreachOf1 hG nb b hb hnb hn8 hbb) hq_v (fun _ _ _ h => hq_x h)) rfl (Nat.le_of_ble_eq_true rfl) (Nat.le_of_ble_eq_true rfl) (Nat.le_of_ble_eq_true rfl) (Nat.le_of_ble_eq_true rfl) (Nat.le_of_ble_eq_true rfl) (az_k1 rfl rfl ?_) (az_k0 rfl)
  refine az_top (nI r) hat ?_
  refine az_callH C Y_L_priceIn [.ref (ρ.1 0), .int (nI r)] [] wm_L_258 wst_L_priceIn dL_trades_19 rfl (H_priceIn (ρ := ρ) (x := x) (m := m) (ou := ou) hG (nI r) (by decide) (XpriceIn1 hG nr r hr hn hrn) hq_v (fun _ _ _ h => hq_x h)) rfl (Nat.le_of_ble_eq_true rfl) (Nat.le_of_ble_eq_true rfl) (Nat.le_of_ble_eq_true rfl) (Nat.le_of_ble_eq_true rfl) (Nat.le_of_ble_eq_true rfl) (az_k1 rfl rfl ?_) (az_k0 rfl)
  refine az_istore C (lv' := [(5, .int (x.1 11 r)), (4, .int (x.2.1 b 5)), (3, .int (glX x b r)), (0, .ref (ρ.1 0)), (1, .int (nI b)), (2, .int u)]) dL_trades_22 (by decide) rfl ?_
  refine az_aload_n C 3 dL_trades_24 rfl ?_
  refine az_callV C Y_X3_money cX3 0 0 [] [] wm_L_260 wi_X3_money wse_X3_money dL_trades_25 rfl rfl rfl (Xmoney hG) rfl (Nat.le_of_ble_eq_true rfl) (Nat.le_of_ble_eq_true rfl) (Nat.le_of_ble_eq_true rfl) (Nat.le_of_ble_eq_true rfl) (Nat.le_of_ble_eq_true rfl) (az_k1 rfl rfl ?_) (az_k0 rfl)
  refine az_lstore C (lv' := [(6, .long x.2.2.2), (5, .int (x.1 11 r)), (4, .int (x.2.1 b 5)), (3, .int (glX x b r)), (0, .ref (ρ.1 0)), (1, .int (nI b)), (2, .int u)]) dL_trades_28 (by decide) rfl ?_
  refine az_aload_n C 4 dL_trades_30 rfl ?_
  refine az_iload_n C 5 dL_trades_31 rfl ?_
  refine az_iload_n C 6 dL_trades_32 rfl ?_
  refine az_callH C Y_L_buy [.ref (ρ.1 0), .int (nI b), .int u] [] wm_L_264 wst_L_buy dL_trades_33 rfl (H_buy (ρ := ρ) (x := x) (m := m) (ou := ou) hG (nI b) (u) (by decide) (Xbuy3 hG nb b hb hnb hn8 hbb u hu r (by omega) hat (ha _ hrn) (ht b hbb) hf hp) (fun _ _ _ h => hx_v h) (fun _ _ _ h => Or.inr (Or.inr (Or.inr (hx_e h))))) rfl (Nat.le_of_ble_eq_true rfl) (Nat.le_of_ble_eq_true rfl) (Nat.le_of_ble_eq_true rfl) (Nat.le_of_ble_eq_true rfl) (Nat.le_of_ble_eq_true rfl) (az_k1 rfl rfl ?_) (az_k0 rfl)
  refine az_lstore C (lv' := [(8, .long ((-1004))), (6, .long x.2.2.2), (5, .int (x.1 11 r)), (4, .int (x.2.1 b 5)), (3, .int (glX x b r)), (0, .ref (ρ.1 0)), (1, .int (nI b)), (2, .int u)]) dL_trades_36 (by decide) rfl ?_
  refine az_lload C 0 dL_trades_38 rfl ?_
  refine az_lconst C (v := 0) dL_trades_40 (by decide) ?_
  refine az_lcmp C dL_trades_41 ?_
  refine az_if_ge C 109 dL_trades_42 (by decide) (fun q => absurd q (by decide)) (fun _ => ?_)
  refine az_aload_n C 5 dL_trades_45 rfl ?_
  refine az_iload_n C 6 dL_trades_46 rfl ?_
  refine az_callH C Y_L_cargoOf [.ref (ρ.1 0), .int (nI b)] [] wm_L_218 wst_L_cargoOf dL_trades_47 rfl (H_cargoOf (ρ := ρ) (x := x) (m := m) (ou := ou) hG (nI b) (by decide) (XcargoOf1 hG nb b hb hnb hn8 hbb) hq_v (fun _ _ _ h => hq_x h)) rfl (Nat.le_of_ble_eq_true rfl) (Nat.le_of_ble_eq_true rfl) (Nat.le_of_ble_eq_true rfl) (Nat.le_of_ble_eq_true rfl) (Nat.le_of_ble_eq_true rfl) (az_k1 rfl rfl ?_) (az_k0 rfl)
  refine az_iload C 3 dL_trades_50 rfl ?_
  refine az_icmp_ne C 107 dL_trades_52 (by decide) (fun q => absurd rfl q) (fun _ => ?_)
  refine az_aload_n C 5 dL_trades_55 rfl ?_
  refine az_callV C Y_X3_money cX3 0 0 [] [] wm_L_260 wi_X3_money wse_X3_money dL_trades_56 rfl rfl rfl (Xmoney hG) rfl (Nat.le_of_ble_eq_true rfl) (Nat.le_of_ble_eq_true rfl) (Nat.le_of_ble_eq_true rfl) (Nat.le_of_ble_eq_true rfl) (Nat.le_of_ble_eq_true rfl) (az_k1 rfl rfl ?_) (az_k0 rfl)
  refine az_lload C 1 dL_trades_59 rfl ?_
  refine az_lcmp C dL_trades_61 ?_
  refine az_if_ne C 107 dL_trades_62 (by decide) (fun q => absurd (lgc_self _) q) (fun _ => ?_)
  refine az_iload_n C 7 dL_trades_65 rfl ?_
  refine az_iload_n C 4 dL_trades_66 rfl ?_
  refine az_icmp_le C 82 dL_trades_67 (by decide) (fun _ => ?_) (fun q => absurd hl q)
  refine az_lload C 0 dL_trades_82 rfl ?_
  refine az_ldc2 C (v := (-1004)) wn_L_131 dL_trades_84 ?_
  refine az_lcmp C dL_trades_87 ?_
  refine az_if_ne C 107 dL_trades_88 (by decide) (fun q => absurd (lgc_self _) q) (fun _ => ?_)
  refine az_iload_n C 7 dL_trades_91 rfl ?_
  refine az_i2l C dL_trades_92 ?_
  refine az_iload C 2 dL_trades_93 rfl ?_
  refine az_i2l C dL_trades_95 ?_
  refine az_lmul C dL_trades_96 ?_
  refine az_lload C 1 dL_trades_97 rfl ?_
  refine az_lcmp C dL_trades_99 ?_
  refine az_if_le C 107 dL_trades_100 (by decide) (fun q => absurd q hp) (fun _ => ?_)
  refine az_iconst C (v := 1) dL_trades_103 (by decide) ?_
  refine az_goto C 108 dL_trades_104 (by decide) ?_
  exact az_zret C .boolean rfl rfl dL_trades_108 (Nat.le_of_ble_eq_true rfl) (Nat.le_of_ble_eq_true rfl) ⟨rfl, rfl, rfl⟩

set_option maxHeartbeats 4000000 in
set_option maxRecDepth 100000 in
theorem XtradeC (hG : az_okS l G) (nr : Nat) (hn : nr ≤ 6) (hr : x.1 1 8 = nI nr) (ha : ∀ k, k < nr → ¬ x.1 2 k < 1) (nb : Nat) (hb : x.1 0 7 = nI nb) (hnb : nb = ρ.2.2.2.2.2) (hn8 : nb ≤ 8) (ht : ∀ d, d < nb → ¬ x.2.1 d 3 < 1) (b : Nat) (hbb : b < nb) (r : Nat) (hrn : r < nr) (hat : x.2.1 b 4 = nI r) (u : Int32) (hu : ¬ inI u 1 999 = 0) (hf : floatX x b r u = 1) (hp : lg_cmp (costX x r u) x.2.2.2 ≤ 0) (hl : u ≤ glX x b r) (h0 : ¬ lg_cmp (buyX x b r u).2.2.2 0 < 0) (hev : u - u / 2 * 2 = 0) : az_M l G yL_trades (az_ws yL_trades cL_trades 10 (Option.some FieldType.boolean)) 11 [.ref (ρ.1 0), .int (nI b), .int u] (AD ρ) (KK G ρ x m ou) 1 6 (az_r (some (.int 1)) (AD ρ) (KK G ρ (buyX x b r u) m ou)) := by
  refine az_start hG.1 (by decide +kernel) (Nat.le_of_ble_eq_true rfl) ?_
  intro p e s mm args below meth c C hnm
  show az_W l G 10 _ p e _ s mm args below meth c _ _ 0 0 0 [(0, .ref (ρ.1 0)), (1, .int (nI b)), (2, .int u)] []
  refine az_aload_n C 0 dL_trades_0 rfl ?_
  refine az_iload_n C 1 dL_trades_1 rfl ?_
  refine az_callH C Y_L_greatestLoad [.ref (ρ.1 0), .int (nI b)] [] wm_L_220 wst_L_greatestLoad dL_trades_2 rfl (H_greatestLoad (ρ := ρ) (x := x) (m := m) (ou := ou) hG (nI b) (by decide) (XgLoadB hG nb b hb hnb hn8 hbb r (by omega) hat (ha _ hrn) (ht b hbb)) hq_v (fun _ _ _ h => hq_x h)) rfl (Nat.le_of_ble_eq_true rfl) (Nat.le_of_ble_eq_true rfl) (Nat.le_of_ble_eq_true rfl) (Nat.le_of_ble_eq_true rfl) (Nat.le_of_ble_eq_true rfl) (az_k1 rfl rfl ?_) (az_k0 rfl)
  refine az_istore_n C (lv' := [(3, .int (glX x b r)), (0, .ref (ρ.1 0)), (1, .int (nI b)), (2, .int u)]) (j := 3) rfl dL_trades_5 (by decide) rfl ?_
  refine az_aload_n C 1 dL_trades_6 rfl ?_
  refine az_iload_n C 2 dL_trades_7 rfl ?_
  refine az_callH C Y_L_cargoOf [.ref (ρ.1 0), .int (nI b)] [] wm_L_218 wst_L_cargoOf dL_trades_8 rfl (H_cargoOf (ρ := ρ) (x := x) (m := m) (ou := ou) hG (nI b) (by decide) (XcargoOf1 hG nb b hb hnb hn8 hbb) hq_v (fun _ _ _ h => hq_x h)) rfl (Nat.le_of_ble_eq_true rfl) (Nat.le_of_ble_eq_true rfl) (Nat.le_of_ble_eq_true rfl) (Nat.le_of_ble_eq_true rfl) (Nat.le_of_ble_eq_true rfl) (az_k1 rfl rfl ?_) (az_k0 rfl)
  refine az_istore C (lv' := [(4, .int (x.2.1 b 5)), (3, .int (glX x b r)), (0, .ref (ρ.1 0)), (1, .int (nI b)), (2, .int u)]) dL_trades_11 (by decide) rfl ?_
  refine az_aload_n C 2 dL_trades_13 rfl ?_
  refine az_aload_n C 2 dL_trades_14 rfl ?_
  refine az_iload_n C 3 dL_trades_15 rfl ?_
  refine az_callH C Y_L_reachOf [.ref (ρ.1 0), .int (nI b)] [.ref (ρ.1 0)] wm_L_170 wst_L_reachOf dL_trades_16 rfl (H_reachOf (ρ := ρ) (x := x) (m := m) (ou := ou) hG (nI b) (by decide) (XreachOf1 hG nb b hb hnb hn8 hbb) hq_v (fun _ _ _ h => hq_x h)) rfl (Nat.le_of_ble_eq_true rfl) (Nat.le_of_ble_eq_true rfl) (Nat.le_of_ble_eq_true rfl) (Nat.le_of_ble_eq_true rfl) (Nat.le_of_ble_eq_true rfl) (az_k1 rfl rfl ?_) (az_k0 rfl)
  refine az_top (nI r) hat ?_
  refine az_callH C Y_L_priceIn [.ref (ρ.1 0), .int (nI r)] [] wm_L_258 wst_L_priceIn dL_trades_19 rfl (H_priceIn (ρ := ρ) (x := x) (m := m) (ou := ou) hG (nI r) (by decide) (XpriceIn1 hG nr r hr hn hrn) hq_v (fun _ _ _ h => hq_x h)) rfl (Nat.le_of_ble_eq_true rfl) (Nat.le_of_ble_eq_true rfl) (Nat.le_of_ble_eq_true rfl) (Nat.le_of_ble_eq_true rfl) (Nat.le_of_ble_eq_true rfl) (az_k1 rfl rfl ?_) (az_k0 rfl)
  refine az_istore C (lv' := [(5, .int (x.1 11 r)), (4, .int (x.2.1 b 5)), (3, .int (glX x b r)), (0, .ref (ρ.1 0)), (1, .int (nI b)), (2, .int u)]) dL_trades_22 (by decide) rfl ?_
  refine az_aload_n C 3 dL_trades_24 rfl ?_
  refine az_callV C Y_X3_money cX3 0 0 [] [] wm_L_260 wi_X3_money wse_X3_money dL_trades_25 rfl rfl rfl (Xmoney hG) rfl (Nat.le_of_ble_eq_true rfl) (Nat.le_of_ble_eq_true rfl) (Nat.le_of_ble_eq_true rfl) (Nat.le_of_ble_eq_true rfl) (Nat.le_of_ble_eq_true rfl) (az_k1 rfl rfl ?_) (az_k0 rfl)
  refine az_lstore C (lv' := [(6, .long x.2.2.2), (5, .int (x.1 11 r)), (4, .int (x.2.1 b 5)), (3, .int (glX x b r)), (0, .ref (ρ.1 0)), (1, .int (nI b)), (2, .int u)]) dL_trades_28 (by decide) rfl ?_
  refine az_aload_n C 4 dL_trades_30 rfl ?_
  refine az_iload_n C 5 dL_trades_31 rfl ?_
  refine az_iload_n C 6 dL_trades_32 rfl ?_
  refine az_callH C Y_L_buy [.ref (ρ.1 0), .int (nI b), .int u] [] wm_L_264 wst_L_buy dL_trades_33 rfl (H_buy (ρ := ρ) (x := x) (m := m) (ou := ou) hG (nI b) (u) (by decide) (Xbuy4 hG nb b hb hnb hn8 hbb u hu r (by omega) hat (ha _ hrn) (ht b hbb) hf hp) hq_l (fun _ _ _ h => hq_x h)) rfl (Nat.le_of_ble_eq_true rfl) (Nat.le_of_ble_eq_true rfl) (Nat.le_of_ble_eq_true rfl) (Nat.le_of_ble_eq_true rfl) (Nat.le_of_ble_eq_true rfl) (az_k1 rfl rfl ?_) (az_k0 rfl)
  refine az_lstore C (lv' := [(8, .long ((buyX x b r u).2.2.2)), (6, .long x.2.2.2), (5, .int (x.1 11 r)), (4, .int (x.2.1 b 5)), (3, .int (glX x b r)), (0, .ref (ρ.1 0)), (1, .int (nI b)), (2, .int u)]) dL_trades_36 (by decide) rfl ?_
  refine az_lload C 0 dL_trades_38 rfl ?_
  refine az_lconst C (v := 0) dL_trades_40 (by decide) ?_
  refine az_lcmp C dL_trades_41 ?_
  refine az_if_ge C 109 dL_trades_42 (by decide) (fun _ => ?_) (fun q => absurd (Int32.not_lt.mp h0) q)
  refine az_iload_n C 7 dL_trades_109 rfl ?_
  refine az_iload_n C 4 dL_trades_110 rfl ?_
  refine az_icmp_gt C 141 dL_trades_111 (by decide) (fun q => absurd q (Int32.not_lt.mpr hl)) (fun _ => ?_)
  refine az_lload C 0 dL_trades_114 rfl ?_
  refine az_lload C 1 dL_trades_116 rfl ?_
  refine az_iload_n C 7 dL_trades_118 rfl ?_
  refine az_i2l C dL_trades_119 ?_
  refine az_iload C 2 dL_trades_120 rfl ?_
  refine az_i2l C dL_trades_122 ?_
  refine az_lmul C dL_trades_123 ?_
  refine az_lsub C dL_trades_124 ?_
  refine az_lcmp C dL_trades_125 ?_
  refine az_if_ne C 141 dL_trades_126 (by decide) (fun q => absurd (lgc_self _) q) (fun _ => ?_)
  refine az_aload_n C 5 dL_trades_129 rfl ?_
  refine az_iload_n C 6 dL_trades_130 rfl ?_
  refine az_callH C Y_L_cargoOf [.ref (ρ.1 0), .int (nI b)] [] wm_L_218 wst_L_cargoOf dL_trades_131 rfl (H_cargoOf (ρ := ρ) (x := (buyX x b r u)) (m := m) (ou := ou) hG (nI b) (by decide) (XcargoOf1 hG nb b hb hnb hn8 hbb) hq_v (fun _ _ _ h => hq_x h)) rfl (Nat.le_of_ble_eq_true rfl) (Nat.le_of_ble_eq_true rfl) (Nat.le_of_ble_eq_true rfl) (Nat.le_of_ble_eq_true rfl) (Nat.le_of_ble_eq_true rfl) (az_k1 rfl rfl ?_) (az_k0 rfl)
  refine az_iload C 3 dL_trades_134 rfl ?_
  refine az_iload_n C 7 dL_trades_136 rfl ?_
  refine az_iadd C dL_trades_137 ?_
  refine az_icmp_eq C 143 dL_trades_138 (by decide) (fun _ => ?_) (fun q => absurd buy_5 q)
  refine az_iload_n C 7 dL_trades_143 rfl ?_
  refine az_iconst C (v := 2) dL_trades_144 (by decide) ?_
  refine az_irem C dL_trades_145 (by decide) ?_
  refine az_if_eq C 171 dL_trades_146 (by decide) (fun _ => ?_) (fun q => absurd hev q)
  refine az_iconst C (v := 1) dL_trades_171 (by decide) ?_
  refine az_goto C 176 dL_trades_172 (by decide) ?_
  exact az_zret C .boolean rfl rfl dL_trades_176 (Nat.le_of_ble_eq_true rfl) (Nat.le_of_ble_eq_true rfl) ⟨rfl, rfl, rfl⟩

set_option maxHeartbeats 4000000 in
set_option maxRecDepth 100000 in
theorem XtradeD (hG : az_okS l G) (nr : Nat) (hn : nr ≤ 6) (hr : x.1 1 8 = nI nr) (ha : ∀ k, k < nr → ¬ x.1 2 k < 1) (nb : Nat) (hb : x.1 0 7 = nI nb) (hnb : nb = ρ.2.2.2.2.2) (hn8 : nb ≤ 8) (ht : ∀ d, d < nb → ¬ x.2.1 d 3 < 1) (b : Nat) (hbb : b < nb) (r : Nat) (hrn : r < nr) (hat : x.2.1 b 4 = nI r) (u : Int32) (hu : ¬ inI u 1 999 = 0) (hf : floatX x b r u = 1) (hp : lg_cmp (costX x r u) x.2.2.2 ≤ 0) (hl : u ≤ glX x b r) (h0 : ¬ lg_cmp (buyX x b r u).2.2.2 0 < 0) (hev : ¬ u - u / 2 * 2 = 0) (hcs : u ≤ (buyX x b r u).2.1 b 5) : az_M l G yL_trades (az_ws yL_trades cL_trades 10 (Option.some FieldType.boolean)) 11 [.ref (ρ.1 0), .int (nI b), .int u] (AD ρ) (KK G ρ x m ou) 1 6 (az_r (some (.int 1)) (AD ρ) (KK G ρ (unloadX (buyX x b r u) b r u) m ou)) := by
  refine az_start hG.1 (by decide +kernel) (Nat.le_of_ble_eq_true rfl) ?_
  intro p e s mm args below meth c C hnm
  show az_W l G 10 _ p e _ s mm args below meth c _ _ 0 0 0 [(0, .ref (ρ.1 0)), (1, .int (nI b)), (2, .int u)] []
  refine az_aload_n C 0 dL_trades_0 rfl ?_
  refine az_iload_n C 1 dL_trades_1 rfl ?_
  refine az_callH C Y_L_greatestLoad [.ref (ρ.1 0), .int (nI b)] [] wm_L_220 wst_L_greatestLoad dL_trades_2 rfl (H_greatestLoad (ρ := ρ) (x := x) (m := m) (ou := ou) hG (nI b) (by decide) (XgLoadB hG nb b hb hnb hn8 hbb r (by omega) hat (ha _ hrn) (ht b hbb)) hq_v (fun _ _ _ h => hq_x h)) rfl (Nat.le_of_ble_eq_true rfl) (Nat.le_of_ble_eq_true rfl) (Nat.le_of_ble_eq_true rfl) (Nat.le_of_ble_eq_true rfl) (Nat.le_of_ble_eq_true rfl) (az_k1 rfl rfl ?_) (az_k0 rfl)
  refine az_istore_n C (lv' := [(3, .int (glX x b r)), (0, .ref (ρ.1 0)), (1, .int (nI b)), (2, .int u)]) (j := 3) rfl dL_trades_5 (by decide) rfl ?_
  refine az_aload_n C 1 dL_trades_6 rfl ?_
  refine az_iload_n C 2 dL_trades_7 rfl ?_
  refine az_callH C Y_L_cargoOf [.ref (ρ.1 0), .int (nI b)] [] wm_L_218 wst_L_cargoOf dL_trades_8 rfl (H_cargoOf (ρ := ρ) (x := x) (m := m) (ou := ou) hG (nI b) (by decide) (XcargoOf1 hG nb b hb hnb hn8 hbb) hq_v (fun _ _ _ h => hq_x h)) rfl (Nat.le_of_ble_eq_true rfl) (Nat.le_of_ble_eq_true rfl) (Nat.le_of_ble_eq_true rfl) (Nat.le_of_ble_eq_true rfl) (Nat.le_of_ble_eq_true rfl) (az_k1 rfl rfl ?_) (az_k0 rfl)
  refine az_istore C (lv' := [(4, .int (x.2.1 b 5)), (3, .int (glX x b r)), (0, .ref (ρ.1 0)), (1, .int (nI b)), (2, .int u)]) dL_trades_11 (by decide) rfl ?_
  refine az_aload_n C 2 dL_trades_13 rfl ?_
  refine az_aload_n C 2 dL_trades_14 rfl ?_
  refine az_iload_n C 3 dL_trades_15 rfl ?_
  refine az_callH C Y_L_reachOf [.ref (ρ.1 0), .int (nI b)] [.ref (ρ.1 0)] wm_L_170 wst_L_reachOf dL_trades_16 rfl (H_reachOf (ρ := ρ) (x := x) (m := m) (ou := ou) hG (nI b) (by decide) (XreachOf1 hG nb b hb hnb hn8 hbb) hq_v (fun _ _ _ h => hq_x h)) rfl (Nat.le_of_ble_eq_true rfl) (Nat.le_of_ble_eq_true rfl) (Nat.le_of_ble_eq_true rfl) (Nat.le_of_ble_eq_true rfl) (Nat.le_of_ble_eq_true rfl) (az_k1 rfl rfl ?_) (az_k0 rfl)
  refine az_top (nI r) hat ?_
  refine az_callH C Y_L_priceIn [.ref (ρ.1 0), .int (nI r)] [] wm_L_258 wst_L_priceIn dL_trades_19 rfl (H_priceIn (ρ := ρ) (x := x) (m := m) (ou := ou) hG (nI r) (by decide) (XpriceIn1 hG nr r hr hn hrn) hq_v (fun _ _ _ h => hq_x h)) rfl (Nat.le_of_ble_eq_true rfl) (Nat.le_of_ble_eq_true rfl) (Nat.le_of_ble_eq_true rfl) (Nat.le_of_ble_eq_true rfl) (Nat.le_of_ble_eq_true rfl) (az_k1 rfl rfl ?_) (az_k0 rfl)
  refine az_istore C (lv' := [(5, .int (x.1 11 r)), (4, .int (x.2.1 b 5)), (3, .int (glX x b r)), (0, .ref (ρ.1 0)), (1, .int (nI b)), (2, .int u)]) dL_trades_22 (by decide) rfl ?_
  refine az_aload_n C 3 dL_trades_24 rfl ?_
  refine az_callV C Y_X3_money cX3 0 0 [] [] wm_L_260 wi_X3_money wse_X3_money dL_trades_25 rfl rfl rfl (Xmoney hG) rfl (Nat.le_of_ble_eq_true rfl) (Nat.le_of_ble_eq_true rfl) (Nat.le_of_ble_eq_true rfl) (Nat.le_of_ble_eq_true rfl) (Nat.le_of_ble_eq_true rfl) (az_k1 rfl rfl ?_) (az_k0 rfl)
  refine az_lstore C (lv' := [(6, .long x.2.2.2), (5, .int (x.1 11 r)), (4, .int (x.2.1 b 5)), (3, .int (glX x b r)), (0, .ref (ρ.1 0)), (1, .int (nI b)), (2, .int u)]) dL_trades_28 (by decide) rfl ?_
  refine az_aload_n C 4 dL_trades_30 rfl ?_
  refine az_iload_n C 5 dL_trades_31 rfl ?_
  refine az_iload_n C 6 dL_trades_32 rfl ?_
  refine az_callH C Y_L_buy [.ref (ρ.1 0), .int (nI b), .int u] [] wm_L_264 wst_L_buy dL_trades_33 rfl (H_buy (ρ := ρ) (x := x) (m := m) (ou := ou) hG (nI b) (u) (by decide) (Xbuy4 hG nb b hb hnb hn8 hbb u hu r (by omega) hat (ha _ hrn) (ht b hbb) hf hp) hq_l (fun _ _ _ h => hq_x h)) rfl (Nat.le_of_ble_eq_true rfl) (Nat.le_of_ble_eq_true rfl) (Nat.le_of_ble_eq_true rfl) (Nat.le_of_ble_eq_true rfl) (Nat.le_of_ble_eq_true rfl) (az_k1 rfl rfl ?_) (az_k0 rfl)
  refine az_lstore C (lv' := [(8, .long ((buyX x b r u).2.2.2)), (6, .long x.2.2.2), (5, .int (x.1 11 r)), (4, .int (x.2.1 b 5)), (3, .int (glX x b r)), (0, .ref (ρ.1 0)), (1, .int (nI b)), (2, .int u)]) dL_trades_36 (by decide) rfl ?_
  refine az_lload C 0 dL_trades_38 rfl ?_
  refine az_lconst C (v := 0) dL_trades_40 (by decide) ?_
  refine az_lcmp C dL_trades_41 ?_
  refine az_if_ge C 109 dL_trades_42 (by decide) (fun _ => ?_) (fun q => absurd (Int32.not_lt.mp h0) q)
  refine az_iload_n C 7 dL_trades_109 rfl ?_
  refine az_iload_n C 4 dL_trades_110 rfl ?_
  refine az_icmp_gt C 141 dL_trades_111 (by decide) (fun q => absurd q (Int32.not_lt.mpr hl)) (fun _ => ?_)
  refine az_lload C 0 dL_trades_114 rfl ?_
  refine az_lload C 1 dL_trades_116 rfl ?_
  refine az_iload_n C 7 dL_trades_118 rfl ?_
  refine az_i2l C dL_trades_119 ?_
  refine az_iload C 2 dL_trades_120 rfl ?_
  refine az_i2l C dL_trades_122 ?_
  refine az_lmul C dL_trades_123 ?_
  refine az_lsub C dL_trades_124 ?_
  refine az_lcmp C dL_trades_125 ?_
  refine az_if_ne C 141 dL_trades_126 (by decide) (fun q => absurd (lgc_self _) q) (fun _ => ?_)
  refine az_aload_n C 5 dL_trades_129 rfl ?_
  refine az_iload_n C 6 dL_trades_130 rfl ?_
  refine az_callH C Y_L_cargoOf [.ref (ρ.1 0), .int (nI b)] [] wm_L_218 wst_L_cargoOf dL_trades_131 rfl (H_cargoOf (ρ := ρ) (x := (buyX x b r u)) (m := m) (ou := ou) hG (nI b) (by decide) (XcargoOf1 hG nb b hb hnb hn8 hbb) hq_v (fun _ _ _ h => hq_x h)) rfl (Nat.le_of_ble_eq_true rfl) (Nat.le_of_ble_eq_true rfl) (Nat.le_of_ble_eq_true rfl) (Nat.le_of_ble_eq_true rfl) (Nat.le_of_ble_eq_true rfl) (az_k1 rfl rfl ?_) (az_k0 rfl)
  refine az_iload C 3 dL_trades_134 rfl ?_
  refine az_iload_n C 7 dL_trades_136 rfl ?_
  refine az_iadd C dL_trades_137 ?_
  refine az_icmp_eq C 143 dL_trades_138 (by decide) (fun _ => ?_) (fun q => absurd buy_5 q)
  refine az_iload_n C 7 dL_trades_143 rfl ?_
  refine az_iconst C (v := 2) dL_trades_144 (by decide) ?_
  refine az_irem C dL_trades_145 (by decide) ?_
  refine az_if_eq C 171 dL_trades_146 (by decide) (fun q => absurd q hev) (fun _ => ?_)
  refine az_aload_n C 5 dL_trades_149 rfl ?_
  refine az_iload_n C 6 dL_trades_150 rfl ?_
  refine az_iload_n C 7 dL_trades_151 rfl ?_
  refine az_callH C Y_L_sell [.ref (ρ.1 0), .int (nI b), .int u] [] wm_L_267 wst_L_sell dL_trades_152 rfl (H_sell (ρ := ρ) (x := (buyX x b r u)) (m := m) (ou := ou) hG (nI b) (u) (by decide) (Xsell3 (x := (buyX x b r u)) hG nb b hb hnb hn8 hbb u hu r (by omega) (buy_4.trans hat) hcs) hq_l (fun _ _ _ h => hq_x h)) rfl (Nat.le_of_ble_eq_true rfl) (Nat.le_of_ble_eq_true rfl) (Nat.le_of_ble_eq_true rfl) (Nat.le_of_ble_eq_true rfl) (Nat.le_of_ble_eq_true rfl) (az_k1 rfl rfl ?_) (az_k0 rfl)
  refine az_lload C 1 dL_trades_155 rfl ?_
  refine az_lcmp C dL_trades_157 ?_
  refine az_if_ne C 175 dL_trades_158 (by decide) (fun q => absurd (by rw [ub_m]; exact lgc_self _) q) (fun _ => ?_)
  refine az_aload_n C 5 dL_trades_161 rfl ?_
  refine az_iload_n C 6 dL_trades_162 rfl ?_
  refine az_callH C Y_L_cargoOf [.ref (ρ.1 0), .int (nI b)] [] wm_L_218 wst_L_cargoOf dL_trades_163 rfl (H_cargoOf (ρ := ρ) (x := (unloadX (buyX x b r u) b r u)) (m := m) (ou := ou) hG (nI b) (by decide) (XcargoOf1 hG nb b hb hnb hn8 hbb) hq_v (fun _ _ _ h => hq_x h)) rfl (Nat.le_of_ble_eq_true rfl) (Nat.le_of_ble_eq_true rfl) (Nat.le_of_ble_eq_true rfl) (Nat.le_of_ble_eq_true rfl) (Nat.le_of_ble_eq_true rfl) (az_k1 rfl rfl ?_) (az_k0 rfl)
  refine az_iload C 3 dL_trades_166 rfl ?_
  refine az_icmp_ne C 175 dL_trades_168 (by decide) (fun q => absurd ub_5 q) (fun _ => ?_)
  refine az_iconst C (v := 1) dL_trades_171 (by decide) ?_
  refine az_goto C 176 dL_trades_172 (by decide) ?_
  exact az_zret C .boolean rfl rfl dL_trades_176 (Nat.le_of_ble_eq_true rfl) (Nat.le_of_ble_eq_true rfl) ⟨rfl, rfl, rfl⟩

end
section
variable {l : Launch} {G : az_G} {ρ : Rp} {x : Xs} {m : Mz} {M : Ms} {ou : Nat → Int64} {n nr nb c N : Nat} {cs : List (List Nat)}
theorem lgc_i {a b : Int64} : lg_cmp a b ≤ 0 ↔ a.toInt ≤ b.toInt := (lg_cmp_le a b).trans Int64.le_iff_toInt_le
def OkZ (G : az_G) (ρ : Rp) (m : Mz) (ou : Nat → Int64) (c n nr nb : Nat) (cs : List (List Nat)) : az_O → az_A → az_K → Prop := fun o ad' K' => ∃ (x' : Xs) (M' : Ms), o = .inl (some (.int 1)) ∧ ad' = AD ρ ∧ K' = KK G ρ x' m ou ∧ ST c ρ x' M' n nr nb cs
theorem okz {x' : Xs} {M' : Ms} (S : ST c ρ x' M' n nr nb cs) : ∀ (o : az_O) (ad' : az_A) (K' : az_K), az_r (some (.int 1)) (AD ρ) (KK G ρ x' m ou) o ad' K' → OkZ G ρ m ou c n nr nb cs o ad' K' := by
  rintro o ad' K' ⟨h1, h2, h3⟩
  exact ⟨x', M', h1, h2, h3, S⟩
theorem ST.x1 {x' : Xs} {M' : Ms} {cs' : List (List Nat)} (S : ST c ρ x M n nr nb cs) (T' : Tie x' n M' nr nb 0 cs') (hx : x'.1 = x.1) : ST c ρ x' M' n nr nb cs' := ⟨S.1.tie T' hx, S.2.1.eqp (fun p _ j => by rw [hx]), S.2.2⟩
theorem trades_ok (hG : az_okS l G) (S : ST c ρ x M n nr nb cs) {b : Nat} (hb : b < nb) {u : Int32} (hu : 1 ≤ u.toInt ∧ u.toInt ≤ 300) : az_N l G yL_trades (az_ws yL_trades cL_trades 10 (Option.some FieldType.boolean)) 11 [.ref (ρ.1 0), .int (nI b), .int u] (AD ρ) (KK G ρ x m ou) 1 6 (OkZ G ρ m ou c n nr nb cs) := by
  have h := S.1
  obtain ⟨r, hr, e1, e2⟩ := h.pl hb
  have h6 := h.n6
  have hin : ¬ inI u 1 999 = 0 := by
    rw [inI_1 (by rw [i_le, i_1]; omega) (by rw [i_le]; have : (999 : Int32).toInt = 999 := rfl; omega)]
    decide
  have hg := h.gli hb hr (u := u) (by omega)
  by_cases hf : floatX x b r u = 0
  · refine ⟨_, XtradeA hG nr h.n6 h.xr (fun k hk => h.xa hk) nb h.xb h.eb h.b8 (fun d hd => h.xt hd) b hb r hr e1 u hin hf ?_, okz S⟩
    rw [i_lt]
    have : ¬ u.toInt ≤ (glX x b r).toInt := fun z => hg.mpr z hf
    omega
  · have hf1 : floatX x b r u = 1 := flX_01.resolve_left hf
    have hl : u ≤ glX x b r := i_le.mpr (hg.mp hf)
    by_cases hp : lg_cmp (costX x r u) x.2.2.2 ≤ 0
    · have TB := Tie_buyT h.1 hb hr (by omega) hf1
      have SB := S.x1 TB rfl
      have hp2 := lgc_i.mp hp
      have R := h.1.2.1 r hr
      have ep : (x.1 11 r).toInt64.toInt = (x.1 11 r).toInt := Int32.toInt_toInt64 _
      have eu : u.toInt64.toInt = u.toInt := Int32.toInt_toInt64 _
      have pb : 1 ≤ (x.1 11 r).toInt ∧ (x.1 11 r).toInt ≤ 9999 := by rw [R.1]; exact ⟨R.2.1, R.2.2.1⟩
      have pm : 0 ≤ u.toInt * (x.1 11 r).toInt ∧ u.toInt * (x.1 11 r).toInt ≤ 300 * 9999 := ⟨Int.mul_nonneg (by omega) (by omega), Int.mul_le_mul (by omega) (by omega) (by omega) (by omega)⟩
      have ec : (costX x r u).toInt = u.toInt * (x.1 11 r).toInt := by
        unfold costX
        rw [Int64.toInt_mul, ep, eu]
        exact Int.bmod_eq_of_le (by omega) (by omega)
      have h0 : ¬ lg_cmp (buyX x b r u).2.2.2 0 < 0 := by
        have hm := Int64.toInt_lt x.2.2.2
        have e3 : (buyX x b r u).2.2.2.toInt = x.2.2.2.toInt - (costX x r u).toInt := by
          show (x.2.2.2 - costX x r u).toInt = _
          rw [Int64.toInt_sub]
          exact Int.bmod_eq_of_le (by omega) (by omega)
        intro z
        have z3 := Int64.lt_iff_toInt_lt.mp ((lg_cmp_lt _ _).mp z)
        have z4 : (0 : Int64).toInt = 0 := rfl
        omega
      by_cases hev : u - u / 2 * 2 = 0
      · exact ⟨_, XtradeC hG nr h.n6 h.xr (fun k hk => h.xa hk) nb h.xb h.eb h.b8 (fun d hd => h.xt hd) b hb r hr e1 u hin hf1 hp hl h0 hev, okz SB⟩
      · have B2 := SB.1.1.2.2.1.2 b hb
        have hc5 : u ≤ (buyF M b r u).1 17 b := by
          rw [buyF_17, if_pos rfl]
          have hc := (h.1.2.2.1.2 b hb).2.2.2.2.1
          rw [i_le, i_add (by omega) (by omega)]
          omega
        have hcs : u ≤ (buyX x b r u).2.1 b 5 := by rw [B2.2.2.2.1]; exact hc5
        have TS := Tie_sellT TB hb hr (by omega) hc5
        exact ⟨_, XtradeD hG nr h.n6 h.xr (fun k hk => h.xa hk) nb h.xb h.eb h.b8 (fun d hd => h.xt hd) b hb r hr e1 u hin hf1 hp hl h0 hev hcs, okz (SB.x1 TS rfl)⟩
    · exact ⟨_, XtradeB hG nr h.n6 h.xr (fun k hk => h.xa hk) nb h.xb h.eb h.b8 (fun d hd => h.xt hd) b hb r hr e1 u hin hf1 hp hl, okz S⟩
end
