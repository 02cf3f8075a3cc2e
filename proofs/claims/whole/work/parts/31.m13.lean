section
variable {l : Launch} {G : az_G} {ρ : Rp} {x : Xs} {m : Ms} {ou : Nat → Int64}
def allM (m : Ms) : Int32 := ((((0 + m.1 10 0) + m.1 10 1) + m.1 10 2) + m.1 10 3) + m.1 10 4
set_option maxHeartbeats 4000000 in
set_option maxRecDepth 100000 in
theorem MwaterFor0 (hG : az_okS l G) (nb : Nat) (v u : Int32) (hb : m.1 0 12 = nI nb) (hn : nb ≤ 8) (hv : oo nb v) : az_M l G yX4_waterFor (az_ws yX4_waterFor cX4_waterFor 7 (Option.some FieldType.int)) 8 [.ref (ρ.1 100), .int v, .int u] (AD ρ) (KK G ρ x m ou) 0 0 (az_r (some (.int 0)) (AD ρ) (KK G ρ x (mI m 0 0 1) ou)) := by
  refine az_start hG.1 (by decide +kernel) (Nat.le_of_ble_eq_true rfl) ?_
  intro p e s mm args below meth c C hnm
  show az_W l G 7 _ p e _ s mm args below meth c _ _ 0 0 0 [(0, .ref (ρ.1 100)), (1, .int v), (2, .int u)] []
  refine az_aload_n C 0 dX4_waterFor_0 rfl ?_
  refine az_iload_n C 1 dX4_waterFor_1 rfl ?_
  refine az_callV C Y_X4_isBarge cX4 2 0 [.int v] [] wm_X4_161 wi_X4_isBarge wse_X4_isBarge dX4_waterFor_2 rfl rfl rfl (Mb0 hG nb v hb hn (by omega) hv) rfl (Nat.le_of_ble_eq_true rfl) (Nat.le_of_ble_eq_true rfl) (Nat.le_of_ble_eq_true rfl) (Nat.le_of_ble_eq_true rfl) (Nat.le_of_ble_eq_true rfl) (az_k1 rfl rfl ?_) (az_k0 rfl)
  refine az_if_eq C 16 dX4_waterFor_5 (by decide) (fun _ => ?_) (fun q => absurd (by decide) q)
  refine az_aload_n C 0 dX4_waterFor_16 rfl ?_
  refine az_iconst C (v := 1) dX4_waterFor_17 (by decide) ?_
  refine az_callV C Y_X4_fails cX4 2 0 [.int 1] [] wm_X4_121 wi_X4_fails wse_X4_fails dX4_waterFor_18 rfl rfl rfl (Mfails hG (1)) rfl (Nat.le_of_ble_eq_true rfl) (Nat.le_of_ble_eq_true rfl) (Nat.le_of_ble_eq_true rfl) (Nat.le_of_ble_eq_true rfl) (Nat.le_of_ble_eq_true rfl) (az_k1 rfl rfl ?_) (az_k0 rfl)
  exact az_iret C rfl dX4_waterFor_21 (Nat.le_of_ble_eq_true rfl) (Nat.le_of_ble_eq_true rfl) ⟨rfl, rfl, rfl⟩

set_option maxHeartbeats 4000000 in
set_option maxRecDepth 100000 in
theorem MwaterFor00 (hG : az_okS l G) (nb b : Nat) (hb : m.1 0 12 = nI nb) (hn : nb ≤ 8) (hk : b + 1 ≤ nb) (nr : Nat) (v : Int32) (hr : m.1 0 1 = nI nr) (hn6 : nr ≤ 6) (hv : oo nr v) : az_M l G yX4_waterFor (az_ws yX4_waterFor cX4_waterFor 7 (Option.some FieldType.int)) 8 [.ref (ρ.1 100), .int (nI b), .int v] (AD ρ) (KK G ρ x m ou) 0 0 (az_r (some (.int 0)) (AD ρ) (KK G ρ x (mI m 0 0 1) ou)) := by
  refine az_start hG.1 (by decide +kernel) (Nat.le_of_ble_eq_true rfl) ?_
  intro p e s mm args below meth c C hnm
  show az_W l G 7 _ p e _ s mm args below meth c _ _ 0 0 0 [(0, .ref (ρ.1 100)), (1, .int (nI b)), (2, .int v)] []
  refine az_aload_n C 0 dX4_waterFor_0 rfl ?_
  refine az_iload_n C 1 dX4_waterFor_1 rfl ?_
  refine az_callV C Y_X4_isBarge cX4 2 0 [.int (nI b)] [] wm_X4_161 wi_X4_isBarge wse_X4_isBarge dX4_waterFor_2 rfl rfl rfl (Mb1 hG nb b hb hn hk) rfl (Nat.le_of_ble_eq_true rfl) (Nat.le_of_ble_eq_true rfl) (Nat.le_of_ble_eq_true rfl) (Nat.le_of_ble_eq_true rfl) (Nat.le_of_ble_eq_true rfl) (az_k1 rfl rfl ?_) (az_k0 rfl)
  refine az_if_eq C 16 dX4_waterFor_5 (by decide) (fun q => absurd q (by decide)) (fun _ => ?_)
  refine az_aload_n C 0 dX4_waterFor_8 rfl ?_
  refine az_iload_n C 2 dX4_waterFor_9 rfl ?_
  refine az_callV C Y_X4_isReach cX4 2 0 [.int v] [] wm_X4_128 wi_X4_isReach wse_X4_isReach dX4_waterFor_10 rfl rfl rfl (Mr0 hG nr v hr hn6 (by omega) hv) rfl (Nat.le_of_ble_eq_true rfl) (Nat.le_of_ble_eq_true rfl) (Nat.le_of_ble_eq_true rfl) (Nat.le_of_ble_eq_true rfl) (Nat.le_of_ble_eq_true rfl) (az_k1 rfl rfl ?_) (az_k0 rfl)
  refine az_if_ne C 22 dX4_waterFor_13 (by decide) (fun q => absurd (by decide) q) (fun _ => ?_)
  refine az_aload_n C 0 dX4_waterFor_16 rfl ?_
  refine az_iconst C (v := 1) dX4_waterFor_17 (by decide) ?_
  refine az_callV C Y_X4_fails cX4 2 0 [.int 1] [] wm_X4_121 wi_X4_fails wse_X4_fails dX4_waterFor_18 rfl rfl rfl (Mfails hG (1)) rfl (Nat.le_of_ble_eq_true rfl) (Nat.le_of_ble_eq_true rfl) (Nat.le_of_ble_eq_true rfl) (Nat.le_of_ble_eq_true rfl) (Nat.le_of_ble_eq_true rfl) (az_k1 rfl rfl ?_) (az_k0 rfl)
  exact az_iret C rfl dX4_waterFor_21 (Nat.le_of_ble_eq_true rfl) (Nat.le_of_ble_eq_true rfl) ⟨rfl, rfl, rfl⟩

set_option maxHeartbeats 4000000 in
set_option maxRecDepth 100000 in
theorem MwaterFor1 (hG : az_okS l G) (nr r b : Nat) (rl : List Nat) (f : Nat) (t : List Nat) (dst : Nat) (hdst : dst < nr) (hs : SlOK m nr r b rl f t) (hm : mvok m (6 * ((t.length + 1) * (2 * nr + 1)))) (nb : Nat) (hb : m.1 0 12 = nI nb) (hnb : nb ≤ 8) (hbk : b + 1 ≤ nb) (hrd : r = dst) : az_M l G yX4_waterFor (az_ws yX4_waterFor cX4_waterFor 7 (Option.some FieldType.int)) 8 [.ref (ρ.1 100), .int (nI b), .int (nI dst)] (AD ρ) (KK G ρ x m ou) 0 0 (az_r (some (.int (allM (sailM nr f t dst 6 (keepsM m) r 0).1 - allM m))) (AD ρ) (KK G ρ x (mI (canS m nr f t r dst) 0 0 0) ou)) := by
  refine az_start hG.1 (by decide +kernel) (Nat.le_of_ble_eq_true rfl) ?_
  intro p e s mm args below meth c C hnm
  show az_W l G 7 _ p e _ s mm args below meth c _ _ 0 0 0 [(0, .ref (ρ.1 100)), (1, .int (nI b)), (2, .int (nI dst))] []
  have hb8 : b < 8 := hs.2.2.2.2.1.1.1
  have hn6 : nr ≤ 6 := hs.2.1
  have hrn := hs.2.2.1
  refine az_aload_n C 0 dX4_waterFor_0 rfl ?_
  refine az_iload_n C 1 dX4_waterFor_1 rfl ?_
  refine az_callV C Y_X4_isBarge cX4 2 0 [.int (nI b)] [] wm_X4_161 wi_X4_isBarge wse_X4_isBarge dX4_waterFor_2 rfl rfl rfl (Mb1 hG nb b hb hnb hbk) rfl (Nat.le_of_ble_eq_true rfl) (Nat.le_of_ble_eq_true rfl) (Nat.le_of_ble_eq_true rfl) (Nat.le_of_ble_eq_true rfl) (Nat.le_of_ble_eq_true rfl) (az_k1 rfl rfl ?_) (az_k0 rfl)
  refine az_if_eq C 16 dX4_waterFor_5 (by decide) (fun q => absurd q (by decide)) (fun _ => ?_)
  refine az_aload_n C 0 dX4_waterFor_8 rfl ?_
  refine az_iload_n C 2 dX4_waterFor_9 rfl ?_
  refine az_callV C Y_X4_isReach cX4 2 0 [.int (nI dst)] [] wm_X4_128 wi_X4_isReach wse_X4_isReach dX4_waterFor_10 rfl rfl rfl (Mr1 hG nr dst hs.1 hs.2.1 (by omega)) rfl (Nat.le_of_ble_eq_true rfl) (Nat.le_of_ble_eq_true rfl) (Nat.le_of_ble_eq_true rfl) (Nat.le_of_ble_eq_true rfl) (Nat.le_of_ble_eq_true rfl) (az_k1 rfl rfl ?_) (az_k0 rfl)
  refine az_if_ne C 22 dX4_waterFor_13 (by decide) (fun _ => ?_) (fun q => absurd q (by decide))
  refine az_aload_n C 0 dX4_waterFor_22 rfl ?_
  refine az_callV C Y_X4_allThrough cX4 2 0 [] [] wm_X4_225 wi_X4_allThrough wse_X4_allThrough dX4_waterFor_23 rfl rfl rfl (Mall hG) rfl (Nat.le_of_ble_eq_true rfl) (Nat.le_of_ble_eq_true rfl) (Nat.le_of_ble_eq_true rfl) (Nat.le_of_ble_eq_true rfl) (Nat.le_of_ble_eq_true rfl) (az_k1 rfl rfl ?_) (az_k0 rfl)
  refine az_istore_n C (lv' := [(3, .int (allM m)), (0, .ref (ρ.1 100)), (1, .int (nI b)), (2, .int (nI dst))]) (j := 3) rfl dX4_waterFor_26 (by decide) rfl ?_
  refine az_aload_n C 1 dX4_waterFor_27 rfl ?_
  refine az_get C cX4 2 0 13 (v := .ref (ρ.1 113)) wl_X4_42 dX4_waterFor_28 rfl rfl rfl (by decide) ?_
  refine az_iload_n C 2 dX4_waterFor_31 rfl ?_
  refine az_ialdN C 2 13 b (v := m.1 13 b) dX4_waterFor_32 rfl rfl (by omega) (by decide) rfl ?_
  refine az_top (nI r) (hs.2.2.2.2.2.2.1 b hs.2.2.2.2.2.2.2).1 ?_
  refine az_iload_n C 3 dX4_waterFor_33 rfl ?_
  refine az_icmp_ne C 41 dX4_waterFor_34 (by decide) (fun q => absurd (by rw [hrd]) q) (fun _ => ?_)
  refine az_iconst C (v := 1) dX4_waterFor_37 (by decide) ?_
  refine az_goto C 42 dX4_waterFor_38 (by decide) ?_
  refine az_istore C (lv' := [(4, .int 1), (3, .int (allM m)), (0, .ref (ρ.1 100)), (1, .int (nI b)), (2, .int (nI dst))]) dX4_waterFor_42 (by decide) rfl ?_
  refine az_aload_n C 2 dX4_waterFor_44 rfl ?_
  refine az_callV C Y_X4_keeps cX4 2 0 [] [] wm_X4_213 wi_X4_keeps wse_X4_keeps dX4_waterFor_45 rfl rfl rfl (Mkeeps hG) rfl (Nat.le_of_ble_eq_true rfl) (Nat.le_of_ble_eq_true rfl) (Nat.le_of_ble_eq_true rfl) (Nat.le_of_ble_eq_true rfl) (Nat.le_of_ble_eq_true rfl) (az_k1 rfl rfl ?_) (az_k0 rfl)
  refine az_aload_n C 2 dX4_waterFor_48 rfl ?_
  refine az_iload_n C 3 dX4_waterFor_49 rfl ?_
  refine az_iload_n C 4 dX4_waterFor_50 rfl ?_
  refine az_callV C Y_X4_sails cX4 2 0 [.int (nI b), .int (nI dst)] [] wm_X4_219 wi_X4_sails wse_X4_sails dX4_waterFor_51 rfl rfl rfl (Msails hG nr r b rl f t dst hdst hs.keep (hm.eq rfl)) rfl (Nat.le_of_ble_eq_true rfl) (Nat.le_of_ble_eq_true rfl) (Nat.le_of_ble_eq_true rfl) (Nat.le_of_ble_eq_true rfl) (Nat.le_of_ble_eq_true rfl) (az_k1 rfl rfl ?_) (az_k0 rfl)
  refine az_istore C (lv' := [(5, .int ((sailM nr f t dst 6 (keepsM m) r 0).2)), (4, .int 1), (3, .int (allM m)), (0, .ref (ρ.1 100)), (1, .int (nI b)), (2, .int (nI dst))]) dX4_waterFor_54 (by decide) rfl ?_
  refine az_aload_n C 3 dX4_waterFor_56 rfl ?_
  refine az_callV C Y_X4_allThrough cX4 2 0 [] [] wm_X4_225 wi_X4_allThrough wse_X4_allThrough dX4_waterFor_57 rfl rfl rfl (Mall hG) rfl (Nat.le_of_ble_eq_true rfl) (Nat.le_of_ble_eq_true rfl) (Nat.le_of_ble_eq_true rfl) (Nat.le_of_ble_eq_true rfl) (Nat.le_of_ble_eq_true rfl) (az_k1 rfl rfl ?_) (az_k0 rfl)
  refine az_iload_n C 2 dX4_waterFor_60 rfl ?_
  refine az_isub C dX4_waterFor_61 ?_
  refine az_istore C (lv' := [(6, .int ((allM (sailM nr f t dst 6 (keepsM m) r 0).1 - allM m))), (5, .int ((sailM nr f t dst 6 (keepsM m) r 0).2)), (4, .int 1), (3, .int (allM m)), (0, .ref (ρ.1 100)), (1, .int (nI b)), (2, .int (nI dst))]) dX4_waterFor_62 (by decide) rfl ?_
  refine az_aload_n C 4 dX4_waterFor_64 rfl ?_
  refine az_callV C Y_X4_takesBack cX4 2 0 [] [] wm_X4_204 wi_X4_takesBack wse_X4_takesBack dX4_waterFor_65 rfl rfl rfl (MtakesBack hG) rfl (Nat.le_of_ble_eq_true rfl) (Nat.le_of_ble_eq_true rfl) (Nat.le_of_ble_eq_true rfl) (Nat.le_of_ble_eq_true rfl) (Nat.le_of_ble_eq_true rfl) (az_k1 rfl rfl ?_) (az_k0 rfl)
  refine az_iload C 2 dX4_waterFor_68 rfl ?_
  refine az_if_ne C 78 dX4_waterFor_70 (by decide) (fun _ => ?_) (fun q => absurd q (by decide))
  refine az_aload_n C 4 dX4_waterFor_78 rfl ?_
  refine az_iload C 0 dX4_waterFor_79 rfl ?_
  refine az_callV C Y_X4_tells cX4 2 0 [.int ((allM (sailM nr f t dst 6 (keepsM m) r 0).1 - allM m))] [] wm_X4_125 wi_X4_tells wse_X4_tells dX4_waterFor_81 rfl rfl rfl (Mtells hG ((allM (sailM nr f t dst 6 (keepsM m) r 0).1 - allM m))) rfl (Nat.le_of_ble_eq_true rfl) (Nat.le_of_ble_eq_true rfl) (Nat.le_of_ble_eq_true rfl) (Nat.le_of_ble_eq_true rfl) (Nat.le_of_ble_eq_true rfl) (az_k1 rfl rfl ?_) (az_k0 rfl)
  refine az_goto C 92 dX4_waterFor_84 (by decide) ?_
  exact az_iret C rfl dX4_waterFor_92 (Nat.le_of_ble_eq_true rfl) (Nat.le_of_ble_eq_true rfl) ⟨rfl, rfl, rfl⟩

set_option maxHeartbeats 4000000 in
set_option maxRecDepth 100000 in
theorem MwaterFor2 (hG : az_okS l G) (nr r b : Nat) (rl : List Nat) (f : Nat) (t : List Nat) (dst : Nat) (hdst : dst < nr) (hs : SlOK m nr r b rl f t) (hm : mvok m (6 * ((t.length + 1) * (2 * nr + 1)))) (nb : Nat) (hb : m.1 0 12 = nI nb) (hnb : nb ≤ 8) (hbk : b + 1 ≤ nb) (hrd : ¬ r = dst) (hp : ¬ (sailM nr f t dst 6 (keepsM m) r 0).2 ≤ 0) : az_M l G yX4_waterFor (az_ws yX4_waterFor cX4_waterFor 7 (Option.some FieldType.int)) 8 [.ref (ρ.1 100), .int (nI b), .int (nI dst)] (AD ρ) (KK G ρ x m ou) 0 0 (az_r (some (.int (allM (sailM nr f t dst 6 (keepsM m) r 0).1 - allM m))) (AD ρ) (KK G ρ x (mI (canS m nr f t r dst) 0 0 0) ou)) := by
  refine az_start hG.1 (by decide +kernel) (Nat.le_of_ble_eq_true rfl) ?_
  intro p e s mm args below meth c C hnm
  show az_W l G 7 _ p e _ s mm args below meth c _ _ 0 0 0 [(0, .ref (ρ.1 100)), (1, .int (nI b)), (2, .int (nI dst))] []
  have hb8 : b < 8 := hs.2.2.2.2.1.1.1
  have hn6 : nr ≤ 6 := hs.2.1
  have hrn := hs.2.2.1
  refine az_aload_n C 0 dX4_waterFor_0 rfl ?_
  refine az_iload_n C 1 dX4_waterFor_1 rfl ?_
  refine az_callV C Y_X4_isBarge cX4 2 0 [.int (nI b)] [] wm_X4_161 wi_X4_isBarge wse_X4_isBarge dX4_waterFor_2 rfl rfl rfl (Mb1 hG nb b hb hnb hbk) rfl (Nat.le_of_ble_eq_true rfl) (Nat.le_of_ble_eq_true rfl) (Nat.le_of_ble_eq_true rfl) (Nat.le_of_ble_eq_true rfl) (Nat.le_of_ble_eq_true rfl) (az_k1 rfl rfl ?_) (az_k0 rfl)
  refine az_if_eq C 16 dX4_waterFor_5 (by decide) (fun q => absurd q (by decide)) (fun _ => ?_)
  refine az_aload_n C 0 dX4_waterFor_8 rfl ?_
  refine az_iload_n C 2 dX4_waterFor_9 rfl ?_
  refine az_callV C Y_X4_isReach cX4 2 0 [.int (nI dst)] [] wm_X4_128 wi_X4_isReach wse_X4_isReach dX4_waterFor_10 rfl rfl rfl (Mr1 hG nr dst hs.1 hs.2.1 (by omega)) rfl (Nat.le_of_ble_eq_true rfl) (Nat.le_of_ble_eq_true rfl) (Nat.le_of_ble_eq_true rfl) (Nat.le_of_ble_eq_true rfl) (Nat.le_of_ble_eq_true rfl) (az_k1 rfl rfl ?_) (az_k0 rfl)
  refine az_if_ne C 22 dX4_waterFor_13 (by decide) (fun _ => ?_) (fun q => absurd q (by decide))
  refine az_aload_n C 0 dX4_waterFor_22 rfl ?_
  refine az_callV C Y_X4_allThrough cX4 2 0 [] [] wm_X4_225 wi_X4_allThrough wse_X4_allThrough dX4_waterFor_23 rfl rfl rfl (Mall hG) rfl (Nat.le_of_ble_eq_true rfl) (Nat.le_of_ble_eq_true rfl) (Nat.le_of_ble_eq_true rfl) (Nat.le_of_ble_eq_true rfl) (Nat.le_of_ble_eq_true rfl) (az_k1 rfl rfl ?_) (az_k0 rfl)
  refine az_istore_n C (lv' := [(3, .int (allM m)), (0, .ref (ρ.1 100)), (1, .int (nI b)), (2, .int (nI dst))]) (j := 3) rfl dX4_waterFor_26 (by decide) rfl ?_
  refine az_aload_n C 1 dX4_waterFor_27 rfl ?_
  refine az_get C cX4 2 0 13 (v := .ref (ρ.1 113)) wl_X4_42 dX4_waterFor_28 rfl rfl rfl (by decide) ?_
  refine az_iload_n C 2 dX4_waterFor_31 rfl ?_
  refine az_ialdN C 2 13 b (v := m.1 13 b) dX4_waterFor_32 rfl rfl (by omega) (by decide) rfl ?_
  refine az_top (nI r) (hs.2.2.2.2.2.2.1 b hs.2.2.2.2.2.2.2).1 ?_
  refine az_iload_n C 3 dX4_waterFor_33 rfl ?_
  refine az_icmp_ne C 41 dX4_waterFor_34 (by decide) (fun _ => ?_) (fun q => absurd q (fun z => hrd (by rw [nI_eq (by omega) (by omega)] at z; exact z)))
  refine az_iconst C (v := 0) dX4_waterFor_41 (by decide) ?_
  refine az_istore C (lv' := [(4, .int 0), (3, .int (allM m)), (0, .ref (ρ.1 100)), (1, .int (nI b)), (2, .int (nI dst))]) dX4_waterFor_42 (by decide) rfl ?_
  refine az_aload_n C 2 dX4_waterFor_44 rfl ?_
  refine az_callV C Y_X4_keeps cX4 2 0 [] [] wm_X4_213 wi_X4_keeps wse_X4_keeps dX4_waterFor_45 rfl rfl rfl (Mkeeps hG) rfl (Nat.le_of_ble_eq_true rfl) (Nat.le_of_ble_eq_true rfl) (Nat.le_of_ble_eq_true rfl) (Nat.le_of_ble_eq_true rfl) (Nat.le_of_ble_eq_true rfl) (az_k1 rfl rfl ?_) (az_k0 rfl)
  refine az_aload_n C 2 dX4_waterFor_48 rfl ?_
  refine az_iload_n C 3 dX4_waterFor_49 rfl ?_
  refine az_iload_n C 4 dX4_waterFor_50 rfl ?_
  refine az_callV C Y_X4_sails cX4 2 0 [.int (nI b), .int (nI dst)] [] wm_X4_219 wi_X4_sails wse_X4_sails dX4_waterFor_51 rfl rfl rfl (Msails hG nr r b rl f t dst hdst hs.keep (hm.eq rfl)) rfl (Nat.le_of_ble_eq_true rfl) (Nat.le_of_ble_eq_true rfl) (Nat.le_of_ble_eq_true rfl) (Nat.le_of_ble_eq_true rfl) (Nat.le_of_ble_eq_true rfl) (az_k1 rfl rfl ?_) (az_k0 rfl)
  refine az_istore C (lv' := [(5, .int ((sailM nr f t dst 6 (keepsM m) r 0).2)), (4, .int 0), (3, .int (allM m)), (0, .ref (ρ.1 100)), (1, .int (nI b)), (2, .int (nI dst))]) dX4_waterFor_54 (by decide) rfl ?_
  refine az_aload_n C 3 dX4_waterFor_56 rfl ?_
  refine az_callV C Y_X4_allThrough cX4 2 0 [] [] wm_X4_225 wi_X4_allThrough wse_X4_allThrough dX4_waterFor_57 rfl rfl rfl (Mall hG) rfl (Nat.le_of_ble_eq_true rfl) (Nat.le_of_ble_eq_true rfl) (Nat.le_of_ble_eq_true rfl) (Nat.le_of_ble_eq_true rfl) (Nat.le_of_ble_eq_true rfl) (az_k1 rfl rfl ?_) (az_k0 rfl)
  refine az_iload_n C 2 dX4_waterFor_60 rfl ?_
  refine az_isub C dX4_waterFor_61 ?_
  refine az_istore C (lv' := [(6, .int ((allM (sailM nr f t dst 6 (keepsM m) r 0).1 - allM m))), (5, .int ((sailM nr f t dst 6 (keepsM m) r 0).2)), (4, .int 0), (3, .int (allM m)), (0, .ref (ρ.1 100)), (1, .int (nI b)), (2, .int (nI dst))]) dX4_waterFor_62 (by decide) rfl ?_
  refine az_aload_n C 4 dX4_waterFor_64 rfl ?_
  refine az_callV C Y_X4_takesBack cX4 2 0 [] [] wm_X4_204 wi_X4_takesBack wse_X4_takesBack dX4_waterFor_65 rfl rfl rfl (MtakesBack hG) rfl (Nat.le_of_ble_eq_true rfl) (Nat.le_of_ble_eq_true rfl) (Nat.le_of_ble_eq_true rfl) (Nat.le_of_ble_eq_true rfl) (Nat.le_of_ble_eq_true rfl) (az_k1 rfl rfl ?_) (az_k0 rfl)
  refine az_iload C 2 dX4_waterFor_68 rfl ?_
  refine az_if_ne C 78 dX4_waterFor_70 (by decide) (fun q => absurd (by decide) q) (fun _ => ?_)
  refine az_iload C 1 dX4_waterFor_73 rfl ?_
  refine az_if_le C 87 dX4_waterFor_75 (by decide) (fun q => absurd q hp) (fun _ => ?_)
  refine az_aload_n C 4 dX4_waterFor_78 rfl ?_
  refine az_iload C 0 dX4_waterFor_79 rfl ?_
  refine az_callV C Y_X4_tells cX4 2 0 [.int ((allM (sailM nr f t dst 6 (keepsM m) r 0).1 - allM m))] [] wm_X4_125 wi_X4_tells wse_X4_tells dX4_waterFor_81 rfl rfl rfl (Mtells hG ((allM (sailM nr f t dst 6 (keepsM m) r 0).1 - allM m))) rfl (Nat.le_of_ble_eq_true rfl) (Nat.le_of_ble_eq_true rfl) (Nat.le_of_ble_eq_true rfl) (Nat.le_of_ble_eq_true rfl) (Nat.le_of_ble_eq_true rfl) (az_k1 rfl rfl ?_) (az_k0 rfl)
  refine az_goto C 92 dX4_waterFor_84 (by decide) ?_
  exact az_iret C rfl dX4_waterFor_92 (Nat.le_of_ble_eq_true rfl) (Nat.le_of_ble_eq_true rfl) ⟨rfl, rfl, rfl⟩

set_option maxHeartbeats 4000000 in
set_option maxRecDepth 100000 in
theorem MwaterFor3 (hG : az_okS l G) (nr r b : Nat) (rl : List Nat) (f : Nat) (t : List Nat) (dst : Nat) (hdst : dst < nr) (hs : SlOK m nr r b rl f t) (hm : mvok m (6 * ((t.length + 1) * (2 * nr + 1)))) (nb : Nat) (hb : m.1 0 12 = nI nb) (hnb : nb ≤ 8) (hbk : b + 1 ≤ nb) (hrd : ¬ r = dst) (hp : (sailM nr f t dst 6 (keepsM m) r 0).2 ≤ 0) : az_M l G yX4_waterFor (az_ws yX4_waterFor cX4_waterFor 7 (Option.some FieldType.int)) 8 [.ref (ρ.1 100), .int (nI b), .int (nI dst)] (AD ρ) (KK G ρ x m ou) 0 0 (az_r (some (.int 0)) (AD ρ) (KK G ρ x (mI (canS m nr f t r dst) 0 0 2) ou)) := by
  refine az_start hG.1 (by decide +kernel) (Nat.le_of_ble_eq_true rfl) ?_
  intro p e s mm args below meth c C hnm
  show az_W l G 7 _ p e _ s mm args below meth c _ _ 0 0 0 [(0, .ref (ρ.1 100)), (1, .int (nI b)), (2, .int (nI dst))] []
  have hb8 : b < 8 := hs.2.2.2.2.1.1.1
  have hn6 : nr ≤ 6 := hs.2.1
  have hrn := hs.2.2.1
  refine az_aload_n C 0 dX4_waterFor_0 rfl ?_
  refine az_iload_n C 1 dX4_waterFor_1 rfl ?_
  refine az_callV C Y_X4_isBarge cX4 2 0 [.int (nI b)] [] wm_X4_161 wi_X4_isBarge wse_X4_isBarge dX4_waterFor_2 rfl rfl rfl (Mb1 hG nb b hb hnb hbk) rfl (Nat.le_of_ble_eq_true rfl) (Nat.le_of_ble_eq_true rfl) (Nat.le_of_ble_eq_true rfl) (Nat.le_of_ble_eq_true rfl) (Nat.le_of_ble_eq_true rfl) (az_k1 rfl rfl ?_) (az_k0 rfl)
  refine az_if_eq C 16 dX4_waterFor_5 (by decide) (fun q => absurd q (by decide)) (fun _ => ?_)
  refine az_aload_n C 0 dX4_waterFor_8 rfl ?_
  refine az_iload_n C 2 dX4_waterFor_9 rfl ?_
  refine az_callV C Y_X4_isReach cX4 2 0 [.int (nI dst)] [] wm_X4_128 wi_X4_isReach wse_X4_isReach dX4_waterFor_10 rfl rfl rfl (Mr1 hG nr dst hs.1 hs.2.1 (by omega)) rfl (Nat.le_of_ble_eq_true rfl) (Nat.le_of_ble_eq_true rfl) (Nat.le_of_ble_eq_true rfl) (Nat.le_of_ble_eq_true rfl) (Nat.le_of_ble_eq_true rfl) (az_k1 rfl rfl ?_) (az_k0 rfl)
  refine az_if_ne C 22 dX4_waterFor_13 (by decide) (fun _ => ?_) (fun q => absurd q (by decide))
  refine az_aload_n C 0 dX4_waterFor_22 rfl ?_
  refine az_callV C Y_X4_allThrough cX4 2 0 [] [] wm_X4_225 wi_X4_allThrough wse_X4_allThrough dX4_waterFor_23 rfl rfl rfl (Mall hG) rfl (Nat.le_of_ble_eq_true rfl) (Nat.le_of_ble_eq_true rfl) (Nat.le_of_ble_eq_true rfl) (Nat.le_of_ble_eq_true rfl) (Nat.le_of_ble_eq_true rfl) (az_k1 rfl rfl ?_) (az_k0 rfl)
  refine az_istore_n C (lv' := [(3, .int (allM m)), (0, .ref (ρ.1 100)), (1, .int (nI b)), (2, .int (nI dst))]) (j := 3) rfl dX4_waterFor_26 (by decide) rfl ?_
  refine az_aload_n C 1 dX4_waterFor_27 rfl ?_
  refine az_get C cX4 2 0 13 (v := .ref (ρ.1 113)) wl_X4_42 dX4_waterFor_28 rfl rfl rfl (by decide) ?_
  refine az_iload_n C 2 dX4_waterFor_31 rfl ?_
  refine az_ialdN C 2 13 b (v := m.1 13 b) dX4_waterFor_32 rfl rfl (by omega) (by decide) rfl ?_
  refine az_top (nI r) (hs.2.2.2.2.2.2.1 b hs.2.2.2.2.2.2.2).1 ?_
  refine az_iload_n C 3 dX4_waterFor_33 rfl ?_
  refine az_icmp_ne C 41 dX4_waterFor_34 (by decide) (fun _ => ?_) (fun q => absurd q (fun z => hrd (by rw [nI_eq (by omega) (by omega)] at z; exact z)))
  refine az_iconst C (v := 0) dX4_waterFor_41 (by decide) ?_
  refine az_istore C (lv' := [(4, .int 0), (3, .int (allM m)), (0, .ref (ρ.1 100)), (1, .int (nI b)), (2, .int (nI dst))]) dX4_waterFor_42 (by decide) rfl ?_
  refine az_aload_n C 2 dX4_waterFor_44 rfl ?_
  refine az_callV C Y_X4_keeps cX4 2 0 [] [] wm_X4_213 wi_X4_keeps wse_X4_keeps dX4_waterFor_45 rfl rfl rfl (Mkeeps hG) rfl (Nat.le_of_ble_eq_true rfl) (Nat.le_of_ble_eq_true rfl) (Nat.le_of_ble_eq_true rfl) (Nat.le_of_ble_eq_true rfl) (Nat.le_of_ble_eq_true rfl) (az_k1 rfl rfl ?_) (az_k0 rfl)
  refine az_aload_n C 2 dX4_waterFor_48 rfl ?_
  refine az_iload_n C 3 dX4_waterFor_49 rfl ?_
  refine az_iload_n C 4 dX4_waterFor_50 rfl ?_
  refine az_callV C Y_X4_sails cX4 2 0 [.int (nI b), .int (nI dst)] [] wm_X4_219 wi_X4_sails wse_X4_sails dX4_waterFor_51 rfl rfl rfl (Msails hG nr r b rl f t dst hdst hs.keep (hm.eq rfl)) rfl (Nat.le_of_ble_eq_true rfl) (Nat.le_of_ble_eq_true rfl) (Nat.le_of_ble_eq_true rfl) (Nat.le_of_ble_eq_true rfl) (Nat.le_of_ble_eq_true rfl) (az_k1 rfl rfl ?_) (az_k0 rfl)
  refine az_istore C (lv' := [(5, .int ((sailM nr f t dst 6 (keepsM m) r 0).2)), (4, .int 0), (3, .int (allM m)), (0, .ref (ρ.1 100)), (1, .int (nI b)), (2, .int (nI dst))]) dX4_waterFor_54 (by decide) rfl ?_
  refine az_aload_n C 3 dX4_waterFor_56 rfl ?_
  refine az_callV C Y_X4_allThrough cX4 2 0 [] [] wm_X4_225 wi_X4_allThrough wse_X4_allThrough dX4_waterFor_57 rfl rfl rfl (Mall hG) rfl (Nat.le_of_ble_eq_true rfl) (Nat.le_of_ble_eq_true rfl) (Nat.le_of_ble_eq_true rfl) (Nat.le_of_ble_eq_true rfl) (Nat.le_of_ble_eq_true rfl) (az_k1 rfl rfl ?_) (az_k0 rfl)
  refine az_iload_n C 2 dX4_waterFor_60 rfl ?_
  refine az_isub C dX4_waterFor_61 ?_
  refine az_istore C (lv' := [(6, .int ((allM (sailM nr f t dst 6 (keepsM m) r 0).1 - allM m))), (5, .int ((sailM nr f t dst 6 (keepsM m) r 0).2)), (4, .int 0), (3, .int (allM m)), (0, .ref (ρ.1 100)), (1, .int (nI b)), (2, .int (nI dst))]) dX4_waterFor_62 (by decide) rfl ?_
  refine az_aload_n C 4 dX4_waterFor_64 rfl ?_
  refine az_callV C Y_X4_takesBack cX4 2 0 [] [] wm_X4_204 wi_X4_takesBack wse_X4_takesBack dX4_waterFor_65 rfl rfl rfl (MtakesBack hG) rfl (Nat.le_of_ble_eq_true rfl) (Nat.le_of_ble_eq_true rfl) (Nat.le_of_ble_eq_true rfl) (Nat.le_of_ble_eq_true rfl) (Nat.le_of_ble_eq_true rfl) (az_k1 rfl rfl ?_) (az_k0 rfl)
  refine az_iload C 2 dX4_waterFor_68 rfl ?_
  refine az_if_ne C 78 dX4_waterFor_70 (by decide) (fun q => absurd (by decide) q) (fun _ => ?_)
  refine az_iload C 1 dX4_waterFor_73 rfl ?_
  refine az_if_le C 87 dX4_waterFor_75 (by decide) (fun _ => ?_) (fun q => absurd hp q)
  refine az_aload_n C 4 dX4_waterFor_87 rfl ?_
  refine az_iconst C (v := 2) dX4_waterFor_88 (by decide) ?_
  refine az_callV C Y_X4_fails cX4 2 0 [.int 2] [] wm_X4_121 wi_X4_fails wse_X4_fails dX4_waterFor_89 rfl rfl rfl (Mfails hG (2)) rfl (Nat.le_of_ble_eq_true rfl) (Nat.le_of_ble_eq_true rfl) (Nat.le_of_ble_eq_true rfl) (Nat.le_of_ble_eq_true rfl) (Nat.le_of_ble_eq_true rfl) (az_k1 rfl rfl ?_) (az_k0 rfl)
  exact az_iret C rfl dX4_waterFor_92 (Nat.le_of_ble_eq_true rfl) (Nat.le_of_ble_eq_true rfl) ⟨rfl, rfl, rfl⟩

set_option maxHeartbeats 4000000 in
set_option maxRecDepth 100000 in
theorem Mpass0 (hG : az_okS l G) (nb : Nat) (v u : Int32) (hb : m.1 0 12 = nI nb) (hn : nb ≤ 8) (hv : oo nb v) : az_M l G yX4_pass (az_ws yX4_pass cX4_pass 3 (Option.some FieldType.int)) 8 [.ref (ρ.1 100), .int v, .int u] (AD ρ) (KK G ρ x m ou) 0 0 (az_r (some (.int 0)) (AD ρ) (KK G ρ x (mI m 0 0 1) ou)) := by
  refine az_start hG.1 (by decide +kernel) (Nat.le_of_ble_eq_true rfl) ?_
  intro p e s mm args below meth c C hnm
  show az_W l G 3 _ p e _ s mm args below meth c _ _ 0 0 0 [(0, .ref (ρ.1 100)), (1, .int v), (2, .int u)] []
  refine az_aload_n C 0 dX4_pass_0 rfl ?_
  refine az_iload_n C 1 dX4_pass_1 rfl ?_
  refine az_callV C Y_X4_isBarge cX4 2 0 [.int v] [] wm_X4_161 wi_X4_isBarge wse_X4_isBarge dX4_pass_2 rfl rfl rfl (Mb0 hG nb v hb hn (by omega) hv) rfl (Nat.le_of_ble_eq_true rfl) (Nat.le_of_ble_eq_true rfl) (Nat.le_of_ble_eq_true rfl) (Nat.le_of_ble_eq_true rfl) (Nat.le_of_ble_eq_true rfl) (az_k1 rfl rfl ?_) (az_k0 rfl)
  refine az_if_ne C 14 dX4_pass_5 (by decide) (fun q => absurd (by decide) q) (fun _ => ?_)
  refine az_aload_n C 0 dX4_pass_8 rfl ?_
  refine az_iconst C (v := 1) dX4_pass_9 (by decide) ?_
  refine az_callV C Y_X4_fails cX4 2 0 [.int 1] [] wm_X4_121 wi_X4_fails wse_X4_fails dX4_pass_10 rfl rfl rfl (Mfails hG (1)) rfl (Nat.le_of_ble_eq_true rfl) (Nat.le_of_ble_eq_true rfl) (Nat.le_of_ble_eq_true rfl) (Nat.le_of_ble_eq_true rfl) (Nat.le_of_ble_eq_true rfl) (az_k1 rfl rfl ?_) (az_k0 rfl)
  exact az_iret C rfl dX4_pass_13 (Nat.le_of_ble_eq_true rfl) (Nat.le_of_ble_eq_true rfl) ⟨rfl, rfl, rfl⟩

set_option maxHeartbeats 4000000 in
set_option maxRecDepth 100000 in
theorem Mpass1_1 (hG : az_okS l G) (nr r b : Nat) (rl : List Nat) (f : Nat) (t : List Nat) (hs : SlOK m nr r b rl f t) (hm : mvok m ((t.length + 1) * (2 * nr + 1))) (nb : Nat) (hb : m.1 0 12 = nI nb) (hnb : nb ≤ 8) (hbk : b + 1 ≤ nb) (he : r + 1 = nr) : az_M l G yX4_pass (az_ws yX4_pass cX4_pass 3 (Option.some FieldType.int)) 8 [.ref (ρ.1 100), .int (nI b), .int 1] (AD ρ) (KK G ρ x m ou) 0 0 (az_r (some (.int 0)) (AD ρ) (KK G ρ x (mI m 0 0 2) ou)) := by
  refine az_start hG.1 (by decide +kernel) (Nat.le_of_ble_eq_true rfl) ?_
  intro p e s mm args below meth c C hnm
  show az_W l G 3 _ p e _ s mm args below meth c _ _ 0 0 0 [(0, .ref (ρ.1 100)), (1, .int (nI b)), (2, .int 1)] []
  have hb8 : b < 8 := hs.2.2.2.2.1.1.1
  have hn6 : nr ≤ 6 := hs.2.1
  have hrn := hs.2.2.1
  refine az_aload_n C 0 dX4_pass_0 rfl ?_
  refine az_iload_n C 1 dX4_pass_1 rfl ?_
  refine az_callV C Y_X4_isBarge cX4 2 0 [.int (nI b)] [] wm_X4_161 wi_X4_isBarge wse_X4_isBarge dX4_pass_2 rfl rfl rfl (Mb1 hG nb b hb hnb hbk) rfl (Nat.le_of_ble_eq_true rfl) (Nat.le_of_ble_eq_true rfl) (Nat.le_of_ble_eq_true rfl) (Nat.le_of_ble_eq_true rfl) (Nat.le_of_ble_eq_true rfl) (az_k1 rfl rfl ?_) (az_k0 rfl)
  refine az_if_ne C 14 dX4_pass_5 (by decide) (fun _ => ?_) (fun q => absurd q (by decide))
  refine az_aload_n C 0 dX4_pass_14 rfl ?_
  refine az_get C cX4 2 0 13 (v := .ref (ρ.1 113)) wl_X4_42 dX4_pass_15 rfl rfl rfl (by decide) ?_
  refine az_iload_n C 1 dX4_pass_18 rfl ?_
  refine az_ialdN C 2 13 b (v := m.1 13 b) dX4_pass_19 rfl rfl (by omega) (by decide) rfl ?_
  refine az_top (nI r) (hs.2.2.2.2.2.2.1 b hs.2.2.2.2.2.2.2).1 ?_
  refine az_iload_n C 2 dX4_pass_20 rfl ?_
  refine az_if_eq C 33 dX4_pass_21 (by decide) (fun q => absurd q (by decide)) (fun _ => ?_)
  refine az_aload_n C 0 dX4_pass_24 rfl ?_
  refine az_get C cX4 2 0 1 (v := .int (m.1 0 1)) wl_X4_7 dX4_pass_25 rfl rfl rfl (by decide) ?_
  refine az_top (nI nr) hs.1 ?_
  refine az_iconst C (v := 1) dX4_pass_28 (by decide) ?_
  refine az_isub C dX4_pass_29 ?_
  refine az_top (nI (nr - 1)) (show nI nr - 1 = nI (nr - 1) from pk_sub (b := 1) (by omega)) ?_
  refine az_goto C 34 dX4_pass_30 (by decide) ?_
  refine az_icmp_ne C 43 dX4_pass_34 (by decide) (fun q => absurd (by rw [show r = nr - 1 from by omega]) q) (fun _ => ?_)
  refine az_aload_n C 0 dX4_pass_37 rfl ?_
  refine az_iconst C (v := 2) dX4_pass_38 (by decide) ?_
  refine az_callV C Y_X4_fails cX4 2 0 [.int 2] [] wm_X4_121 wi_X4_fails wse_X4_fails dX4_pass_39 rfl rfl rfl (Mfails hG (2)) rfl (Nat.le_of_ble_eq_true rfl) (Nat.le_of_ble_eq_true rfl) (Nat.le_of_ble_eq_true rfl) (Nat.le_of_ble_eq_true rfl) (Nat.le_of_ble_eq_true rfl) (az_k1 rfl rfl ?_) (az_k0 rfl)
  exact az_iret C rfl dX4_pass_42 (Nat.le_of_ble_eq_true rfl) (Nat.le_of_ble_eq_true rfl) ⟨rfl, rfl, rfl⟩

set_option maxHeartbeats 4000000 in
set_option maxRecDepth 100000 in
theorem Mpass1_2 (hG : az_okS l G) (nr r b : Nat) (rl : List Nat) (f : Nat) (t : List Nat) (hs : SlOK m nr r b rl f t) (hm : mvok m ((t.length + 1) * (2 * nr + 1))) (nb : Nat) (hb : m.1 0 12 = nI nb) (hnb : nb ≤ 8) (hbk : b + 1 ≤ nb) (he : ¬ r + 1 = nr) (hp : 0 < (passM (keepsM m) nr r true f t).2) : az_M l G yX4_pass (az_ws yX4_pass cX4_pass 3 (Option.some FieldType.int)) 8 [.ref (ρ.1 100), .int (nI b), .int 1] (AD ρ) (KK G ρ x m ou) 0 0 (az_r (some (.int (passM (keepsM m) nr r true f t).2)) (AD ρ) (KK G ρ x (mI (passM (keepsM m) nr r true f t).1 0 0 0) ou)) := by
  refine az_start hG.1 (by decide +kernel) (Nat.le_of_ble_eq_true rfl) ?_
  intro p e s mm args below meth c C hnm
  show az_W l G 3 _ p e _ s mm args below meth c _ _ 0 0 0 [(0, .ref (ρ.1 100)), (1, .int (nI b)), (2, .int 1)] []
  have hb8 : b < 8 := hs.2.2.2.2.1.1.1
  have hn6 : nr ≤ 6 := hs.2.1
  have hrn := hs.2.2.1
  have hs2 : SlOK (keepsM m) nr (rIn true r) b rl f t := hs.keep
  refine az_aload_n C 0 dX4_pass_0 rfl ?_
  refine az_iload_n C 1 dX4_pass_1 rfl ?_
  refine az_callV C Y_X4_isBarge cX4 2 0 [.int (nI b)] [] wm_X4_161 wi_X4_isBarge wse_X4_isBarge dX4_pass_2 rfl rfl rfl (Mb1 hG nb b hb hnb hbk) rfl (Nat.le_of_ble_eq_true rfl) (Nat.le_of_ble_eq_true rfl) (Nat.le_of_ble_eq_true rfl) (Nat.le_of_ble_eq_true rfl) (Nat.le_of_ble_eq_true rfl) (az_k1 rfl rfl ?_) (az_k0 rfl)
  refine az_if_ne C 14 dX4_pass_5 (by decide) (fun _ => ?_) (fun q => absurd q (by decide))
  refine az_aload_n C 0 dX4_pass_14 rfl ?_
  refine az_get C cX4 2 0 13 (v := .ref (ρ.1 113)) wl_X4_42 dX4_pass_15 rfl rfl rfl (by decide) ?_
  refine az_iload_n C 1 dX4_pass_18 rfl ?_
  refine az_ialdN C 2 13 b (v := m.1 13 b) dX4_pass_19 rfl rfl (by omega) (by decide) rfl ?_
  refine az_top (nI r) (hs.2.2.2.2.2.2.1 b hs.2.2.2.2.2.2.2).1 ?_
  refine az_iload_n C 2 dX4_pass_20 rfl ?_
  refine az_if_eq C 33 dX4_pass_21 (by decide) (fun q => absurd q (by decide)) (fun _ => ?_)
  refine az_aload_n C 0 dX4_pass_24 rfl ?_
  refine az_get C cX4 2 0 1 (v := .int (m.1 0 1)) wl_X4_7 dX4_pass_25 rfl rfl rfl (by decide) ?_
  refine az_top (nI nr) hs.1 ?_
  refine az_iconst C (v := 1) dX4_pass_28 (by decide) ?_
  refine az_isub C dX4_pass_29 ?_
  refine az_top (nI (nr - 1)) (show nI nr - 1 = nI (nr - 1) from pk_sub (b := 1) (by omega)) ?_
  refine az_goto C 34 dX4_pass_30 (by decide) ?_
  refine az_icmp_ne C 43 dX4_pass_34 (by decide) (fun _ => ?_) (fun q => absurd q (fun z => he (by rw [nI_eq (by omega) (by omega)] at z; omega)))
  refine az_aload_n C 0 dX4_pass_43 rfl ?_
  refine az_callV C Y_X4_keeps cX4 2 0 [] [] wm_X4_213 wi_X4_keeps wse_X4_keeps dX4_pass_44 rfl rfl rfl (Mkeeps hG) rfl (Nat.le_of_ble_eq_true rfl) (Nat.le_of_ble_eq_true rfl) (Nat.le_of_ble_eq_true rfl) (Nat.le_of_ble_eq_true rfl) (Nat.le_of_ble_eq_true rfl) (az_k1 rfl rfl ?_) (az_k0 rfl)
  refine az_aload_n C 0 dX4_pass_47 rfl ?_
  refine az_aload_n C 0 dX4_pass_48 rfl ?_
  refine az_iload_n C 1 dX4_pass_49 rfl ?_
  refine az_iload_n C 2 dX4_pass_50 rfl ?_
  refine az_callV C Y_X4_passes cX4 2 0 [.int (nI b), .int 1] [.ref (ρ.1 100)] wm_X4_200 wi_X4_passes wse_X4_passes dX4_pass_51 rfl rfl rfl (Mpasses1 hG nr r b rl f t hs2.2.2.2.2.1 hs2.1 hs2.2.1 (by omega) hs2.2.2.2.1 hs2.2.2.2.2.2.1 hs2.2.2.2.2.2.2.1 (hs2.2.2.2.2.2.2.1 b hs2.2.2.2.2.2.2.2).1 (hm.eq rfl)) rfl (Nat.le_of_ble_eq_true rfl) (Nat.le_of_ble_eq_true rfl) (Nat.le_of_ble_eq_true rfl) (Nat.le_of_ble_eq_true rfl) (Nat.le_of_ble_eq_true rfl) (az_k1 rfl rfl ?_) (az_k0 rfl)
  refine az_iconst C (v := 3) dX4_pass_54 (by decide) ?_
  refine az_callV C Y_X4_ends cX4 2 0 [.int ((passM (keepsM m) nr r true f t).2), .int 3] [] wm_X4_216 wi_X4_ends wse_X4_ends dX4_pass_55 rfl rfl rfl (Mends1 hG ((passM (keepsM m) nr r true f t).2) 3 hp) rfl (Nat.le_of_ble_eq_true rfl) (Nat.le_of_ble_eq_true rfl) (Nat.le_of_ble_eq_true rfl) (Nat.le_of_ble_eq_true rfl) (Nat.le_of_ble_eq_true rfl) (az_k1 rfl rfl ?_) (az_k0 rfl)
  exact az_iret C rfl dX4_pass_58 (Nat.le_of_ble_eq_true rfl) (Nat.le_of_ble_eq_true rfl) ⟨rfl, rfl, rfl⟩

set_option maxHeartbeats 4000000 in
set_option maxRecDepth 100000 in
theorem Mpass1_3 (hG : az_okS l G) (nr r b : Nat) (rl : List Nat) (f : Nat) (t : List Nat) (hs : SlOK m nr r b rl f t) (hm : mvok m ((t.length + 1) * (2 * nr + 1))) (nb : Nat) (hb : m.1 0 12 = nI nb) (hnb : nb ≤ 8) (hbk : b + 1 ≤ nb) (he : ¬ r + 1 = nr) (hp : (passM (keepsM m) nr r true f t).2 = 0) : az_M l G yX4_pass (az_ws yX4_pass cX4_pass 3 (Option.some FieldType.int)) 8 [.ref (ρ.1 100), .int (nI b), .int 1] (AD ρ) (KK G ρ x m ou) 0 0 (az_r (some (.int 0)) (AD ρ) (KK G ρ x (endsM (passM (keepsM m) nr r true f t).1 3) ou)) := by
  refine az_start hG.1 (by decide +kernel) (Nat.le_of_ble_eq_true rfl) ?_
  intro p e s mm args below meth c C hnm
  show az_W l G 3 _ p e _ s mm args below meth c _ _ 0 0 0 [(0, .ref (ρ.1 100)), (1, .int (nI b)), (2, .int 1)] []
  have hb8 : b < 8 := hs.2.2.2.2.1.1.1
  have hn6 : nr ≤ 6 := hs.2.1
  have hrn := hs.2.2.1
  have hs2 : SlOK (keepsM m) nr (rIn true r) b rl f t := hs.keep
  refine az_aload_n C 0 dX4_pass_0 rfl ?_
  refine az_iload_n C 1 dX4_pass_1 rfl ?_
  refine az_callV C Y_X4_isBarge cX4 2 0 [.int (nI b)] [] wm_X4_161 wi_X4_isBarge wse_X4_isBarge dX4_pass_2 rfl rfl rfl (Mb1 hG nb b hb hnb hbk) rfl (Nat.le_of_ble_eq_true rfl) (Nat.le_of_ble_eq_true rfl) (Nat.le_of_ble_eq_true rfl) (Nat.le_of_ble_eq_true rfl) (Nat.le_of_ble_eq_true rfl) (az_k1 rfl rfl ?_) (az_k0 rfl)
  refine az_if_ne C 14 dX4_pass_5 (by decide) (fun _ => ?_) (fun q => absurd q (by decide))
  refine az_aload_n C 0 dX4_pass_14 rfl ?_
  refine az_get C cX4 2 0 13 (v := .ref (ρ.1 113)) wl_X4_42 dX4_pass_15 rfl rfl rfl (by decide) ?_
  refine az_iload_n C 1 dX4_pass_18 rfl ?_
  refine az_ialdN C 2 13 b (v := m.1 13 b) dX4_pass_19 rfl rfl (by omega) (by decide) rfl ?_
  refine az_top (nI r) (hs.2.2.2.2.2.2.1 b hs.2.2.2.2.2.2.2).1 ?_
  refine az_iload_n C 2 dX4_pass_20 rfl ?_
  refine az_if_eq C 33 dX4_pass_21 (by decide) (fun q => absurd q (by decide)) (fun _ => ?_)
  refine az_aload_n C 0 dX4_pass_24 rfl ?_
  refine az_get C cX4 2 0 1 (v := .int (m.1 0 1)) wl_X4_7 dX4_pass_25 rfl rfl rfl (by decide) ?_
  refine az_top (nI nr) hs.1 ?_
  refine az_iconst C (v := 1) dX4_pass_28 (by decide) ?_
  refine az_isub C dX4_pass_29 ?_
  refine az_top (nI (nr - 1)) (show nI nr - 1 = nI (nr - 1) from pk_sub (b := 1) (by omega)) ?_
  refine az_goto C 34 dX4_pass_30 (by decide) ?_
  refine az_icmp_ne C 43 dX4_pass_34 (by decide) (fun _ => ?_) (fun q => absurd q (fun z => he (by rw [nI_eq (by omega) (by omega)] at z; omega)))
  refine az_aload_n C 0 dX4_pass_43 rfl ?_
  refine az_callV C Y_X4_keeps cX4 2 0 [] [] wm_X4_213 wi_X4_keeps wse_X4_keeps dX4_pass_44 rfl rfl rfl (Mkeeps hG) rfl (Nat.le_of_ble_eq_true rfl) (Nat.le_of_ble_eq_true rfl) (Nat.le_of_ble_eq_true rfl) (Nat.le_of_ble_eq_true rfl) (Nat.le_of_ble_eq_true rfl) (az_k1 rfl rfl ?_) (az_k0 rfl)
  refine az_aload_n C 0 dX4_pass_47 rfl ?_
  refine az_aload_n C 0 dX4_pass_48 rfl ?_
  refine az_iload_n C 1 dX4_pass_49 rfl ?_
  refine az_iload_n C 2 dX4_pass_50 rfl ?_
  refine az_callV C Y_X4_passes cX4 2 0 [.int (nI b), .int 1] [.ref (ρ.1 100)] wm_X4_200 wi_X4_passes wse_X4_passes dX4_pass_51 rfl rfl rfl (Mpasses1 hG nr r b rl f t hs2.2.2.2.2.1 hs2.1 hs2.2.1 (by omega) hs2.2.2.2.1 hs2.2.2.2.2.2.1 hs2.2.2.2.2.2.2.1 (hs2.2.2.2.2.2.2.1 b hs2.2.2.2.2.2.2.2).1 (hm.eq rfl)) rfl (Nat.le_of_ble_eq_true rfl) (Nat.le_of_ble_eq_true rfl) (Nat.le_of_ble_eq_true rfl) (Nat.le_of_ble_eq_true rfl) (Nat.le_of_ble_eq_true rfl) (az_k1 rfl rfl ?_) (az_k0 rfl)
  refine az_top (0) hp ?_
  refine az_iconst C (v := 3) dX4_pass_54 (by decide) ?_
  refine az_callV C Y_X4_ends cX4 2 0 [.int 0, .int 3] [] wm_X4_216 wi_X4_ends wse_X4_ends dX4_pass_55 rfl rfl rfl (Mends0 hG 3) rfl (Nat.le_of_ble_eq_true rfl) (Nat.le_of_ble_eq_true rfl) (Nat.le_of_ble_eq_true rfl) (Nat.le_of_ble_eq_true rfl) (Nat.le_of_ble_eq_true rfl) (az_k1 rfl rfl ?_) (az_k0 rfl)
  exact az_iret C rfl dX4_pass_58 (Nat.le_of_ble_eq_true rfl) (Nat.le_of_ble_eq_true rfl) ⟨rfl, rfl, rfl⟩

set_option maxHeartbeats 4000000 in
set_option maxRecDepth 100000 in
theorem Mpass0_1 (hG : az_okS l G) (nr r b : Nat) (rl : List Nat) (f : Nat) (t : List Nat) (hs : SlOK m nr r b rl f t) (hm : mvok m ((t.length + 1) * (2 * nr + 1))) (nb : Nat) (hb : m.1 0 12 = nI nb) (hnb : nb ≤ 8) (hbk : b + 1 ≤ nb) (he : r = 0) : az_M l G yX4_pass (az_ws yX4_pass cX4_pass 3 (Option.some FieldType.int)) 8 [.ref (ρ.1 100), .int (nI b), .int 0] (AD ρ) (KK G ρ x m ou) 0 0 (az_r (some (.int 0)) (AD ρ) (KK G ρ x (mI m 0 0 2) ou)) := by
  refine az_start hG.1 (by decide +kernel) (Nat.le_of_ble_eq_true rfl) ?_
  intro p e s mm args below meth c C hnm
  show az_W l G 3 _ p e _ s mm args below meth c _ _ 0 0 0 [(0, .ref (ρ.1 100)), (1, .int (nI b)), (2, .int 0)] []
  have hb8 : b < 8 := hs.2.2.2.2.1.1.1
  have hn6 : nr ≤ 6 := hs.2.1
  have hrn := hs.2.2.1
  refine az_aload_n C 0 dX4_pass_0 rfl ?_
  refine az_iload_n C 1 dX4_pass_1 rfl ?_
  refine az_callV C Y_X4_isBarge cX4 2 0 [.int (nI b)] [] wm_X4_161 wi_X4_isBarge wse_X4_isBarge dX4_pass_2 rfl rfl rfl (Mb1 hG nb b hb hnb hbk) rfl (Nat.le_of_ble_eq_true rfl) (Nat.le_of_ble_eq_true rfl) (Nat.le_of_ble_eq_true rfl) (Nat.le_of_ble_eq_true rfl) (Nat.le_of_ble_eq_true rfl) (az_k1 rfl rfl ?_) (az_k0 rfl)
  refine az_if_ne C 14 dX4_pass_5 (by decide) (fun _ => ?_) (fun q => absurd q (by decide))
  refine az_aload_n C 0 dX4_pass_14 rfl ?_
  refine az_get C cX4 2 0 13 (v := .ref (ρ.1 113)) wl_X4_42 dX4_pass_15 rfl rfl rfl (by decide) ?_
  refine az_iload_n C 1 dX4_pass_18 rfl ?_
  refine az_ialdN C 2 13 b (v := m.1 13 b) dX4_pass_19 rfl rfl (by omega) (by decide) rfl ?_
  refine az_top (nI r) (hs.2.2.2.2.2.2.1 b hs.2.2.2.2.2.2.2).1 ?_
  refine az_iload_n C 2 dX4_pass_20 rfl ?_
  refine az_if_eq C 33 dX4_pass_21 (by decide) (fun _ => ?_) (fun q => absurd (by decide) q)
  refine az_iconst C (v := 0) dX4_pass_33 (by decide) ?_
  refine az_icmp_ne C 43 dX4_pass_34 (by decide) (fun q => absurd (by rw [he]; rfl) q) (fun _ => ?_)
  refine az_aload_n C 0 dX4_pass_37 rfl ?_
  refine az_iconst C (v := 2) dX4_pass_38 (by decide) ?_
  refine az_callV C Y_X4_fails cX4 2 0 [.int 2] [] wm_X4_121 wi_X4_fails wse_X4_fails dX4_pass_39 rfl rfl rfl (Mfails hG (2)) rfl (Nat.le_of_ble_eq_true rfl) (Nat.le_of_ble_eq_true rfl) (Nat.le_of_ble_eq_true rfl) (Nat.le_of_ble_eq_true rfl) (Nat.le_of_ble_eq_true rfl) (az_k1 rfl rfl ?_) (az_k0 rfl)
  exact az_iret C rfl dX4_pass_42 (Nat.le_of_ble_eq_true rfl) (Nat.le_of_ble_eq_true rfl) ⟨rfl, rfl, rfl⟩

set_option maxHeartbeats 4000000 in
set_option maxRecDepth 100000 in
theorem Mpass0_2 (hG : az_okS l G) (nr r b : Nat) (rl : List Nat) (f : Nat) (t : List Nat) (hs : SlOK m nr r b rl f t) (hm : mvok m ((t.length + 1) * (2 * nr + 1))) (nb : Nat) (hb : m.1 0 12 = nI nb) (hnb : nb ≤ 8) (hbk : b + 1 ≤ nb) (he : ¬ r = 0) (hp : 0 < (passM (keepsM m) nr (r - 1) false f t).2) : az_M l G yX4_pass (az_ws yX4_pass cX4_pass 3 (Option.some FieldType.int)) 8 [.ref (ρ.1 100), .int (nI b), .int 0] (AD ρ) (KK G ρ x m ou) 0 0 (az_r (some (.int (passM (keepsM m) nr (r - 1) false f t).2)) (AD ρ) (KK G ρ x (mI (passM (keepsM m) nr (r - 1) false f t).1 0 0 0) ou)) := by
  refine az_start hG.1 (by decide +kernel) (Nat.le_of_ble_eq_true rfl) ?_
  intro p e s mm args below meth c C hnm
  show az_W l G 3 _ p e _ s mm args below meth c _ _ 0 0 0 [(0, .ref (ρ.1 100)), (1, .int (nI b)), (2, .int 0)] []
  have hb8 : b < 8 := hs.2.2.2.2.1.1.1
  have hn6 : nr ≤ 6 := hs.2.1
  have hrn := hs.2.2.1
  have hr0 : r - 1 + 1 = r := by omega
  have hs2 : SlOK (keepsM m) nr (rIn false (r - 1)) b rl f t := by unfold rIn; rw [if_neg (by decide), hr0]; exact hs.keep
  refine az_aload_n C 0 dX4_pass_0 rfl ?_
  refine az_iload_n C 1 dX4_pass_1 rfl ?_
  refine az_callV C Y_X4_isBarge cX4 2 0 [.int (nI b)] [] wm_X4_161 wi_X4_isBarge wse_X4_isBarge dX4_pass_2 rfl rfl rfl (Mb1 hG nb b hb hnb hbk) rfl (Nat.le_of_ble_eq_true rfl) (Nat.le_of_ble_eq_true rfl) (Nat.le_of_ble_eq_true rfl) (Nat.le_of_ble_eq_true rfl) (Nat.le_of_ble_eq_true rfl) (az_k1 rfl rfl ?_) (az_k0 rfl)
  refine az_if_ne C 14 dX4_pass_5 (by decide) (fun _ => ?_) (fun q => absurd q (by decide))
  refine az_aload_n C 0 dX4_pass_14 rfl ?_
  refine az_get C cX4 2 0 13 (v := .ref (ρ.1 113)) wl_X4_42 dX4_pass_15 rfl rfl rfl (by decide) ?_
  refine az_iload_n C 1 dX4_pass_18 rfl ?_
  refine az_ialdN C 2 13 b (v := m.1 13 b) dX4_pass_19 rfl rfl (by omega) (by decide) rfl ?_
  refine az_top (nI r) (hs.2.2.2.2.2.2.1 b hs.2.2.2.2.2.2.2).1 ?_
  refine az_iload_n C 2 dX4_pass_20 rfl ?_
  refine az_if_eq C 33 dX4_pass_21 (by decide) (fun _ => ?_) (fun q => absurd (by decide) q)
  refine az_iconst C (v := 0) dX4_pass_33 (by decide) ?_
  refine az_icmp_ne C 43 dX4_pass_34 (by decide) (fun _ => ?_) (fun q => absurd q (fun z => he (nI_nz (by omega) z)))
  refine az_aload_n C 0 dX4_pass_43 rfl ?_
  refine az_callV C Y_X4_keeps cX4 2 0 [] [] wm_X4_213 wi_X4_keeps wse_X4_keeps dX4_pass_44 rfl rfl rfl (Mkeeps hG) rfl (Nat.le_of_ble_eq_true rfl) (Nat.le_of_ble_eq_true rfl) (Nat.le_of_ble_eq_true rfl) (Nat.le_of_ble_eq_true rfl) (Nat.le_of_ble_eq_true rfl) (az_k1 rfl rfl ?_) (az_k0 rfl)
  refine az_aload_n C 0 dX4_pass_47 rfl ?_
  refine az_aload_n C 0 dX4_pass_48 rfl ?_
  refine az_iload_n C 1 dX4_pass_49 rfl ?_
  refine az_iload_n C 2 dX4_pass_50 rfl ?_
  refine az_callV C Y_X4_passes cX4 2 0 [.int (nI b), .int 0] [.ref (ρ.1 100)] wm_X4_200 wi_X4_passes wse_X4_passes dX4_pass_51 rfl rfl rfl (Mpasses0 hG nr (r - 1) b rl f t hs2.2.2.2.2.1 hs2.1 hs2.2.1 (by omega) hs2.2.2.2.1 hs2.2.2.2.2.2.1 hs2.2.2.2.2.2.2.1 (hs2.2.2.2.2.2.2.1 b hs2.2.2.2.2.2.2.2).1 (hm.eq rfl)) rfl (Nat.le_of_ble_eq_true rfl) (Nat.le_of_ble_eq_true rfl) (Nat.le_of_ble_eq_true rfl) (Nat.le_of_ble_eq_true rfl) (Nat.le_of_ble_eq_true rfl) (az_k1 rfl rfl ?_) (az_k0 rfl)
  refine az_iconst C (v := 3) dX4_pass_54 (by decide) ?_
  refine az_callV C Y_X4_ends cX4 2 0 [.int ((passM (keepsM m) nr (r - 1) false f t).2), .int 3] [] wm_X4_216 wi_X4_ends wse_X4_ends dX4_pass_55 rfl rfl rfl (Mends1 hG ((passM (keepsM m) nr (r - 1) false f t).2) 3 hp) rfl (Nat.le_of_ble_eq_true rfl) (Nat.le_of_ble_eq_true rfl) (Nat.le_of_ble_eq_true rfl) (Nat.le_of_ble_eq_true rfl) (Nat.le_of_ble_eq_true rfl) (az_k1 rfl rfl ?_) (az_k0 rfl)
  exact az_iret C rfl dX4_pass_58 (Nat.le_of_ble_eq_true rfl) (Nat.le_of_ble_eq_true rfl) ⟨rfl, rfl, rfl⟩

set_option maxHeartbeats 4000000 in
set_option maxRecDepth 100000 in
theorem Mpass0_3 (hG : az_okS l G) (nr r b : Nat) (rl : List Nat) (f : Nat) (t : List Nat) (hs : SlOK m nr r b rl f t) (hm : mvok m ((t.length + 1) * (2 * nr + 1))) (nb : Nat) (hb : m.1 0 12 = nI nb) (hnb : nb ≤ 8) (hbk : b + 1 ≤ nb) (he : ¬ r = 0) (hp : (passM (keepsM m) nr (r - 1) false f t).2 = 0) : az_M l G yX4_pass (az_ws yX4_pass cX4_pass 3 (Option.some FieldType.int)) 8 [.ref (ρ.1 100), .int (nI b), .int 0] (AD ρ) (KK G ρ x m ou) 0 0 (az_r (some (.int 0)) (AD ρ) (KK G ρ x (endsM (passM (keepsM m) nr (r - 1) false f t).1 3) ou)) := by
  refine az_start hG.1 (by decide +kernel) (Nat.le_of_ble_eq_true rfl) ?_
  intro p e s mm args below meth c C hnm
  show az_W l G 3 _ p e _ s mm args below meth c _ _ 0 0 0 [(0, .ref (ρ.1 100)), (1, .int (nI b)), (2, .int 0)] []
  have hb8 : b < 8 := hs.2.2.2.2.1.1.1
  have hn6 : nr ≤ 6 := hs.2.1
  have hrn := hs.2.2.1
  have hr0 : r - 1 + 1 = r := by omega
  have hs2 : SlOK (keepsM m) nr (rIn false (r - 1)) b rl f t := by unfold rIn; rw [if_neg (by decide), hr0]; exact hs.keep
  refine az_aload_n C 0 dX4_pass_0 rfl ?_
  refine az_iload_n C 1 dX4_pass_1 rfl ?_
  refine az_callV C Y_X4_isBarge cX4 2 0 [.int (nI b)] [] wm_X4_161 wi_X4_isBarge wse_X4_isBarge dX4_pass_2 rfl rfl rfl (Mb1 hG nb b hb hnb hbk) rfl (Nat.le_of_ble_eq_true rfl) (Nat.le_of_ble_eq_true rfl) (Nat.le_of_ble_eq_true rfl) (Nat.le_of_ble_eq_true rfl) (Nat.le_of_ble_eq_true rfl) (az_k1 rfl rfl ?_) (az_k0 rfl)
  refine az_if_ne C 14 dX4_pass_5 (by decide) (fun _ => ?_) (fun q => absurd q (by decide))
  refine az_aload_n C 0 dX4_pass_14 rfl ?_
  refine az_get C cX4 2 0 13 (v := .ref (ρ.1 113)) wl_X4_42 dX4_pass_15 rfl rfl rfl (by decide) ?_
  refine az_iload_n C 1 dX4_pass_18 rfl ?_
  refine az_ialdN C 2 13 b (v := m.1 13 b) dX4_pass_19 rfl rfl (by omega) (by decide) rfl ?_
  refine az_top (nI r) (hs.2.2.2.2.2.2.1 b hs.2.2.2.2.2.2.2).1 ?_
  refine az_iload_n C 2 dX4_pass_20 rfl ?_
  refine az_if_eq C 33 dX4_pass_21 (by decide) (fun _ => ?_) (fun q => absurd (by decide) q)
  refine az_iconst C (v := 0) dX4_pass_33 (by decide) ?_
  refine az_icmp_ne C 43 dX4_pass_34 (by decide) (fun _ => ?_) (fun q => absurd q (fun z => he (nI_nz (by omega) z)))
  refine az_aload_n C 0 dX4_pass_43 rfl ?_
  refine az_callV C Y_X4_keeps cX4 2 0 [] [] wm_X4_213 wi_X4_keeps wse_X4_keeps dX4_pass_44 rfl rfl rfl (Mkeeps hG) rfl (Nat.le_of_ble_eq_true rfl) (Nat.le_of_ble_eq_true rfl) (Nat.le_of_ble_eq_true rfl) (Nat.le_of_ble_eq_true rfl) (Nat.le_of_ble_eq_true rfl) (az_k1 rfl rfl ?_) (az_k0 rfl)
  refine az_aload_n C 0 dX4_pass_47 rfl ?_
  refine az_aload_n C 0 dX4_pass_48 rfl ?_
  refine az_iload_n C 1 dX4_pass_49 rfl ?_
  refine az_iload_n C 2 dX4_pass_50 rfl ?_
  refine az_callV C Y_X4_passes cX4 2 0 [.int (nI b), .int 0] [.ref (ρ.1 100)] wm_X4_200 wi_X4_passes wse_X4_passes dX4_pass_51 rfl rfl rfl (Mpasses0 hG nr (r - 1) b rl f t hs2.2.2.2.2.1 hs2.1 hs2.2.1 (by omega) hs2.2.2.2.1 hs2.2.2.2.2.2.1 hs2.2.2.2.2.2.2.1 (hs2.2.2.2.2.2.2.1 b hs2.2.2.2.2.2.2.2).1 (hm.eq rfl)) rfl (Nat.le_of_ble_eq_true rfl) (Nat.le_of_ble_eq_true rfl) (Nat.le_of_ble_eq_true rfl) (Nat.le_of_ble_eq_true rfl) (Nat.le_of_ble_eq_true rfl) (az_k1 rfl rfl ?_) (az_k0 rfl)
  refine az_top (0) hp ?_
  refine az_iconst C (v := 3) dX4_pass_54 (by decide) ?_
  refine az_callV C Y_X4_ends cX4 2 0 [.int 0, .int 3] [] wm_X4_216 wi_X4_ends wse_X4_ends dX4_pass_55 rfl rfl rfl (Mends0 hG 3) rfl (Nat.le_of_ble_eq_true rfl) (Nat.le_of_ble_eq_true rfl) (Nat.le_of_ble_eq_true rfl) (Nat.le_of_ble_eq_true rfl) (Nat.le_of_ble_eq_true rfl) (az_k1 rfl rfl ?_) (az_k0 rfl)
  exact az_iret C rfl dX4_pass_58 (Nat.le_of_ble_eq_true rfl) (Nat.le_of_ble_eq_true rfl) ⟨rfl, rfl, rfl⟩

theorem sailM_ind (P : Ms → Prop) {nr f : Nat} {t : List Nat} {dst : Nat} (hE : ∀ m k, P m → P (emptiesM m nr k)) (hF : ∀ m k, P m → P (fillsM m k)) (hM : ∀ v m q, P m → P (movesM v m q)) (hR : ∀ m u v, P m → P (refM m u v)) : ∀ (k : Nat) (m : Ms) (r : Nat) (acc : Int32), P m → P (sailM nr f t dst k m r acc).1
  | 0, _, _, _, h => h
  | k + 1, m, r, acc, h => by
    rw [sailM]
    split
    · exact h
    · split
      · have hp := passM_ind P (nr := nr) (lk := r) (dn := true) (f := f) (t := t) (fun m => hE m r) (fun m => hF m r) hM hR h
        split
        · exact hp
        · exact sailM_ind P hE hF hM hR k _ _ _ hp
      · have hp := passM_ind P (nr := nr) (lk := r - 1) (dn := false) (f := f) (t := t) (fun m => hE m (r - 1)) (fun m => hF m (r - 1)) hM hR h
        split
        · exact hp
        · exact sailM_ind P hE hF hM hR k _ _ _ hp
theorem sailM_p {m : Ms} {nr p j f r dst k : Nat} {acc : Int32} {t : List Nat} (h0 : p ≠ 0) (h4 : p ≠ 4) (h10 : p ≠ 10) (h11 : p ≠ 11) (h13 : p ≠ 13) (h1 : p ≠ 25) (h2 : p ≠ 26) (h3 : p ≠ 27) : (sailM nr f t dst k m r acc).1.1 p j = m.1 p j :=
  sailM_ind (fun m' => m'.1 p j = m.1 p j) (fun m' k h => (emptiesM_p h0 h4 h10 h11 h1 h2 h3).trans h) (fun m' k h => (fillsM_p h0 h4 h11 h1 h2 h3).trans h) (fun v m' q h => (movesM_p h13 _ _).trans h) (fun m' u v h => (refM_p h0).trans h) k m r acc rfl
theorem sailM_0 {m : Ms} {nr j f r dst k : Nat} {acc : Int32} {t : List Nat} (h : j ≠ 24) (h22 : j ≠ 22) (h28 : j ≠ 28) (h29 : j ≠ 29) : (sailM nr f t dst k m r acc).1.1 0 j = m.1 0 j :=
  sailM_ind (fun m' => m'.1 0 j = m.1 0 j) (fun m' k z => (emptiesM_0 h h22).trans z) (fun m' k z => (fillsM_0 h).trans z) (fun v m' q z => (movesM_p (by decide) _ _).trans z) (fun m' u v z => (refM_0 h28 h29).trans z) k m r acc rfl
theorem backM_p {m : Ms} {p j : Nat} (h0 : p ≠ 0) (h4 : p ≠ 4) (h10 : p ≠ 10) (h11 : p ≠ 11) (h13 : p ≠ 13) : (backM m).1 p j = m.1 p j := by
  simp only [backM, mI]
  simp only [up2_p h0, up2_p h4, up2_p h10, up2_p h11, up2_p h13]
theorem keepsM_p {m : Ms} {p j : Nat} (h0 : p ≠ 0) (h4 : p ≠ 32) (h10 : p ≠ 33) (h11 : p ≠ 34) (h13 : p ≠ 35) : (keepsM m).1 p j = m.1 p j := by
  simp only [keepsM, mI]
  simp only [up2_p h0, up2_p h4, up2_p h10, up2_p h11, up2_p h13]
theorem canS_p {m : Ms} {nr p j f r dst : Nat} {t : List Nat} (h0 : p ≠ 0) (h4 : p ≠ 4) (h10 : p ≠ 10) (h11 : p ≠ 11) (h13 : p ≠ 13) (h1 : p ≠ 25) (h2 : p ≠ 26) (h3 : p ≠ 27) (g1 : p ≠ 32) (g2 : p ≠ 33) (g3 : p ≠ 34) (g4 : p ≠ 35) : (canS m nr f t r dst).1 p j = m.1 p j :=
  (backM_p h0 h4 h10 h11 h13).trans ((sailM_p h0 h4 h10 h11 h13 h1 h2 h3).trans (keepsM_p h0 g1 g2 g3 g4))
theorem lt8 {j : Nat} (h : j < 8) : j = 0 ∨ j = 1 ∨ j = 2 ∨ j = 3 ∨ j = 4 ∨ j = 5 ∨ j = 6 ∨ j = 7 := by omega
theorem canS_13 {m : Ms} {nr j f r dst : Nat} {t : List Nat} (h : j < 8) : (canS m nr f t r dst).1 13 j = m.1 13 j := by
  have e : (canS m nr f t r dst).1 13 j = (sailM nr f t dst 6 (keepsM m) r 0).1.1 34 j := by
    rcases lt8 h with rfl | rfl | rfl | rfl | rfl | rfl | rfl | rfl <;> rfl
  rw [e, sailM_p (by decide) (by decide) (by decide) (by decide) (by decide) (by decide) (by decide) (by decide)]
  rcases lt8 h with rfl | rfl | rfl | rfl | rfl | rfl | rfl | rfl <;> rfl
theorem canS_4 {m : Ms} {nr j f r dst : Nat} {t : List Nat} (h : j < 6) : (canS m nr f t r dst).1 4 j = m.1 4 j := by
  have e : (canS m nr f t r dst).1 4 j = (sailM nr f t dst 6 (keepsM m) r 0).1.1 32 j := by
    rcases lt8 (show j < 8 by omega) with rfl | rfl | rfl | rfl | rfl | rfl | rfl | rfl <;> first | rfl | exact absurd h (by decide)
  rw [e, sailM_p (by decide) (by decide) (by decide) (by decide) (by decide) (by decide) (by decide) (by decide)]
  rcases lt8 (show j < 8 by omega) with rfl | rfl | rfl | rfl | rfl | rfl | rfl | rfl <;> first | rfl | exact absurd h (by decide)
theorem canS_10 {m : Ms} {nr j f r dst : Nat} {t : List Nat} (h : j < 5) : (canS m nr f t r dst).1 10 j = m.1 10 j := by
  have e : (canS m nr f t r dst).1 10 j = (sailM nr f t dst 6 (keepsM m) r 0).1.1 33 j := by
    rcases lt8 (show j < 8 by omega) with rfl | rfl | rfl | rfl | rfl | rfl | rfl | rfl <;> first | rfl | exact absurd h (by decide)
  rw [e, sailM_p (by decide) (by decide) (by decide) (by decide) (by decide) (by decide) (by decide) (by decide)]
  rcases lt8 (show j < 8 by omega) with rfl | rfl | rfl | rfl | rfl | rfl | rfl | rfl <;> first | rfl | exact absurd h (by decide)
theorem canS_11 {m : Ms} {nr j f r dst : Nat} {t : List Nat} (h : j < 5) : (canS m nr f t r dst).1 11 j = vp_nar .boolean (vp_nar .boolean (m.1 11 j)) := by
  have e : (canS m nr f t r dst).1 11 j = vp_nar .boolean ((sailM nr f t dst 6 (keepsM m) r 0).1.1 35 j) := by
    rcases lt8 (show j < 8 by omega) with rfl | rfl | rfl | rfl | rfl | rfl | rfl | rfl <;> first | rfl | exact absurd h (by decide)
  rw [e, sailM_p (by decide) (by decide) (by decide) (by decide) (by decide) (by decide) (by decide) (by decide)]
  rcases lt8 (show j < 8 by omega) with rfl | rfl | rfl | rfl | rfl | rfl | rfl | rfl <;> first | rfl | exact absurd h (by decide)
theorem canS_24 {m : Ms} {nr f r dst : Nat} {t : List Nat} : (canS m nr f t r dst).1 0 24 = m.1 0 24 := by
  have e : (canS m nr f t r dst).1 0 24 = (sailM nr f t dst 6 (keepsM m) r 0).1.1 0 37 := rfl
  rw [e, sailM_0 (by decide) (by decide) (by decide) (by decide)]; rfl
theorem canS_22 {m : Ms} {nr f r dst : Nat} {t : List Nat} : (canS m nr f t r dst).1 0 22 = m.1 0 22 := by
  have e : (canS m nr f t r dst).1 0 22 = (sailM nr f t dst 6 (keepsM m) r 0).1.1 0 36 := rfl
  rw [e, sailM_0 (by decide) (by decide) (by decide) (by decide)]; rfl
theorem canS_0 {m : Ms} {nr j f r dst : Nat} {t : List Nat} (h : j ≠ 24) (h22 : j ≠ 22) (h28 : j ≠ 28) (h29 : j ≠ 29) (h36 : j ≠ 36) (h37 : j ≠ 37) : (canS m nr f t r dst).1 0 j = m.1 0 j := by
  have e : (canS m nr f t r dst).1 0 j = (sailM nr f t dst 6 (keepsM m) r 0).1.1 0 j := by
    simp only [canS, backM, mI]
    rw [up2_k h, up2_k h22]
    simp only [up2_p (show (0 : Nat) ≠ 13 by decide), up2_p (show (0 : Nat) ≠ 11 by decide), up2_p (show (0 : Nat) ≠ 10 by decide), up2_p (show (0 : Nat) ≠ 4 by decide)]
  rw [e, sailM_0 h h22 h28 h29]
  simp only [keepsM, mI]
  rw [up2_k h37, up2_k h36]
  simp only [up2_p (show (0 : Nat) ≠ 32 by decide), up2_p (show (0 : Nat) ≠ 33 by decide), up2_p (show (0 : Nat) ≠ 34 by decide), up2_p (show (0 : Nat) ≠ 35 by decide)]
end
