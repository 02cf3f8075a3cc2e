section
variable {l : Launch} {G : az_G} {ρ : Rp} {x : Xs} {m : Mz} {ou : Nat → Int64}
theorem KK_L0 {j : Nat} {o : Option Nat} (hj : j < ρ.2.2.2.2.2) : az_u (KK G ρ x m ou) 1 j (.inr (1, [.int (nI j), .int (x.2.1 j 1), .int (x.2.1 j 2), .int (x.2.1 j 3), .int (x.2.1 j 4), .int (x.2.1 j 5), va_rf (o.map ρ.2.2.1), va_rf ((x.2.2.1 1 j).map ρ.2.2.1)])) = KK G ρ (xL x 0 j o) m ou := by
  rw [← KK_L (m := m) (ou := ou) (G := G) (x := x) (w := 0) (o := o) hj, bc, up2_p (show 1 ≠ 0 by decide), up2_s]
theorem KK_L1 {j : Nat} {o : Option Nat} (hj : j < ρ.2.2.2.2.2) : az_u (KK G ρ x m ou) 1 j (.inr (1, [.int (nI j), .int (x.2.1 j 1), .int (x.2.1 j 2), .int (x.2.1 j 3), .int (x.2.1 j 4), .int (x.2.1 j 5), va_rf ((x.2.2.1 0 j).map ρ.2.2.1), va_rf (o.map ρ.2.2.1)])) = KK G ρ (xL x 1 j o) m ou := by
  rw [← KK_L (m := m) (ou := ou) (G := G) (x := x) (w := 1) (o := o) hj, bc, up2_p (show 0 ≠ 1 by decide), up2_s]
set_option maxHeartbeats 4000000 in
set_option maxRecDepth 100000 in
theorem Xcouple0 (hG : az_okS l G) (nb : Nat) (v u : Int32) (hb : x.1 0 7 = nI nb) (hnb : nb = ρ.2.2.2.2.2) (hn : nb ≤ 8) (hv : oo nb v) : az_M l G yX3_couple (az_ws yX3_couple cX3_couple 7 (Option.some FieldType.int)) 7 [.ref (ρ.1 0), .int v, .int u] (AD ρ) (KK G ρ x m ou) 1 6 (az_x "java/lang/IndexOutOfBoundsException" (AD ρ) (KK G ρ x m ou)) := by
  refine az_start hG.1 (by decide +kernel) (Nat.le_of_ble_eq_true rfl) ?_
  intro p e s mm args below meth c C hnm
  show az_W l G 7 _ p e _ s mm args below meth c _ _ 0 0 0 [(0, .ref (ρ.1 0)), (1, .int v), (2, .int u)] []
  refine az_aload_n C 0 dX3_couple_0 rfl ?_
  refine az_iload_n C 1 dX3_couple_1 rfl ?_
  refine az_callV C Y_X3_bargeNumbered cX3 0 0 [.int v] [] wm_X3_155 wi_X3_bargeNumbered wse_X3_bargeNumbered dX3_couple_2 rfl rfl rfl (Xbarge0 hG nb v hb hnb hn hv) rfl (Nat.le_of_ble_eq_true rfl) (Nat.le_of_ble_eq_true rfl) (Nat.le_of_ble_eq_true rfl) (Nat.le_of_ble_eq_true rfl) (Nat.le_of_ble_eq_true rfl) (az_x0 rfl) (az_x1 rfl ?_)
  exact az_out C (fun _ h => by cases h) (Nat.le_of_ble_eq_true rfl) (Nat.le_of_ble_eq_true rfl) ⟨rfl, rfl, rfl⟩

set_option maxHeartbeats 4000000 in
set_option maxRecDepth 100000 in
theorem Xcouple00 (hG : az_okS l G) (nb a : Nat) (hb : x.1 0 7 = nI nb) (hnb : nb = ρ.2.2.2.2.2) (hn : nb ≤ 8) (ka : a + 1 ≤ nb) (ra : List Nat) (fa : Nat) (ta : List Nat) (ca : XCv ρ.2.2.2.2.2 x a ra fa ta) (v : Int32) (hv : oo nb v) : az_M l G yX3_couple (az_ws yX3_couple cX3_couple 7 (Option.some FieldType.int)) 7 [.ref (ρ.1 0), .int (nI a), .int v] (AD ρ) (KK G ρ x m ou) 1 6 (az_x "java/lang/IndexOutOfBoundsException" (AD ρ) (KK G ρ x m ou)) := by
  refine az_start hG.1 (by decide +kernel) (Nat.le_of_ble_eq_true rfl) ?_
  intro p e s mm args below meth c C hnm
  show az_W l G 7 _ p e _ s mm args below meth c _ _ 0 0 0 [(0, .ref (ρ.1 0)), (1, .int (nI a)), (2, .int v)] []
  refine az_aload_n C 0 dX3_couple_0 rfl ?_
  refine az_iload_n C 1 dX3_couple_1 rfl ?_
  refine az_callV C Y_X3_bargeNumbered cX3 0 0 [.int (nI a)] [] wm_X3_155 wi_X3_bargeNumbered wse_X3_bargeNumbered dX3_couple_2 rfl rfl rfl (Xbarge1 hG nb a hb hnb hn ka) rfl (Nat.le_of_ble_eq_true rfl) (Nat.le_of_ble_eq_true rfl) (Nat.le_of_ble_eq_true rfl) (Nat.le_of_ble_eq_true rfl) (Nat.le_of_ble_eq_true rfl) (az_k1 rfl rfl ?_) (az_k0 rfl)
  refine az_callV C Y_X0_first cX0 1 a [] [] wm_X3_173 wi_X0_first wse_X0_first dX3_couple_5 rfl (KK_b ca.1.1) rfl (Xfirst hG a ra ca.1) rfl (Nat.le_of_ble_eq_true rfl) (Nat.le_of_ble_eq_true rfl) (Nat.le_of_ble_eq_true rfl) (Nat.le_of_ble_eq_true rfl) (Nat.le_of_ble_eq_true rfl) (az_k1 (by rw [ca.2.1]) rfl ?_) (az_k0 (by rw [ca.2.1]))
  refine az_astore_n C (lv' := [(3, .ref (ρ.2.2.1 fa)), (0, .ref (ρ.1 0)), (1, .int (nI a)), (2, .int v)]) (j := 3) rfl dX3_couple_8 (by decide) rfl ?_
  refine az_aload_n C 1 dX3_couple_9 rfl ?_
  refine az_iload_n C 3 dX3_couple_10 rfl ?_
  refine az_callV C Y_X3_bargeNumbered cX3 0 0 [.int v] [] wm_X3_155 wi_X3_bargeNumbered wse_X3_bargeNumbered dX3_couple_11 rfl rfl rfl (Xbarge0 hG nb v hb hnb hn hv) rfl (Nat.le_of_ble_eq_true rfl) (Nat.le_of_ble_eq_true rfl) (Nat.le_of_ble_eq_true rfl) (Nat.le_of_ble_eq_true rfl) (Nat.le_of_ble_eq_true rfl) (az_x0 rfl) (az_x1 rfl ?_)
  exact az_out C (fun _ h => by cases h) (Nat.le_of_ble_eq_true rfl) (Nat.le_of_ble_eq_true rfl) ⟨rfl, rfl, rfl⟩

set_option maxHeartbeats 4000000 in
set_option maxRecDepth 100000 in
theorem Xcouple1 (hG : az_okS l G) (nb a b : Nat) (hb : x.1 0 7 = nI nb) (hnb : nb = ρ.2.2.2.2.2) (hn : nb ≤ 8) (ka : a + 1 ≤ nb) (kb : b + 1 ≤ nb) (ra : List Nat) (fa : Nat) (ta : List Nat) (ca : XCv ρ.2.2.2.2.2 x a ra fa ta) (rb : List Nat) (fb : Nat) (tb : List Nat) (cb : XCv ρ.2.2.2.2.2 x b rb fb tb) (he : fa = fb) : az_M l G yX3_couple (az_ws yX3_couple cX3_couple 7 (Option.some FieldType.int)) 6 [.ref (ρ.1 0), .int (nI a), .int (nI b)] (AD ρ) (KK G ρ x m ou) 1 6 (az_x "java/lang/IllegalArgumentException" (AD ρ) (KK G ρ x m ou)) := by
  refine az_start hG.1 (by decide +kernel) (Nat.le_of_ble_eq_true rfl) ?_
  intro p e s mm args below meth c C hnm
  show az_W l G 7 _ p e _ s mm args below meth c _ _ 0 0 0 [(0, .ref (ρ.1 0)), (1, .int (nI a)), (2, .int (nI b))] []
  refine az_BI (fun hB => ?_)
  refine az_aload_n C 0 dX3_couple_0 rfl ?_
  refine az_iload_n C 1 dX3_couple_1 rfl ?_
  refine az_callV C Y_X3_bargeNumbered cX3 0 0 [.int (nI a)] [] wm_X3_155 wi_X3_bargeNumbered wse_X3_bargeNumbered dX3_couple_2 rfl rfl rfl (Xbarge1 hG nb a hb hnb hn ka) rfl (Nat.le_of_ble_eq_true rfl) (Nat.le_of_ble_eq_true rfl) (Nat.le_of_ble_eq_true rfl) (Nat.le_of_ble_eq_true rfl) (Nat.le_of_ble_eq_true rfl) (az_k1 rfl rfl ?_) (az_k0 rfl)
  refine az_callV C Y_X0_first cX0 1 a [] [] wm_X3_173 wi_X0_first wse_X0_first dX3_couple_5 rfl (KK_b ca.1.1) rfl (Xfirst hG a ra ca.1) rfl (Nat.le_of_ble_eq_true rfl) (Nat.le_of_ble_eq_true rfl) (Nat.le_of_ble_eq_true rfl) (Nat.le_of_ble_eq_true rfl) (Nat.le_of_ble_eq_true rfl) (az_k1 (by rw [ca.2.1]) rfl ?_) (az_k0 (by rw [ca.2.1]))
  refine az_astore_n C (lv' := [(3, .ref (ρ.2.2.1 fa)), (0, .ref (ρ.1 0)), (1, .int (nI a)), (2, .int (nI b))]) (j := 3) rfl dX3_couple_8 (by decide) rfl ?_
  refine az_aload_n C 1 dX3_couple_9 rfl ?_
  refine az_iload_n C 3 dX3_couple_10 rfl ?_
  refine az_callV C Y_X3_bargeNumbered cX3 0 0 [.int (nI b)] [] wm_X3_155 wi_X3_bargeNumbered wse_X3_bargeNumbered dX3_couple_11 rfl rfl rfl (Xbarge1 hG nb b hb hnb hn kb) rfl (Nat.le_of_ble_eq_true rfl) (Nat.le_of_ble_eq_true rfl) (Nat.le_of_ble_eq_true rfl) (Nat.le_of_ble_eq_true rfl) (Nat.le_of_ble_eq_true rfl) (az_k1 rfl rfl ?_) (az_k0 rfl)
  refine az_callV C Y_X0_first cX0 1 b [] [] wm_X3_173 wi_X0_first wse_X0_first dX3_couple_14 rfl (KK_b cb.1.1) rfl (Xfirst hG b rb cb.1) rfl (Nat.le_of_ble_eq_true rfl) (Nat.le_of_ble_eq_true rfl) (Nat.le_of_ble_eq_true rfl) (Nat.le_of_ble_eq_true rfl) (Nat.le_of_ble_eq_true rfl) (az_k1 (by rw [cb.2.1]) rfl ?_) (az_k0 (by rw [cb.2.1]))
  refine az_astore C (lv' := [(4, .ref (ρ.2.2.1 fb)), (3, .ref (ρ.2.2.1 fa)), (0, .ref (ρ.1 0)), (1, .int (nI a)), (2, .int (nI b))]) dX3_couple_17 (by decide) rfl ?_
  refine az_aload_n C 1 dX3_couple_19 rfl ?_
  refine az_aload C 0 dX3_couple_20 rfl ?_
  refine az_acmp_ne C (rx := (some (ρ.2.2.1 fa))) (ry := (some (ρ.2.2.1 fb))) 35 rfl rfl dX3_couple_22 (by decide) (fun q => absurd (congrArg (fun z => some (ρ.2.2.1 z)) he) q) (fun _ => ?_)
  exact az_thrS_IAE C hG (List.mem_of_getElem? (i := 10) rfl) dX3_couple_25 dX3_couple_28 dX3_couple_29 dX3_couple_31 dX3_couple_34 (Nat.le_of_ble_eq_true rfl) (Nat.le_of_ble_eq_true rfl) (Nat.le_of_ble_eq_true rfl) (Nat.le_of_ble_eq_true rfl) (Nat.le_of_ble_eq_true rfl) (Nat.le_of_ble_eq_true rfl) ⟨rfl, rfl, rfl⟩

set_option maxHeartbeats 4000000 in
set_option maxRecDepth 100000 in
theorem Xcouple2 (hG : az_okS l G) (nb a b : Nat) (hb : x.1 0 7 = nI nb) (hnb : nb = ρ.2.2.2.2.2) (hn : nb ≤ 8) (ka : a + 1 ≤ nb) (kb : b + 1 ≤ nb) (ra : List Nat) (fa : Nat) (ta : List Nat) (ca : XCv ρ.2.2.2.2.2 x a ra fa ta) (rb : List Nat) (fb : Nat) (tb : List Nat) (cb : XCv ρ.2.2.2.2.2 x b rb fb tb) (he : ¬ fa = fb) (h2 : ¬ x.2.1 fa 4 = x.2.1 fb 4 ∨ ¬ nI (ta.length + 1) + nI (tb.length + 1) ≤ 4) : az_M l G yX3_couple (az_ws yX3_couple cX3_couple 7 (Option.some FieldType.int)) 6 [.ref (ρ.1 0), .int (nI a), .int (nI b)] (AD ρ) (KK G ρ x m ou) 1 6 (az_x "java/lang/IllegalStateException" (AD ρ) (KK G ρ x m ou)) := by
  refine az_start hG.1 (by decide +kernel) (Nat.le_of_ble_eq_true rfl) ?_
  intro p e s mm args below meth c C hnm
  show az_W l G 7 _ p e _ s mm args below meth c _ _ 0 0 0 [(0, .ref (ρ.1 0)), (1, .int (nI a)), (2, .int (nI b))] []
  refine az_BI (fun hB => ?_)
  refine az_aload_n C 0 dX3_couple_0 rfl ?_
  refine az_iload_n C 1 dX3_couple_1 rfl ?_
  refine az_callV C Y_X3_bargeNumbered cX3 0 0 [.int (nI a)] [] wm_X3_155 wi_X3_bargeNumbered wse_X3_bargeNumbered dX3_couple_2 rfl rfl rfl (Xbarge1 hG nb a hb hnb hn ka) rfl (Nat.le_of_ble_eq_true rfl) (Nat.le_of_ble_eq_true rfl) (Nat.le_of_ble_eq_true rfl) (Nat.le_of_ble_eq_true rfl) (Nat.le_of_ble_eq_true rfl) (az_k1 rfl rfl ?_) (az_k0 rfl)
  refine az_callV C Y_X0_first cX0 1 a [] [] wm_X3_173 wi_X0_first wse_X0_first dX3_couple_5 rfl (KK_b ca.1.1) rfl (Xfirst hG a ra ca.1) rfl (Nat.le_of_ble_eq_true rfl) (Nat.le_of_ble_eq_true rfl) (Nat.le_of_ble_eq_true rfl) (Nat.le_of_ble_eq_true rfl) (Nat.le_of_ble_eq_true rfl) (az_k1 (by rw [ca.2.1]) rfl ?_) (az_k0 (by rw [ca.2.1]))
  refine az_astore_n C (lv' := [(3, .ref (ρ.2.2.1 fa)), (0, .ref (ρ.1 0)), (1, .int (nI a)), (2, .int (nI b))]) (j := 3) rfl dX3_couple_8 (by decide) rfl ?_
  refine az_aload_n C 1 dX3_couple_9 rfl ?_
  refine az_iload_n C 3 dX3_couple_10 rfl ?_
  refine az_callV C Y_X3_bargeNumbered cX3 0 0 [.int (nI b)] [] wm_X3_155 wi_X3_bargeNumbered wse_X3_bargeNumbered dX3_couple_11 rfl rfl rfl (Xbarge1 hG nb b hb hnb hn kb) rfl (Nat.le_of_ble_eq_true rfl) (Nat.le_of_ble_eq_true rfl) (Nat.le_of_ble_eq_true rfl) (Nat.le_of_ble_eq_true rfl) (Nat.le_of_ble_eq_true rfl) (az_k1 rfl rfl ?_) (az_k0 rfl)
  refine az_callV C Y_X0_first cX0 1 b [] [] wm_X3_173 wi_X0_first wse_X0_first dX3_couple_14 rfl (KK_b cb.1.1) rfl (Xfirst hG b rb cb.1) rfl (Nat.le_of_ble_eq_true rfl) (Nat.le_of_ble_eq_true rfl) (Nat.le_of_ble_eq_true rfl) (Nat.le_of_ble_eq_true rfl) (Nat.le_of_ble_eq_true rfl) (az_k1 (by rw [cb.2.1]) rfl ?_) (az_k0 (by rw [cb.2.1]))
  refine az_astore C (lv' := [(4, .ref (ρ.2.2.1 fb)), (3, .ref (ρ.2.2.1 fa)), (0, .ref (ρ.1 0)), (1, .int (nI a)), (2, .int (nI b))]) dX3_couple_17 (by decide) rfl ?_
  refine az_aload_n C 1 dX3_couple_19 rfl ?_
  refine az_aload C 0 dX3_couple_20 rfl ?_
  refine az_acmp_ne C (rx := (some (ρ.2.2.1 fa))) (ry := (some (ρ.2.2.1 fb))) 35 rfl rfl dX3_couple_22 (by decide) (fun _ => ?_) (fun q => absurd q (fun z => he (hB fa fb ca.f cb.f (Option.some.inj z))))
  refine az_aload_n C 1 dX3_couple_35 rfl ?_
  refine az_callV C Y_X0_chainSize cX0 1 fa [] [] wm_X3_179 wi_X0_chainSize wse_X0_chainSize dX3_couple_36 rfl (KK_b ca.2.2.1) rfl (XchainSize hG fa ta ca.2.2) rfl (Nat.le_of_ble_eq_true rfl) (Nat.le_of_ble_eq_true rfl) (Nat.le_of_ble_eq_true rfl) (Nat.le_of_ble_eq_true rfl) (Nat.le_of_ble_eq_true rfl) (az_k1 rfl rfl ?_) (az_k0 rfl)
  refine az_aload C 0 dX3_couple_39 rfl ?_
  refine az_callV C Y_X0_chainSize cX0 1 fb [] [.int (nI ((ta.length + 1)))] wm_X3_179 wi_X0_chainSize wse_X0_chainSize dX3_couple_41 rfl (KK_b cb.2.2.1) rfl (XchainSize hG fb tb cb.2.2) rfl (Nat.le_of_ble_eq_true rfl) (Nat.le_of_ble_eq_true rfl) (Nat.le_of_ble_eq_true rfl) (Nat.le_of_ble_eq_true rfl) (Nat.le_of_ble_eq_true rfl) (az_k1 rfl rfl ?_) (az_k0 rfl)
  refine az_iadd C dX3_couple_44 ?_
  refine az_istore C (lv' := [(5, .int ((nI ((ta.length + 1)) + nI ((tb.length + 1))))), (4, .ref (ρ.2.2.1 fb)), (3, .ref (ρ.2.2.1 fa)), (0, .ref (ρ.1 0)), (1, .int (nI a)), (2, .int (nI b))]) dX3_couple_45 (by decide) rfl ?_
  refine az_aload_n C 2 dX3_couple_47 rfl ?_
  refine az_getN C cX0 1 fa 4 (v := .int (x.2.1 fa 4)) (az_bw C hG nx_X3_159 rfl) dX3_couple_48 rfl (KK_b ca.f) rfl (by decide) ?_
  refine az_aload C 1 dX3_couple_51 rfl ?_
  refine az_getN C cX0 1 fb 4 (v := .int (x.2.1 fb 4)) (az_bw C hG nx_X3_159 rfl) dX3_couple_53 rfl (KK_b cb.f) rfl (by decide) ?_
  refine az_icmp_ne C 65 dX3_couple_56 (by decide) (fun c1 => ?_) (fun c1 => ?_)
  · exact az_thrS_ISE C hG (List.mem_of_getElem? (i := 11) rfl) dX3_couple_65 dX3_couple_68 dX3_couple_69 dX3_couple_71 dX3_couple_74 (Nat.le_of_ble_eq_true rfl) (Nat.le_of_ble_eq_true rfl) (Nat.le_of_ble_eq_true rfl) (Nat.le_of_ble_eq_true rfl) (Nat.le_of_ble_eq_true rfl) (Nat.le_of_ble_eq_true rfl) ⟨rfl, rfl, rfl⟩
  · refine az_iload C 0 dX3_couple_59 rfl ?_
    refine az_iconst C (v := 4) dX3_couple_61 (by decide) ?_
    refine az_icmp_le C 75 dX3_couple_62 (by decide) (fun c2 => ?_) (fun c2 => ?_)
    · exact absurd h2 (fun z => z.elim (fun q => q c1) (fun q => q c2))
    · exact az_thrS_ISE C hG (List.mem_of_getElem? (i := 11) rfl) dX3_couple_65 dX3_couple_68 dX3_couple_69 dX3_couple_71 dX3_couple_74 (Nat.le_of_ble_eq_true rfl) (Nat.le_of_ble_eq_true rfl) (Nat.le_of_ble_eq_true rfl) (Nat.le_of_ble_eq_true rfl) (Nat.le_of_ble_eq_true rfl) (Nat.le_of_ble_eq_true rfl) ⟨rfl, rfl, rfl⟩

def coupleX (x : Xs) (la fb : Nat) : Xs := xL (xL x 1 la (some fb)) 0 fb (some la)
set_option maxHeartbeats 4000000 in
set_option maxRecDepth 100000 in
theorem Xcouple3 (hG : az_okS l G) (nb a b : Nat) (hb : x.1 0 7 = nI nb) (hnb : nb = ρ.2.2.2.2.2) (hn : nb ≤ 8) (ka : a + 1 ≤ nb) (kb : b + 1 ≤ nb) (ra : List Nat) (fa : Nat) (ta : List Nat) (ca : XCv ρ.2.2.2.2.2 x a ra fa ta) (rb : List Nat) (fb : Nat) (tb : List Nat) (cb : XCv ρ.2.2.2.2.2 x b rb fb tb) (he : ¬ fa = fb) (h1 : x.2.1 fa 4 = x.2.1 fb 4) (h2 : nI (ta.length + 1) + nI (tb.length + 1) ≤ 4) (la : Nat) (hla : la < ρ.2.2.2.2.2) (hlst : lst fa ta = la) : az_M l G yX3_couple (az_ws yX3_couple cX3_couple 7 (Option.some FieldType.int)) 3 [.ref (ρ.1 0), .int (nI a), .int (nI b)] (AD ρ) (KK G ρ x m ou) 0 0 (az_r (some (.int (nI (ta.length + 1) + nI (tb.length + 1)))) (AD ρ) (KK G ρ (coupleX x la fb) m ou)) := by
  refine az_start hG.1 (by decide +kernel) (Nat.le_of_ble_eq_true rfl) ?_
  intro p e s mm args below meth c C hnm
  show az_W l G 7 _ p e _ s mm args below meth c _ _ 0 0 0 [(0, .ref (ρ.1 0)), (1, .int (nI a)), (2, .int (nI b))] []
  refine az_BI (fun hB => ?_)
  refine az_aload_n C 0 dX3_couple_0 rfl ?_
  refine az_iload_n C 1 dX3_couple_1 rfl ?_
  refine az_callV C Y_X3_bargeNumbered cX3 0 0 [.int (nI a)] [] wm_X3_155 wi_X3_bargeNumbered wse_X3_bargeNumbered dX3_couple_2 rfl rfl rfl (Xbarge1 hG nb a hb hnb hn ka) rfl (Nat.le_of_ble_eq_true rfl) (Nat.le_of_ble_eq_true rfl) (Nat.le_of_ble_eq_true rfl) (Nat.le_of_ble_eq_true rfl) (Nat.le_of_ble_eq_true rfl) (az_k1 rfl rfl ?_) (az_k0 rfl)
  refine az_callV C Y_X0_first cX0 1 a [] [] wm_X3_173 wi_X0_first wse_X0_first dX3_couple_5 rfl (KK_b ca.1.1) rfl (Xfirst hG a ra ca.1) rfl (Nat.le_of_ble_eq_true rfl) (Nat.le_of_ble_eq_true rfl) (Nat.le_of_ble_eq_true rfl) (Nat.le_of_ble_eq_true rfl) (Nat.le_of_ble_eq_true rfl) (az_k1 (by rw [ca.2.1]) rfl ?_) (az_k0 (by rw [ca.2.1]))
  refine az_astore_n C (lv' := [(3, .ref (ρ.2.2.1 fa)), (0, .ref (ρ.1 0)), (1, .int (nI a)), (2, .int (nI b))]) (j := 3) rfl dX3_couple_8 (by decide) rfl ?_
  refine az_aload_n C 1 dX3_couple_9 rfl ?_
  refine az_iload_n C 3 dX3_couple_10 rfl ?_
  refine az_callV C Y_X3_bargeNumbered cX3 0 0 [.int (nI b)] [] wm_X3_155 wi_X3_bargeNumbered wse_X3_bargeNumbered dX3_couple_11 rfl rfl rfl (Xbarge1 hG nb b hb hnb hn kb) rfl (Nat.le_of_ble_eq_true rfl) (Nat.le_of_ble_eq_true rfl) (Nat.le_of_ble_eq_true rfl) (Nat.le_of_ble_eq_true rfl) (Nat.le_of_ble_eq_true rfl) (az_k1 rfl rfl ?_) (az_k0 rfl)
  refine az_callV C Y_X0_first cX0 1 b [] [] wm_X3_173 wi_X0_first wse_X0_first dX3_couple_14 rfl (KK_b cb.1.1) rfl (Xfirst hG b rb cb.1) rfl (Nat.le_of_ble_eq_true rfl) (Nat.le_of_ble_eq_true rfl) (Nat.le_of_ble_eq_true rfl) (Nat.le_of_ble_eq_true rfl) (Nat.le_of_ble_eq_true rfl) (az_k1 (by rw [cb.2.1]) rfl ?_) (az_k0 (by rw [cb.2.1]))
  refine az_astore C (lv' := [(4, .ref (ρ.2.2.1 fb)), (3, .ref (ρ.2.2.1 fa)), (0, .ref (ρ.1 0)), (1, .int (nI a)), (2, .int (nI b))]) dX3_couple_17 (by decide) rfl ?_
  refine az_aload_n C 1 dX3_couple_19 rfl ?_
  refine az_aload C 0 dX3_couple_20 rfl ?_
  refine az_acmp_ne C (rx := (some (ρ.2.2.1 fa))) (ry := (some (ρ.2.2.1 fb))) 35 rfl rfl dX3_couple_22 (by decide) (fun _ => ?_) (fun q => absurd q (fun z => he (hB fa fb ca.f cb.f (Option.some.inj z))))
  refine az_aload_n C 1 dX3_couple_35 rfl ?_
  refine az_callV C Y_X0_chainSize cX0 1 fa [] [] wm_X3_179 wi_X0_chainSize wse_X0_chainSize dX3_couple_36 rfl (KK_b ca.2.2.1) rfl (XchainSize hG fa ta ca.2.2) rfl (Nat.le_of_ble_eq_true rfl) (Nat.le_of_ble_eq_true rfl) (Nat.le_of_ble_eq_true rfl) (Nat.le_of_ble_eq_true rfl) (Nat.le_of_ble_eq_true rfl) (az_k1 rfl rfl ?_) (az_k0 rfl)
  refine az_aload C 0 dX3_couple_39 rfl ?_
  refine az_callV C Y_X0_chainSize cX0 1 fb [] [.int (nI ((ta.length + 1)))] wm_X3_179 wi_X0_chainSize wse_X0_chainSize dX3_couple_41 rfl (KK_b cb.2.2.1) rfl (XchainSize hG fb tb cb.2.2) rfl (Nat.le_of_ble_eq_true rfl) (Nat.le_of_ble_eq_true rfl) (Nat.le_of_ble_eq_true rfl) (Nat.le_of_ble_eq_true rfl) (Nat.le_of_ble_eq_true rfl) (az_k1 rfl rfl ?_) (az_k0 rfl)
  refine az_iadd C dX3_couple_44 ?_
  refine az_istore C (lv' := [(5, .int ((nI ((ta.length + 1)) + nI ((tb.length + 1))))), (4, .ref (ρ.2.2.1 fb)), (3, .ref (ρ.2.2.1 fa)), (0, .ref (ρ.1 0)), (1, .int (nI a)), (2, .int (nI b))]) dX3_couple_45 (by decide) rfl ?_
  refine az_aload_n C 2 dX3_couple_47 rfl ?_
  refine az_getN C cX0 1 fa 4 (v := .int (x.2.1 fa 4)) (az_bw C hG nx_X3_159 rfl) dX3_couple_48 rfl (KK_b ca.f) rfl (by decide) ?_
  refine az_aload C 1 dX3_couple_51 rfl ?_
  refine az_getN C cX0 1 fb 4 (v := .int (x.2.1 fb 4)) (az_bw C hG nx_X3_159 rfl) dX3_couple_53 rfl (KK_b cb.f) rfl (by decide) ?_
  refine az_icmp_ne C 65 dX3_couple_56 (by decide) (fun q => absurd h1 q) (fun _ => ?_)
  refine az_iload C 0 dX3_couple_59 rfl ?_
  refine az_iconst C (v := 4) dX3_couple_61 (by decide) ?_
  refine az_icmp_le C 75 dX3_couple_62 (by decide) (fun _ => ?_) (fun q => absurd h2 q)
  refine az_aload_n C 2 dX3_couple_75 rfl ?_
  refine az_callV C Y_X0_last cX0 1 fa [] [] wm_X3_184 wi_X0_last wse_X0_last dX3_couple_76 rfl (KK_b ca.f) rfl (Xlast hG fa ta ca.2.2) rfl (Nat.le_of_ble_eq_true rfl) (Nat.le_of_ble_eq_true rfl) (Nat.le_of_ble_eq_true rfl) (Nat.le_of_ble_eq_true rfl) (Nat.le_of_ble_eq_true rfl) (az_k1 (by rw [hlst]) rfl ?_) (az_k0 (by rw [hlst]))
  refine az_astore C (lv' := [(6, .ref (ρ.2.2.1 la)), (5, .int ((nI ((ta.length + 1)) + nI ((tb.length + 1))))), (4, .ref (ρ.2.2.1 fb)), (3, .ref (ρ.2.2.1 fa)), (0, .ref (ρ.1 0)), (1, .int (nI a)), (2, .int (nI b))]) dX3_couple_79 (by decide) rfl ?_
  refine az_aload C 0 dX3_couple_81 rfl ?_
  refine az_aload C 2 dX3_couple_83 rfl ?_
  refine az_putN C cX0 1 la 7 (az_bw C hG nx_X3_187 rfl) dX3_couple_85 rfl (KK_b hla) (by decide) (Nat.le_of_ble_eq_true rfl) rfl rfl rfl (az_to rfl (K' := (KK G ρ (xL x 1 la (some fb)) m ou)) (KK_L1 (x := x) (o := (some fb)) hla) ?_)
  refine az_aload C 2 dX3_couple_88 rfl ?_
  refine az_aload C 0 dX3_couple_90 rfl ?_
  refine az_putN C cX0 1 fb 6 (az_bw C hG nx_X3_191 rfl) dX3_couple_92 rfl (KK_b cb.f) (by decide) (Nat.le_of_ble_eq_true rfl) rfl rfl rfl (az_to rfl (K' := (KK G ρ (xL (xL x 1 la (some fb)) 0 fb (some la)) m ou)) (KK_L0 (x := (xL x 1 la (some fb))) (o := (some la)) cb.f) ?_)
  refine az_iload C 1 dX3_couple_95 rfl ?_
  exact az_iret C rfl dX3_couple_97 (Nat.le_of_ble_eq_true rfl) (Nat.le_of_ble_eq_true rfl) ⟨rfl, rfl, rfl⟩

set_option maxHeartbeats 4000000 in
set_option maxRecDepth 100000 in
theorem Xuncouple0 (hG : az_okS l G) (nb : Nat) (v : Int32) (hb : x.1 0 7 = nI nb) (hnb : nb = ρ.2.2.2.2.2) (hn : nb ≤ 8) (hv : oo nb v) : az_M l G yX3_uncouple (az_ws yX3_uncouple cX3_uncouple 4 (Option.some FieldType.int)) 7 [.ref (ρ.1 0), .int v] (AD ρ) (KK G ρ x m ou) 1 6 (az_x "java/lang/IndexOutOfBoundsException" (AD ρ) (KK G ρ x m ou)) := by
  refine az_start hG.1 (by decide +kernel) (Nat.le_of_ble_eq_true rfl) ?_
  intro p e s mm args below meth c C hnm
  show az_W l G 4 _ p e _ s mm args below meth c _ _ 0 0 0 [(0, .ref (ρ.1 0)), (1, .int v)] []
  refine az_aload_n C 0 dX3_uncouple_0 rfl ?_
  refine az_iload_n C 1 dX3_uncouple_1 rfl ?_
  refine az_callV C Y_X3_bargeNumbered cX3 0 0 [.int v] [] wm_X3_155 wi_X3_bargeNumbered wse_X3_bargeNumbered dX3_uncouple_2 rfl rfl rfl (Xbarge0 hG nb v hb hnb hn hv) rfl (Nat.le_of_ble_eq_true rfl) (Nat.le_of_ble_eq_true rfl) (Nat.le_of_ble_eq_true rfl) (Nat.le_of_ble_eq_true rfl) (Nat.le_of_ble_eq_true rfl) (az_x0 rfl) (az_x1 rfl ?_)
  exact az_out C (fun _ h => by cases h) (Nat.le_of_ble_eq_true rfl) (Nat.le_of_ble_eq_true rfl) ⟨rfl, rfl, rfl⟩

set_option maxHeartbeats 4000000 in
set_option maxRecDepth 100000 in
theorem Xuncouple1 (hG : az_okS l G) (nb k : Nat) (hb : x.1 0 7 = nI nb) (hnb : nb = ρ.2.2.2.2.2) (hn : nb ≤ 8) (hk : k + 1 ≤ nb) (h : x.2.2.1 0 k = none) : az_M l G yX3_uncouple (az_ws yX3_uncouple cX3_uncouple 4 (Option.some FieldType.int)) 6 [.ref (ρ.1 0), .int (nI k)] (AD ρ) (KK G ρ x m ou) 1 6 (az_x "java/lang/IllegalStateException" (AD ρ) (KK G ρ x m ou)) := by
  refine az_start hG.1 (by decide +kernel) (Nat.le_of_ble_eq_true rfl) ?_
  intro p e s mm args below meth c C hnm
  show az_W l G 4 _ p e _ s mm args below meth c _ _ 0 0 0 [(0, .ref (ρ.1 0)), (1, .int (nI k))] []
  refine az_aload_n C 0 dX3_uncouple_0 rfl ?_
  refine az_iload_n C 1 dX3_uncouple_1 rfl ?_
  refine az_callV C Y_X3_bargeNumbered cX3 0 0 [.int (nI k)] [] wm_X3_155 wi_X3_bargeNumbered wse_X3_bargeNumbered dX3_uncouple_2 rfl rfl rfl (Xbarge1 hG nb k hb hnb hn hk) rfl (Nat.le_of_ble_eq_true rfl) (Nat.le_of_ble_eq_true rfl) (Nat.le_of_ble_eq_true rfl) (Nat.le_of_ble_eq_true rfl) (Nat.le_of_ble_eq_true rfl) (az_k1 rfl rfl ?_) (az_k0 rfl)
  refine az_astore_n C (lv' := [(2, .ref (ρ.2.2.1 k)), (0, .ref (ρ.1 0)), (1, .int (nI k))]) (j := 2) rfl dX3_uncouple_5 (by decide) rfl ?_
  refine az_aload_n C 0 dX3_uncouple_6 rfl ?_
  refine az_getN C cX0 1 k 6 (v := va_rf ((x.2.2.1 0 k).map ρ.2.2.1)) (az_bw C hG nx_X3_191 rfl) dX3_uncouple_7 rfl (KK_b (show k < ρ.2.2.2.2.2 by omega)) rfl (by decide) ?_
  refine az_st [.null] (by rw [h] <;> rfl) ?_
  refine az_astore_nN C (lv' := [(3, .null), (2, .ref (ρ.2.2.1 k)), (0, .ref (ρ.1 0)), (1, .int (nI k))]) (j := 3) rfl dX3_uncouple_10 (by decide) rfl ?_
  refine az_aload_nN C 0 dX3_uncouple_11 rfl ?_
  refine az_ifnonnullN C dX3_uncouple_12 ?_
  exact az_thrS_ISE C hG (List.mem_of_getElem? (i := 12) rfl) dX3_uncouple_15 dX3_uncouple_18 dX3_uncouple_19 dX3_uncouple_21 dX3_uncouple_24 (Nat.le_of_ble_eq_true rfl) (Nat.le_of_ble_eq_true rfl) (Nat.le_of_ble_eq_true rfl) (Nat.le_of_ble_eq_true rfl) (Nat.le_of_ble_eq_true rfl) (Nat.le_of_ble_eq_true rfl) ⟨rfl, rfl, rfl⟩

def uncoupleX (x : Xs) (d k : Nat) : Xs := xL (xL x 1 d none) 0 k none
set_option maxHeartbeats 4000000 in
set_option maxRecDepth 100000 in
theorem Xuncouple2 (hG : az_okS l G) (nb k : Nat) (hb : x.1 0 7 = nI nb) (hnb : nb = ρ.2.2.2.2.2) (hn : nb ≤ 8) (hk : k + 1 ≤ nb) (d : Nat) (hd : d < ρ.2.2.2.2.2) (h : x.2.2.1 0 k = some d) (rc : List Nat) (fc : Nat) (tc : List Nat) (cc : XCv ρ.2.2.2.2.2 (uncoupleX x d k) d rc fc tc) : az_M l G yX3_uncouple (az_ws yX3_uncouple cX3_uncouple 4 (Option.some FieldType.int)) 3 [.ref (ρ.1 0), .int (nI k)] (AD ρ) (KK G ρ x m ou) 0 0 (az_r (some (.int (nI (tc.length + 1)))) (AD ρ) (KK G ρ (uncoupleX x d k) m ou)) := by
  refine az_start hG.1 (by decide +kernel) (Nat.le_of_ble_eq_true rfl) ?_
  intro p e s mm args below meth c C hnm
  show az_W l G 4 _ p e _ s mm args below meth c _ _ 0 0 0 [(0, .ref (ρ.1 0)), (1, .int (nI k))] []
  refine az_aload_n C 0 dX3_uncouple_0 rfl ?_
  refine az_iload_n C 1 dX3_uncouple_1 rfl ?_
  refine az_callV C Y_X3_bargeNumbered cX3 0 0 [.int (nI k)] [] wm_X3_155 wi_X3_bargeNumbered wse_X3_bargeNumbered dX3_uncouple_2 rfl rfl rfl (Xbarge1 hG nb k hb hnb hn hk) rfl (Nat.le_of_ble_eq_true rfl) (Nat.le_of_ble_eq_true rfl) (Nat.le_of_ble_eq_true rfl) (Nat.le_of_ble_eq_true rfl) (Nat.le_of_ble_eq_true rfl) (az_k1 rfl rfl ?_) (az_k0 rfl)
  refine az_astore_n C (lv' := [(2, .ref (ρ.2.2.1 k)), (0, .ref (ρ.1 0)), (1, .int (nI k))]) (j := 2) rfl dX3_uncouple_5 (by decide) rfl ?_
  refine az_aload_n C 0 dX3_uncouple_6 rfl ?_
  refine az_getN C cX0 1 k 6 (v := va_rf ((x.2.2.1 0 k).map ρ.2.2.1)) (az_bw C hG nx_X3_191 rfl) dX3_uncouple_7 rfl (KK_b (show k < ρ.2.2.2.2.2 by omega)) rfl (by decide) ?_
  refine az_st [.ref (ρ.2.2.1 d)] (by rw [h] <;> rfl) ?_
  refine az_astore_n C (lv' := [(3, .ref (ρ.2.2.1 d)), (2, .ref (ρ.2.2.1 k)), (0, .ref (ρ.1 0)), (1, .int (nI k))]) (j := 3) rfl dX3_uncouple_10 (by decide) rfl ?_
  refine az_aload_n C 0 dX3_uncouple_11 rfl ?_
  refine az_ifnonnull C 25 dX3_uncouple_12 (by decide) ?_
  refine az_aload_n C 0 dX3_uncouple_25 rfl ?_
  refine az_null C dX3_uncouple_26 ?_
  refine az_putN C cX0 1 d 7 (az_bw C hG nx_X3_187 rfl) dX3_uncouple_27 rfl (KK_b hd) (by decide) (Nat.le_of_ble_eq_true rfl) rfl rfl rfl (az_to rfl (K' := (KK G ρ (xL x 1 d none) m ou)) (KK_L1 (x := x) (o := none) hd) ?_)
  refine az_aload_n C 1 dX3_uncouple_30 rfl ?_
  refine az_null C dX3_uncouple_31 ?_
  refine az_putN C cX0 1 k 6 (az_bw C hG nx_X3_191 rfl) dX3_uncouple_32 rfl (KK_b (show k < ρ.2.2.2.2.2 by omega)) (by decide) (Nat.le_of_ble_eq_true rfl) rfl rfl rfl (az_to rfl (K' := (KK G ρ (xL (xL x 1 d none) 0 k none) m ou)) (KK_L0 (x := (xL x 1 d none)) (o := none) (show k < ρ.2.2.2.2.2 by omega)) ?_)
  refine az_aload_n C 0 dX3_uncouple_35 rfl ?_
  refine az_callV C Y_X0_first cX0 1 d [] [] wm_X3_173 wi_X0_first wse_X0_first dX3_uncouple_36 rfl (KK_b hd) rfl (Xfirst (x := uncoupleX x d k) hG d rc cc.1) rfl (Nat.le_of_ble_eq_true rfl) (Nat.le_of_ble_eq_true rfl) (Nat.le_of_ble_eq_true rfl) (Nat.le_of_ble_eq_true rfl) (Nat.le_of_ble_eq_true rfl) (az_k1 (by rw [cc.2.1]) rfl ?_) (az_k0 (by rw [cc.2.1]))
  refine az_callV C Y_X0_chainSize cX0 1 fc [] [] wm_X3_179 wi_X0_chainSize wse_X0_chainSize dX3_uncouple_39 rfl (KK_b cc.2.2.1) rfl (XchainSize (x := uncoupleX x d k) hG fc tc cc.2.2) rfl (Nat.le_of_ble_eq_true rfl) (Nat.le_of_ble_eq_true rfl) (Nat.le_of_ble_eq_true rfl) (Nat.le_of_ble_eq_true rfl) (Nat.le_of_ble_eq_true rfl) (az_k1 rfl rfl ?_) (az_k0 rfl)
  exact az_iret C rfl dX3_uncouple_42 (Nat.le_of_ble_eq_true rfl) (Nat.le_of_ble_eq_true rfl) ⟨rfl, rfl, rfl⟩

end
