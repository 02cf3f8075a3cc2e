section
variable {l : Launch} {G : az_G} {ρ : Rp} {x : Xs} {m : Mz} {ou : Nat → Int64}
def openX (x : Xs) (n nr : Nat) (a1 a2 : Int32) : Xs × Nat := (xI (xI (sendR (nr + 1) (nr + 1 - nr) (bedX x nr a1) n (-1) 2 nr (a1 * a2)).1 11 nr 100) 12 nr a2, (sendR (nr + 1) (nr + 1 - nr) (bedX x nr a1) n (-1) 2 nr (a1 * a2)).2)
set_option maxHeartbeats 4000000 in
set_option maxRecDepth 100000 in
theorem Xopen (hG : az_okS l G) (nr : Nat) (hr : x.1 1 8 = nI nr) (hn : nr < 6) (a1 a2 : Int32) (n : Nat) (hv : MvX ρ x n (nr + 2)) : az_M l G yX3_openReach (az_ws yX3_openReach cX3_openReach 4 (Option.some FieldType.int)) 5 [.ref (ρ.1 0), .int a1, .int a2] (AD ρ) (KK G ρ x m ou) (capT ρ.2.2.2.1 (openX x n nr a1 a2).2 - ρ.2.2.2.1) (6 * (capT ρ.2.2.2.1 (openX x n nr a1 a2).2 - ρ.2.2.2.1)) (az_g G (some (.int (nI nr))) ρ (capT ρ.2.2.2.1 (openX x n nr a1 a2).2) (openX x n nr a1 a2).1 m ou) := by
  refine az_start hG.1 (by decide +kernel) (Nat.le_of_ble_eq_true rfl) ?_
  intro p e s mm args below meth c C hnm
  show az_W l G 4 _ p e _ s mm args below meth c _ _ 0 0 0 [(0, .ref (ρ.1 0)), (1, .int a1), (2, .int a2)] []
  refine az_aload_n C 0 dX3_openReach_0 rfl ?_
  refine az_get C cX3 0 0 0 (v := .ref (ρ.1 1)) wl_X3_12 dX3_openReach_1 rfl rfl rfl (by decide) ?_
  refine az_iload_n C 1 dX3_openReach_4 rfl ?_
  refine az_callV C Y_X2_addBed cX2 0 1 [.int a1] [] wm_X3_345 wi_X2_addBed wse_X2_addBed dX3_openReach_5 rfl rfl rfl (XaddBed hG nr hr hn a1) rfl (Nat.le_of_ble_eq_true rfl) (Nat.le_of_ble_eq_true rfl) (Nat.le_of_ble_eq_true rfl) (Nat.zero_le _) (Nat.zero_le _) (az_k1 rfl rfl ?_) (az_k0 rfl)
  refine az_istore_n C (lv' := [(3, .int (nI nr)), (0, .ref (ρ.1 0)), (1, .int a1), (2, .int a2)]) (j := 3) rfl dX3_openReach_8 (by decide) rfl ?_
  refine az_aload_n C 1 dX3_openReach_9 rfl ?_
  refine az_get C cX3 0 0 0 (v := .ref (ρ.1 1)) wl_X3_12 dX3_openReach_10 rfl rfl rfl (by decide) ?_
  refine az_iconst C (v := (-1)) dX3_openReach_13 (by decide) ?_
  refine az_iload_n C 0 dX3_openReach_14 rfl ?_
  refine az_iload_n C 2 dX3_openReach_15 rfl ?_
  refine az_iload_n C 3 dX3_openReach_16 rfl ?_
  refine az_imul C dX3_openReach_17 ?_
  refine az_callV C Y_X2_send cX2 0 1 [.int ((-1)), .int (nI nr), .int ((a1 * a2))] [] wm_X3_127 wi_X2_send wse_X2_send dX3_openReach_18 rfl rfl rfl (Xsend_r (x := (bedX x nr a1)) hG (nr + 1) nr (by omega) (by omega) rfl n hv (-1) 2 (by decide) (by decide) (a1 * a2)) rfl (Nat.le_of_ble_eq_true rfl) (Nat.le_of_ble_eq_true rfl) (Nat.le_of_ble_eq_true rfl) (Nat.le_of_eq (Nat.zero_add _)) (Nat.le_of_eq (Nat.zero_add _)) ?_ (by rintro E ad9 K9 ⟨q9, -, h9, -⟩; cases h9)
  rintro v9 ad9 K9 ⟨a9, ha9, h9, rfl, rfl⟩
  cases h9
  refine az_aload_n C 1 dX3_openReach_21 rfl ?_
  refine az_get C cX3 0 0 3 (v := .ref ((gR ρ a9 (capT ρ.2.2.2.1 (sendR (nr + 1) (nr + 1 - nr) (bedX x nr a1) n (-1) 2 nr (a1 * a2)).2)).1 11)) wl_X3_23 dX3_openReach_22 rfl rfl rfl (by decide) ?_
  refine az_iload_n C 0 dX3_openReach_25 rfl ?_
  refine az_bipush C (v := 100) dX3_openReach_26 (by decide) ?_
  refine az_iastN C 0 11 nr dX3_openReach_28 rfl rfl (by omega) (by decide) (az_to rfl (K' := (KK G (gR ρ a9 (capT ρ.2.2.2.1 (sendR (nr + 1) (nr + 1 - nr) (bedX x nr a1) n (-1) 2 nr (a1 * a2)).2)) (xI (sendR (nr + 1) (nr + 1 - nr) (bedX x nr a1) n (-1) 2 nr (a1 * a2)).1 11 nr 100) m ou)) (KK_X rfl) ?_)
  refine az_aload_n C 1 dX3_openReach_29 rfl ?_
  refine az_get C cX3 0 0 4 (v := .ref ((gR ρ a9 (capT ρ.2.2.2.1 (sendR (nr + 1) (nr + 1 - nr) (bedX x nr a1) n (-1) 2 nr (a1 * a2)).2)).1 12)) wl_X3_26 dX3_openReach_30 rfl rfl rfl (by decide) ?_
  refine az_iload_n C 0 dX3_openReach_33 rfl ?_
  refine az_iload_n C 3 dX3_openReach_34 rfl ?_
  refine az_iastN C 0 12 nr dX3_openReach_35 rfl rfl (by omega) (by decide) (az_to rfl (K' := (KK G (gR ρ a9 (capT ρ.2.2.2.1 (sendR (nr + 1) (nr + 1 - nr) (bedX x nr a1) n (-1) 2 nr (a1 * a2)).2)) (xI (xI (sendR (nr + 1) (nr + 1 - nr) (bedX x nr a1) n (-1) 2 nr (a1 * a2)).1 11 nr 100) 12 nr a2) m ou)) (KK_X rfl) ?_)
  refine az_iload_n C 0 dX3_openReach_36 rfl ?_
  exact az_iret C rfl dX3_openReach_37 (Nat.le_of_eq (Nat.zero_add _)) (Nat.le_of_eq (Nat.zero_add _)) ⟨a9, ha9, rfl, rfl, rfl⟩

set_option maxHeartbeats 4000000 in
set_option maxRecDepth 100000 in
theorem XaddReach0 (hG : az_okS l G) (a1 a2 a3 a4 a5 : Int32) (h : ¬ (¬ inI a1 1 50 = 0 ∧ ¬ inI a2 0 60 = 0 ∧ ¬ inI a3 1 200 = 0 ∧ ¬ inI a4 10 200 = 0 ∧ ¬ inI a5 5 60 = 0)) : az_M l G yX3_addReach (az_ws yX3_addReach cX3_addReach 7 (Option.some FieldType.int)) 6 [.ref (ρ.1 0), .int a1, .int a2, .int a3, .int a4, .int a5] (AD ρ) (KK G ρ x m ou) 1 6 (az_x "java/lang/IllegalArgumentException" (AD ρ) (KK G ρ x m ou)) := by
  refine az_start hG.1 (by decide +kernel) (Nat.le_of_ble_eq_true rfl) ?_
  intro p e s mm args below meth c C hnm
  show az_W l G 7 _ p e _ s mm args below meth c _ _ 0 0 0 [(0, .ref (ρ.1 0)), (1, .int a1), (2, .int a2), (3, .int a3), (4, .int a4), (5, .int a5)] []
  refine az_iload_n C 1 dX3_addReach_0 rfl ?_
  refine az_iconst C (v := 1) dX3_addReach_1 (by decide) ?_
  refine az_bipush C (v := 50) dX3_addReach_2 (by decide) ?_
  refine az_callS C Y_X3_isWithin [.int a1, .int 1, .int 50] [] wm_X3_56 wst_X3_isWithin dX3_addReach_4 rfl (Xwithin hG (a1) (1) (50)) rfl (Nat.le_of_ble_eq_true rfl) (Nat.le_of_ble_eq_true rfl) (Nat.le_of_ble_eq_true rfl) (Nat.zero_le _) (Nat.zero_le _) (az_k1 rfl rfl ?_) (az_k0 rfl)
  refine az_if_eq C 55 dX3_addReach_7 (by decide) (fun c1 => ?_) (fun c1 => ?_)
  · exact az_thrS_IAE C hG (List.mem_of_getElem? (i := 0) rfl) dX3_addReach_55 dX3_addReach_58 dX3_addReach_59 dX3_addReach_61 dX3_addReach_64 (Nat.le_of_ble_eq_true rfl) (Nat.le_of_ble_eq_true rfl) (Nat.le_of_ble_eq_true rfl) (Nat.le_of_ble_eq_true rfl) (Nat.le_of_ble_eq_true rfl) (Nat.le_of_ble_eq_true rfl) ⟨rfl, rfl, rfl⟩
  · refine az_iload_n C 2 dX3_addReach_10 rfl ?_
    refine az_iconst C (v := 0) dX3_addReach_11 (by decide) ?_
    refine az_bipush C (v := 60) dX3_addReach_12 (by decide) ?_
    refine az_callS C Y_X3_isWithin [.int a2, .int 0, .int 60] [] wm_X3_56 wst_X3_isWithin dX3_addReach_14 rfl (Xwithin hG (a2) (0) (60)) rfl (Nat.le_of_ble_eq_true rfl) (Nat.le_of_ble_eq_true rfl) (Nat.le_of_ble_eq_true rfl) (Nat.zero_le _) (Nat.zero_le _) (az_k1 rfl rfl ?_) (az_k0 rfl)
    refine az_if_eq C 55 dX3_addReach_17 (by decide) (fun c2 => ?_) (fun c2 => ?_)
    · exact az_thrS_IAE C hG (List.mem_of_getElem? (i := 0) rfl) dX3_addReach_55 dX3_addReach_58 dX3_addReach_59 dX3_addReach_61 dX3_addReach_64 (Nat.le_of_ble_eq_true rfl) (Nat.le_of_ble_eq_true rfl) (Nat.le_of_ble_eq_true rfl) (Nat.le_of_ble_eq_true rfl) (Nat.le_of_ble_eq_true rfl) (Nat.le_of_ble_eq_true rfl) ⟨rfl, rfl, rfl⟩
    · refine az_iload_n C 3 dX3_addReach_20 rfl ?_
      refine az_iconst C (v := 1) dX3_addReach_21 (by decide) ?_
      refine az_sipush C (v := 200) dX3_addReach_22 (by decide) ?_
      refine az_callS C Y_X3_isWithin [.int a3, .int 1, .int 200] [] wm_X3_56 wst_X3_isWithin dX3_addReach_25 rfl (Xwithin hG (a3) (1) (200)) rfl (Nat.le_of_ble_eq_true rfl) (Nat.le_of_ble_eq_true rfl) (Nat.le_of_ble_eq_true rfl) (Nat.zero_le _) (Nat.zero_le _) (az_k1 rfl rfl ?_) (az_k0 rfl)
      refine az_if_eq C 55 dX3_addReach_28 (by decide) (fun c3 => ?_) (fun c3 => ?_)
      · exact az_thrS_IAE C hG (List.mem_of_getElem? (i := 0) rfl) dX3_addReach_55 dX3_addReach_58 dX3_addReach_59 dX3_addReach_61 dX3_addReach_64 (Nat.le_of_ble_eq_true rfl) (Nat.le_of_ble_eq_true rfl) (Nat.le_of_ble_eq_true rfl) (Nat.le_of_ble_eq_true rfl) (Nat.le_of_ble_eq_true rfl) (Nat.le_of_ble_eq_true rfl) ⟨rfl, rfl, rfl⟩
      · refine az_iload C 4 dX3_addReach_31 rfl ?_
        refine az_bipush C (v := 10) dX3_addReach_33 (by decide) ?_
        refine az_sipush C (v := 200) dX3_addReach_35 (by decide) ?_
        refine az_callS C Y_X3_isWithin [.int a4, .int 10, .int 200] [] wm_X3_56 wst_X3_isWithin dX3_addReach_38 rfl (Xwithin hG (a4) (10) (200)) rfl (Nat.le_of_ble_eq_true rfl) (Nat.le_of_ble_eq_true rfl) (Nat.le_of_ble_eq_true rfl) (Nat.zero_le _) (Nat.zero_le _) (az_k1 rfl rfl ?_) (az_k0 rfl)
        refine az_if_eq C 55 dX3_addReach_41 (by decide) (fun c4 => ?_) (fun c4 => ?_)
        · exact az_thrS_IAE C hG (List.mem_of_getElem? (i := 0) rfl) dX3_addReach_55 dX3_addReach_58 dX3_addReach_59 dX3_addReach_61 dX3_addReach_64 (Nat.le_of_ble_eq_true rfl) (Nat.le_of_ble_eq_true rfl) (Nat.le_of_ble_eq_true rfl) (Nat.le_of_ble_eq_true rfl) (Nat.le_of_ble_eq_true rfl) (Nat.le_of_ble_eq_true rfl) ⟨rfl, rfl, rfl⟩
        · refine az_iload C 5 dX3_addReach_44 rfl ?_
          refine az_iconst C (v := 5) dX3_addReach_46 (by decide) ?_
          refine az_bipush C (v := 60) dX3_addReach_47 (by decide) ?_
          refine az_callS C Y_X3_isWithin [.int a5, .int 5, .int 60] [] wm_X3_56 wst_X3_isWithin dX3_addReach_49 rfl (Xwithin hG (a5) (5) (60)) rfl (Nat.le_of_ble_eq_true rfl) (Nat.le_of_ble_eq_true rfl) (Nat.le_of_ble_eq_true rfl) (Nat.zero_le _) (Nat.zero_le _) (az_k1 rfl rfl ?_) (az_k0 rfl)
          refine az_if_ne C 65 dX3_addReach_52 (by decide) (fun c5 => ?_) (fun c5 => ?_)
          · exact absurd ⟨c1, c2, c3, c4, c5⟩ h
          · exact az_thrS_IAE C hG (List.mem_of_getElem? (i := 0) rfl) dX3_addReach_55 dX3_addReach_58 dX3_addReach_59 dX3_addReach_61 dX3_addReach_64 (Nat.le_of_ble_eq_true rfl) (Nat.le_of_ble_eq_true rfl) (Nat.le_of_ble_eq_true rfl) (Nat.le_of_ble_eq_true rfl) (Nat.le_of_ble_eq_true rfl) (Nat.le_of_ble_eq_true rfl) ⟨rfl, rfl, rfl⟩

set_option maxHeartbeats 4000000 in
set_option maxRecDepth 100000 in
theorem XaddReach1 (hG : az_okS l G) (a1 a2 a3 a4 a5 : Int32) (h : (¬ inI a1 1 50 = 0 ∧ ¬ inI a2 0 60 = 0 ∧ ¬ inI a3 1 200 = 0 ∧ ¬ inI a4 10 200 = 0 ∧ ¬ inI a5 5 60 = 0)) (h6 : x.1 1 8 = 6) : az_M l G yX3_addReach (az_ws yX3_addReach cX3_addReach 7 (Option.some FieldType.int)) 6 [.ref (ρ.1 0), .int a1, .int a2, .int a3, .int a4, .int a5] (AD ρ) (KK G ρ x m ou) 1 6 (az_x "java/lang/IllegalStateException" (AD ρ) (KK G ρ x m ou)) := by
  refine az_start hG.1 (by decide +kernel) (Nat.le_of_ble_eq_true rfl) ?_
  intro p e s mm args below meth c C hnm
  show az_W l G 7 _ p e _ s mm args below meth c _ _ 0 0 0 [(0, .ref (ρ.1 0)), (1, .int a1), (2, .int a2), (3, .int a3), (4, .int a4), (5, .int a5)] []
  refine az_iload_n C 1 dX3_addReach_0 rfl ?_
  refine az_iconst C (v := 1) dX3_addReach_1 (by decide) ?_
  refine az_bipush C (v := 50) dX3_addReach_2 (by decide) ?_
  refine az_callS C Y_X3_isWithin [.int a1, .int 1, .int 50] [] wm_X3_56 wst_X3_isWithin dX3_addReach_4 rfl (Xwithin hG (a1) (1) (50)) rfl (Nat.le_of_ble_eq_true rfl) (Nat.le_of_ble_eq_true rfl) (Nat.le_of_ble_eq_true rfl) (Nat.zero_le _) (Nat.zero_le _) (az_k1 rfl rfl ?_) (az_k0 rfl)
  refine az_if_eq C 55 dX3_addReach_7 (by decide) (fun q => absurd q h.1) (fun _ => ?_)
  refine az_iload_n C 2 dX3_addReach_10 rfl ?_
  refine az_iconst C (v := 0) dX3_addReach_11 (by decide) ?_
  refine az_bipush C (v := 60) dX3_addReach_12 (by decide) ?_
  refine az_callS C Y_X3_isWithin [.int a2, .int 0, .int 60] [] wm_X3_56 wst_X3_isWithin dX3_addReach_14 rfl (Xwithin hG (a2) (0) (60)) rfl (Nat.le_of_ble_eq_true rfl) (Nat.le_of_ble_eq_true rfl) (Nat.le_of_ble_eq_true rfl) (Nat.zero_le _) (Nat.zero_le _) (az_k1 rfl rfl ?_) (az_k0 rfl)
  refine az_if_eq C 55 dX3_addReach_17 (by decide) (fun q => absurd q h.2.1) (fun _ => ?_)
  refine az_iload_n C 3 dX3_addReach_20 rfl ?_
  refine az_iconst C (v := 1) dX3_addReach_21 (by decide) ?_
  refine az_sipush C (v := 200) dX3_addReach_22 (by decide) ?_
  refine az_callS C Y_X3_isWithin [.int a3, .int 1, .int 200] [] wm_X3_56 wst_X3_isWithin dX3_addReach_25 rfl (Xwithin hG (a3) (1) (200)) rfl (Nat.le_of_ble_eq_true rfl) (Nat.le_of_ble_eq_true rfl) (Nat.le_of_ble_eq_true rfl) (Nat.zero_le _) (Nat.zero_le _) (az_k1 rfl rfl ?_) (az_k0 rfl)
  refine az_if_eq C 55 dX3_addReach_28 (by decide) (fun q => absurd q h.2.2.1) (fun _ => ?_)
  refine az_iload C 4 dX3_addReach_31 rfl ?_
  refine az_bipush C (v := 10) dX3_addReach_33 (by decide) ?_
  refine az_sipush C (v := 200) dX3_addReach_35 (by decide) ?_
  refine az_callS C Y_X3_isWithin [.int a4, .int 10, .int 200] [] wm_X3_56 wst_X3_isWithin dX3_addReach_38 rfl (Xwithin hG (a4) (10) (200)) rfl (Nat.le_of_ble_eq_true rfl) (Nat.le_of_ble_eq_true rfl) (Nat.le_of_ble_eq_true rfl) (Nat.zero_le _) (Nat.zero_le _) (az_k1 rfl rfl ?_) (az_k0 rfl)
  refine az_if_eq C 55 dX3_addReach_41 (by decide) (fun q => absurd q h.2.2.2.1) (fun _ => ?_)
  refine az_iload C 5 dX3_addReach_44 rfl ?_
  refine az_iconst C (v := 5) dX3_addReach_46 (by decide) ?_
  refine az_bipush C (v := 60) dX3_addReach_47 (by decide) ?_
  refine az_callS C Y_X3_isWithin [.int a5, .int 5, .int 60] [] wm_X3_56 wst_X3_isWithin dX3_addReach_49 rfl (Xwithin hG (a5) (5) (60)) rfl (Nat.le_of_ble_eq_true rfl) (Nat.le_of_ble_eq_true rfl) (Nat.le_of_ble_eq_true rfl) (Nat.zero_le _) (Nat.zero_le _) (az_k1 rfl rfl ?_) (az_k0 rfl)
  refine az_if_ne C 65 dX3_addReach_52 (by decide) (fun _ => ?_) (fun q => absurd q h.2.2.2.2)
  refine az_aload_n C 0 dX3_addReach_65 rfl ?_
  refine az_get C cX3 0 0 0 (v := .ref (ρ.1 1)) wl_X3_12 dX3_addReach_66 rfl rfl rfl (by decide) ?_
  refine az_getN C cX2 0 1 8 (v := .int (x.1 1 8)) (az_bw C hG nx_X3_67 rfl) dX3_addReach_69 rfl rfl rfl (by decide) ?_
  refine az_top (6) h6 ?_
  refine az_bipush C (v := 6) dX3_addReach_72 (by decide) ?_
  refine az_icmp_lt C 87 dX3_addReach_74 (by decide) (fun q => absurd q (by decide)) (fun _ => ?_)
  exact az_thrS_ISE C hG (List.mem_of_getElem? (i := 1) rfl) dX3_addReach_77 dX3_addReach_80 dX3_addReach_81 dX3_addReach_83 dX3_addReach_86 (Nat.le_of_ble_eq_true rfl) (Nat.le_of_ble_eq_true rfl) (Nat.le_of_ble_eq_true rfl) (Nat.le_of_ble_eq_true rfl) (Nat.le_of_ble_eq_true rfl) (Nat.le_of_ble_eq_true rfl) ⟨rfl, rfl, rfl⟩

def addReachX (x : Xs) (n nr : Nat) (a1 a2 a3 a4 a5 : Int32) : Xs × Nat := openX (xI (xI (xI x 3 (nr - 1) a3) 9 (nr - 1) a4) 10 (nr - 1) a5) n nr a1 a2
set_option maxHeartbeats 4000000 in
set_option maxRecDepth 100000 in
theorem XaddReach2 (hG : az_okS l G) (a1 a2 a3 a4 a5 : Int32) (h : (¬ inI a1 1 50 = 0 ∧ ¬ inI a2 0 60 = 0 ∧ ¬ inI a3 1 200 = 0 ∧ ¬ inI a4 10 200 = 0 ∧ ¬ inI a5 5 60 = 0)) (nr : Nat) (hr : x.1 1 8 = nI nr) (h1 : 1 ≤ nr) (hn : nr < 6) (n : Nat) (hv : MvX ρ x n (nr + 2)) : az_M l G yX3_addReach (az_ws yX3_addReach cX3_addReach 7 (Option.some FieldType.int)) 6 [.ref (ρ.1 0), .int a1, .int a2, .int a3, .int a4, .int a5] (AD ρ) (KK G ρ x m ou) (capT ρ.2.2.2.1 (addReachX x n nr a1 a2 a3 a4 a5).2 - ρ.2.2.2.1) (6 * (capT ρ.2.2.2.1 (addReachX x n nr a1 a2 a3 a4 a5).2 - ρ.2.2.2.1)) (az_g G (some (.int (nI nr))) ρ (capT ρ.2.2.2.1 (addReachX x n nr a1 a2 a3 a4 a5).2) (addReachX x n nr a1 a2 a3 a4 a5).1 m ou) := by
  refine az_start hG.1 (by decide +kernel) (Nat.le_of_ble_eq_true rfl) ?_
  intro p e s mm args below meth c C hnm
  show az_W l G 7 _ p e _ s mm args below meth c _ _ 0 0 0 [(0, .ref (ρ.1 0)), (1, .int a1), (2, .int a2), (3, .int a3), (4, .int a4), (5, .int a5)] []
  refine az_iload_n C 1 dX3_addReach_0 rfl ?_
  refine az_iconst C (v := 1) dX3_addReach_1 (by decide) ?_
  refine az_bipush C (v := 50) dX3_addReach_2 (by decide) ?_
  refine az_callS C Y_X3_isWithin [.int a1, .int 1, .int 50] [] wm_X3_56 wst_X3_isWithin dX3_addReach_4 rfl (Xwithin hG (a1) (1) (50)) rfl (Nat.le_of_ble_eq_true rfl) (Nat.le_of_ble_eq_true rfl) (Nat.le_of_ble_eq_true rfl) (Nat.zero_le _) (Nat.zero_le _) (az_k1 rfl rfl ?_) (az_k0 rfl)
  refine az_if_eq C 55 dX3_addReach_7 (by decide) (fun q => absurd q h.1) (fun _ => ?_)
  refine az_iload_n C 2 dX3_addReach_10 rfl ?_
  refine az_iconst C (v := 0) dX3_addReach_11 (by decide) ?_
  refine az_bipush C (v := 60) dX3_addReach_12 (by decide) ?_
  refine az_callS C Y_X3_isWithin [.int a2, .int 0, .int 60] [] wm_X3_56 wst_X3_isWithin dX3_addReach_14 rfl (Xwithin hG (a2) (0) (60)) rfl (Nat.le_of_ble_eq_true rfl) (Nat.le_of_ble_eq_true rfl) (Nat.le_of_ble_eq_true rfl) (Nat.zero_le _) (Nat.zero_le _) (az_k1 rfl rfl ?_) (az_k0 rfl)
  refine az_if_eq C 55 dX3_addReach_17 (by decide) (fun q => absurd q h.2.1) (fun _ => ?_)
  refine az_iload_n C 3 dX3_addReach_20 rfl ?_
  refine az_iconst C (v := 1) dX3_addReach_21 (by decide) ?_
  refine az_sipush C (v := 200) dX3_addReach_22 (by decide) ?_
  refine az_callS C Y_X3_isWithin [.int a3, .int 1, .int 200] [] wm_X3_56 wst_X3_isWithin dX3_addReach_25 rfl (Xwithin hG (a3) (1) (200)) rfl (Nat.le_of_ble_eq_true rfl) (Nat.le_of_ble_eq_true rfl) (Nat.le_of_ble_eq_true rfl) (Nat.zero_le _) (Nat.zero_le _) (az_k1 rfl rfl ?_) (az_k0 rfl)
  refine az_if_eq C 55 dX3_addReach_28 (by decide) (fun q => absurd q h.2.2.1) (fun _ => ?_)
  refine az_iload C 4 dX3_addReach_31 rfl ?_
  refine az_bipush C (v := 10) dX3_addReach_33 (by decide) ?_
  refine az_sipush C (v := 200) dX3_addReach_35 (by decide) ?_
  refine az_callS C Y_X3_isWithin [.int a4, .int 10, .int 200] [] wm_X3_56 wst_X3_isWithin dX3_addReach_38 rfl (Xwithin hG (a4) (10) (200)) rfl (Nat.le_of_ble_eq_true rfl) (Nat.le_of_ble_eq_true rfl) (Nat.le_of_ble_eq_true rfl) (Nat.zero_le _) (Nat.zero_le _) (az_k1 rfl rfl ?_) (az_k0 rfl)
  refine az_if_eq C 55 dX3_addReach_41 (by decide) (fun q => absurd q h.2.2.2.1) (fun _ => ?_)
  refine az_iload C 5 dX3_addReach_44 rfl ?_
  refine az_iconst C (v := 5) dX3_addReach_46 (by decide) ?_
  refine az_bipush C (v := 60) dX3_addReach_47 (by decide) ?_
  refine az_callS C Y_X3_isWithin [.int a5, .int 5, .int 60] [] wm_X3_56 wst_X3_isWithin dX3_addReach_49 rfl (Xwithin hG (a5) (5) (60)) rfl (Nat.le_of_ble_eq_true rfl) (Nat.le_of_ble_eq_true rfl) (Nat.le_of_ble_eq_true rfl) (Nat.zero_le _) (Nat.zero_le _) (az_k1 rfl rfl ?_) (az_k0 rfl)
  refine az_if_ne C 65 dX3_addReach_52 (by decide) (fun _ => ?_) (fun q => absurd q h.2.2.2.2)
  refine az_aload_n C 0 dX3_addReach_65 rfl ?_
  refine az_get C cX3 0 0 0 (v := .ref (ρ.1 1)) wl_X3_12 dX3_addReach_66 rfl rfl rfl (by decide) ?_
  refine az_getN C cX2 0 1 8 (v := .int (x.1 1 8)) (az_bw C hG nx_X3_67 rfl) dX3_addReach_69 rfl rfl rfl (by decide) ?_
  refine az_top (nI nr) hr ?_
  refine az_bipush C (v := 6) dX3_addReach_72 (by decide) ?_
  refine az_icmp_lt C 87 dX3_addReach_74 (by decide) (fun _ => ?_) (fun q => absurd (Int32.not_le.mp (show ¬ (6 : Int32) ≤ nI nr from nlt_nle (b := 6) hn (by decide))) q)
  refine az_aload_n C 0 dX3_addReach_87 rfl ?_
  refine az_get C cX3 0 0 0 (v := .ref (ρ.1 1)) wl_X3_12 dX3_addReach_88 rfl rfl rfl (by decide) ?_
  refine az_getN C cX2 0 1 8 (v := .int (x.1 1 8)) (az_bw C hG nx_X3_67 rfl) dX3_addReach_91 rfl rfl rfl (by decide) ?_
  refine az_top (nI nr) hr ?_
  refine az_iconst C (v := 1) dX3_addReach_94 (by decide) ?_
  refine az_isub C dX3_addReach_95 ?_
  refine az_top (nI (nr - 1)) (show nI nr - 1 = nI (nr - 1) from pk_sub (b := 1) (by omega)) ?_
  refine az_istore C (lv' := [(6, .int (nI (nr - 1))), (0, .ref (ρ.1 0)), (1, .int a1), (2, .int a2), (3, .int a3), (4, .int a4), (5, .int a5)]) dX3_addReach_96 (by decide) rfl ?_
  refine az_aload_n C 1 dX3_addReach_98 rfl ?_
  refine az_get C cX3 0 0 0 (v := .ref (ρ.1 1)) wl_X3_12 dX3_addReach_99 rfl rfl rfl (by decide) ?_
  refine az_getN C cX2 0 1 1 (v := .ref (ρ.1 3)) (az_bw C hG nx_X3_75 rfl) dX3_addReach_102 rfl rfl rfl (by decide) ?_
  refine az_iload C 0 dX3_addReach_105 rfl ?_
  refine az_iload_n C 4 dX3_addReach_107 rfl ?_
  refine az_iastN C 0 3 ((nr - 1)) dX3_addReach_108 rfl rfl (by omega) (by decide) (az_to rfl (K' := (KK G ρ (xI x 3 ((nr - 1)) a3) m ou)) (KK_X rfl) ?_)
  refine az_aload_n C 1 dX3_addReach_109 rfl ?_
  refine az_get C cX3 0 0 1 (v := .ref (ρ.1 9)) wl_X3_16 dX3_addReach_110 rfl rfl rfl (by decide) ?_
  refine az_iload C 0 dX3_addReach_113 rfl ?_
  refine az_iload C 5 dX3_addReach_115 rfl ?_
  refine az_iastN C 0 9 ((nr - 1)) dX3_addReach_117 rfl rfl (by omega) (by decide) (az_to rfl (K' := (KK G ρ (xI (xI x 3 ((nr - 1)) a3) 9 ((nr - 1)) a4) m ou)) (KK_X rfl) ?_)
  refine az_aload_n C 1 dX3_addReach_118 rfl ?_
  refine az_get C cX3 0 0 2 (v := .ref (ρ.1 10)) wl_X3_20 dX3_addReach_119 rfl rfl rfl (by decide) ?_
  refine az_iload C 0 dX3_addReach_122 rfl ?_
  refine az_iload C 6 dX3_addReach_124 rfl ?_
  refine az_iastN C 0 10 ((nr - 1)) dX3_addReach_126 rfl rfl (by omega) (by decide) (az_to rfl (K' := (KK G ρ (xI (xI (xI x 3 ((nr - 1)) a3) 9 ((nr - 1)) a4) 10 ((nr - 1)) a5) m ou)) (KK_X rfl) ?_)
  refine az_aload_n C 1 dX3_addReach_127 rfl ?_
  refine az_iload_n C 2 dX3_addReach_128 rfl ?_
  refine az_iload_n C 3 dX3_addReach_129 rfl ?_
  refine az_callV C Y_X3_openReach cX3 0 0 [.int a1, .int a2] [] wm_X3_52 wi_X3_openReach wse_X3_openReach dX3_addReach_130 rfl rfl rfl (Xopen (x := (xI (xI (xI x 3 (nr - 1) a3) 9 (nr - 1) a4) 10 (nr - 1) a5)) hG nr hr hn a1 a2 n hv) rfl (Nat.le_of_ble_eq_true rfl) (Nat.le_of_ble_eq_true rfl) (Nat.le_of_ble_eq_true rfl) (Nat.le_of_eq (Nat.zero_add _)) (Nat.le_of_eq (Nat.zero_add _)) ?_ (by rintro E ad9 K9 ⟨q9, -, h9, -⟩; cases h9)
  rintro v9 ad9 K9 ⟨a9, ha9, h9, rfl, rfl⟩
  cases h9
  exact az_iret C rfl dX3_addReach_133 (Nat.le_of_eq (Nat.zero_add _)) (Nat.le_of_eq (Nat.zero_add _)) ⟨a9, ha9, rfl, rfl, rfl⟩

def cpX (u b v : Int32) : Int32 := if b ≤ v then (if v ≤ b then u else (if u - (u + 9) / 10 < 1 then 1 else u - (u + 9) / 10)) else (if 9999 < u + (u + 9) / 10 then 9999 else u + (u + 9) / 10)
set_option maxHeartbeats 4000000 in
set_option maxRecDepth 100000 in
theorem XcP (hG : az_okS l G) (u b v : Int32) : az_M l G yX3_changedPrice (az_ws yX3_changedPrice cX3_changedPrice 4 (Option.some FieldType.int)) 2 [.int u, .int b, .int v] (AD ρ) (KK G ρ x m ou) 0 0 (az_r (some (.int (cpX u b v))) (AD ρ) (KK G ρ x m ou)) := by
  refine az_start hG.1 (by decide +kernel) (Nat.le_of_ble_eq_true rfl) ?_
  intro p e s mm args below meth c C hnm
  show az_W l G 4 _ p e _ s mm args below meth c _ _ 0 0 0 [(0, .int u), (1, .int b), (2, .int v)] []
  refine az_iload_n C 0 dX3_changedPrice_0 rfl ?_
  refine az_bipush C (v := 9) dX3_changedPrice_1 (by decide) ?_
  refine az_iadd C dX3_changedPrice_3 ?_
  refine az_bipush C (v := 10) dX3_changedPrice_4 (by decide) ?_
  refine az_idiv C dX3_changedPrice_6 (by decide) ?_
  refine az_istore_n C (lv' := [(3, .int (((u + 9) / 10))), (0, .int u), (1, .int b), (2, .int v)]) (j := 3) rfl dX3_changedPrice_7 (by decide) rfl ?_
  refine az_iload_n C 3 dX3_changedPrice_8 rfl ?_
  refine az_iload_n C 2 dX3_changedPrice_9 rfl ?_
  refine az_icmp_ge C 23 dX3_changedPrice_10 (by decide) (fun c1 => ?_) (fun c1 => ?_)
  · refine az_iload_n C 3 dX3_changedPrice_23 rfl ?_
    refine az_iload_n C 2 dX3_changedPrice_24 rfl ?_
    refine az_icmp_le C 36 dX3_changedPrice_25 (by decide) (fun c2 => ?_) (fun c2 => ?_)
    · refine az_iload_n C 1 dX3_changedPrice_36 rfl ?_
      exact az_iret C rfl dX3_changedPrice_37 (Nat.le_of_ble_eq_true rfl) (Nat.le_of_ble_eq_true rfl) ⟨(by unfold cpX; simp only [c1, c2, if_true, if_false] <;> rfl), rfl, rfl⟩
    · refine az_iload_n C 1 dX3_changedPrice_28 rfl ?_
      refine az_iload_n C 0 dX3_changedPrice_29 rfl ?_
      refine az_isub C dX3_changedPrice_30 ?_
      refine az_iconst C (v := 1) dX3_changedPrice_31 (by decide) ?_
      refine az_mmax C wm_X3_264 wst_max wini_Math wc_max (Nat.le_of_ble_eq_true rfl) (Nat.le_of_ble_eq_true rfl) (Nat.le_of_ble_eq_true rfl) (Nat.le_of_ble_eq_true rfl) dX3_changedPrice_32 ?_
      exact az_iret C rfl dX3_changedPrice_35 (Nat.le_of_ble_eq_true rfl) (Nat.le_of_ble_eq_true rfl) ⟨(by unfold cpX; simp only [c1, c2, if_true, if_false] <;> rfl), rfl, rfl⟩
  · refine az_iload_n C 1 dX3_changedPrice_13 rfl ?_
    refine az_iload_n C 0 dX3_changedPrice_14 rfl ?_
    refine az_iadd C dX3_changedPrice_15 ?_
    refine az_sipush C (v := 9999) dX3_changedPrice_16 (by decide) ?_
    refine az_mmin C wm_X3_131 wst_min wini_Math wc_min (Nat.le_of_ble_eq_true rfl) (Nat.le_of_ble_eq_true rfl) (Nat.le_of_ble_eq_true rfl) (Nat.le_of_ble_eq_true rfl) dX3_changedPrice_19 ?_
    exact az_iret C rfl dX3_changedPrice_22 (Nat.le_of_ble_eq_true rfl) (Nat.le_of_ble_eq_true rfl) ⟨(by unfold cpX; simp only [c1, if_true, if_false] <;> rfl), rfl, rfl⟩

end
