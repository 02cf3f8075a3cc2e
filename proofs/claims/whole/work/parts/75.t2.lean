section
variable {l : Launch} {G : az_G} {ρ : Rp} {x : Xs} {m : Ms} {ou : Nat → Int64}
set_option maxHeartbeats 4000000 in
set_option maxRecDepth 100000 in
theorem Xsize1 (hG : az_okS l G) (d : Nat) (hd : d < 10) : az_M l G yJ6_stringSize_0f7a4 (az_ws yJ6_stringSize_0f7a4 cJ6_stringSize_0f7a4 4 (Option.some FieldType.int)) 1 [.int (nI d)] (AD ρ) (KK G ρ x m ou) 0 0 (az_r (some (.int (nI 1))) (AD ρ) (KK G ρ x m ou)) := by
  refine az_start hG.1 (by decide +kernel) (Nat.le_of_ble_eq_true rfl) ?_
  intro p e s mm args below meth c C hnm
  show az_W l G 4 _ p e _ s mm args below meth c _ _ 0 0 0 [(0, .int (nI d))] []
  refine az_iconst C (v := 1) dJ6_stringSize_0f7a4_0 (by decide) ?_
  refine az_istore_n C (lv' := [(1, .int 1), (0, .int (nI d))]) (j := 1) rfl dJ6_stringSize_0f7a4_1 (by decide) rfl ?_
  refine az_iload_n C 1 dJ6_stringSize_0f7a4_2 rfl ?_
  refine az_if_lt C 11 dJ6_stringSize_0f7a4_3 (by decide) (fun q => absurd q (Int32.not_lt.mpr (nI_pos' (by omega)))) (fun _ => ?_)
  refine az_iconst C (v := 0) dJ6_stringSize_0f7a4_6 (by decide) ?_
  refine az_istore_n C (lv' := [(1, .int 0), (0, .int (nI d))]) (j := 1) rfl dJ6_stringSize_0f7a4_7 (by decide) rfl ?_
  refine az_iload_n C 1 dJ6_stringSize_0f7a4_8 rfl ?_
  refine az_ineg C dJ6_stringSize_0f7a4_9 ?_
  refine az_istore_n C (lv' := [(0, .int ((-nI d))), (1, .int 0)]) (j := 0) rfl dJ6_stringSize_0f7a4_10 (by decide) rfl ?_
  refine az_bipush C (v := (-10)) dJ6_stringSize_0f7a4_11 (by decide) ?_
  refine az_istore_n C (lv' := [(2, .int ((-10))), (0, .int ((-nI d))), (1, .int 0)]) (j := 2) rfl dJ6_stringSize_0f7a4_13 (by decide) rfl ?_
  refine az_iconst C (v := 1) dJ6_stringSize_0f7a4_14 (by decide) ?_
  refine az_istore_n C (lv' := [(3, .int 1), (2, .int ((-10))), (0, .int ((-nI d))), (1, .int 0)]) (j := 3) rfl dJ6_stringSize_0f7a4_15 (by decide) rfl ?_
  refine az_iload_n C 0 dJ6_stringSize_0f7a4_16 rfl ?_
  refine az_bipush C (v := 10) dJ6_stringSize_0f7a4_17 (by decide) ?_
  refine az_icmp_ge C 42 dJ6_stringSize_0f7a4_19 (by decide) (fun q => absurd q (by decide)) (fun _ => ?_)
  refine az_iload_n C 2 dJ6_stringSize_0f7a4_22 rfl ?_
  refine az_iload_n C 1 dJ6_stringSize_0f7a4_23 rfl ?_
  refine az_icmp_le C 31 dJ6_stringSize_0f7a4_24 (by decide) (fun q => absurd q (neg_10 d hd)) (fun _ => ?_)
  refine az_iload_n C 0 dJ6_stringSize_0f7a4_27 rfl ?_
  refine az_iload_n C 3 dJ6_stringSize_0f7a4_28 rfl ?_
  refine az_iadd C dJ6_stringSize_0f7a4_29 ?_
  exact az_iret C rfl dJ6_stringSize_0f7a4_30 (Nat.le_of_ble_eq_true rfl) (Nat.le_of_ble_eq_true rfl) ⟨(by decide), rfl, rfl⟩

set_option maxHeartbeats 4000000 in
set_option maxRecDepth 100000 in
theorem Xsize2 (hG : az_okS l G) (d : Nat) (hd : d < 100) (h10 : 10 ≤ d) : az_M l G yJ6_stringSize_0f7a4 (az_ws yJ6_stringSize_0f7a4 cJ6_stringSize_0f7a4 4 (Option.some FieldType.int)) 1 [.int (nI d)] (AD ρ) (KK G ρ x m ou) 0 0 (az_r (some (.int (nI 2))) (AD ρ) (KK G ρ x m ou)) := by
  refine az_start hG.1 (by decide +kernel) (Nat.le_of_ble_eq_true rfl) ?_
  intro p e s mm args below meth c C hnm
  show az_W l G 4 _ p e _ s mm args below meth c _ _ 0 0 0 [(0, .int (nI d))] []
  refine az_iconst C (v := 1) dJ6_stringSize_0f7a4_0 (by decide) ?_
  refine az_istore_n C (lv' := [(1, .int 1), (0, .int (nI d))]) (j := 1) rfl dJ6_stringSize_0f7a4_1 (by decide) rfl ?_
  refine az_iload_n C 1 dJ6_stringSize_0f7a4_2 rfl ?_
  refine az_if_lt C 11 dJ6_stringSize_0f7a4_3 (by decide) (fun q => absurd q (Int32.not_lt.mpr (nI_pos' (by omega)))) (fun _ => ?_)
  refine az_iconst C (v := 0) dJ6_stringSize_0f7a4_6 (by decide) ?_
  refine az_istore_n C (lv' := [(1, .int 0), (0, .int (nI d))]) (j := 1) rfl dJ6_stringSize_0f7a4_7 (by decide) rfl ?_
  refine az_iload_n C 1 dJ6_stringSize_0f7a4_8 rfl ?_
  refine az_ineg C dJ6_stringSize_0f7a4_9 ?_
  refine az_istore_n C (lv' := [(0, .int ((-nI d))), (1, .int 0)]) (j := 0) rfl dJ6_stringSize_0f7a4_10 (by decide) rfl ?_
  refine az_bipush C (v := (-10)) dJ6_stringSize_0f7a4_11 (by decide) ?_
  refine az_istore_n C (lv' := [(2, .int ((-10))), (0, .int ((-nI d))), (1, .int 0)]) (j := 2) rfl dJ6_stringSize_0f7a4_13 (by decide) rfl ?_
  refine az_iconst C (v := 1) dJ6_stringSize_0f7a4_14 (by decide) ?_
  refine az_istore_n C (lv' := [(3, .int 1), (2, .int ((-10))), (0, .int ((-nI d))), (1, .int 0)]) (j := 3) rfl dJ6_stringSize_0f7a4_15 (by decide) rfl ?_
  refine az_iload_n C 0 dJ6_stringSize_0f7a4_16 rfl ?_
  refine az_bipush C (v := 10) dJ6_stringSize_0f7a4_17 (by decide) ?_
  refine az_icmp_ge C 42 dJ6_stringSize_0f7a4_19 (by decide) (fun q => absurd q (by decide)) (fun _ => ?_)
  refine az_iload_n C 2 dJ6_stringSize_0f7a4_22 rfl ?_
  refine az_iload_n C 1 dJ6_stringSize_0f7a4_23 rfl ?_
  refine az_icmp_le C 31 dJ6_stringSize_0f7a4_24 (by decide) (fun _ => ?_) (fun q => absurd (neg_10' d hd h10) q)
  refine az_bipush C (v := 10) dJ6_stringSize_0f7a4_31 (by decide) ?_
  refine az_iload_n C 1 dJ6_stringSize_0f7a4_33 rfl ?_
  refine az_imul C dJ6_stringSize_0f7a4_34 ?_
  refine az_top ((-100)) (by decide) ?_
  refine az_istore_n C (lv' := [(2, .int ((-100))), (3, .int 1), (0, .int ((-nI d))), (1, .int 0)]) (j := 2) rfl dJ6_stringSize_0f7a4_35 (by decide) rfl ?_
  refine az_iinc C 1 (v := 2) (lv' := [(3, .int 2), (2, .int ((-100))), (0, .int ((-nI d))), (1, .int 0)]) dJ6_stringSize_0f7a4_36 rfl (by decide) (by decide) rfl ?_
  refine az_goto C 16 dJ6_stringSize_0f7a4_39 (by decide) ?_
  refine az_iload_n C 0 dJ6_stringSize_0f7a4_16 rfl ?_
  refine az_bipush C (v := 10) dJ6_stringSize_0f7a4_17 (by decide) ?_
  refine az_icmp_ge C 42 dJ6_stringSize_0f7a4_19 (by decide) (fun q => absurd q (by decide)) (fun _ => ?_)
  refine az_iload_n C 2 dJ6_stringSize_0f7a4_22 rfl ?_
  refine az_iload_n C 1 dJ6_stringSize_0f7a4_23 rfl ?_
  refine az_icmp_le C 31 dJ6_stringSize_0f7a4_24 (by decide) (fun q => absurd q (neg_100 d hd)) (fun _ => ?_)
  refine az_iload_n C 0 dJ6_stringSize_0f7a4_27 rfl ?_
  refine az_iload_n C 3 dJ6_stringSize_0f7a4_28 rfl ?_
  refine az_iadd C dJ6_stringSize_0f7a4_29 ?_
  exact az_iret C rfl dJ6_stringSize_0f7a4_30 (Nat.le_of_ble_eq_true rfl) (Nat.le_of_ble_eq_true rfl) ⟨(by decide), rfl, rfl⟩

set_option maxHeartbeats 4000000 in
set_option maxRecDepth 100000 in
theorem XgetC1 (hG : az_okS l G) (d n : Nat) (hd : d < 10) (hn : n < ρ.2.2.2.2.1) (hc : ρ.2.2.2.2.1 ≤ 34) : az_M l G yJ6_getChars_ba4f3 (az_ws yJ6_getChars_ba4f3 cJ6_getChars_ba4f3 7 (Option.some FieldType.int)) 1 [.int (nI d), .int (nI ((n + 1))), .ref (ρ.2.1 23)] (AD ρ) (KK G ρ x m ou) 0 0 (az_r (some (.int (nI n))) (AD ρ) (KK G ρ (xI x 23 n (nI (48 + d))) m ou)) := by
  refine az_start hG.1 (by decide +kernel) (Nat.le_of_ble_eq_true rfl) ?_
  intro p e s mm args below meth c C hnm
  show az_W l G 7 _ p e _ s mm args below meth c _ _ 0 0 0 [(0, .int (nI d)), (1, .int (nI ((n + 1)))), (2, .ref (ρ.2.1 23))] []
  obtain ⟨t1, hz1, hT1⟩ := (hG.2 _ _ C.hO).2.2.2.2.2.2.2.2.1
  obtain ⟨t2, hz2, hT2⟩ := (hG.2 _ _ C.hO).2.2.2.2.2.2.2.1
  refine az_iload_n C 1 dJ6_getChars_ba4f3_0 rfl ?_
  refine az_istore C (lv' := [(5, .int (nI ((n + 1)))), (0, .int (nI d)), (1, .int (nI ((n + 1)))), (2, .ref (ρ.2.1 23))]) dJ6_getChars_ba4f3_1 (by decide) rfl ?_
  refine az_iload_n C 1 dJ6_getChars_ba4f3_3 rfl ?_
  refine az_if_ge C 11 dJ6_getChars_ba4f3_4 (by decide) (fun _ => ?_) (fun q => absurd (nI_pos' (by omega)) q)
  refine az_iconst C (v := 0) dJ6_getChars_ba4f3_11 (by decide) ?_
  refine az_istore C (lv' := [(6, .int 0), (5, .int (nI ((n + 1)))), (0, .int (nI d)), (1, .int (nI ((n + 1)))), (2, .ref (ρ.2.1 23))]) dJ6_getChars_ba4f3_12 (by decide) rfl ?_
  refine az_iload C 0 dJ6_getChars_ba4f3_14 rfl ?_
  refine az_if_ne C 22 dJ6_getChars_ba4f3_16 (by decide) (fun q => absurd (by decide) q) (fun _ => ?_)
  refine az_iload_n C 2 dJ6_getChars_ba4f3_19 rfl ?_
  refine az_ineg C dJ6_getChars_ba4f3_20 ?_
  refine az_istore_n C (lv' := [(0, .int ((-nI d))), (6, .int 0), (5, .int (nI ((n + 1)))), (1, .int (nI ((n + 1)))), (2, .ref (ρ.2.1 23))]) (j := 0) rfl dJ6_getChars_ba4f3_21 (by decide) rfl ?_
  refine az_iload_n C 0 dJ6_getChars_ba4f3_22 rfl ?_
  refine az_bipush C (v := (-100)) dJ6_getChars_ba4f3_23 (by decide) ?_
  refine az_icmp_gt C 72 dJ6_getChars_ba4f3_25 (by decide) (fun _ => ?_) (fun q => absurd (neg_gt d (by omega)) q)
  refine az_aload_n C 4 dJ6_getChars_ba4f3_72 rfl ?_
  refine az_iinc C 2 (v := nI n) (lv' := [(5, .int (nI n)), (0, .int ((-nI d))), (6, .int 0), (1, .int (nI ((n + 1)))), (2, .ref (ρ.2.1 23))]) dJ6_getChars_ba4f3_73 rfl (nI_mm n) (by decide) rfl ?_
  refine az_iload C 0 dJ6_getChars_ba4f3_76 rfl ?_
  refine az_gets C hz1 wl_J6_83 dJ6_getChars_ba4f3_78 ?_
  refine az_iload_n C 1 dJ6_getChars_ba4f3_81 rfl ?_
  refine az_ineg C dJ6_getChars_ba4f3_82 ?_
  refine az_top (nI d) Int32.neg_neg ?_
  refine az_tbald C hT1 (j := d) (v := (nI (48 + d))) (by omega) (by decide) (by show nI (48 + d % 10) = _; rw [Nat.mod_eq_of_lt (by omega)]) dJ6_getChars_ba4f3_83 ?_
  refine az_bastN C 0 23 n dJ6_getChars_ba4f3_84 rfl rfl (by omega) (by omega) (az_to rfl (K' := (KK G ρ (xI x 23 n (vp_nar .byte ((nI (48 + d))))) m ou)) (KK_X rfl) ?_)
  refine az_iload_n C 1 dJ6_getChars_ba4f3_85 rfl ?_
  refine az_bipush C (v := (-9)) dJ6_getChars_ba4f3_86 (by decide) ?_
  refine az_icmp_ge C 104 dJ6_getChars_ba4f3_88 (by decide) (fun _ => ?_) (fun q => absurd (neg_9 d hd) q)
  refine az_iload C 2 dJ6_getChars_ba4f3_104 rfl ?_
  refine az_if_eq C 118 dJ6_getChars_ba4f3_106 (by decide) (fun _ => ?_) (fun q => absurd (by decide) q)
  refine az_iload C 0 dJ6_getChars_ba4f3_118 rfl ?_
  exact az_iret C rfl dJ6_getChars_ba4f3_120 (Nat.le_of_ble_eq_true rfl) (Nat.le_of_ble_eq_true rfl) ⟨rfl, rfl, by rw [nb_small (by omega)]⟩

set_option maxHeartbeats 4000000 in
set_option maxRecDepth 100000 in
theorem XgetC2 (hG : az_okS l G) (d n : Nat) (hd : d < 100) (h10 : 10 ≤ d) (hn : n + 1 < ρ.2.2.2.2.1) (hc : ρ.2.2.2.2.1 ≤ 34) : az_M l G yJ6_getChars_ba4f3 (az_ws yJ6_getChars_ba4f3 cJ6_getChars_ba4f3 7 (Option.some FieldType.int)) 1 [.int (nI d), .int (nI ((n + 2))), .ref (ρ.2.1 23)] (AD ρ) (KK G ρ x m ou) 0 0 (az_r (some (.int (nI n))) (AD ρ) (KK G ρ (xI (xI x 23 (n + 1) (nI (48 + d % 10))) 23 n (nI (48 + d / 10))) m ou)) := by
  refine az_start hG.1 (by decide +kernel) (Nat.le_of_ble_eq_true rfl) ?_
  intro p e s mm args below meth c C hnm
  show az_W l G 7 _ p e _ s mm args below meth c _ _ 0 0 0 [(0, .int (nI d)), (1, .int (nI ((n + 2)))), (2, .ref (ρ.2.1 23))] []
  obtain ⟨t1, hz1, hT1⟩ := (hG.2 _ _ C.hO).2.2.2.2.2.2.2.2.1
  obtain ⟨t2, hz2, hT2⟩ := (hG.2 _ _ C.hO).2.2.2.2.2.2.2.1
  refine az_iload_n C 1 dJ6_getChars_ba4f3_0 rfl ?_
  refine az_istore C (lv' := [(5, .int (nI ((n + 2)))), (0, .int (nI d)), (1, .int (nI ((n + 2)))), (2, .ref (ρ.2.1 23))]) dJ6_getChars_ba4f3_1 (by decide) rfl ?_
  refine az_iload_n C 1 dJ6_getChars_ba4f3_3 rfl ?_
  refine az_if_ge C 11 dJ6_getChars_ba4f3_4 (by decide) (fun _ => ?_) (fun q => absurd (nI_pos' (by omega)) q)
  refine az_iconst C (v := 0) dJ6_getChars_ba4f3_11 (by decide) ?_
  refine az_istore C (lv' := [(6, .int 0), (5, .int (nI ((n + 2)))), (0, .int (nI d)), (1, .int (nI ((n + 2)))), (2, .ref (ρ.2.1 23))]) dJ6_getChars_ba4f3_12 (by decide) rfl ?_
  refine az_iload C 0 dJ6_getChars_ba4f3_14 rfl ?_
  refine az_if_ne C 22 dJ6_getChars_ba4f3_16 (by decide) (fun q => absurd (by decide) q) (fun _ => ?_)
  refine az_iload_n C 2 dJ6_getChars_ba4f3_19 rfl ?_
  refine az_ineg C dJ6_getChars_ba4f3_20 ?_
  refine az_istore_n C (lv' := [(0, .int ((-nI d))), (6, .int 0), (5, .int (nI ((n + 2)))), (1, .int (nI ((n + 2)))), (2, .ref (ρ.2.1 23))]) (j := 0) rfl dJ6_getChars_ba4f3_21 (by decide) rfl ?_
  refine az_iload_n C 0 dJ6_getChars_ba4f3_22 rfl ?_
  refine az_bipush C (v := (-100)) dJ6_getChars_ba4f3_23 (by decide) ?_
  refine az_icmp_gt C 72 dJ6_getChars_ba4f3_25 (by decide) (fun _ => ?_) (fun q => absurd (neg_gt d (by omega)) q)
  refine az_aload_n C 4 dJ6_getChars_ba4f3_72 rfl ?_
  refine az_iinc C 2 (v := nI (n + 1)) (lv' := [(5, .int (nI (n + 1))), (0, .int ((-nI d))), (6, .int 0), (1, .int (nI ((n + 2)))), (2, .ref (ρ.2.1 23))]) dJ6_getChars_ba4f3_73 rfl (nI_mm (n + 1)) (by decide) rfl ?_
  refine az_iload C 0 dJ6_getChars_ba4f3_76 rfl ?_
  refine az_gets C hz1 wl_J6_83 dJ6_getChars_ba4f3_78 ?_
  refine az_iload_n C 1 dJ6_getChars_ba4f3_81 rfl ?_
  refine az_ineg C dJ6_getChars_ba4f3_82 ?_
  refine az_top (nI d) Int32.neg_neg ?_
  refine az_tbald C hT1 (j := d) (v := (nI (48 + d % 10))) (by omega) (by decide) rfl dJ6_getChars_ba4f3_83 ?_
  refine az_bastN C 0 23 ((n + 1)) dJ6_getChars_ba4f3_84 rfl rfl (by omega) (by omega) (az_to rfl (K' := (KK G ρ (xI x 23 ((n + 1)) (vp_nar .byte ((nI (48 + d % 10))))) m ou)) (KK_X rfl) ?_)
  refine az_iload_n C 1 dJ6_getChars_ba4f3_85 rfl ?_
  refine az_bipush C (v := (-9)) dJ6_getChars_ba4f3_86 (by decide) ?_
  refine az_icmp_ge C 104 dJ6_getChars_ba4f3_88 (by decide) (fun q => absurd q (neg_9' d hd h10)) (fun _ => ?_)
  refine az_aload_n C 4 dJ6_getChars_ba4f3_91 rfl ?_
  refine az_iinc C 0 (v := nI n) (lv' := [(5, .int (nI n)), (0, .int ((-nI d))), (6, .int 0), (1, .int (nI ((n + 2)))), (2, .ref (ρ.2.1 23))]) dJ6_getChars_ba4f3_92 rfl (nI_mm n) (by decide) rfl ?_
  refine az_iload C 0 dJ6_getChars_ba4f3_95 rfl ?_
  refine az_gets C hz2 wl_J6_87 dJ6_getChars_ba4f3_97 ?_
  refine az_iload_n C 1 dJ6_getChars_ba4f3_100 rfl ?_
  refine az_ineg C dJ6_getChars_ba4f3_101 ?_
  refine az_top (nI d) Int32.neg_neg ?_
  refine az_tbald C hT2 (j := d) (v := (nI (48 + d / 10))) (by omega) (by decide) rfl dJ6_getChars_ba4f3_102 ?_
  refine az_bastN C 0 23 n dJ6_getChars_ba4f3_103 rfl rfl (by omega) (by omega) (az_to rfl (K' := (KK G ρ (xI (xI x 23 ((n + 1)) (vp_nar .byte ((nI (48 + d % 10))))) 23 n (vp_nar .byte ((nI (48 + d / 10))))) m ou)) (KK_X rfl) ?_)
  refine az_iload C 2 dJ6_getChars_ba4f3_104 rfl ?_
  refine az_if_eq C 118 dJ6_getChars_ba4f3_106 (by decide) (fun _ => ?_) (fun q => absurd (by decide) q)
  refine az_iload C 0 dJ6_getChars_ba4f3_118 rfl ?_
  exact az_iret C rfl dJ6_getChars_ba4f3_120 (Nat.le_of_ble_eq_true rfl) (Nat.le_of_ble_eq_true rfl) ⟨rfl, rfl, by rw [nb_small (show 48 + d % 10 < 128 by omega), nb_small (show 48 + d / 10 < 128 by omega)]⟩

/-- letters put behind the n that stand there -/
def txA (x : Xs) (n : Nat) (cs : List Nat) : Xs := (fun p k => if p = 14 then (if k = 3 then nI (n + cs.length) else x.1 14 k) else if p = 23 then (if n ≤ k ∧ k < n + cs.length then nI (cs.getD (k - n) 0) else x.1 23 k) else x.1 p k, x.2)
theorem txA_p {n p k : Nat} {cs : List Nat} (h : p ≠ 14) (h2 : p ≠ 23) : (txA x n cs).1 p k = x.1 p k := by show (if p = 14 then _ else if p = 23 then _ else _) = _; rw [if_neg h, if_neg h2]
theorem txA_14 {n k : Nat} {cs : List Nat} (h : k ≠ 3) : (txA x n cs).1 14 k = x.1 14 k := by simp [txA, h]
theorem txA_3 {n : Nat} {cs : List Nat} : (txA x n cs).1 14 3 = nI (n + cs.length) := rfl
theorem txA_23 {n k : Nat} {cs : List Nat} : (txA x n cs).1 23 k = if n ≤ k ∧ k < n + cs.length then nI (cs.getD (k - n) 0) else x.1 23 k := rfl
theorem Xs_ext {x y : Xs} (h : ∀ p k, x.1 p k = y.1 p k) (h2 : x.2 = y.2) : x = y := Prod.ext (funext fun p => funext fun k => h p k) h2
theorem txA_txA {n : Nat} {as bs : List Nat} : txA (txA x n as) (n + as.length) bs = txA x n (as ++ bs) := by
  refine Xs_ext (fun p k => ?_) rfl
  by_cases h14 : p = 14
  · subst h14
    by_cases h3 : k = 3
    · subst h3
      rw [txA_3, txA_3, List.length_append, Nat.add_assoc]
    · rw [txA_14 h3, txA_14 h3, txA_14 h3]
  · by_cases h23 : p = 23
    · subst h23
      rw [txA_23, txA_23, txA_23, List.length_append]
      by_cases h1 : n + as.length ≤ k ∧ k < n + as.length + bs.length
      · rw [if_pos h1, if_pos (by omega), List.getD_eq_getElem?_getD, List.getD_eq_getElem?_getD, List.getElem?_append_right (by omega), show k - (n + as.length) = k - n - as.length from by omega]
      · rw [if_neg h1]
        by_cases h2 : n ≤ k ∧ k < n + as.length
        · rw [if_pos h2, if_pos (by omega), List.getD_eq_getElem?_getD, List.getD_eq_getElem?_getD, List.getElem?_append_left (by omega)]
        · rw [if_neg h2, if_neg (by omega)]
    · rw [txA_p h14 h23, txA_p h14 h23, txA_p h14 h23]
theorem tx_c {n c : Nat} : xI (xI x 14 3 (nI (n + 1))) 23 n (nI c) = txA x n [c] := by
  refine Xs_ext (fun p k => ?_) rfl
  by_cases h14 : p = 14
  · subst h14
    show up2 (up2 x.1 14 3 (nI (n + 1))) 23 n (nI c) 14 k = (txA x n [c]).1 14 k
    rw [up2_p (by decide)]
    by_cases h3 : k = 3
    · subst h3; rw [up2_s]; rfl
    · rw [up2_k h3, txA_14 h3]
  · by_cases h23 : p = 23
    · subst h23
      show up2 (up2 x.1 14 3 (nI (n + 1))) 23 n (nI c) 23 k = (txA x n [c]).1 23 k
      rw [txA_23]
      by_cases h : k = n
      · subst h; rw [up2_s, if_pos (by simp), Nat.sub_self]; rfl
      · rw [up2_k h, up2_p (by decide), if_neg (by simp; omega)]
    · show up2 (up2 x.1 14 3 (nI (n + 1))) 23 n (nI c) p k = (txA x n [c]).1 p k
      rw [up2_p h23, up2_p h14, txA_p h14 h23]
theorem tx_i1 {n c : Nat} : xI (xI x 23 n (nI c)) 14 3 (nI (n + 1)) = txA x n [c] := by
  rw [← tx_c]
  refine Xs_ext (fun p k => ?_) rfl
  show up2 (up2 x.1 23 n (nI c)) 14 3 (nI (n + 1)) p k = up2 (up2 x.1 14 3 (nI (n + 1))) 23 n (nI c) p k
  by_cases h14 : p = 14
  · subst h14
    rw [up2_p (p := 23) (by decide)]
    by_cases h3 : k = 3
    · subst h3; rw [up2_s, up2_s]
    · rw [up2_k h3, up2_k h3, up2_p (by decide)]
  · rw [up2_p h14]
    by_cases h23 : p = 23
    · subst h23
      by_cases h : k = n
      · subst h; rw [up2_s, up2_s]
      · rw [up2_k h, up2_k h, up2_p (by decide)]
    · rw [up2_p h23, up2_p h23, up2_p h14]
theorem tx_2l {n b c : Nat} {f : Nat → Int32} (h : ∀ k, f k = if k = n then nI b else if k = n + 1 then nI c else x.1 23 k) : xI (xR x 23 f) 14 3 (nI (n + 2)) = txA x n [b, c] := by
  refine Xs_ext (fun p k => ?_) rfl
  show up2 (up1 x.1 23 f) 14 3 (nI (n + 2)) p k = (txA x n [b, c]).1 p k
  by_cases h14 : p = 14
  · subst h14
    by_cases h3 : k = 3
    · subst h3; rw [up2_s]; rfl
    · rw [up2_k h3, up1_n (by decide), txA_14 h3]
  · rw [up2_p h14]
    by_cases h23 : p = 23
    · subst h23
      rw [up1_s, h, txA_23]
      by_cases h1 : k = n
      · subst h1; rw [if_pos rfl, if_pos (by simp), Nat.sub_self]; rfl
      · rw [if_neg h1]
        by_cases h2 : k = n + 1
        · subst h2; rw [if_pos rfl, if_pos (by simp), Nat.add_sub_cancel_left]; rfl
        · rw [if_neg h2, if_neg (by simp; omega)]
    · rw [up1_n h23, txA_p h14 h23]
theorem tx_i2 {n b c : Nat} : xI (xI (xI x 23 (n + 1) (nI c)) 23 n (nI b)) 14 3 (nI (n + 2)) = txA x n [b, c] := by
  rw [← tx_2l (f := fun k => if k = n then nI b else if k = n + 1 then nI c else x.1 23 k) (fun _ => rfl)]
  refine Xs_ext (fun p k => ?_) rfl
  show up2 (up2 (up2 x.1 23 (n + 1) (nI c)) 23 n (nI b)) 14 3 (nI (n + 2)) p k = up2 (up1 x.1 23 (fun k => if k = n then nI b else if k = n + 1 then nI c else x.1 23 k)) 14 3 (nI (n + 2)) p k
  by_cases h14 : p = 14
  · subst h14
    by_cases h3 : k = 3
    · subst h3; rw [up2_s, up2_s]
    · rw [up2_k h3, up2_k h3, up2_p (by decide), up2_p (by decide), up1_n (by decide)]
  · rw [up2_p h14, up2_p h14]
    by_cases h23 : p = 23
    · subst h23
      rw [up1_s]
      by_cases h1 : k = n
      · subst h1; rw [up2_s, if_pos rfl]
      · rw [up2_k h1, if_neg h1]
        by_cases h2 : k = n + 1
        · subst h2; rw [up2_s, if_pos rfl]
        · rw [up2_k h2, if_neg h2]
    · rw [up2_p h23, up2_p h23, up1_n h23]
/-- each letter fits a byte -/
def TxB (x : Xs) : Prop := ∀ j, fits .byte (.int (x.1 23 j)) = true
theorem fit_small : ∀ c, c < 128 → fits .byte (.int (nI c)) = true := by decide +kernel
theorem TxB_A {n : Nat} {cs : List Nat} (h : TxB x) (hc : ∀ c ∈ cs, c < 128) : TxB (txA x n cs) := fun j => by
  rw [txA_23]
  split
  · rename_i h1
    refine fit_small _ ?_
    rw [List.getD_eq_getElem?_getD, List.getElem?_eq_getElem (by omega)]
    exact hc _ (List.getElem_mem _)
  · exact h j
theorem TxOK_A {n : Nat} {cs : List Nat} {a : Nat → Nat} (h : TxOK ρ x n) (hl : n + cs.length ≤ 34) : TxOK (tR ρ a (tcT ρ.2.2.2.2.1 (n + cs.length))) (txA x n cs) (n + cs.length) := by
  have h4 := h.2.2.2.1
  have g1 : ρ.2.2.2.2.1 ≤ tcT ρ.2.2.2.2.1 (n + cs.length) := tcT_ge h4
  have g2 : n + cs.length ≤ tcT ρ.2.2.2.2.1 (n + cs.length) := tcT_n hl
  refine ⟨(txA_14 (by decide)).trans h.1, txA_3, g2, tcT_o h4, fun j hj => ?_⟩
  have hj' : tcT ρ.2.2.2.2.1 (n + cs.length) ≤ j := hj
  rw [txA_23, if_neg (by omega)]
  exact h.2.2.2.2 j (by omega)
set_option maxHeartbeats 4000000 in
set_option maxRecDepth 100000 in
theorem XcanE (hG : az_okS l G) (cv : Nat) (hc : cv < 128) : az_M l G yJ1_canEncode_fc78d (az_ws yJ1_canEncode_fc78d cJ1_canEncode_fc78d 1 (Option.some FieldType.boolean)) 1 [.int (nI cv)] (AD ρ) (KK G ρ x m ou) 0 0 (az_r (some (.int 1)) (AD ρ) (KK G ρ x m ou)) := by
  refine az_start hG.1 (by decide +kernel) (Nat.le_of_ble_eq_true rfl) ?_
  intro p e s mm args below meth c C hnm
  show az_W l G 1 _ p e _ s mm args below meth c _ _ 0 0 0 [(0, .int (nI cv))] []
  refine az_iload_n C 0 dJ1_canEncode_fc78d_0 rfl ?_
  refine az_sipush C (v := 255) dJ1_canEncode_fc78d_1 (by decide) ?_
  refine az_icmp_gt C 11 dJ1_canEncode_fc78d_4 (by decide) (fun q => absurd q (show ¬ nI 255 < nI cv from Int32.not_lt.mpr (nI_leT (by omega) (by decide)))) (fun _ => ?_)
  refine az_iconst C (v := 1) dJ1_canEncode_fc78d_7 (by decide) ?_
  refine az_goto C 12 dJ1_canEncode_fc78d_8 (by decide) ?_
  exact az_zret C .boolean rfl rfl dJ1_canEncode_fc78d_12 (Nat.le_of_ble_eq_true rfl) (Nat.le_of_ble_eq_true rfl) ⟨rfl, rfl, rfl⟩

set_option maxHeartbeats 4000000 in
set_option maxRecDepth 100000 in
theorem XapC (hG : az_okS l G) {A : Nat × Nat × Nat × Nat} (hT : az_okT G A) (n : Nat) (h : TxOK ρ x n) (hb : TxB x) (cv : Nat) (hc : cv < 128) (hl : n + 1 ≤ 34) : az_M l G yJ5_append_3fe6f (az_ws yJ5_append_3fe6f cJ5_append_3fe6f 2 (Option.some (FieldType.object "java/lang/AbstractStringBuilder"))) 5 [.ref (ρ.1 14), .int (nI cv)] (AD ρ) (KK G ρ x m ou) ((tcT ρ.2.2.2.2.1 (n + 1)) - ρ.2.2.2.2.1) (2 * ((tcT ρ.2.2.2.2.1 (n + 1)) - ρ.2.2.2.2.1)) (az_tx G (some (.ref (ρ.1 14))) ρ (tcT ρ.2.2.2.2.1 (n + 1)) (txA x n [cv]) m ou) := by
  refine az_start hG.1 (by decide +kernel) (Nat.le_of_ble_eq_true rfl) ?_
  intro p e s mm args below meth c C hnm
  show az_W l G 2 _ p e _ s mm args below meth c _ _ 0 0 0 [(0, .ref (ρ.1 14)), (1, .int (nI cv))] []
  have h4 := h.2.2.2.1
  have hlt : n + 1 ≤ (tcT ρ.2.2.2.2.1 (n + 1)) := tcT_n hl
  have ho : (tcT ρ.2.2.2.2.1 (n + 1)) = 16 ∨ (tcT ρ.2.2.2.2.1 (n + 1)) = 34 := tcT_o h4
  refine az_aload_n C 0 dJ5_append_3fe6f_0 rfl ?_
  refine az_aload_n C 0 dJ5_append_3fe6f_1 rfl ?_
  refine az_get C cJ4 0 14 3 (v := .int (x.1 14 3)) wl_J5_79 dJ5_append_3fe6f_2 rfl rfl rfl (by decide) ?_
  refine az_iconst C (v := 1) dJ5_append_3fe6f_5 (by decide) ?_
  refine az_iadd C dJ5_append_3fe6f_6 ?_
  refine az_top (nI (n + 1)) (by rw [h.2.1]; exact nI_1 n) ?_
  refine az_callVP C Y_J5_ensureCapacityInternal_d00df cJ4 0 14 [.int (nI (n + 1))] [] wm_J5_100 wi_J5_ensureCapacityInternal_d00df (az_sl C hT 0 rfl rfl) dJ5_append_3fe6f_7 rfl rfl rfl (Xens hG hT n (n + 1) h (by omega) hb) rfl (Nat.le_of_ble_eq_true rfl) (Nat.le_of_ble_eq_true rfl) (Nat.le_of_ble_eq_true rfl) (by show _ ≤ (tcT ρ.2.2.2.2.1 (n + 1)) - ρ.2.2.2.2.1; omega) (by show _ ≤ 2 * ((tcT ρ.2.2.2.2.1 (n + 1)) - ρ.2.2.2.2.1); omega) ?_ (by rintro E ad9 K9 ⟨q9, -, h9, -⟩; cases h9)
  rintro v9 ad9 K9 ⟨aN, haN, h9, rfl, rfl⟩
  cases h9
  refine az_aload_n C 0 dJ5_append_3fe6f_10 rfl ?_
  refine az_callV C Y_J5_isLatin1_aae02 cJ4 0 14 [] [] wm_J5_83 wi_J5_isLatin1_aae02 wseJ4_J5_isLatin1_aae02 dJ5_append_3fe6f_11 rfl rfl rfl (XisLat (ρ := (tR ρ aN (tcT ρ.2.2.2.2.1 (n + 1)))) (x := x) hG h.1) rfl (Nat.le_of_ble_eq_true rfl) (Nat.le_of_ble_eq_true rfl) (Nat.le_of_ble_eq_true rfl) (by show _ ≤ (tcT ρ.2.2.2.2.1 (n + 1)) - ρ.2.2.2.2.1; omega) (by show _ ≤ 2 * ((tcT ρ.2.2.2.2.1 (n + 1)) - ρ.2.2.2.2.1); omega) (az_k1 rfl rfl ?_) (az_k0 rfl)
  refine az_if_eq C 45 dJ5_append_3fe6f_14 (by decide) (fun q => absurd q (by decide)) (fun _ => ?_)
  refine az_iload_n C 1 dJ5_append_3fe6f_17 rfl ?_
  refine az_callS C Y_J1_canEncode_fc78d [.int (nI cv)] [] wm_J5_191 wst_J1_canEncode_fc78d dJ5_append_3fe6f_18 rfl (XcanE (ρ := (tR ρ aN (tcT ρ.2.2.2.2.1 (n + 1)))) hG cv hc) rfl (Nat.le_of_ble_eq_true rfl) (Nat.le_of_ble_eq_true rfl) (Nat.le_of_ble_eq_true rfl) (by show _ ≤ (tcT ρ.2.2.2.2.1 (n + 1)) - ρ.2.2.2.2.1; omega) (by show _ ≤ 2 * ((tcT ρ.2.2.2.2.1 (n + 1)) - ρ.2.2.2.2.1); omega) (az_k1 rfl rfl ?_) (az_k0 rfl)
  refine az_if_eq C 45 dJ5_append_3fe6f_21 (by decide) (fun q => absurd q (by decide)) (fun _ => ?_)
  refine az_aload_n C 0 dJ5_append_3fe6f_24 rfl ?_
  refine az_get C cJ4 0 14 0 (v := .ref ((tR ρ aN (tcT ρ.2.2.2.2.1 (n + 1))).2.1 23)) wl_J5_15 dJ5_append_3fe6f_25 rfl rfl rfl (by decide) ?_
  refine az_aload_n C 0 dJ5_append_3fe6f_28 rfl ?_
  refine az_dup C dJ5_append_3fe6f_29 rfl ?_
  refine az_get C cJ4 0 14 3 (v := .int (x.1 14 3)) wl_J5_79 dJ5_append_3fe6f_30 rfl rfl rfl (by decide) ?_
  refine az_top (nI n) h.2.1 ?_
  refine az_dup_x1 C dJ5_append_3fe6f_33 rfl rfl ?_
  refine az_iconst C (v := 1) dJ5_append_3fe6f_34 (by decide) ?_
  refine az_iadd C dJ5_append_3fe6f_35 ?_
  refine az_top (nI (n + 1)) (nI_1 n) ?_
  refine az_put C cJ4 0 14 3 wl_J5_79 dJ5_append_3fe6f_36 rfl rfl (by decide) (Nat.le_of_ble_eq_true rfl) rfl rfl rfl (az_to rfl (K' := (KK G (tR ρ aN (tcT ρ.2.2.2.2.1 (n + 1))) (xI x 14 3 (nI (n + 1))) m ou)) (KK_X rfl) ?_)
  refine az_iload_n C 1 dJ5_append_3fe6f_39 rfl ?_
  refine az_i2b C dJ5_append_3fe6f_40 ?_
  refine az_top (nI cv) (b_small cv hc) ?_
  refine az_bastN C 0 23 n dJ5_append_3fe6f_41 rfl rfl (show n < (tcT ρ.2.2.2.2.1 (n + 1)) from hlt) (by show (tcT ρ.2.2.2.2.1 (n + 1)) < 2 ^ 31; omega) (az_to rfl (K' := (KK G (tR ρ aN (tcT ρ.2.2.2.2.1 (n + 1))) (xI (xI x 14 3 (nI (n + 1))) 23 n (vp_nar .byte (nI cv))) m ou)) (KK_X rfl) ?_)
  refine az_goto C 75 dJ5_append_3fe6f_42 (by decide) ?_
  refine az_aload_n C 0 dJ5_append_3fe6f_75 rfl ?_
  exact az_aret C (.object "java/lang/AbstractStringBuilder") rfl (Or.inl ⟨_, rfl⟩) (Or.inr ⟨_, rfl⟩) dJ5_append_3fe6f_76 (by show _ ≤ (tcT ρ.2.2.2.2.1 (n + 1)) - ρ.2.2.2.2.1; omega) (by show _ ≤ 2 * ((tcT ρ.2.2.2.2.1 (n + 1)) - ρ.2.2.2.2.1); omega) ⟨aN, haN, rfl, rfl, by rw [nb_small hc, tx_c]⟩

set_option maxHeartbeats 4000000 in
set_option maxRecDepth 100000 in
theorem XapI1 (hG : az_okS l G) {A : Nat × Nat × Nat × Nat} (hT : az_okT G A) (n : Nat) (h : TxOK ρ x n) (hb : TxB x) (d : Nat) (hd : d < 10) (hl : n + 1 ≤ 34) : az_M l G yJ5_append_c97b9 (az_ws yJ5_append_c97b9 cJ5_append_c97b9 4 (Option.some (FieldType.object "java/lang/AbstractStringBuilder"))) 5 [.ref (ρ.1 14), .int (nI d)] (AD ρ) (KK G ρ x m ou) ((tcT ρ.2.2.2.2.1 (n + 1)) - ρ.2.2.2.2.1) (2 * ((tcT ρ.2.2.2.2.1 (n + 1)) - ρ.2.2.2.2.1)) (az_tx G (some (.ref (ρ.1 14))) ρ (tcT ρ.2.2.2.2.1 (n + 1)) (txA x n [48 + d]) m ou) := by
  refine az_start hG.1 (by decide +kernel) (Nat.le_of_ble_eq_true rfl) ?_
  intro p e s mm args below meth c C hnm
  show az_W l G 4 _ p e _ s mm args below meth c _ _ 0 0 0 [(0, .ref (ρ.1 14)), (1, .int (nI d))] []
  have h4 := h.2.2.2.1
  have hlt : n + 1 ≤ (tcT ρ.2.2.2.2.1 (n + 1)) := tcT_n hl
  have ho : (tcT ρ.2.2.2.2.1 (n + 1)) = 16 ∨ (tcT ρ.2.2.2.2.1 (n + 1)) = 34 := tcT_o h4
  refine az_aload_n C 0 dJ5_append_c97b9_0 rfl ?_
  refine az_get C cJ4 0 14 3 (v := .int (x.1 14 3)) wl_J5_79 dJ5_append_c97b9_1 rfl rfl rfl (by decide) ?_
  refine az_top (nI n) h.2.1 ?_
  refine az_istore_n C (lv' := [(2, .int (nI n)), (0, .ref (ρ.1 14)), (1, .int (nI d))]) (j := 2) rfl dJ5_append_c97b9_4 (by decide) rfl ?_
  refine az_iload_n C 0 dJ5_append_c97b9_5 rfl ?_
  refine az_iload_n C 2 dJ5_append_c97b9_6 rfl ?_
  refine az_callS C Y_J6_stringSize_0f7a4 [.int (nI d)] [.int (nI n)] wm_J5_245 wst_J6_stringSize_0f7a4 dJ5_append_c97b9_7 rfl (Xsize1 hG d hd) rfl (Nat.le_of_ble_eq_true rfl) (Nat.le_of_ble_eq_true rfl) (Nat.le_of_ble_eq_true rfl) (by show _ ≤ (tcT ρ.2.2.2.2.1 (n + 1)) - ρ.2.2.2.2.1; omega) (by show _ ≤ 2 * ((tcT ρ.2.2.2.2.1 (n + 1)) - ρ.2.2.2.2.1); omega) (az_k1 rfl rfl ?_) (az_k0 rfl)
  refine az_iadd C dJ5_append_c97b9_10 ?_
  refine az_top (nI (n + 1)) (nI_add n 1) ?_
  refine az_istore_n C (lv' := [(3, .int (nI (n + 1))), (2, .int (nI n)), (0, .ref (ρ.1 14)), (1, .int (nI d))]) (j := 3) rfl dJ5_append_c97b9_11 (by decide) rfl ?_
  refine az_aload_n C 2 dJ5_append_c97b9_12 rfl ?_
  refine az_iload_n C 0 dJ5_append_c97b9_13 rfl ?_
  refine az_callVP C Y_J5_ensureCapacityInternal_d00df cJ4 0 14 [.int (nI (n + 1))] [] wm_J5_100 wi_J5_ensureCapacityInternal_d00df (az_sl C hT 0 rfl rfl) dJ5_append_c97b9_14 rfl rfl rfl (Xens hG hT n (n + 1) h (by omega) hb) rfl (Nat.le_of_ble_eq_true rfl) (Nat.le_of_ble_eq_true rfl) (Nat.le_of_ble_eq_true rfl) (by show _ ≤ (tcT ρ.2.2.2.2.1 (n + 1)) - ρ.2.2.2.2.1; omega) (by show _ ≤ 2 * ((tcT ρ.2.2.2.2.1 (n + 1)) - ρ.2.2.2.2.1); omega) ?_ (by rintro E ad9 K9 ⟨q9, -, h9, -⟩; cases h9)
  rintro v9 ad9 K9 ⟨aN, haN, h9, rfl, rfl⟩
  cases h9
  refine az_aload_n C 2 dJ5_append_c97b9_17 rfl ?_
  refine az_callV C Y_J5_isLatin1_aae02 cJ4 0 14 [] [] wm_J5_83 wi_J5_isLatin1_aae02 wseJ4_J5_isLatin1_aae02 dJ5_append_c97b9_18 rfl rfl rfl (XisLat (ρ := (tR ρ aN (tcT ρ.2.2.2.2.1 (n + 1)))) (x := x) hG h.1) rfl (Nat.le_of_ble_eq_true rfl) (Nat.le_of_ble_eq_true rfl) (Nat.le_of_ble_eq_true rfl) (by show _ ≤ (tcT ρ.2.2.2.2.1 (n + 1)) - ρ.2.2.2.2.1; omega) (by show _ ≤ 2 * ((tcT ρ.2.2.2.2.1 (n + 1)) - ρ.2.2.2.2.1); omega) (az_k1 rfl rfl ?_) (az_k0 rfl)
  refine az_if_eq C 37 dJ5_append_c97b9_21 (by decide) (fun q => absurd q (by decide)) (fun _ => ?_)
  refine az_iload_n C 3 dJ5_append_c97b9_24 rfl ?_
  refine az_iload_n C 0 dJ5_append_c97b9_25 rfl ?_
  refine az_aload_n C 2 dJ5_append_c97b9_26 rfl ?_
  refine az_get C cJ4 0 14 0 (v := .ref ((tR ρ aN (tcT ρ.2.2.2.2.1 (n + 1))).2.1 23)) wl_J5_15 dJ5_append_c97b9_27 rfl rfl rfl (by decide) ?_
  refine az_callS C Y_J6_getChars_ba4f3 [.int (nI d), .int (nI (n + 1)), .ref ((tR ρ aN (tcT ρ.2.2.2.2.1 (n + 1))).2.1 23)] [] wm_J5_248 wst_J6_getChars_ba4f3 dJ5_append_c97b9_30 rfl (XgetC1 (ρ := (tR ρ aN (tcT ρ.2.2.2.2.1 (n + 1)))) hG d n hd (by show n < (tcT ρ.2.2.2.2.1 (n + 1)); omega) (by show (tcT ρ.2.2.2.2.1 (n + 1)) ≤ 34; omega)) rfl (Nat.le_of_ble_eq_true rfl) (Nat.le_of_ble_eq_true rfl) (Nat.le_of_ble_eq_true rfl) (by show _ ≤ (tcT ρ.2.2.2.2.1 (n + 1)) - ρ.2.2.2.2.1; omega) (by show _ ≤ 2 * ((tcT ρ.2.2.2.2.1 (n + 1)) - ρ.2.2.2.2.1); omega) (az_k1 rfl rfl ?_) (az_k0 rfl)
  refine az_pop C dJ5_append_c97b9_33 rfl ?_
  refine az_goto C 48 dJ5_append_c97b9_34 (by decide) ?_
  refine az_aload_n C 2 dJ5_append_c97b9_48 rfl ?_
  refine az_iload_n C 0 dJ5_append_c97b9_49 rfl ?_
  refine az_put C cJ4 0 14 3 wl_J5_79 dJ5_append_c97b9_50 rfl rfl (by decide) (Nat.le_of_ble_eq_true rfl) rfl rfl rfl (az_to rfl (K' := (KK G (tR ρ aN (tcT ρ.2.2.2.2.1 (n + 1))) (xI (xI x 23 n (nI (48 + d))) 14 3 (nI (n + 1))) m ou)) (KK_X rfl) ?_)
  refine az_aload_n C 2 dJ5_append_c97b9_53 rfl ?_
  exact az_aret C (.object "java/lang/AbstractStringBuilder") rfl (Or.inl ⟨_, rfl⟩) (Or.inr ⟨_, rfl⟩) dJ5_append_c97b9_54 (by show _ ≤ (tcT ρ.2.2.2.2.1 (n + 1)) - ρ.2.2.2.2.1; omega) (by show _ ≤ 2 * ((tcT ρ.2.2.2.2.1 (n + 1)) - ρ.2.2.2.2.1); omega) ⟨aN, haN, rfl, rfl, by rw [tx_i1]⟩

set_option maxHeartbeats 4000000 in
set_option maxRecDepth 100000 in
theorem XapI2 (hG : az_okS l G) {A : Nat × Nat × Nat × Nat} (hT : az_okT G A) (n : Nat) (h : TxOK ρ x n) (hb : TxB x) (d : Nat) (hd : d < 100) (h10 : 10 ≤ d) (hl : n + 2 ≤ 34) : az_M l G yJ5_append_c97b9 (az_ws yJ5_append_c97b9 cJ5_append_c97b9 4 (Option.some (FieldType.object "java/lang/AbstractStringBuilder"))) 5 [.ref (ρ.1 14), .int (nI d)] (AD ρ) (KK G ρ x m ou) ((tcT ρ.2.2.2.2.1 (n + 2)) - ρ.2.2.2.2.1) (2 * ((tcT ρ.2.2.2.2.1 (n + 2)) - ρ.2.2.2.2.1)) (az_tx G (some (.ref (ρ.1 14))) ρ (tcT ρ.2.2.2.2.1 (n + 2)) (txA x n [48 + d / 10, 48 + d % 10]) m ou) := by
  refine az_start hG.1 (by decide +kernel) (Nat.le_of_ble_eq_true rfl) ?_
  intro p e s mm args below meth c C hnm
  show az_W l G 4 _ p e _ s mm args below meth c _ _ 0 0 0 [(0, .ref (ρ.1 14)), (1, .int (nI d))] []
  have h4 := h.2.2.2.1
  have hlt : n + 2 ≤ (tcT ρ.2.2.2.2.1 (n + 2)) := tcT_n hl
  have ho : (tcT ρ.2.2.2.2.1 (n + 2)) = 16 ∨ (tcT ρ.2.2.2.2.1 (n + 2)) = 34 := tcT_o h4
  refine az_aload_n C 0 dJ5_append_c97b9_0 rfl ?_
  refine az_get C cJ4 0 14 3 (v := .int (x.1 14 3)) wl_J5_79 dJ5_append_c97b9_1 rfl rfl rfl (by decide) ?_
  refine az_top (nI n) h.2.1 ?_
  refine az_istore_n C (lv' := [(2, .int (nI n)), (0, .ref (ρ.1 14)), (1, .int (nI d))]) (j := 2) rfl dJ5_append_c97b9_4 (by decide) rfl ?_
  refine az_iload_n C 0 dJ5_append_c97b9_5 rfl ?_
  refine az_iload_n C 2 dJ5_append_c97b9_6 rfl ?_
  refine az_callS C Y_J6_stringSize_0f7a4 [.int (nI d)] [.int (nI n)] wm_J5_245 wst_J6_stringSize_0f7a4 dJ5_append_c97b9_7 rfl (Xsize2 hG d hd h10) rfl (Nat.le_of_ble_eq_true rfl) (Nat.le_of_ble_eq_true rfl) (Nat.le_of_ble_eq_true rfl) (by show _ ≤ (tcT ρ.2.2.2.2.1 (n + 2)) - ρ.2.2.2.2.1; omega) (by show _ ≤ 2 * ((tcT ρ.2.2.2.2.1 (n + 2)) - ρ.2.2.2.2.1); omega) (az_k1 rfl rfl ?_) (az_k0 rfl)
  refine az_iadd C dJ5_append_c97b9_10 ?_
  refine az_top (nI (n + 2)) (nI_add n 2) ?_
  refine az_istore_n C (lv' := [(3, .int (nI (n + 2))), (2, .int (nI n)), (0, .ref (ρ.1 14)), (1, .int (nI d))]) (j := 3) rfl dJ5_append_c97b9_11 (by decide) rfl ?_
  refine az_aload_n C 2 dJ5_append_c97b9_12 rfl ?_
  refine az_iload_n C 0 dJ5_append_c97b9_13 rfl ?_
  refine az_callVP C Y_J5_ensureCapacityInternal_d00df cJ4 0 14 [.int (nI (n + 2))] [] wm_J5_100 wi_J5_ensureCapacityInternal_d00df (az_sl C hT 0 rfl rfl) dJ5_append_c97b9_14 rfl rfl rfl (Xens hG hT n (n + 2) h (by omega) hb) rfl (Nat.le_of_ble_eq_true rfl) (Nat.le_of_ble_eq_true rfl) (Nat.le_of_ble_eq_true rfl) (by show _ ≤ (tcT ρ.2.2.2.2.1 (n + 2)) - ρ.2.2.2.2.1; omega) (by show _ ≤ 2 * ((tcT ρ.2.2.2.2.1 (n + 2)) - ρ.2.2.2.2.1); omega) ?_ (by rintro E ad9 K9 ⟨q9, -, h9, -⟩; cases h9)
  rintro v9 ad9 K9 ⟨aN, haN, h9, rfl, rfl⟩
  cases h9
  refine az_aload_n C 2 dJ5_append_c97b9_17 rfl ?_
  refine az_callV C Y_J5_isLatin1_aae02 cJ4 0 14 [] [] wm_J5_83 wi_J5_isLatin1_aae02 wseJ4_J5_isLatin1_aae02 dJ5_append_c97b9_18 rfl rfl rfl (XisLat (ρ := (tR ρ aN (tcT ρ.2.2.2.2.1 (n + 2)))) (x := x) hG h.1) rfl (Nat.le_of_ble_eq_true rfl) (Nat.le_of_ble_eq_true rfl) (Nat.le_of_ble_eq_true rfl) (by show _ ≤ (tcT ρ.2.2.2.2.1 (n + 2)) - ρ.2.2.2.2.1; omega) (by show _ ≤ 2 * ((tcT ρ.2.2.2.2.1 (n + 2)) - ρ.2.2.2.2.1); omega) (az_k1 rfl rfl ?_) (az_k0 rfl)
  refine az_if_eq C 37 dJ5_append_c97b9_21 (by decide) (fun q => absurd q (by decide)) (fun _ => ?_)
  refine az_iload_n C 3 dJ5_append_c97b9_24 rfl ?_
  refine az_iload_n C 0 dJ5_append_c97b9_25 rfl ?_
  refine az_aload_n C 2 dJ5_append_c97b9_26 rfl ?_
  refine az_get C cJ4 0 14 0 (v := .ref ((tR ρ aN (tcT ρ.2.2.2.2.1 (n + 2))).2.1 23)) wl_J5_15 dJ5_append_c97b9_27 rfl rfl rfl (by decide) ?_
  refine az_callS C Y_J6_getChars_ba4f3 [.int (nI d), .int (nI (n + 2)), .ref ((tR ρ aN (tcT ρ.2.2.2.2.1 (n + 2))).2.1 23)] [] wm_J5_248 wst_J6_getChars_ba4f3 dJ5_append_c97b9_30 rfl (XgetC2 (ρ := (tR ρ aN (tcT ρ.2.2.2.2.1 (n + 2)))) hG d n hd h10 (by show n + 1 < (tcT ρ.2.2.2.2.1 (n + 2)); omega) (by show (tcT ρ.2.2.2.2.1 (n + 2)) ≤ 34; omega)) rfl (Nat.le_of_ble_eq_true rfl) (Nat.le_of_ble_eq_true rfl) (Nat.le_of_ble_eq_true rfl) (by show _ ≤ (tcT ρ.2.2.2.2.1 (n + 2)) - ρ.2.2.2.2.1; omega) (by show _ ≤ 2 * ((tcT ρ.2.2.2.2.1 (n + 2)) - ρ.2.2.2.2.1); omega) (az_k1 rfl rfl ?_) (az_k0 rfl)
  refine az_pop C dJ5_append_c97b9_33 rfl ?_
  refine az_goto C 48 dJ5_append_c97b9_34 (by decide) ?_
  refine az_aload_n C 2 dJ5_append_c97b9_48 rfl ?_
  refine az_iload_n C 0 dJ5_append_c97b9_49 rfl ?_
  refine az_put C cJ4 0 14 3 wl_J5_79 dJ5_append_c97b9_50 rfl rfl (by decide) (Nat.le_of_ble_eq_true rfl) rfl rfl rfl (az_to rfl (K' := (KK G (tR ρ aN (tcT ρ.2.2.2.2.1 (n + 2))) (xI (xI (xI x 23 (n + 1) (nI (48 + d % 10))) 23 n (nI (48 + d / 10))) 14 3 (nI (n + 2))) m ou)) (KK_X rfl) ?_)
  refine az_aload_n C 2 dJ5_append_c97b9_53 rfl ?_
  exact az_aret C (.object "java/lang/AbstractStringBuilder") rfl (Or.inl ⟨_, rfl⟩) (Or.inr ⟨_, rfl⟩) dJ5_append_c97b9_54 (by show _ ≤ (tcT ρ.2.2.2.2.1 (n + 2)) - ρ.2.2.2.2.1; omega) (by show _ ≤ 2 * ((tcT ρ.2.2.2.2.1 (n + 2)) - ρ.2.2.2.2.1); omega) ⟨aN, haN, rfl, rfl, by rw [tx_i2]⟩

end
