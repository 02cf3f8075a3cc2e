section
variable {l : Launch} {G : az_G} {ρ : Rp} {x : Xs} {m : Mz} {ou : Nat → Int64}
/-- the size of the rows once N movements stand there -/
def capT (c N : Nat) : Nat := if N ≤ c then c else 2 * c
def az_g (G : az_G) (v : Option Value) (ρ : Rp) (C : Nat) (x : Xs) (m : Mz) (ou : Nat → Int64) : az_O → az_A → az_K → Prop := fun o ad' K' => ∃ a : Nat → Nat, a 23 = ρ.2.1 23 ∧ o = .inl v ∧ ad' = AD (gR ρ a C) ∧ K' = KK G (gR ρ a C) x m ou
theorem capT_ge {c N : Nat} : c ≤ capT c N := by unfold capT; split <;> omega
theorem capT_n {c N : Nat} (h : N ≤ 2 * c) : N ≤ capT c N := by unfold capT; split <;> omega
theorem capT_c {c N M : Nat} (h : N ≤ M) (h2 : M ≤ 2 * c) : capT (capT c N) M = capT c M := by
  unfold capT
  repeat' split
  all_goals omega
theorem capT_le {c N M : Nat} (h : N ≤ M) : capT c N ≤ capT c M := by
  unfold capT
  repeat' split
  all_goals omega
set_option maxHeartbeats 4000000 in
set_option maxRecDepth 100000 in
theorem Xadd_m (hG : az_okS l G) (n : Nat) (hm : x.1 8 3 = nI n) (hn : n < 65536) (hc : n < ρ.2.2.2.1) (hc2 : ρ.2.2.2.1 < 2 ^ 20) (u v w : Int32) : az_M l G yX1_add (az_ws yX1_add cX1_add 5 (Option.none : Option FieldType)) 3 [.ref (ρ.1 8), .int u, .int v, .int w] (AD ρ) (KK G ρ x m ou) 0 0 (az_g G none ρ ρ.2.2.2.1 (addX x n u v w) m ou) := by
  refine az_start hG.1 (by decide +kernel) (Nat.le_of_ble_eq_true rfl) ?_
  intro p e s mm args below meth c C hnm
  show az_W l G 5 _ p e _ s mm args below meth c _ _ 0 0 0 [(0, .ref (ρ.1 8)), (1, .int u), (2, .int v), (3, .int w)] []
  refine az_aload_n C 0 dX1_add_0 rfl ?_
  refine az_get C cX1 0 8 3 (v := .int (x.1 8 3)) wl_X1_19 dX1_add_1 rfl rfl rfl (by decide) ?_
  refine az_top (nI n) hm ?_
  refine az_ldc C (v := 65536) wn_X1_23 dX1_add_4 ?_
  refine az_icmp_lt C 10 dX1_add_6 (by decide) (fun _ => ?_) (fun q => absurd (show nI n < 65536 from by rw [show (65536 : Int32) = nI 65536 from rfl]; exact Int32.not_le.mp (nlt_nle hn (by omega))) q)
  refine az_aload_n C 0 dX1_add_10 rfl ?_
  refine az_get C cX1 0 8 3 (v := .int (x.1 8 3)) wl_X1_19 dX1_add_11 rfl rfl rfl (by decide) ?_
  refine az_top (nI n) hm ?_
  refine az_aload_n C 0 dX1_add_14 rfl ?_
  refine az_get C cX1 0 8 0 (v := .ref (ρ.2.1 20)) wl_X1_9 dX1_add_15 rfl rfl rfl (by decide) ?_
  refine az_alen C 0 20 (z := 0) (cy := (G.2.2.1 0, .int)) dX1_add_18 rfl rfl rfl ?_
  refine az_icmp_lt C 70 dX1_add_19 (by decide) (fun _ => ?_) (fun q => absurd (Int32.not_le.mp (nlt_nle hc (by omega))) q)
  refine az_aload_n C 0 dX1_add_70 rfl ?_
  refine az_get C cX1 0 8 0 (v := .ref (ρ.2.1 20)) wl_X1_9 dX1_add_71 rfl rfl rfl (by decide) ?_
  refine az_aload_n C 0 dX1_add_74 rfl ?_
  refine az_get C cX1 0 8 3 (v := .int (x.1 8 3)) wl_X1_19 dX1_add_75 rfl rfl rfl (by decide) ?_
  refine az_top (nI n) hm ?_
  refine az_iload_n C 1 dX1_add_78 rfl ?_
  refine az_iastN C 0 20 n dX1_add_79 rfl rfl (by omega) (by omega) (az_to rfl (K' := (KK G ρ (xI x 20 n u) m ou)) (KK_X rfl) ?_)
  refine az_aload_n C 0 dX1_add_80 rfl ?_
  refine az_get C cX1 0 8 1 (v := .ref (ρ.2.1 21)) wl_X1_13 dX1_add_81 rfl rfl rfl (by decide) ?_
  refine az_aload_n C 0 dX1_add_84 rfl ?_
  refine az_get C cX1 0 8 3 (v := .int (x.1 8 3)) wl_X1_19 dX1_add_85 rfl rfl rfl (by decide) ?_
  refine az_top (nI n) hm ?_
  refine az_iload_n C 2 dX1_add_88 rfl ?_
  refine az_iastN C 0 21 n dX1_add_89 rfl rfl (by omega) (by omega) (az_to rfl (K' := (KK G ρ (xI (xI x 20 n u) 21 n v) m ou)) (KK_X rfl) ?_)
  refine az_aload_n C 0 dX1_add_90 rfl ?_
  refine az_get C cX1 0 8 2 (v := .ref (ρ.2.1 22)) wl_X1_16 dX1_add_91 rfl rfl rfl (by decide) ?_
  refine az_aload_n C 0 dX1_add_94 rfl ?_
  refine az_get C cX1 0 8 3 (v := .int (x.1 8 3)) wl_X1_19 dX1_add_95 rfl rfl rfl (by decide) ?_
  refine az_top (nI n) hm ?_
  refine az_iload_n C 3 dX1_add_98 rfl ?_
  refine az_iastN C 0 22 n dX1_add_99 rfl rfl (by omega) (by omega) (az_to rfl (K' := (KK G ρ (xI (xI (xI x 20 n u) 21 n v) 22 n w) m ou)) (KK_X rfl) ?_)
  refine az_aload_n C 0 dX1_add_100 rfl ?_
  refine az_dup C dX1_add_101 rfl ?_
  refine az_get C cX1 0 8 3 (v := .int (x.1 8 3)) wl_X1_19 dX1_add_102 rfl rfl rfl (by decide) ?_
  refine az_top (nI n) hm ?_
  refine az_iconst C (v := 1) dX1_add_105 (by decide) ?_
  refine az_iadd C dX1_add_106 ?_
  refine az_top (nI (n + 1)) (nI_1 n) ?_
  refine az_put C cX1 0 8 3 wl_X1_19 dX1_add_107 rfl rfl (by decide) (Nat.le_of_ble_eq_true rfl) rfl rfl rfl (az_to rfl (K' := (KK G ρ (xI (xI (xI (xI x 20 n u) 21 n v) 22 n w) 8 3 (nI (n + 1))) m ou)) (KK_X rfl) ?_)
  exact az_vret C rfl dX1_add_110 (Nat.le_of_ble_eq_true rfl) (Nat.le_of_ble_eq_true rfl) ⟨ρ.2.1, rfl, rfl, rfl, rfl⟩

theorem Xadd (hG : az_okS l G) (n : Nat) (hm : x.1 8 3 = nI n) (hn : n < 65536) (hc : n ≤ ρ.2.2.2.1) (h256 : 256 ≤ ρ.2.2.2.1) (hc2 : ρ.2.2.2.1 < 2 ^ 20) (hz : RowZ ρ x) (u v w : Int32) : az_M l G yX1_add (az_ws yX1_add cX1_add 5 (Option.none)) 3 [.ref (ρ.1 8), .int u, .int v, .int w] (AD ρ) (KK G ρ x m ou) (capT ρ.2.2.2.1 (n + 1) - ρ.2.2.2.1) (6 * (capT ρ.2.2.2.1 (n + 1) - ρ.2.2.2.1)) (az_g G none ρ (capT ρ.2.2.2.1 (n + 1)) (addX x n u v w) m ou) := by
  by_cases h : n < ρ.2.2.2.1
  · have e : capT ρ.2.2.2.1 (n + 1) = ρ.2.2.2.1 := if_pos h
    rw [e, Nat.sub_self]
    exact Xadd_m hG n hm hn h hc2 u v w
  · have hnc : n = ρ.2.2.2.1 := by omega
    have e : capT ρ.2.2.2.1 (n + 1) = 2 * ρ.2.2.2.1 := if_neg (by omega)
    rw [e, show 2 * ρ.2.2.2.1 - ρ.2.2.2.1 = ρ.2.2.2.1 from by omega]
    exact Xadd_g hG n hm hn hnc h256 hz u v w
set_option maxHeartbeats 4000000 in
set_option maxRecDepth 100000 in
theorem Xexc_r (hG : az_okS l G) (nr k : Nat) (hr : x.1 1 8 = nI nr) (hn : nr ≤ 6) (hk : k + 1 ≤ nr) : az_M l G yX2_excess (az_ws yX2_excess cX2_excess 2 (Option.some FieldType.int)) 2 [.ref (ρ.1 1), .int (nI k)] (AD ρ) (KK G ρ x m ou) 0 0 (az_r (some (.int (x.1 4 (k + 3) - 60 * x.1 2 k))) (AD ρ) (KK G ρ x m ou)) := by
  refine az_start hG.1 (by decide +kernel) (Nat.le_of_ble_eq_true rfl) ?_
  intro p e s mm args below meth c C hnm
  show az_W l G 2 _ p e _ s mm args below meth c _ _ 0 0 0 [(0, .ref (ρ.1 1)), (1, .int (nI k))] []
  refine az_iload_n C 1 dX2_excess_0 rfl ?_
  refine az_if_lt C 12 dX2_excess_1 (by decide) (fun q => absurd q (Int32.not_lt.mpr (nI_pos' (by omega)))) (fun _ => ?_)
  refine az_iload_n C 1 dX2_excess_4 rfl ?_
  refine az_aload_n C 0 dX2_excess_5 rfl ?_
  refine az_get C cX2 0 1 8 (v := .int (x.1 1 8)) wl_X2_37 dX2_excess_6 rfl rfl rfl (by decide) ?_
  refine az_top (nI nr) hr ?_
  refine az_icmp_lt C 14 dX2_excess_9 (by decide) (fun _ => ?_) (fun q => absurd (Int32.not_le.mp (nlt_nle (show k < nr by omega) (by omega))) q)
  refine az_aload_n C 0 dX2_excess_14 rfl ?_
  refine az_get C cX2 0 1 2 (v := .ref (ρ.1 4)) wl_X2_18 dX2_excess_15 rfl rfl rfl (by decide) ?_
  refine az_iload_n C 1 dX2_excess_18 rfl ?_
  refine az_bipush C (v := (-3)) dX2_excess_19 (by decide) ?_
  refine az_isub C dX2_excess_21 ?_
  refine az_top (nI (k + 3)) (nI_m3 k) ?_
  refine az_ialdN C 0 4 ((k + 3)) (v := x.1 4 (k + 3)) dX2_excess_22 rfl rfl (by omega) (by decide) rfl ?_
  refine az_bipush C (v := 60) dX2_excess_23 (by decide) ?_
  refine az_aload_n C 0 dX2_excess_25 rfl ?_
  refine az_get C cX2 0 1 0 (v := .ref (ρ.1 2)) wl_X2_9 dX2_excess_26 rfl rfl rfl (by decide) ?_
  refine az_iload_n C 1 dX2_excess_29 rfl ?_
  refine az_ialdN C 0 2 k (v := x.1 2 k) dX2_excess_30 rfl rfl (by omega) (by decide) rfl ?_
  refine az_imul C dX2_excess_31 ?_
  refine az_isub C dX2_excess_32 ?_
  exact az_iret C rfl dX2_excess_33 (Nat.le_of_ble_eq_true rfl) (Nat.le_of_ble_eq_true rfl) ⟨rfl, rfl, rfl⟩

set_option maxHeartbeats 4000000 in
set_option maxRecDepth 100000 in
theorem Xexc_n (hG : az_okS l G) (v : Int32) (hv : v < 0) : az_M l G yX2_excess (az_ws yX2_excess cX2_excess 2 (Option.some FieldType.int)) 2 [.ref (ρ.1 1), .int v] (AD ρ) (KK G ρ x m ou) 0 0 (az_r (some (.int 0)) (AD ρ) (KK G ρ x m ou)) := by
  refine az_start hG.1 (by decide +kernel) (Nat.le_of_ble_eq_true rfl) ?_
  intro p e s mm args below meth c C hnm
  show az_W l G 2 _ p e _ s mm args below meth c _ _ 0 0 0 [(0, .ref (ρ.1 1)), (1, .int v)] []
  refine az_iload_n C 1 dX2_excess_0 rfl ?_
  refine az_if_lt C 12 dX2_excess_1 (by decide) (fun _ => ?_) (fun q => absurd hv q)
  refine az_iconst C (v := 0) dX2_excess_12 (by decide) ?_
  exact az_iret C rfl dX2_excess_13 (Nat.le_of_ble_eq_true rfl) (Nat.le_of_ble_eq_true rfl) ⟨rfl, rfl, rfl⟩

set_option maxHeartbeats 4000000 in
set_option maxRecDepth 100000 in
theorem Xexc_c (hG : az_okS l G) (nr : Nat) (v : Int32) (hr : x.1 1 8 = nI nr) (h0 : ¬ v < 0) (hv : nI nr ≤ v) : az_M l G yX2_excess (az_ws yX2_excess cX2_excess 2 (Option.some FieldType.int)) 2 [.ref (ρ.1 1), .int v] (AD ρ) (KK G ρ x m ou) 0 0 (az_r (some (.int 0)) (AD ρ) (KK G ρ x m ou)) := by
  refine az_start hG.1 (by decide +kernel) (Nat.le_of_ble_eq_true rfl) ?_
  intro p e s mm args below meth c C hnm
  show az_W l G 2 _ p e _ s mm args below meth c _ _ 0 0 0 [(0, .ref (ρ.1 1)), (1, .int v)] []
  refine az_iload_n C 1 dX2_excess_0 rfl ?_
  refine az_if_lt C 12 dX2_excess_1 (by decide) (fun q => absurd q h0) (fun _ => ?_)
  refine az_iload_n C 1 dX2_excess_4 rfl ?_
  refine az_aload_n C 0 dX2_excess_5 rfl ?_
  refine az_get C cX2 0 1 8 (v := .int (x.1 1 8)) wl_X2_37 dX2_excess_6 rfl rfl rfl (by decide) ?_
  refine az_top (nI nr) hr ?_
  refine az_icmp_lt C 14 dX2_excess_9 (by decide) (fun q => absurd q (Int32.not_lt.mpr hv)) (fun _ => ?_)
  refine az_iconst C (v := 0) dX2_excess_12 (by decide) ?_
  exact az_iret C rfl dX2_excess_13 (Nat.le_of_ble_eq_true rfl) (Nat.le_of_ble_eq_true rfl) ⟨rfl, rfl, rfl⟩

set_option maxHeartbeats 4000000 in
set_option maxRecDepth 100000 in
theorem XcanFill (hG : az_okS l G) (k : Nat) (hk : k < 5) : az_M l G yX2_canFill (az_ws yX2_canFill cX2_canFill 2 (Option.some FieldType.boolean)) 2 [.ref (ρ.1 1), .int (nI k)] (AD ρ) (KK G ρ x m ou) 0 0 (az_r (some (.int (if x.1 4 (k + 3) < x.1 3 k then 0 else 1))) (AD ρ) (KK G ρ x m ou)) := by
  refine az_start hG.1 (by decide +kernel) (Nat.le_of_ble_eq_true rfl) ?_
  intro p e s mm args below meth c C hnm
  show az_W l G 2 _ p e _ s mm args below meth c _ _ 0 0 0 [(0, .ref (ρ.1 1)), (1, .int (nI k))] []
  refine az_aload_n C 0 dX2_canFill_0 rfl ?_
  refine az_iload_n C 1 dX2_canFill_1 rfl ?_
  refine az_callV C Y_X2_at cX2 0 1 [.int (nI k)] [] wm_X2_41 wi_X2_at wse_X2_at dX2_canFill_2 rfl rfl rfl (kat hG (nI k) (k + 3) (nI_m3 k) (by omega)) rfl (Nat.le_of_ble_eq_true rfl) (Nat.le_of_ble_eq_true rfl) (Nat.le_of_ble_eq_true rfl) (Nat.le_of_ble_eq_true rfl) (Nat.le_of_ble_eq_true rfl) (az_k1 rfl rfl ?_) (az_k0 rfl)
  refine az_aload_n C 0 dX2_canFill_5 rfl ?_
  refine az_get C cX2 0 1 1 (v := .ref (ρ.1 3)) wl_X2_15 dX2_canFill_6 rfl rfl rfl (by decide) ?_
  refine az_iload_n C 1 dX2_canFill_9 rfl ?_
  refine az_ialdN C 0 3 k (v := x.1 3 k) dX2_canFill_10 rfl rfl (by omega) (by decide) rfl ?_
  refine az_icmp_lt C 18 dX2_canFill_11 (by decide) (fun c1 => ?_) (fun c1 => ?_)
  · refine az_iconst C (v := 0) dX2_canFill_18 (by decide) ?_
    exact az_zret C .boolean rfl rfl dX2_canFill_19 (Nat.le_of_ble_eq_true rfl) (Nat.le_of_ble_eq_true rfl) ⟨(by simp only [c1, if_true, if_false, not_true_eq_false, not_false_eq_true]), rfl, rfl⟩
  · refine az_iconst C (v := 1) dX2_canFill_14 (by decide) ?_
    refine az_goto C 19 dX2_canFill_15 (by decide) ?_
    exact az_zret C .boolean rfl rfl dX2_canFill_19 (Nat.le_of_ble_eq_true rfl) (Nat.le_of_ble_eq_true rfl) ⟨(by simp only [c1, if_true, if_false, not_true_eq_false, not_false_eq_true]), rfl, rfl⟩

def bedX (x : Xs) (nr : Nat) (v : Int32) : Xs := (xI (xI x 2 nr v) 1 8 (nI (nr + 1)))
set_option maxHeartbeats 4000000 in
set_option maxRecDepth 100000 in
theorem XaddBed (hG : az_okS l G) (nr : Nat) (hr : x.1 1 8 = nI nr) (hn : nr < 6) (v : Int32) : az_M l G yX2_addBed (az_ws yX2_addBed cX2_addBed 3 (Option.some FieldType.int)) 1 [.ref (ρ.1 1), .int v] (AD ρ) (KK G ρ x m ou) 0 0 (az_r (some (.int (nI nr))) (AD ρ) (KK G ρ (bedX x nr v) m ou)) := by
  refine az_start hG.1 (by decide +kernel) (Nat.le_of_ble_eq_true rfl) ?_
  intro p e s mm args below meth c C hnm
  show az_W l G 3 _ p e _ s mm args below meth c _ _ 0 0 0 [(0, .ref (ρ.1 1)), (1, .int v)] []
  refine az_aload_n C 0 dX2_addBed_0 rfl ?_
  refine az_get C cX2 0 1 8 (v := .int (x.1 1 8)) wl_X2_37 dX2_addBed_1 rfl rfl rfl (by decide) ?_
  refine az_top (nI nr) hr ?_
  refine az_istore_n C (lv' := [(2, .int (nI nr)), (0, .ref (ρ.1 1)), (1, .int v)]) (j := 2) rfl dX2_addBed_4 (by decide) rfl ?_
  refine az_aload_n C 1 dX2_addBed_5 rfl ?_
  refine az_get C cX2 0 1 0 (v := .ref (ρ.1 2)) wl_X2_9 dX2_addBed_6 rfl rfl rfl (by decide) ?_
  refine az_iload_n C 0 dX2_addBed_9 rfl ?_
  refine az_iload_n C 2 dX2_addBed_10 rfl ?_
  refine az_iastN C 0 2 nr dX2_addBed_11 rfl rfl (by omega) (by decide) (az_to rfl (K' := (KK G ρ (xI x 2 nr v) m ou)) (KK_X rfl) ?_)
  refine az_aload_n C 1 dX2_addBed_12 rfl ?_
  refine az_dup C dX2_addBed_13 rfl ?_
  refine az_get C cX2 0 1 8 (v := .int (x.1 1 8)) wl_X2_37 dX2_addBed_14 rfl rfl rfl (by decide) ?_
  refine az_top (nI nr) hr ?_
  refine az_iconst C (v := 1) dX2_addBed_17 (by decide) ?_
  refine az_iadd C dX2_addBed_18 ?_
  refine az_top (nI (nr + 1)) (nI_1 nr) ?_
  refine az_put C cX2 0 1 8 wl_X2_37 dX2_addBed_19 rfl rfl (by decide) (Nat.le_of_ble_eq_true rfl) rfl rfl rfl (az_to rfl (K' := (KK G ρ (xI (xI x 2 nr v) 1 8 (nI (nr + 1))) m ou)) (KK_X rfl) ?_)
  refine az_iload_n C 0 dX2_addBed_22 rfl ?_
  exact az_iret C rfl dX2_addBed_23 (Nat.le_of_ble_eq_true rfl) (Nat.le_of_ble_eq_true rfl) ⟨rfl, rfl, rfl⟩

end
