section
variable {l : Launch} {G : az_G} {ρ : Rp} {x : Xs} {m : Ms} {ou : Nat → Int64}
set_option maxHeartbeats 4000000 in
set_option maxRecDepth 100000 in
theorem MsellTo0 (hG : az_okS l G) (nb : Nat) (v u : Int32) (hb : m.1 0 12 = nI nb) (hn : nb ≤ 8) (hv : oo nb v) : az_M l G yX4_sellToDraught (az_ws yX4_sellToDraught cX4_sellToDraught 4 (Option.some FieldType.int)) 3 [.ref (ρ.1 100), .int v, .int u] (AD ρ) (KK G ρ x m ou) 0 0 (az_r (some (.int 0)) (AD ρ) (KK G ρ x (mI m 0 0 1) ou)) := by
  refine az_start hG.1 (by decide +kernel) (Nat.le_of_ble_eq_true rfl) ?_
  intro p e s mm args below meth c C hnm
  show az_W l G 4 _ p e _ s mm args below meth c _ _ 0 0 0 [(0, .ref (ρ.1 100)), (1, .int v), (2, .int u)] []
  refine az_aload_n C 0 dX4_sellToDraught_0 rfl ?_
  refine az_iload_n C 1 dX4_sellToDraught_1 rfl ?_
  refine az_callV C Y_X4_isBarge cX4 2 0 [.int v] [] wm_X4_161 wi_X4_isBarge wse_X4_isBarge dX4_sellToDraught_2 rfl rfl rfl (Mb0 hG nb v hb hn (by omega) hv) rfl (Nat.le_of_ble_eq_true rfl) (Nat.le_of_ble_eq_true rfl) (Nat.le_of_ble_eq_true rfl) (Nat.le_of_ble_eq_true rfl) (Nat.le_of_ble_eq_true rfl) (az_k1 rfl rfl ?_) (az_k0 rfl)
  refine az_if_ne C 14 dX4_sellToDraught_5 (by decide) (fun q => absurd (by decide) q) (fun _ => ?_)
  refine az_aload_n C 0 dX4_sellToDraught_8 rfl ?_
  refine az_iconst C (v := 1) dX4_sellToDraught_9 (by decide) ?_
  refine az_callV C Y_X4_fails cX4 2 0 [.int 1] [] wm_X4_121 wi_X4_fails wse_X4_fails dX4_sellToDraught_10 rfl rfl rfl (Mfails hG (1)) rfl (Nat.le_of_ble_eq_true rfl) (Nat.le_of_ble_eq_true rfl) (Nat.le_of_ble_eq_true rfl) (Nat.le_of_ble_eq_true rfl) (Nat.le_of_ble_eq_true rfl) (az_k1 rfl rfl ?_) (az_k0 rfl)
  exact az_iret C rfl dX4_sellToDraught_13 (Nat.le_of_ble_eq_true rfl) (Nat.le_of_ble_eq_true rfl) ⟨rfl, rfl, rfl⟩

set_option maxHeartbeats 4000000 in
set_option maxRecDepth 100000 in
theorem MsellTo1 (hG : az_okS l G) (nb k : Nat) (hb : m.1 0 12 = nI nb) (hn : nb ≤ 8) (hk : k + 1 ≤ nb) (u : Int32) (hu : inI u 1 60 = 0) : az_M l G yX4_sellToDraught (az_ws yX4_sellToDraught cX4_sellToDraught 4 (Option.some FieldType.int)) 3 [.ref (ρ.1 100), .int (nI k), .int u] (AD ρ) (KK G ρ x m ou) 0 0 (az_r (some (.int 0)) (AD ρ) (KK G ρ x (mI m 0 0 2) ou)) := by
  refine az_start hG.1 (by decide +kernel) (Nat.le_of_ble_eq_true rfl) ?_
  intro p e s mm args below meth c C hnm
  show az_W l G 4 _ p e _ s mm args below meth c _ _ 0 0 0 [(0, .ref (ρ.1 100)), (1, .int (nI k)), (2, .int u)] []
  refine az_aload_n C 0 dX4_sellToDraught_0 rfl ?_
  refine az_iload_n C 1 dX4_sellToDraught_1 rfl ?_
  refine az_callV C Y_X4_isBarge cX4 2 0 [.int (nI k)] [] wm_X4_161 wi_X4_isBarge wse_X4_isBarge dX4_sellToDraught_2 rfl rfl rfl (Mb1 hG nb k hb hn hk) rfl (Nat.le_of_ble_eq_true rfl) (Nat.le_of_ble_eq_true rfl) (Nat.le_of_ble_eq_true rfl) (Nat.le_of_ble_eq_true rfl) (Nat.le_of_ble_eq_true rfl) (az_k1 rfl rfl ?_) (az_k0 rfl)
  refine az_if_ne C 14 dX4_sellToDraught_5 (by decide) (fun _ => ?_) (fun q => absurd q (by decide))
  refine az_iload_n C 2 dX4_sellToDraught_14 rfl ?_
  refine az_iconst C (v := 1) dX4_sellToDraught_15 (by decide) ?_
  refine az_bipush C (v := 60) dX4_sellToDraught_16 (by decide) ?_
  refine az_callS C Y_X4_in [.int u, .int 1, .int 60] [] wm_X4_104 wst_X4_in dX4_sellToDraught_18 rfl (Min hG (u) (1) (60)) rfl (Nat.le_of_ble_eq_true rfl) (Nat.le_of_ble_eq_true rfl) (Nat.le_of_ble_eq_true rfl) (Nat.le_of_ble_eq_true rfl) (Nat.le_of_ble_eq_true rfl) (az_k1 rfl rfl ?_) (az_k0 rfl)
  refine az_if_ne C 30 dX4_sellToDraught_21 (by decide) (fun q => absurd hu q) (fun _ => ?_)
  refine az_aload_n C 0 dX4_sellToDraught_24 rfl ?_
  refine az_iconst C (v := 2) dX4_sellToDraught_25 (by decide) ?_
  refine az_callV C Y_X4_fails cX4 2 0 [.int 2] [] wm_X4_121 wi_X4_fails wse_X4_fails dX4_sellToDraught_26 rfl rfl rfl (Mfails hG (2)) rfl (Nat.le_of_ble_eq_true rfl) (Nat.le_of_ble_eq_true rfl) (Nat.le_of_ble_eq_true rfl) (Nat.le_of_ble_eq_true rfl) (Nat.le_of_ble_eq_true rfl) (az_k1 rfl rfl ?_) (az_k0 rfl)
  exact az_iret C rfl dX4_sellToDraught_29 (Nat.le_of_ble_eq_true rfl) (Nat.le_of_ble_eq_true rfl) ⟨rfl, rfl, rfl⟩

set_option maxHeartbeats 4000000 in
set_option maxRecDepth 100000 in
theorem MsellTo2 (hG : az_okS l G) (nb k : Nat) (hb : m.1 0 12 = nI nb) (hn : nb ≤ 8) (hk : k + 1 ≤ nb) (u : Int32) (hu : 1 ≤ u ∧ u ≤ 60) (hh : u < m.1 15 k) : az_M l G yX4_sellToDraught (az_ws yX4_sellToDraught cX4_sellToDraught 4 (Option.some FieldType.int)) 3 [.ref (ρ.1 100), .int (nI k), .int u] (AD ρ) (KK G ρ x m ou) 0 0 (az_r (some (.int 0)) (AD ρ) (KK G ρ x (mI m 0 0 3) ou)) := by
  refine az_start hG.1 (by decide +kernel) (Nat.le_of_ble_eq_true rfl) ?_
  intro p e s mm args below meth c C hnm
  show az_W l G 4 _ p e _ s mm args below meth c _ _ 0 0 0 [(0, .ref (ρ.1 100)), (1, .int (nI k)), (2, .int u)] []
  refine az_aload_n C 0 dX4_sellToDraught_0 rfl ?_
  refine az_iload_n C 1 dX4_sellToDraught_1 rfl ?_
  refine az_callV C Y_X4_isBarge cX4 2 0 [.int (nI k)] [] wm_X4_161 wi_X4_isBarge wse_X4_isBarge dX4_sellToDraught_2 rfl rfl rfl (Mb1 hG nb k hb hn hk) rfl (Nat.le_of_ble_eq_true rfl) (Nat.le_of_ble_eq_true rfl) (Nat.le_of_ble_eq_true rfl) (Nat.le_of_ble_eq_true rfl) (Nat.le_of_ble_eq_true rfl) (az_k1 rfl rfl ?_) (az_k0 rfl)
  refine az_if_ne C 14 dX4_sellToDraught_5 (by decide) (fun _ => ?_) (fun q => absurd q (by decide))
  refine az_iload_n C 2 dX4_sellToDraught_14 rfl ?_
  refine az_iconst C (v := 1) dX4_sellToDraught_15 (by decide) ?_
  refine az_bipush C (v := 60) dX4_sellToDraught_16 (by decide) ?_
  refine az_callS C Y_X4_in [.int u, .int 1, .int 60] [] wm_X4_104 wst_X4_in dX4_sellToDraught_18 rfl (Min1 hG (u) (1) (60) hu.1 hu.2) rfl (Nat.le_of_ble_eq_true rfl) (Nat.le_of_ble_eq_true rfl) (Nat.le_of_ble_eq_true rfl) (Nat.le_of_ble_eq_true rfl) (Nat.le_of_ble_eq_true rfl) (az_k1 rfl rfl ?_) (az_k0 rfl)
  refine az_if_ne C 30 dX4_sellToDraught_21 (by decide) (fun _ => ?_) (fun q => absurd q (by decide))
  refine az_aload_n C 0 dX4_sellToDraught_30 rfl ?_
  refine az_get C cX4 2 0 15 (v := .ref (ρ.1 115)) wl_X4_48 dX4_sellToDraught_31 rfl rfl rfl (by decide) ?_
  refine az_iload_n C 1 dX4_sellToDraught_34 rfl ?_
  refine az_ialdN C 2 15 k (v := m.1 15 k) dX4_sellToDraught_35 rfl rfl (by omega) (by decide) rfl ?_
  refine az_iload_n C 2 dX4_sellToDraught_36 rfl ?_
  refine az_icmp_le C 46 dX4_sellToDraught_37 (by decide) (fun q => absurd q (Int32.not_le.mpr hh)) (fun _ => ?_)
  refine az_aload_n C 0 dX4_sellToDraught_40 rfl ?_
  refine az_iconst C (v := 3) dX4_sellToDraught_41 (by decide) ?_
  refine az_callV C Y_X4_fails cX4 2 0 [.int 3] [] wm_X4_121 wi_X4_fails wse_X4_fails dX4_sellToDraught_42 rfl rfl rfl (Mfails hG (3)) rfl (Nat.le_of_ble_eq_true rfl) (Nat.le_of_ble_eq_true rfl) (Nat.le_of_ble_eq_true rfl) (Nat.le_of_ble_eq_true rfl) (Nat.le_of_ble_eq_true rfl) (az_k1 rfl rfl ?_) (az_k0 rfl)
  exact az_iret C rfl dX4_sellToDraught_45 (Nat.le_of_ble_eq_true rfl) (Nat.le_of_ble_eq_true rfl) ⟨rfl, rfl, rfl⟩

/-- i tonnes sold one by one -/
def stdM (m : Ms) (k r : Nat) : Nat → Ms
  | 0 => m
  | i + 1 => sellsM (stdM m k r i) k r 1
theorem stdM_p {m : Ms} {k r : Nat} {p j : Nat} (h : p ≠ 17) : ∀ i, (stdM m k r i).1 p j = m.1 p j
  | 0 => rfl
  | i + 1 => by
    have z : (sellsM (stdM m k r i) k r 1).1 p j = (stdM m k r i).1 p j := by
      simp only [sellsM, mI, mM]
      rw [up2_p h]
    exact z.trans (stdM_p h i)
set_option maxHeartbeats 4000000 in
set_option maxRecDepth 100000 in
theorem MsellTo_l (hG : az_okS l G) {p : Program} {e : Env} {s : State} {mm : MethodId} {args : Array Value} {below : List Frame} {meth : Method} {c : Code} (C : az_C l G p s mm args meth c cX4_sellToDraught yX4_sellToDraught.cls 4 (Option.some FieldType.int) []) : ∀ (k r N : Nat) (hk : k < 8) (hN : N < 2 ^ 30) (u : Int32) (hr6 : r < 6) (hat : m.1 13 k = nI r) (ht : ¬ m.1 16 k = 0) (hd : ∀ i, i < N → ¬ deepM (stdM m k r i) k ≤ u) (hN2 : deepM (stdM m k r N) k ≤ u) (j i : Nat) (hi : i + j = N), az_W l G 4 (az_Q G (az_r (some (.int (nI N))) (AD ρ) (KK G ρ x (mI (stdM m k r N) 0 0 0) ou)) below args s 0 0) p e (az_rm 3 0 0) s mm args below meth c (AD ρ) (KK G ρ x (stdM m k r i) ou) 0 0 48 [(3, .int (nI i)), (2, .int u), (1, .int (nI k)), (0, .ref (ρ.1 100))] [] := by
  intro k r N hk hN u hr6 hat ht hd hN2 j
  induction j with
  | zero =>
    intro i hi
    obtain rfl : i = N := by omega
    refine az_aload_n C 3 dX4_sellToDraught_48 rfl ?_
    refine az_iload_n C 2 dX4_sellToDraught_49 rfl ?_
    refine az_callV C Y_X4_deep cX4 2 0 [.int (nI k)] [] wm_X4_158 wi_X4_deep wse_X4_deep dX4_sellToDraught_50 rfl rfl rfl (Mdeep hG k hk (fun z => ht ((stdM_p (by decide) _).symm.trans z))) rfl (Nat.le_of_ble_eq_true rfl) (Nat.le_of_ble_eq_true rfl) (Nat.le_of_ble_eq_true rfl) (Nat.le_of_ble_eq_true rfl) (Nat.le_of_ble_eq_true rfl) (az_k1 rfl rfl ?_) (az_k0 rfl)
    refine az_iload_n C 1 dX4_sellToDraught_53 rfl ?_
    refine az_icmp_le C 69 dX4_sellToDraught_54 (by decide) (fun _ => ?_) (fun q => absurd hN2 q)
    refine az_aload_n C 3 dX4_sellToDraught_69 rfl ?_
    refine az_iload_n C 0 dX4_sellToDraught_70 rfl ?_
    refine az_callV C Y_X4_tells cX4 2 0 [.int (nI i)] [] wm_X4_125 wi_X4_tells wse_X4_tells dX4_sellToDraught_71 rfl rfl rfl (Mtells hG (nI i)) rfl (Nat.le_of_ble_eq_true rfl) (Nat.le_of_ble_eq_true rfl) (Nat.le_of_ble_eq_true rfl) (Nat.le_of_ble_eq_true rfl) (Nat.le_of_ble_eq_true rfl) (az_k1 rfl rfl ?_) (az_k0 rfl)
    exact az_iret C rfl dX4_sellToDraught_74 (Nat.le_of_ble_eq_true rfl) (Nat.le_of_ble_eq_true rfl) ⟨rfl, rfl, rfl⟩
  | succ j ih =>
    intro i hi
    refine az_aload_n C 3 dX4_sellToDraught_48 rfl ?_
    refine az_iload_n C 2 dX4_sellToDraught_49 rfl ?_
    refine az_callV C Y_X4_deep cX4 2 0 [.int (nI k)] [] wm_X4_158 wi_X4_deep wse_X4_deep dX4_sellToDraught_50 rfl rfl rfl (Mdeep hG k hk (fun z => ht ((stdM_p (by decide) _).symm.trans z))) rfl (Nat.le_of_ble_eq_true rfl) (Nat.le_of_ble_eq_true rfl) (Nat.le_of_ble_eq_true rfl) (Nat.le_of_ble_eq_true rfl) (Nat.le_of_ble_eq_true rfl) (az_k1 rfl rfl ?_) (az_k0 rfl)
    refine az_iload_n C 1 dX4_sellToDraught_53 rfl ?_
    refine az_icmp_le C 69 dX4_sellToDraught_54 (by decide) (fun q => absurd q (hd i (by omega))) (fun _ => ?_)
    refine az_aload_n C 3 dX4_sellToDraught_57 rfl ?_
    refine az_iload_n C 2 dX4_sellToDraught_58 rfl ?_
    refine az_iconst C (v := 1) dX4_sellToDraught_59 (by decide) ?_
    refine az_callV C Y_X4_sells cX4 2 0 [.int (nI k), .int 1] [] wm_X4_233 wi_X4_sells wse_X4_sells dX4_sellToDraught_60 rfl rfl rfl (Msells hG k r 1 hk hr6 ((stdM_p (by decide) _).trans hat)) rfl (Nat.le_of_ble_eq_true rfl) (Nat.le_of_ble_eq_true rfl) (Nat.le_of_ble_eq_true rfl) (Nat.le_of_ble_eq_true rfl) (Nat.le_of_ble_eq_true rfl) (az_k1 rfl rfl ?_) (az_k0 rfl)
    refine az_iinc C 0 (v := nI (i + 1)) (lv' := [(3, .int (nI (i + 1))), (2, .int u), (1, .int (nI k)), (0, .ref (ρ.1 100))]) dX4_sellToDraught_63 rfl (nI_1 i) (by decide) rfl ?_
    refine az_goto C 48 dX4_sellToDraught_66 (by decide) ?_
    exact az_lv [0, 1, 2, 3] rfl (ih (i + 1) (by omega))

set_option maxHeartbeats 4000000 in
set_option maxRecDepth 100000 in
theorem MsellTo3 (hG : az_okS l G) (nb k : Nat) (hb : m.1 0 12 = nI nb) (hn : nb ≤ 8) (hk : k + 1 ≤ nb) (u : Int32) (hu : 1 ≤ u ∧ u ≤ 60) (hh : m.1 15 k ≤ u) (r N : Nat) (hN : N < 2 ^ 30) (hr6 : r < 6) (hat : m.1 13 k = nI r) (ht : ¬ m.1 16 k = 0) (hd : ∀ i, i < N → ¬ deepM (stdM m k r i) k ≤ u) (hN2 : deepM (stdM m k r N) k ≤ u) : az_M l G yX4_sellToDraught (az_ws yX4_sellToDraught cX4_sellToDraught 4 (Option.some FieldType.int)) 3 [.ref (ρ.1 100), .int (nI k), .int u] (AD ρ) (KK G ρ x m ou) 0 0 (az_r (some (.int (nI N))) (AD ρ) (KK G ρ x (mI (stdM m k r N) 0 0 0) ou)) := by
  refine az_start hG.1 (by decide +kernel) (Nat.le_of_ble_eq_true rfl) ?_
  intro p e s mm args below meth c C hnm
  show az_W l G 4 _ p e _ s mm args below meth c _ _ 0 0 0 [(0, .ref (ρ.1 100)), (1, .int (nI k)), (2, .int u)] []
  refine az_aload_n C 0 dX4_sellToDraught_0 rfl ?_
  refine az_iload_n C 1 dX4_sellToDraught_1 rfl ?_
  refine az_callV C Y_X4_isBarge cX4 2 0 [.int (nI k)] [] wm_X4_161 wi_X4_isBarge wse_X4_isBarge dX4_sellToDraught_2 rfl rfl rfl (Mb1 hG nb k hb hn hk) rfl (Nat.le_of_ble_eq_true rfl) (Nat.le_of_ble_eq_true rfl) (Nat.le_of_ble_eq_true rfl) (Nat.le_of_ble_eq_true rfl) (Nat.le_of_ble_eq_true rfl) (az_k1 rfl rfl ?_) (az_k0 rfl)
  refine az_if_ne C 14 dX4_sellToDraught_5 (by decide) (fun _ => ?_) (fun q => absurd q (by decide))
  refine az_iload_n C 2 dX4_sellToDraught_14 rfl ?_
  refine az_iconst C (v := 1) dX4_sellToDraught_15 (by decide) ?_
  refine az_bipush C (v := 60) dX4_sellToDraught_16 (by decide) ?_
  refine az_callS C Y_X4_in [.int u, .int 1, .int 60] [] wm_X4_104 wst_X4_in dX4_sellToDraught_18 rfl (Min1 hG (u) (1) (60) hu.1 hu.2) rfl (Nat.le_of_ble_eq_true rfl) (Nat.le_of_ble_eq_true rfl) (Nat.le_of_ble_eq_true rfl) (Nat.le_of_ble_eq_true rfl) (Nat.le_of_ble_eq_true rfl) (az_k1 rfl rfl ?_) (az_k0 rfl)
  refine az_if_ne C 30 dX4_sellToDraught_21 (by decide) (fun _ => ?_) (fun q => absurd q (by decide))
  refine az_aload_n C 0 dX4_sellToDraught_30 rfl ?_
  refine az_get C cX4 2 0 15 (v := .ref (ρ.1 115)) wl_X4_48 dX4_sellToDraught_31 rfl rfl rfl (by decide) ?_
  refine az_iload_n C 1 dX4_sellToDraught_34 rfl ?_
  refine az_ialdN C 2 15 k (v := m.1 15 k) dX4_sellToDraught_35 rfl rfl (by omega) (by decide) rfl ?_
  refine az_iload_n C 2 dX4_sellToDraught_36 rfl ?_
  refine az_icmp_le C 46 dX4_sellToDraught_37 (by decide) (fun _ => ?_) (fun q => absurd hh q)
  refine az_iconst C (v := 0) dX4_sellToDraught_46 (by decide) ?_
  refine az_istore_n C (lv' := [(3, .int 0), (0, .ref (ρ.1 100)), (1, .int (nI k)), (2, .int u)]) (j := 3) rfl dX4_sellToDraught_47 (by decide) rfl ?_
  exact az_lv [0, 3, 2, 1] rfl (MsellTo_l hG C k r N (by omega) hN u hr6 hat ht hd hN2 N 0 (by omega))

def loadM (m : Ms) (k r : Nat) : Int32 := (((levM m r - 1) - m.1 15 k) * m.1 16 k) - m.1 17 k
set_option maxHeartbeats 4000000 in
set_option maxRecDepth 100000 in
theorem MgreatestLoad1 (hG : az_okS l G) (nb k : Nat) (hb : m.1 0 12 = nI nb) (hn : nb ≤ 8) (hk : k + 1 ≤ nb) (r : Nat) (hr6 : r < 6) (ht : ¬ m.1 16 k = 0) (hat : m.1 13 k = nI r) (ha : ¬ m.1 3 r = 0) (hf : floatsI m k r = 1) : az_M l G yX4_greatestLoad (az_ws yX4_greatestLoad cX4_greatestLoad 3 (Option.some FieldType.int)) 3 [.ref (ρ.1 100), .int (nI k)] (AD ρ) (KK G ρ x m ou) 0 0 (az_r (some (.int (loadM m k r))) (AD ρ) (KK G ρ x (mI m 0 0 0) ou)) := by
  refine az_start hG.1 (by decide +kernel) (Nat.le_of_ble_eq_true rfl) ?_
  intro p e s mm args below meth c C hnm
  show az_W l G 3 _ p e _ s mm args below meth c _ _ 0 0 0 [(0, .ref (ρ.1 100)), (1, .int (nI k))] []
  refine az_aload_n C 0 dX4_greatestLoad_0 rfl ?_
  refine az_iload_n C 1 dX4_greatestLoad_1 rfl ?_
  refine az_callV C Y_X4_isBarge cX4 2 0 [.int (nI k)] [] wm_X4_161 wi_X4_isBarge wse_X4_isBarge dX4_greatestLoad_2 rfl rfl rfl (Mb1 hG nb k hb hn hk) rfl (Nat.le_of_ble_eq_true rfl) (Nat.le_of_ble_eq_true rfl) (Nat.le_of_ble_eq_true rfl) (Nat.le_of_ble_eq_true rfl) (Nat.le_of_ble_eq_true rfl) (az_k1 rfl rfl ?_) (az_k0 rfl)
  refine az_if_ne C 14 dX4_greatestLoad_5 (by decide) (fun _ => ?_) (fun q => absurd q (by decide))
  refine az_aload_n C 0 dX4_greatestLoad_14 rfl ?_
  refine az_aload_n C 0 dX4_greatestLoad_15 rfl ?_
  refine az_get C cX4 2 0 13 (v := .ref (ρ.1 113)) wl_X4_42 dX4_greatestLoad_16 rfl rfl rfl (by decide) ?_
  refine az_iload_n C 1 dX4_greatestLoad_19 rfl ?_
  refine az_ialdN C 2 13 k (v := m.1 13 k) dX4_greatestLoad_20 rfl rfl (by omega) (by decide) rfl ?_
  refine az_top (nI r) hat ?_
  refine az_callV C Y_X4_level cX4 2 0 [.int (nI r)] [] wm_X4_135 wi_X4_level wse_X4_level dX4_greatestLoad_21 rfl rfl rfl (Mlevel hG r hr6 ha) rfl (Nat.le_of_ble_eq_true rfl) (Nat.le_of_ble_eq_true rfl) (Nat.le_of_ble_eq_true rfl) (Nat.le_of_ble_eq_true rfl) (Nat.le_of_ble_eq_true rfl) (az_k1 rfl rfl ?_) (az_k0 rfl)
  refine az_iconst C (v := 1) dX4_greatestLoad_24 (by decide) ?_
  refine az_isub C dX4_greatestLoad_25 ?_
  refine az_aload_n C 0 dX4_greatestLoad_26 rfl ?_
  refine az_get C cX4 2 0 15 (v := .ref (ρ.1 115)) wl_X4_48 dX4_greatestLoad_27 rfl rfl rfl (by decide) ?_
  refine az_iload_n C 1 dX4_greatestLoad_30 rfl ?_
  refine az_ialdN C 2 15 k (v := m.1 15 k) dX4_greatestLoad_31 rfl rfl (by omega) (by decide) rfl ?_
  refine az_isub C dX4_greatestLoad_32 ?_
  refine az_aload_n C 0 dX4_greatestLoad_33 rfl ?_
  refine az_get C cX4 2 0 16 (v := .ref (ρ.1 116)) wl_X4_51 dX4_greatestLoad_34 rfl rfl rfl (by decide) ?_
  refine az_iload_n C 1 dX4_greatestLoad_37 rfl ?_
  refine az_ialdN C 2 16 k (v := m.1 16 k) dX4_greatestLoad_38 rfl rfl (by omega) (by decide) rfl ?_
  refine az_imul C dX4_greatestLoad_39 ?_
  refine az_aload_n C 0 dX4_greatestLoad_40 rfl ?_
  refine az_get C cX4 2 0 17 (v := .ref (ρ.1 117)) wl_X4_54 dX4_greatestLoad_41 rfl rfl rfl (by decide) ?_
  refine az_iload_n C 1 dX4_greatestLoad_44 rfl ?_
  refine az_ialdN C 2 17 k (v := m.1 17 k) dX4_greatestLoad_45 rfl rfl (by omega) (by decide) rfl ?_
  refine az_isub C dX4_greatestLoad_46 ?_
  refine az_istore_n C (lv' := [(2, .int (((((levM m r - 1) - m.1 15 k) * m.1 16 k) - m.1 17 k))), (0, .ref (ρ.1 100)), (1, .int (nI k))]) (j := 2) rfl dX4_greatestLoad_47 (by decide) rfl ?_
  refine az_aload_n C 1 dX4_greatestLoad_48 rfl ?_
  refine az_aload_n C 1 dX4_greatestLoad_49 rfl ?_
  refine az_iload_n C 2 dX4_greatestLoad_50 rfl ?_
  refine az_callV C Y_X4_floats cX4 2 0 [.int (nI k)] [.ref (ρ.1 100)] wm_X4_164 wi_X4_floats wse_X4_floats dX4_greatestLoad_51 rfl rfl rfl (Mfloats hG k r (by omega) hr6 ht hat ha) rfl (Nat.le_of_ble_eq_true rfl) (Nat.le_of_ble_eq_true rfl) (Nat.le_of_ble_eq_true rfl) (Nat.le_of_ble_eq_true rfl) (Nat.le_of_ble_eq_true rfl) (az_k1 rfl rfl ?_) (az_k0 rfl)
  refine az_top (1) hf ?_
  refine az_if_eq C 61 dX4_greatestLoad_54 (by decide) (fun q => absurd q (by decide)) (fun _ => ?_)
  refine az_iload_n C 0 dX4_greatestLoad_57 rfl ?_
  refine az_goto C 62 dX4_greatestLoad_58 (by decide) ?_
  refine az_callV C Y_X4_tells cX4 2 0 [.int (((((levM m r - 1) - m.1 15 k) * m.1 16 k) - m.1 17 k))] [] wm_X4_125 wi_X4_tells wse_X4_tells dX4_greatestLoad_62 rfl rfl rfl (Mtells hG (((((levM m r - 1) - m.1 15 k) * m.1 16 k) - m.1 17 k))) rfl (Nat.le_of_ble_eq_true rfl) (Nat.le_of_ble_eq_true rfl) (Nat.le_of_ble_eq_true rfl) (Nat.le_of_ble_eq_true rfl) (Nat.le_of_ble_eq_true rfl) (az_k1 rfl rfl ?_) (az_k0 rfl)
  exact az_iret C rfl dX4_greatestLoad_65 (Nat.le_of_ble_eq_true rfl) (Nat.le_of_ble_eq_true rfl) ⟨rfl, rfl, rfl⟩

set_option maxHeartbeats 4000000 in
set_option maxRecDepth 100000 in
theorem MgreatestLoad2 (hG : az_okS l G) (nb k : Nat) (hb : m.1 0 12 = nI nb) (hn : nb ≤ 8) (hk : k + 1 ≤ nb) (r : Nat) (hr6 : r < 6) (ht : ¬ m.1 16 k = 0) (hat : m.1 13 k = nI r) (ha : ¬ m.1 3 r = 0) (hf : floatsI m k r = 0) : az_M l G yX4_greatestLoad (az_ws yX4_greatestLoad cX4_greatestLoad 3 (Option.some FieldType.int)) 3 [.ref (ρ.1 100), .int (nI k)] (AD ρ) (KK G ρ x m ou) 0 0 (az_r (some (.int (0))) (AD ρ) (KK G ρ x (mI m 0 0 0) ou)) := by
  refine az_start hG.1 (by decide +kernel) (Nat.le_of_ble_eq_true rfl) ?_
  intro p e s mm args below meth c C hnm
  show az_W l G 3 _ p e _ s mm args below meth c _ _ 0 0 0 [(0, .ref (ρ.1 100)), (1, .int (nI k))] []
  refine az_aload_n C 0 dX4_greatestLoad_0 rfl ?_
  refine az_iload_n C 1 dX4_greatestLoad_1 rfl ?_
  refine az_callV C Y_X4_isBarge cX4 2 0 [.int (nI k)] [] wm_X4_161 wi_X4_isBarge wse_X4_isBarge dX4_greatestLoad_2 rfl rfl rfl (Mb1 hG nb k hb hn hk) rfl (Nat.le_of_ble_eq_true rfl) (Nat.le_of_ble_eq_true rfl) (Nat.le_of_ble_eq_true rfl) (Nat.le_of_ble_eq_true rfl) (Nat.le_of_ble_eq_true rfl) (az_k1 rfl rfl ?_) (az_k0 rfl)
  refine az_if_ne C 14 dX4_greatestLoad_5 (by decide) (fun _ => ?_) (fun q => absurd q (by decide))
  refine az_aload_n C 0 dX4_greatestLoad_14 rfl ?_
  refine az_aload_n C 0 dX4_greatestLoad_15 rfl ?_
  refine az_get C cX4 2 0 13 (v := .ref (ρ.1 113)) wl_X4_42 dX4_greatestLoad_16 rfl rfl rfl (by decide) ?_
  refine az_iload_n C 1 dX4_greatestLoad_19 rfl ?_
  refine az_ialdN C 2 13 k (v := m.1 13 k) dX4_greatestLoad_20 rfl rfl (by omega) (by decide) rfl ?_
  refine az_top (nI r) hat ?_
  refine az_callV C Y_X4_level cX4 2 0 [.int (nI r)] [] wm_X4_135 wi_X4_level wse_X4_level dX4_greatestLoad_21 rfl rfl rfl (Mlevel hG r hr6 ha) rfl (Nat.le_of_ble_eq_true rfl) (Nat.le_of_ble_eq_true rfl) (Nat.le_of_ble_eq_true rfl) (Nat.le_of_ble_eq_true rfl) (Nat.le_of_ble_eq_true rfl) (az_k1 rfl rfl ?_) (az_k0 rfl)
  refine az_iconst C (v := 1) dX4_greatestLoad_24 (by decide) ?_
  refine az_isub C dX4_greatestLoad_25 ?_
  refine az_aload_n C 0 dX4_greatestLoad_26 rfl ?_
  refine az_get C cX4 2 0 15 (v := .ref (ρ.1 115)) wl_X4_48 dX4_greatestLoad_27 rfl rfl rfl (by decide) ?_
  refine az_iload_n C 1 dX4_greatestLoad_30 rfl ?_
  refine az_ialdN C 2 15 k (v := m.1 15 k) dX4_greatestLoad_31 rfl rfl (by omega) (by decide) rfl ?_
  refine az_isub C dX4_greatestLoad_32 ?_
  refine az_aload_n C 0 dX4_greatestLoad_33 rfl ?_
  refine az_get C cX4 2 0 16 (v := .ref (ρ.1 116)) wl_X4_51 dX4_greatestLoad_34 rfl rfl rfl (by decide) ?_
  refine az_iload_n C 1 dX4_greatestLoad_37 rfl ?_
  refine az_ialdN C 2 16 k (v := m.1 16 k) dX4_greatestLoad_38 rfl rfl (by omega) (by decide) rfl ?_
  refine az_imul C dX4_greatestLoad_39 ?_
  refine az_aload_n C 0 dX4_greatestLoad_40 rfl ?_
  refine az_get C cX4 2 0 17 (v := .ref (ρ.1 117)) wl_X4_54 dX4_greatestLoad_41 rfl rfl rfl (by decide) ?_
  refine az_iload_n C 1 dX4_greatestLoad_44 rfl ?_
  refine az_ialdN C 2 17 k (v := m.1 17 k) dX4_greatestLoad_45 rfl rfl (by omega) (by decide) rfl ?_
  refine az_isub C dX4_greatestLoad_46 ?_
  refine az_istore_n C (lv' := [(2, .int (((((levM m r - 1) - m.1 15 k) * m.1 16 k) - m.1 17 k))), (0, .ref (ρ.1 100)), (1, .int (nI k))]) (j := 2) rfl dX4_greatestLoad_47 (by decide) rfl ?_
  refine az_aload_n C 1 dX4_greatestLoad_48 rfl ?_
  refine az_aload_n C 1 dX4_greatestLoad_49 rfl ?_
  refine az_iload_n C 2 dX4_greatestLoad_50 rfl ?_
  refine az_callV C Y_X4_floats cX4 2 0 [.int (nI k)] [.ref (ρ.1 100)] wm_X4_164 wi_X4_floats wse_X4_floats dX4_greatestLoad_51 rfl rfl rfl (Mfloats hG k r (by omega) hr6 ht hat ha) rfl (Nat.le_of_ble_eq_true rfl) (Nat.le_of_ble_eq_true rfl) (Nat.le_of_ble_eq_true rfl) (Nat.le_of_ble_eq_true rfl) (Nat.le_of_ble_eq_true rfl) (az_k1 rfl rfl ?_) (az_k0 rfl)
  refine az_top (0) hf ?_
  refine az_if_eq C 61 dX4_greatestLoad_54 (by decide) (fun _ => ?_) (fun q => absurd (by decide) q)
  refine az_iconst C (v := 0) dX4_greatestLoad_61 (by decide) ?_
  refine az_callV C Y_X4_tells cX4 2 0 [.int 0] [] wm_X4_125 wi_X4_tells wse_X4_tells dX4_greatestLoad_62 rfl rfl rfl (Mtells hG (0)) rfl (Nat.le_of_ble_eq_true rfl) (Nat.le_of_ble_eq_true rfl) (Nat.le_of_ble_eq_true rfl) (Nat.le_of_ble_eq_true rfl) (Nat.le_of_ble_eq_true rfl) (az_k1 rfl rfl ?_) (az_k0 rfl)
  exact az_iret C rfl dX4_greatestLoad_65 (Nat.le_of_ble_eq_true rfl) (Nat.le_of_ble_eq_true rfl) ⟨rfl, rfl, rfl⟩

set_option maxHeartbeats 4000000 in
set_option maxRecDepth 100000 in
theorem MgreatestLoad0 (hG : az_okS l G) (nb : Nat) (v : Int32) (hb : m.1 0 12 = nI nb) (hn : nb ≤ 8) (hv : oo nb v) : az_M l G yX4_greatestLoad (az_ws yX4_greatestLoad cX4_greatestLoad 3 (Option.some FieldType.int)) 3 [.ref (ρ.1 100), .int v] (AD ρ) (KK G ρ x m ou) 0 0 (az_r (some (.int 0)) (AD ρ) (KK G ρ x (mI m 0 0 1) ou)) := by
  refine az_start hG.1 (by decide +kernel) (Nat.le_of_ble_eq_true rfl) ?_
  intro p e s mm args below meth c C hnm
  show az_W l G 3 _ p e _ s mm args below meth c _ _ 0 0 0 [(0, .ref (ρ.1 100)), (1, .int v)] []
  refine az_aload_n C 0 dX4_greatestLoad_0 rfl ?_
  refine az_iload_n C 1 dX4_greatestLoad_1 rfl ?_
  refine az_callV C Y_X4_isBarge cX4 2 0 [.int v] [] wm_X4_161 wi_X4_isBarge wse_X4_isBarge dX4_greatestLoad_2 rfl rfl rfl (Mb0 hG nb v hb hn (by omega) hv) rfl (Nat.le_of_ble_eq_true rfl) (Nat.le_of_ble_eq_true rfl) (Nat.le_of_ble_eq_true rfl) (Nat.le_of_ble_eq_true rfl) (Nat.le_of_ble_eq_true rfl) (az_k1 rfl rfl ?_) (az_k0 rfl)
  refine az_if_ne C 14 dX4_greatestLoad_5 (by decide) (fun q => absurd (by decide) q) (fun _ => ?_)
  refine az_aload_n C 0 dX4_greatestLoad_8 rfl ?_
  refine az_iconst C (v := 1) dX4_greatestLoad_9 (by decide) ?_
  refine az_callV C Y_X4_fails cX4 2 0 [.int 1] [] wm_X4_121 wi_X4_fails wse_X4_fails dX4_greatestLoad_10 rfl rfl rfl (Mfails hG (1)) rfl (Nat.le_of_ble_eq_true rfl) (Nat.le_of_ble_eq_true rfl) (Nat.le_of_ble_eq_true rfl) (Nat.le_of_ble_eq_true rfl) (Nat.le_of_ble_eq_true rfl) (az_k1 rfl rfl ?_) (az_k0 rfl)
  exact az_iret C rfl dX4_greatestLoad_13 (Nat.le_of_ble_eq_true rfl) (Nat.le_of_ble_eq_true rfl) ⟨rfl, rfl, rfl⟩

set_option maxHeartbeats 4000000 in
set_option maxRecDepth 100000 in
theorem MworthIn1 (hG : az_okS l G) (nb k : Nat) (hb : m.1 0 12 = nI nb) (hn : nb ≤ 8) (hk : k + 1 ≤ nb) (nr : Nat) (hr : m.1 0 1 = nI nr) (hn6 : nr ≤ 6) (r : Nat) (hr1 : r + 1 ≤ nr) : az_M l G yX4_worthIn (az_ws yX4_worthIn cX4_worthIn 3 (Option.some FieldType.int)) 3 [.ref (ρ.1 100), .int (nI k), .int (nI r)] (AD ρ) (KK G ρ x m ou) 0 0 (az_r (some (.int (m.1 17 k * m.1 6 r))) (AD ρ) (KK G ρ x (mI m 0 0 0) ou)) := by
  refine az_start hG.1 (by decide +kernel) (Nat.le_of_ble_eq_true rfl) ?_
  intro p e s mm args below meth c C hnm
  show az_W l G 3 _ p e _ s mm args below meth c _ _ 0 0 0 [(0, .ref (ρ.1 100)), (1, .int (nI k)), (2, .int (nI r))] []
  refine az_aload_n C 0 dX4_worthIn_0 rfl ?_
  refine az_iload_n C 1 dX4_worthIn_1 rfl ?_
  refine az_callV C Y_X4_isBarge cX4 2 0 [.int (nI k)] [] wm_X4_161 wi_X4_isBarge wse_X4_isBarge dX4_worthIn_2 rfl rfl rfl (Mb1 hG nb k hb hn hk) rfl (Nat.le_of_ble_eq_true rfl) (Nat.le_of_ble_eq_true rfl) (Nat.le_of_ble_eq_true rfl) (Nat.le_of_ble_eq_true rfl) (Nat.le_of_ble_eq_true rfl) (az_k1 rfl rfl ?_) (az_k0 rfl)
  refine az_if_eq C 36 dX4_worthIn_5 (by decide) (fun q => absurd q (by decide)) (fun _ => ?_)
  refine az_aload_n C 0 dX4_worthIn_8 rfl ?_
  refine az_iload_n C 2 dX4_worthIn_9 rfl ?_
  refine az_callV C Y_X4_isReach cX4 2 0 [.int (nI r)] [] wm_X4_128 wi_X4_isReach wse_X4_isReach dX4_worthIn_10 rfl rfl rfl (Mr1 hG nr r hr hn6 (by omega)) rfl (Nat.le_of_ble_eq_true rfl) (Nat.le_of_ble_eq_true rfl) (Nat.le_of_ble_eq_true rfl) (Nat.le_of_ble_eq_true rfl) (Nat.le_of_ble_eq_true rfl) (az_k1 rfl rfl ?_) (az_k0 rfl)
  refine az_if_eq C 36 dX4_worthIn_13 (by decide) (fun q => absurd q (by decide)) (fun _ => ?_)
  refine az_aload_n C 0 dX4_worthIn_16 rfl ?_
  refine az_aload_n C 0 dX4_worthIn_17 rfl ?_
  refine az_get C cX4 2 0 17 (v := .ref (ρ.1 117)) wl_X4_54 dX4_worthIn_18 rfl rfl rfl (by decide) ?_
  refine az_iload_n C 1 dX4_worthIn_21 rfl ?_
  refine az_ialdN C 2 17 k (v := m.1 17 k) dX4_worthIn_22 rfl rfl (by omega) (by decide) rfl ?_
  refine az_aload_n C 0 dX4_worthIn_23 rfl ?_
  refine az_get C cX4 2 0 6 (v := .ref (ρ.1 106)) wl_X4_23 dX4_worthIn_24 rfl rfl rfl (by decide) ?_
  refine az_iload_n C 2 dX4_worthIn_27 rfl ?_
  refine az_ialdN C 2 6 r (v := m.1 6 r) dX4_worthIn_28 rfl rfl (by omega) (by decide) rfl ?_
  refine az_imul C dX4_worthIn_29 ?_
  refine az_callV C Y_X4_tells cX4 2 0 [.int ((m.1 17 k * m.1 6 r))] [] wm_X4_125 wi_X4_tells wse_X4_tells dX4_worthIn_30 rfl rfl rfl (Mtells hG ((m.1 17 k * m.1 6 r))) rfl (Nat.le_of_ble_eq_true rfl) (Nat.le_of_ble_eq_true rfl) (Nat.le_of_ble_eq_true rfl) (Nat.le_of_ble_eq_true rfl) (Nat.le_of_ble_eq_true rfl) (az_k1 rfl rfl ?_) (az_k0 rfl)
  refine az_goto C 41 dX4_worthIn_33 (by decide) ?_
  exact az_iret C rfl dX4_worthIn_41 (Nat.le_of_ble_eq_true rfl) (Nat.le_of_ble_eq_true rfl) ⟨rfl, rfl, rfl⟩

set_option maxHeartbeats 4000000 in
set_option maxRecDepth 100000 in
theorem MworthIn0 (hG : az_okS l G) (nb : Nat) (v u : Int32) (hb : m.1 0 12 = nI nb) (hn : nb ≤ 8) (hv : oo nb v) : az_M l G yX4_worthIn (az_ws yX4_worthIn cX4_worthIn 3 (Option.some FieldType.int)) 3 [.ref (ρ.1 100), .int v, .int u] (AD ρ) (KK G ρ x m ou) 0 0 (az_r (some (.int 0)) (AD ρ) (KK G ρ x (mI m 0 0 1) ou)) := by
  refine az_start hG.1 (by decide +kernel) (Nat.le_of_ble_eq_true rfl) ?_
  intro p e s mm args below meth c C hnm
  show az_W l G 3 _ p e _ s mm args below meth c _ _ 0 0 0 [(0, .ref (ρ.1 100)), (1, .int v), (2, .int u)] []
  refine az_aload_n C 0 dX4_worthIn_0 rfl ?_
  refine az_iload_n C 1 dX4_worthIn_1 rfl ?_
  refine az_callV C Y_X4_isBarge cX4 2 0 [.int v] [] wm_X4_161 wi_X4_isBarge wse_X4_isBarge dX4_worthIn_2 rfl rfl rfl (Mb0 hG nb v hb hn (by omega) hv) rfl (Nat.le_of_ble_eq_true rfl) (Nat.le_of_ble_eq_true rfl) (Nat.le_of_ble_eq_true rfl) (Nat.le_of_ble_eq_true rfl) (Nat.le_of_ble_eq_true rfl) (az_k1 rfl rfl ?_) (az_k0 rfl)
  refine az_if_eq C 36 dX4_worthIn_5 (by decide) (fun _ => ?_) (fun q => absurd (by decide) q)
  refine az_aload_n C 0 dX4_worthIn_36 rfl ?_
  refine az_iconst C (v := 1) dX4_worthIn_37 (by decide) ?_
  refine az_callV C Y_X4_fails cX4 2 0 [.int 1] [] wm_X4_121 wi_X4_fails wse_X4_fails dX4_worthIn_38 rfl rfl rfl (Mfails hG (1)) rfl (Nat.le_of_ble_eq_true rfl) (Nat.le_of_ble_eq_true rfl) (Nat.le_of_ble_eq_true rfl) (Nat.le_of_ble_eq_true rfl) (Nat.le_of_ble_eq_true rfl) (az_k1 rfl rfl ?_) (az_k0 rfl)
  exact az_iret C rfl dX4_worthIn_41 (Nat.le_of_ble_eq_true rfl) (Nat.le_of_ble_eq_true rfl) ⟨rfl, rfl, rfl⟩

set_option maxHeartbeats 4000000 in
set_option maxRecDepth 100000 in
theorem MworthIn00 (hG : az_okS l G) (nb k : Nat) (hb : m.1 0 12 = nI nb) (hn : nb ≤ 8) (hk : k + 1 ≤ nb) (nr : Nat) (hr : m.1 0 1 = nI nr) (hn6 : nr ≤ 6) (v : Int32) (hv : oo nr v) : az_M l G yX4_worthIn (az_ws yX4_worthIn cX4_worthIn 3 (Option.some FieldType.int)) 3 [.ref (ρ.1 100), .int (nI k), .int v] (AD ρ) (KK G ρ x m ou) 0 0 (az_r (some (.int 0)) (AD ρ) (KK G ρ x (mI m 0 0 1) ou)) := by
  refine az_start hG.1 (by decide +kernel) (Nat.le_of_ble_eq_true rfl) ?_
  intro p e s mm args below meth c C hnm
  show az_W l G 3 _ p e _ s mm args below meth c _ _ 0 0 0 [(0, .ref (ρ.1 100)), (1, .int (nI k)), (2, .int v)] []
  refine az_aload_n C 0 dX4_worthIn_0 rfl ?_
  refine az_iload_n C 1 dX4_worthIn_1 rfl ?_
  refine az_callV C Y_X4_isBarge cX4 2 0 [.int (nI k)] [] wm_X4_161 wi_X4_isBarge wse_X4_isBarge dX4_worthIn_2 rfl rfl rfl (Mb1 hG nb k hb hn hk) rfl (Nat.le_of_ble_eq_true rfl) (Nat.le_of_ble_eq_true rfl) (Nat.le_of_ble_eq_true rfl) (Nat.le_of_ble_eq_true rfl) (Nat.le_of_ble_eq_true rfl) (az_k1 rfl rfl ?_) (az_k0 rfl)
  refine az_if_eq C 36 dX4_worthIn_5 (by decide) (fun q => absurd q (by decide)) (fun _ => ?_)
  refine az_aload_n C 0 dX4_worthIn_8 rfl ?_
  refine az_iload_n C 2 dX4_worthIn_9 rfl ?_
  refine az_callV C Y_X4_isReach cX4 2 0 [.int v] [] wm_X4_128 wi_X4_isReach wse_X4_isReach dX4_worthIn_10 rfl rfl rfl (Mr0 hG nr v hr hn6 (by omega) hv) rfl (Nat.le_of_ble_eq_true rfl) (Nat.le_of_ble_eq_true rfl) (Nat.le_of_ble_eq_true rfl) (Nat.le_of_ble_eq_true rfl) (Nat.le_of_ble_eq_true rfl) (az_k1 rfl rfl ?_) (az_k0 rfl)
  refine az_if_eq C 36 dX4_worthIn_13 (by decide) (fun _ => ?_) (fun q => absurd (by decide) q)
  refine az_aload_n C 0 dX4_worthIn_36 rfl ?_
  refine az_iconst C (v := 1) dX4_worthIn_37 (by decide) ?_
  refine az_callV C Y_X4_fails cX4 2 0 [.int 1] [] wm_X4_121 wi_X4_fails wse_X4_fails dX4_worthIn_38 rfl rfl rfl (Mfails hG (1)) rfl (Nat.le_of_ble_eq_true rfl) (Nat.le_of_ble_eq_true rfl) (Nat.le_of_ble_eq_true rfl) (Nat.le_of_ble_eq_true rfl) (Nat.le_of_ble_eq_true rfl) (az_k1 rfl rfl ?_) (az_k0 rfl)
  exact az_iret C rfl dX4_worthIn_41 (Nat.le_of_ble_eq_true rfl) (Nat.le_of_ble_eq_true rfl) ⟨rfl, rfl, rfl⟩

set_option maxHeartbeats 4000000 in
set_option maxRecDepth 100000 in
theorem MrefusalReason0 (hG : az_okS l G) (h : m.1 0 30 = 0) : az_M l G yX4_refusalReason (az_ws yX4_refusalReason cX4_refusalReason 1 (Option.some FieldType.int)) 3 [.ref (ρ.1 100)] (AD ρ) (KK G ρ x m ou) 0 0 (az_r (some (.int 0)) (AD ρ) (KK G ρ x (mI m 0 0 1) ou)) := by
  refine az_start hG.1 (by decide +kernel) (Nat.le_of_ble_eq_true rfl) ?_
  intro p e s mm args below meth c C hnm
  show az_W l G 1 _ p e _ s mm args below meth c _ _ 0 0 0 [(0, .ref (ρ.1 100))] []
  refine az_aload_n C 0 dX4_refusalReason_0 rfl ?_
  refine az_get C cX4 2 0 30 (v := .int (m.1 0 30)) wl_X4_207 dX4_refusalReason_1 rfl rfl rfl (by decide) ?_
  refine az_top (0) h ?_
  refine az_if_ne C 15 dX4_refusalReason_4 (by decide) (fun q => absurd (by decide) q) (fun _ => ?_)
  refine az_aload_n C 0 dX4_refusalReason_7 rfl ?_
  refine az_iconst C (v := 1) dX4_refusalReason_8 (by decide) ?_
  refine az_callV C Y_X4_fails cX4 2 0 [.int 1] [] wm_X4_121 wi_X4_fails wse_X4_fails dX4_refusalReason_9 rfl rfl rfl (Mfails hG (1)) rfl (Nat.le_of_ble_eq_true rfl) (Nat.le_of_ble_eq_true rfl) (Nat.le_of_ble_eq_true rfl) (Nat.le_of_ble_eq_true rfl) (Nat.le_of_ble_eq_true rfl) (az_k1 rfl rfl ?_) (az_k0 rfl)
  refine az_goto C 23 dX4_refusalReason_12 (by decide) ?_
  exact az_iret C rfl dX4_refusalReason_23 (Nat.le_of_ble_eq_true rfl) (Nat.le_of_ble_eq_true rfl) ⟨rfl, rfl, rfl⟩

set_option maxHeartbeats 4000000 in
set_option maxRecDepth 100000 in
theorem MrefusalReason1 (hG : az_okS l G) (h : ¬ m.1 0 30 = 0) : az_M l G yX4_refusalReason (az_ws yX4_refusalReason cX4_refusalReason 1 (Option.some FieldType.int)) 3 [.ref (ρ.1 100)] (AD ρ) (KK G ρ x m ou) 0 0 (az_r (some (.int (m.1 0 30))) (AD ρ) (KK G ρ x (mI m 0 0 0) ou)) := by
  refine az_start hG.1 (by decide +kernel) (Nat.le_of_ble_eq_true rfl) ?_
  intro p e s mm args below meth c C hnm
  show az_W l G 1 _ p e _ s mm args below meth c _ _ 0 0 0 [(0, .ref (ρ.1 100))] []
  refine az_aload_n C 0 dX4_refusalReason_0 rfl ?_
  refine az_get C cX4 2 0 30 (v := .int (m.1 0 30)) wl_X4_207 dX4_refusalReason_1 rfl rfl rfl (by decide) ?_
  refine az_if_ne C 15 dX4_refusalReason_4 (by decide) (fun _ => ?_) (fun q => absurd q h)
  refine az_aload_n C 0 dX4_refusalReason_15 rfl ?_
  refine az_aload_n C 0 dX4_refusalReason_16 rfl ?_
  refine az_get C cX4 2 0 30 (v := .int (m.1 0 30)) wl_X4_207 dX4_refusalReason_17 rfl rfl rfl (by decide) ?_
  refine az_callV C Y_X4_tells cX4 2 0 [.int (m.1 0 30)] [] wm_X4_125 wi_X4_tells wse_X4_tells dX4_refusalReason_20 rfl rfl rfl (Mtells hG (m.1 0 30)) rfl (Nat.le_of_ble_eq_true rfl) (Nat.le_of_ble_eq_true rfl) (Nat.le_of_ble_eq_true rfl) (Nat.le_of_ble_eq_true rfl) (Nat.le_of_ble_eq_true rfl) (az_k1 rfl rfl ?_) (az_k0 rfl)
  exact az_iret C rfl dX4_refusalReason_23 (Nat.le_of_ble_eq_true rfl) (Nat.le_of_ble_eq_true rfl) ⟨rfl, rfl, rfl⟩

set_option maxHeartbeats 4000000 in
set_option maxRecDepth 100000 in
theorem MrefusalLock0 (hG : az_okS l G) (h : m.1 0 30 = 0) : az_M l G yX4_refusalLock (az_ws yX4_refusalLock cX4_refusalLock 1 (Option.some FieldType.int)) 3 [.ref (ρ.1 100)] (AD ρ) (KK G ρ x m ou) 0 0 (az_r (some (.int 0)) (AD ρ) (KK G ρ x (mI m 0 0 1) ou)) := by
  refine az_start hG.1 (by decide +kernel) (Nat.le_of_ble_eq_true rfl) ?_
  intro p e s mm args below meth c C hnm
  show az_W l G 1 _ p e _ s mm args below meth c _ _ 0 0 0 [(0, .ref (ρ.1 100))] []
  refine az_aload_n C 0 dX4_refusalLock_0 rfl ?_
  refine az_get C cX4 2 0 30 (v := .int (m.1 0 30)) wl_X4_207 dX4_refusalLock_1 rfl rfl rfl (by decide) ?_
  refine az_top (0) h ?_
  refine az_if_ne C 15 dX4_refusalLock_4 (by decide) (fun q => absurd (by decide) q) (fun _ => ?_)
  refine az_aload_n C 0 dX4_refusalLock_7 rfl ?_
  refine az_iconst C (v := 1) dX4_refusalLock_8 (by decide) ?_
  refine az_callV C Y_X4_fails cX4 2 0 [.int 1] [] wm_X4_121 wi_X4_fails wse_X4_fails dX4_refusalLock_9 rfl rfl rfl (Mfails hG (1)) rfl (Nat.le_of_ble_eq_true rfl) (Nat.le_of_ble_eq_true rfl) (Nat.le_of_ble_eq_true rfl) (Nat.le_of_ble_eq_true rfl) (Nat.le_of_ble_eq_true rfl) (az_k1 rfl rfl ?_) (az_k0 rfl)
  refine az_goto C 23 dX4_refusalLock_12 (by decide) ?_
  exact az_iret C rfl dX4_refusalLock_23 (Nat.le_of_ble_eq_true rfl) (Nat.le_of_ble_eq_true rfl) ⟨rfl, rfl, rfl⟩

set_option maxHeartbeats 4000000 in
set_option maxRecDepth 100000 in
theorem MrefusalLock1 (hG : az_okS l G) (h : ¬ m.1 0 30 = 0) : az_M l G yX4_refusalLock (az_ws yX4_refusalLock cX4_refusalLock 1 (Option.some FieldType.int)) 3 [.ref (ρ.1 100)] (AD ρ) (KK G ρ x m ou) 0 0 (az_r (some (.int (m.1 0 31))) (AD ρ) (KK G ρ x (mI m 0 0 0) ou)) := by
  refine az_start hG.1 (by decide +kernel) (Nat.le_of_ble_eq_true rfl) ?_
  intro p e s mm args below meth c C hnm
  show az_W l G 1 _ p e _ s mm args below meth c _ _ 0 0 0 [(0, .ref (ρ.1 100))] []
  refine az_aload_n C 0 dX4_refusalLock_0 rfl ?_
  refine az_get C cX4 2 0 30 (v := .int (m.1 0 30)) wl_X4_207 dX4_refusalLock_1 rfl rfl rfl (by decide) ?_
  refine az_if_ne C 15 dX4_refusalLock_4 (by decide) (fun _ => ?_) (fun q => absurd q h)
  refine az_aload_n C 0 dX4_refusalLock_15 rfl ?_
  refine az_aload_n C 0 dX4_refusalLock_16 rfl ?_
  refine az_get C cX4 2 0 31 (v := .int (m.1 0 31)) wl_X4_210 dX4_refusalLock_17 rfl rfl rfl (by decide) ?_
  refine az_callV C Y_X4_tells cX4 2 0 [.int (m.1 0 31)] [] wm_X4_125 wi_X4_tells wse_X4_tells dX4_refusalLock_20 rfl rfl rfl (Mtells hG (m.1 0 31)) rfl (Nat.le_of_ble_eq_true rfl) (Nat.le_of_ble_eq_true rfl) (Nat.le_of_ble_eq_true rfl) (Nat.le_of_ble_eq_true rfl) (Nat.le_of_ble_eq_true rfl) (az_k1 rfl rfl ?_) (az_k0 rfl)
  exact az_iret C rfl dX4_refusalLock_23 (Nat.le_of_ble_eq_true rfl) (Nat.le_of_ble_eq_true rfl) ⟨rfl, rfl, rfl⟩

set_option maxHeartbeats 4000000 in
set_option maxRecDepth 100000 in
theorem MmovementFrom1 (hG : az_okS l G) (mv k : Nat) (hmv : mv < 100000) (hm : m.1 0 24 = nI mv) (hk : k + 1 ≤ mv) : az_M l G yX4_movementFrom (az_ws yX4_movementFrom cX4_movementFrom 2 (Option.some FieldType.int)) 3 [.ref (ρ.1 100), .int (nI k)] (AD ρ) (KK G ρ x m ou) 0 0 (az_r (some (.int (m.1 25 k))) (AD ρ) (KK G ρ x (mI m 0 0 0) ou)) := by
  refine az_start hG.1 (by decide +kernel) (Nat.le_of_ble_eq_true rfl) ?_
  intro p e s mm args below meth c C hnm
  show az_W l G 2 _ p e _ s mm args below meth c _ _ 0 0 0 [(0, .ref (ρ.1 100)), (1, .int (nI k))] []
  refine az_iload_n C 1 dX4_movementFrom_0 rfl ?_
  refine az_iconst C (v := 0) dX4_movementFrom_1 (by decide) ?_
  refine az_aload_n C 0 dX4_movementFrom_2 rfl ?_
  refine az_get C cX4 2 0 24 (v := .int (m.1 0 24)) wl_X4_72 dX4_movementFrom_3 rfl rfl rfl (by decide) ?_
  refine az_top (nI mv) hm ?_
  refine az_iconst C (v := 1) dX4_movementFrom_6 (by decide) ?_
  refine az_isub C dX4_movementFrom_7 ?_
  refine az_callS C Y_X4_in [.int (nI k), .int 0, .int ((nI mv - 1))] [] wm_X4_104 wst_X4_in dX4_movementFrom_8 rfl (Min1 hG (nI k) 0 ((nI mv - 1)) (nI_pos' (by omega)) (hi_in hk (by omega))) rfl (Nat.le_of_ble_eq_true rfl) (Nat.le_of_ble_eq_true rfl) (Nat.le_of_ble_eq_true rfl) (Nat.le_of_ble_eq_true rfl) (Nat.le_of_ble_eq_true rfl) (az_k1 rfl rfl ?_) (az_k0 rfl)
  refine az_if_eq C 27 dX4_movementFrom_11 (by decide) (fun q => absurd q (by decide)) (fun _ => ?_)
  refine az_aload_n C 0 dX4_movementFrom_14 rfl ?_
  refine az_aload_n C 0 dX4_movementFrom_15 rfl ?_
  refine az_get C cX4 2 0 25 (v := .ref (ρ.1 125)) wl_X4_76 dX4_movementFrom_16 rfl rfl rfl (by decide) ?_
  refine az_iload_n C 1 dX4_movementFrom_19 rfl ?_
  refine az_ialdN C 2 25 k (v := m.1 25 k) dX4_movementFrom_20 rfl rfl (by omega) (by decide) rfl ?_
  refine az_callV C Y_X4_tells cX4 2 0 [.int (m.1 25 k)] [] wm_X4_125 wi_X4_tells wse_X4_tells dX4_movementFrom_21 rfl rfl rfl (Mtells hG (m.1 25 k)) rfl (Nat.le_of_ble_eq_true rfl) (Nat.le_of_ble_eq_true rfl) (Nat.le_of_ble_eq_true rfl) (Nat.le_of_ble_eq_true rfl) (Nat.le_of_ble_eq_true rfl) (az_k1 rfl rfl ?_) (az_k0 rfl)
  refine az_goto C 32 dX4_movementFrom_24 (by decide) ?_
  exact az_iret C rfl dX4_movementFrom_32 (Nat.le_of_ble_eq_true rfl) (Nat.le_of_ble_eq_true rfl) ⟨rfl, rfl, rfl⟩

set_option maxHeartbeats 4000000 in
set_option maxRecDepth 100000 in
theorem MmovementFrom0 (hG : az_okS l G) (mv : Nat) (v : Int32) (hmv : mv < 100000) (hm : m.1 0 24 = nI mv) (hv : oo mv v) : az_M l G yX4_movementFrom (az_ws yX4_movementFrom cX4_movementFrom 2 (Option.some FieldType.int)) 3 [.ref (ρ.1 100), .int v] (AD ρ) (KK G ρ x m ou) 0 0 (az_r (some (.int 0)) (AD ρ) (KK G ρ x (mI m 0 0 1) ou)) := by
  refine az_start hG.1 (by decide +kernel) (Nat.le_of_ble_eq_true rfl) ?_
  intro p e s mm args below meth c C hnm
  show az_W l G 2 _ p e _ s mm args below meth c _ _ 0 0 0 [(0, .ref (ρ.1 100)), (1, .int v)] []
  refine az_iload_n C 1 dX4_movementFrom_0 rfl ?_
  refine az_iconst C (v := 0) dX4_movementFrom_1 (by decide) ?_
  refine az_aload_n C 0 dX4_movementFrom_2 rfl ?_
  refine az_get C cX4 2 0 24 (v := .int (m.1 0 24)) wl_X4_72 dX4_movementFrom_3 rfl rfl rfl (by decide) ?_
  refine az_top (nI mv) hm ?_
  refine az_iconst C (v := 1) dX4_movementFrom_6 (by decide) ?_
  refine az_isub C dX4_movementFrom_7 ?_
  refine az_callS C Y_X4_in [.int v, .int 0, .int ((nI mv - 1))] [] wm_X4_104 wst_X4_in dX4_movementFrom_8 rfl (Min0 hG v 0 ((nI mv - 1)) (fun z => hi_out (n := mv) (c := 1) hv (by omega) (by omega) z)) rfl (Nat.le_of_ble_eq_true rfl) (Nat.le_of_ble_eq_true rfl) (Nat.le_of_ble_eq_true rfl) (Nat.le_of_ble_eq_true rfl) (Nat.le_of_ble_eq_true rfl) (az_k1 rfl rfl ?_) (az_k0 rfl)
  refine az_if_eq C 27 dX4_movementFrom_11 (by decide) (fun _ => ?_) (fun q => absurd (by decide) q)
  refine az_aload_n C 0 dX4_movementFrom_27 rfl ?_
  refine az_iconst C (v := 1) dX4_movementFrom_28 (by decide) ?_
  refine az_callV C Y_X4_fails cX4 2 0 [.int 1] [] wm_X4_121 wi_X4_fails wse_X4_fails dX4_movementFrom_29 rfl rfl rfl (Mfails hG (1)) rfl (Nat.le_of_ble_eq_true rfl) (Nat.le_of_ble_eq_true rfl) (Nat.le_of_ble_eq_true rfl) (Nat.le_of_ble_eq_true rfl) (Nat.le_of_ble_eq_true rfl) (az_k1 rfl rfl ?_) (az_k0 rfl)
  exact az_iret C rfl dX4_movementFrom_32 (Nat.le_of_ble_eq_true rfl) (Nat.le_of_ble_eq_true rfl) ⟨rfl, rfl, rfl⟩

set_option maxHeartbeats 4000000 in
set_option maxRecDepth 100000 in
theorem MmovementTo1 (hG : az_okS l G) (mv k : Nat) (hmv : mv < 100000) (hm : m.1 0 24 = nI mv) (hk : k + 1 ≤ mv) : az_M l G yX4_movementTo (az_ws yX4_movementTo cX4_movementTo 2 (Option.some FieldType.int)) 3 [.ref (ρ.1 100), .int (nI k)] (AD ρ) (KK G ρ x m ou) 0 0 (az_r (some (.int (m.1 26 k))) (AD ρ) (KK G ρ x (mI m 0 0 0) ou)) := by
  refine az_start hG.1 (by decide +kernel) (Nat.le_of_ble_eq_true rfl) ?_
  intro p e s mm args below meth c C hnm
  show az_W l G 2 _ p e _ s mm args below meth c _ _ 0 0 0 [(0, .ref (ρ.1 100)), (1, .int (nI k))] []
  refine az_iload_n C 1 dX4_movementTo_0 rfl ?_
  refine az_iconst C (v := 0) dX4_movementTo_1 (by decide) ?_
  refine az_aload_n C 0 dX4_movementTo_2 rfl ?_
  refine az_get C cX4 2 0 24 (v := .int (m.1 0 24)) wl_X4_72 dX4_movementTo_3 rfl rfl rfl (by decide) ?_
  refine az_top (nI mv) hm ?_
  refine az_iconst C (v := 1) dX4_movementTo_6 (by decide) ?_
  refine az_isub C dX4_movementTo_7 ?_
  refine az_callS C Y_X4_in [.int (nI k), .int 0, .int ((nI mv - 1))] [] wm_X4_104 wst_X4_in dX4_movementTo_8 rfl (Min1 hG (nI k) 0 ((nI mv - 1)) (nI_pos' (by omega)) (hi_in hk (by omega))) rfl (Nat.le_of_ble_eq_true rfl) (Nat.le_of_ble_eq_true rfl) (Nat.le_of_ble_eq_true rfl) (Nat.le_of_ble_eq_true rfl) (Nat.le_of_ble_eq_true rfl) (az_k1 rfl rfl ?_) (az_k0 rfl)
  refine az_if_eq C 27 dX4_movementTo_11 (by decide) (fun q => absurd q (by decide)) (fun _ => ?_)
  refine az_aload_n C 0 dX4_movementTo_14 rfl ?_
  refine az_aload_n C 0 dX4_movementTo_15 rfl ?_
  refine az_get C cX4 2 0 26 (v := .ref (ρ.1 126)) wl_X4_79 dX4_movementTo_16 rfl rfl rfl (by decide) ?_
  refine az_iload_n C 1 dX4_movementTo_19 rfl ?_
  refine az_ialdN C 2 26 k (v := m.1 26 k) dX4_movementTo_20 rfl rfl (by omega) (by decide) rfl ?_
  refine az_callV C Y_X4_tells cX4 2 0 [.int (m.1 26 k)] [] wm_X4_125 wi_X4_tells wse_X4_tells dX4_movementTo_21 rfl rfl rfl (Mtells hG (m.1 26 k)) rfl (Nat.le_of_ble_eq_true rfl) (Nat.le_of_ble_eq_true rfl) (Nat.le_of_ble_eq_true rfl) (Nat.le_of_ble_eq_true rfl) (Nat.le_of_ble_eq_true rfl) (az_k1 rfl rfl ?_) (az_k0 rfl)
  refine az_goto C 32 dX4_movementTo_24 (by decide) ?_
  exact az_iret C rfl dX4_movementTo_32 (Nat.le_of_ble_eq_true rfl) (Nat.le_of_ble_eq_true rfl) ⟨rfl, rfl, rfl⟩

set_option maxHeartbeats 4000000 in
set_option maxRecDepth 100000 in
theorem MmovementTo0 (hG : az_okS l G) (mv : Nat) (v : Int32) (hmv : mv < 100000) (hm : m.1 0 24 = nI mv) (hv : oo mv v) : az_M l G yX4_movementTo (az_ws yX4_movementTo cX4_movementTo 2 (Option.some FieldType.int)) 3 [.ref (ρ.1 100), .int v] (AD ρ) (KK G ρ x m ou) 0 0 (az_r (some (.int 0)) (AD ρ) (KK G ρ x (mI m 0 0 1) ou)) := by
  refine az_start hG.1 (by decide +kernel) (Nat.le_of_ble_eq_true rfl) ?_
  intro p e s mm args below meth c C hnm
  show az_W l G 2 _ p e _ s mm args below meth c _ _ 0 0 0 [(0, .ref (ρ.1 100)), (1, .int v)] []
  refine az_iload_n C 1 dX4_movementTo_0 rfl ?_
  refine az_iconst C (v := 0) dX4_movementTo_1 (by decide) ?_
  refine az_aload_n C 0 dX4_movementTo_2 rfl ?_
  refine az_get C cX4 2 0 24 (v := .int (m.1 0 24)) wl_X4_72 dX4_movementTo_3 rfl rfl rfl (by decide) ?_
  refine az_top (nI mv) hm ?_
  refine az_iconst C (v := 1) dX4_movementTo_6 (by decide) ?_
  refine az_isub C dX4_movementTo_7 ?_
  refine az_callS C Y_X4_in [.int v, .int 0, .int ((nI mv - 1))] [] wm_X4_104 wst_X4_in dX4_movementTo_8 rfl (Min0 hG v 0 ((nI mv - 1)) (fun z => hi_out (n := mv) (c := 1) hv (by omega) (by omega) z)) rfl (Nat.le_of_ble_eq_true rfl) (Nat.le_of_ble_eq_true rfl) (Nat.le_of_ble_eq_true rfl) (Nat.le_of_ble_eq_true rfl) (Nat.le_of_ble_eq_true rfl) (az_k1 rfl rfl ?_) (az_k0 rfl)
  refine az_if_eq C 27 dX4_movementTo_11 (by decide) (fun _ => ?_) (fun q => absurd (by decide) q)
  refine az_aload_n C 0 dX4_movementTo_27 rfl ?_
  refine az_iconst C (v := 1) dX4_movementTo_28 (by decide) ?_
  refine az_callV C Y_X4_fails cX4 2 0 [.int 1] [] wm_X4_121 wi_X4_fails wse_X4_fails dX4_movementTo_29 rfl rfl rfl (Mfails hG (1)) rfl (Nat.le_of_ble_eq_true rfl) (Nat.le_of_ble_eq_true rfl) (Nat.le_of_ble_eq_true rfl) (Nat.le_of_ble_eq_true rfl) (Nat.le_of_ble_eq_true rfl) (az_k1 rfl rfl ?_) (az_k0 rfl)
  exact az_iret C rfl dX4_movementTo_32 (Nat.le_of_ble_eq_true rfl) (Nat.le_of_ble_eq_true rfl) ⟨rfl, rfl, rfl⟩

set_option maxHeartbeats 4000000 in
set_option maxRecDepth 100000 in
theorem MmovementVolume1 (hG : az_okS l G) (mv k : Nat) (hmv : mv < 100000) (hm : m.1 0 24 = nI mv) (hk : k + 1 ≤ mv) : az_M l G yX4_movementVolume (az_ws yX4_movementVolume cX4_movementVolume 2 (Option.some FieldType.int)) 3 [.ref (ρ.1 100), .int (nI k)] (AD ρ) (KK G ρ x m ou) 0 0 (az_r (some (.int (m.1 27 k))) (AD ρ) (KK G ρ x (mI m 0 0 0) ou)) := by
  refine az_start hG.1 (by decide +kernel) (Nat.le_of_ble_eq_true rfl) ?_
  intro p e s mm args below meth c C hnm
  show az_W l G 2 _ p e _ s mm args below meth c _ _ 0 0 0 [(0, .ref (ρ.1 100)), (1, .int (nI k))] []
  refine az_iload_n C 1 dX4_movementVolume_0 rfl ?_
  refine az_iconst C (v := 0) dX4_movementVolume_1 (by decide) ?_
  refine az_aload_n C 0 dX4_movementVolume_2 rfl ?_
  refine az_get C cX4 2 0 24 (v := .int (m.1 0 24)) wl_X4_72 dX4_movementVolume_3 rfl rfl rfl (by decide) ?_
  refine az_top (nI mv) hm ?_
  refine az_iconst C (v := 1) dX4_movementVolume_6 (by decide) ?_
  refine az_isub C dX4_movementVolume_7 ?_
  refine az_callS C Y_X4_in [.int (nI k), .int 0, .int ((nI mv - 1))] [] wm_X4_104 wst_X4_in dX4_movementVolume_8 rfl (Min1 hG (nI k) 0 ((nI mv - 1)) (nI_pos' (by omega)) (hi_in hk (by omega))) rfl (Nat.le_of_ble_eq_true rfl) (Nat.le_of_ble_eq_true rfl) (Nat.le_of_ble_eq_true rfl) (Nat.le_of_ble_eq_true rfl) (Nat.le_of_ble_eq_true rfl) (az_k1 rfl rfl ?_) (az_k0 rfl)
  refine az_if_eq C 27 dX4_movementVolume_11 (by decide) (fun q => absurd q (by decide)) (fun _ => ?_)
  refine az_aload_n C 0 dX4_movementVolume_14 rfl ?_
  refine az_aload_n C 0 dX4_movementVolume_15 rfl ?_
  refine az_get C cX4 2 0 27 (v := .ref (ρ.1 127)) wl_X4_82 dX4_movementVolume_16 rfl rfl rfl (by decide) ?_
  refine az_iload_n C 1 dX4_movementVolume_19 rfl ?_
  refine az_ialdN C 2 27 k (v := m.1 27 k) dX4_movementVolume_20 rfl rfl (by omega) (by decide) rfl ?_
  refine az_callV C Y_X4_tells cX4 2 0 [.int (m.1 27 k)] [] wm_X4_125 wi_X4_tells wse_X4_tells dX4_movementVolume_21 rfl rfl rfl (Mtells hG (m.1 27 k)) rfl (Nat.le_of_ble_eq_true rfl) (Nat.le_of_ble_eq_true rfl) (Nat.le_of_ble_eq_true rfl) (Nat.le_of_ble_eq_true rfl) (Nat.le_of_ble_eq_true rfl) (az_k1 rfl rfl ?_) (az_k0 rfl)
  refine az_goto C 32 dX4_movementVolume_24 (by decide) ?_
  exact az_iret C rfl dX4_movementVolume_32 (Nat.le_of_ble_eq_true rfl) (Nat.le_of_ble_eq_true rfl) ⟨rfl, rfl, rfl⟩

set_option maxHeartbeats 4000000 in
set_option maxRecDepth 100000 in
theorem MmovementVolume0 (hG : az_okS l G) (mv : Nat) (v : Int32) (hmv : mv < 100000) (hm : m.1 0 24 = nI mv) (hv : oo mv v) : az_M l G yX4_movementVolume (az_ws yX4_movementVolume cX4_movementVolume 2 (Option.some FieldType.int)) 3 [.ref (ρ.1 100), .int v] (AD ρ) (KK G ρ x m ou) 0 0 (az_r (some (.int 0)) (AD ρ) (KK G ρ x (mI m 0 0 1) ou)) := by
  refine az_start hG.1 (by decide +kernel) (Nat.le_of_ble_eq_true rfl) ?_
  intro p e s mm args below meth c C hnm
  show az_W l G 2 _ p e _ s mm args below meth c _ _ 0 0 0 [(0, .ref (ρ.1 100)), (1, .int v)] []
  refine az_iload_n C 1 dX4_movementVolume_0 rfl ?_
  refine az_iconst C (v := 0) dX4_movementVolume_1 (by decide) ?_
  refine az_aload_n C 0 dX4_movementVolume_2 rfl ?_
  refine az_get C cX4 2 0 24 (v := .int (m.1 0 24)) wl_X4_72 dX4_movementVolume_3 rfl rfl rfl (by decide) ?_
  refine az_top (nI mv) hm ?_
  refine az_iconst C (v := 1) dX4_movementVolume_6 (by decide) ?_
  refine az_isub C dX4_movementVolume_7 ?_
  refine az_callS C Y_X4_in [.int v, .int 0, .int ((nI mv - 1))] [] wm_X4_104 wst_X4_in dX4_movementVolume_8 rfl (Min0 hG v 0 ((nI mv - 1)) (fun z => hi_out (n := mv) (c := 1) hv (by omega) (by omega) z)) rfl (Nat.le_of_ble_eq_true rfl) (Nat.le_of_ble_eq_true rfl) (Nat.le_of_ble_eq_true rfl) (Nat.le_of_ble_eq_true rfl) (Nat.le_of_ble_eq_true rfl) (az_k1 rfl rfl ?_) (az_k0 rfl)
  refine az_if_eq C 27 dX4_movementVolume_11 (by decide) (fun _ => ?_) (fun q => absurd (by decide) q)
  refine az_aload_n C 0 dX4_movementVolume_27 rfl ?_
  refine az_iconst C (v := 1) dX4_movementVolume_28 (by decide) ?_
  refine az_callV C Y_X4_fails cX4 2 0 [.int 1] [] wm_X4_121 wi_X4_fails wse_X4_fails dX4_movementVolume_29 rfl rfl rfl (Mfails hG (1)) rfl (Nat.le_of_ble_eq_true rfl) (Nat.le_of_ble_eq_true rfl) (Nat.le_of_ble_eq_true rfl) (Nat.le_of_ble_eq_true rfl) (Nat.le_of_ble_eq_true rfl) (az_k1 rfl rfl ?_) (az_k0 rfl)
  exact az_iret C rfl dX4_movementVolume_32 (Nat.le_of_ble_eq_true rfl) (Nat.le_of_ble_eq_true rfl) ⟨rfl, rfl, rfl⟩

def wrC (m : Ms) (n : Nat) (c : Int32) : Ms := mI (mI m 38 n (vp_nar .char c)) 0 39 (nI (n + 1))
def wrL : Ms → Nat → List Int32 → Ms
  | m, _, [] => m
  | m, n, c :: cs => wrL (wrC m n c) (n + 1) cs
theorem wrC_p {m : Ms} {n : Nat} {c : Int32} {p j : Nat} (h : p ≠ 38) (h0 : p ≠ 0) : (wrC m n c).1 p j = m.1 p j := by
  simp only [wrC, mI]
  rw [up2_p h0, up2_p h]
theorem wrC_0 {m : Ms} {n : Nat} {c : Int32} {j : Nat} (h : j ≠ 39) : (wrC m n c).1 0 j = m.1 0 j := by
  simp only [wrC, mI]
  rw [up2_k h, up2_p (by decide)]
theorem wrL_p {p j : Nat} (h : p ≠ 38) (h0 : p ≠ 0) : ∀ (cs : List Int32) (m : Ms) (n : Nat), (wrL m n cs).1 p j = m.1 p j
  | [], _, _ => rfl
  | c :: cs, m, n => by rw [wrL, wrL_p h h0 cs]; exact wrC_p h h0
theorem wrL_0 {j : Nat} (h : j ≠ 39) : ∀ (cs : List Int32) (m : Ms) (n : Nat), (wrL m n cs).1 0 j = m.1 0 j
  | [], _, _ => rfl
  | c :: cs, m, n => by rw [wrL, wrL_0 h cs]; exact wrC_0 h
theorem wrL_a : ∀ (cs ds : List Int32) (m : Ms) (n : Nat), wrL (wrL m n cs) (n + cs.length) ds = wrL m n (cs ++ ds)
  | [], _, _, _ => rfl
  | c :: cs, ds, m, n => by
    rw [wrL, List.cons_append, wrL, List.length_cons, ← wrL_a cs ds, Nat.add_assoc, Nat.add_comm 1]
theorem wrL_n : ∀ (cs : List Int32) (m : Ms) (n : Nat), m.1 0 39 = nI n → (wrL m n cs).1 0 39 = nI (n + cs.length)
  | [], _, _, h => h
  | c :: cs, m, n, _ => by
    rw [wrL, wrL_n cs (wrC m n c) (n + 1) rfl, List.length_cons, Nat.add_assoc, Nat.add_comm 1]
theorem MSuf_w {m m' : Ms} (h : ∀ b, m'.1 19 b = m.1 19 b) : ∀ {s : List Nat}, MSuf m s → MSuf m' s
  | [], _ => trivial
  | _ :: _, hs => ⟨hs.1, (h _).trans hs.2.1, MSuf_w h hs.2.2⟩
set_option maxHeartbeats 4000000 in
set_option maxRecDepth 100000 in
theorem Mwrites (hG : az_okS l G) (n : Nat) (hn : n < 40) (hl : m.1 0 39 = nI n) (u : Int32) : az_M l G yX4_writes (az_ws yX4_writes cX4_writes 2 (Option.none : Option FieldType)) 1 [.ref (ρ.1 100), .int u] (AD ρ) (KK G ρ x m ou) 0 0 (az_r none (AD ρ) (KK G ρ x (wrC m n u) ou)) := by
  refine az_start hG.1 (by decide +kernel) (Nat.le_of_ble_eq_true rfl) ?_
  intro p e s mm args below meth c C hnm
  show az_W l G 2 _ p e _ s mm args below meth c _ _ 0 0 0 [(0, .ref (ρ.1 100)), (1, .int u)] []
  refine az_aload_n C 0 dX4_writes_0 rfl ?_
  refine az_get C cX4 2 0 38 (v := .ref (ρ.1 138)) wl_X4_97 dX4_writes_1 rfl rfl rfl (by decide) ?_
  refine az_aload_n C 0 dX4_writes_4 rfl ?_
  refine az_get C cX4 2 0 39 (v := .int (m.1 0 39)) wl_X4_240 dX4_writes_5 rfl rfl rfl (by decide) ?_
  refine az_top (nI n) hl ?_
  refine az_iload_n C 1 dX4_writes_8 rfl ?_
  refine az_castN C 2 38 n dX4_writes_9 rfl rfl (by omega) (by decide) (az_to rfl (K' := (KK G ρ x (mI m 38 n (vp_nar .char u)) ou)) (KK_M rfl) ?_)
  refine az_aload_n C 0 dX4_writes_10 rfl ?_
  refine az_dup C dX4_writes_11 rfl ?_
  refine az_get C cX4 2 0 39 (v := .int (m.1 0 39)) wl_X4_240 dX4_writes_12 rfl rfl rfl (by decide) ?_
  refine az_top (nI n) hl ?_
  refine az_iconst C (v := 1) dX4_writes_15 (by decide) ?_
  refine az_iadd C dX4_writes_16 ?_
  refine az_top (nI (n + 1)) (nI_1 n) ?_
  refine az_put C cX4 2 0 39 wl_X4_240 dX4_writes_17 rfl rfl (by decide) (Nat.le_of_ble_eq_true rfl) rfl rfl rfl (az_to rfl (K' := (KK G ρ x (mI (mI m 38 n (vp_nar .char u)) 0 39 (nI (n + 1))) ou)) (KK_M rfl) ?_)
  exact az_vret C rfl dX4_writes_20 (Nat.le_of_ble_eq_true rfl) (Nat.le_of_ble_eq_true rfl) ⟨rfl, rfl, rfl⟩

/-- what a chain's rest writes -/
def chC : List Nat → List Int32
  | [] => []
  | d :: r => 43 :: (((48 + nI d).toUInt32 % 65536).toInt32) :: chC r
theorem chC_len : ∀ s : List Nat, (chC s).length = 2 * s.length
  | [] => rfl
  | _ :: r => by simp only [chC, List.length_cons, chC_len r]; omega
set_option maxHeartbeats 4000000 in
set_option maxRecDepth 100000 in
theorem Mchain_l (hG : az_okS l G) {p : Program} {e : Env} {s : State} {mm : MethodId} {args : Array Value} {below : List Frame} {meth : Method} {c : Code} (C : az_C l G p s mm args meth c cX4_writeReach yX4_writeReach.cls 4 (Option.some FieldType.int) []) {Qx : State → Prop}  : ∀ (k : Nat) (hk : k < 8) (v : Int32) (s9 : List Nat) (m : Ms) (n : Nat) (hs : MSuf m s9) (hne : ∀ d ∈ s9, d ≠ k) (hl : m.1 0 39 = nI n) (hn : n + 2 * s9.length ≤ 40),az_W l G 4 Qx p e (az_rm 3 0 0) s mm args below meth c (AD ρ) (KK G ρ x (wrL m n (chC s9)) ou) 0 0 169 [(2, .int (nI k)), (1, .int v), (0, .ref (ρ.1 100))] [] → az_W l G 4 Qx p e (az_rm 3 0 0) s mm args below meth c (AD ρ) (KK G ρ x m ou) 0 0 129 [(3, .int (hdI s9)), (2, .int (nI k)), (1, .int v), (0, .ref (ρ.1 100))] [] := by
  intro k hk v s9
  induction s9 with
  | nil =>
    intro m n hs hne hl hn hx
    refine az_iload_n C 0 dX4_writeReach_129 rfl ?_
    refine az_iconst C (v := (-1)) dX4_writeReach_130 (by decide) ?_
    refine az_icmp_eq C 169 dX4_writeReach_131 (by decide) (fun _ => ?_) (fun q => absurd (by decide) q)
    exact az_lv [1, 2, 3] rfl hx
  | cons d s9 ih =>
    intro m n hs hne hl hn hx
    have hd := hs.1
    rw [List.length_cons] at hn
    refine az_iload_n C 0 dX4_writeReach_129 rfl ?_
    refine az_iconst C (v := (-1)) dX4_writeReach_130 (by decide) ?_
    refine az_icmp_eq C 169 dX4_writeReach_131 (by decide) (fun q => absurd q (nI_m1 hd)) (fun _ => ?_)
    refine az_aload_n C 3 dX4_writeReach_134 rfl ?_
    refine az_iload_n C 0 dX4_writeReach_135 rfl ?_
    refine az_iload_n C 1 dX4_writeReach_136 rfl ?_
    refine az_icmp_ne C 145 dX4_writeReach_137 (by decide) (fun _ => ?_) (fun q => absurd q (show ¬ nI d = nI k from fun z => hne d List.mem_cons_self (by rw [nI_eq (by omega) (by omega)] at z; exact z)))
    refine az_bipush C (v := 43) dX4_writeReach_145 (by decide) ?_
    refine az_callV C Y_X4_writes cX4 2 0 [.int 43] [] wm_X4_243 wi_X4_writes wse_X4_writes dX4_writeReach_147 rfl rfl rfl (Mwrites hG n (by omega) hl (43)) rfl (Nat.le_of_ble_eq_true rfl) (Nat.le_of_ble_eq_true rfl) (Nat.le_of_ble_eq_true rfl) (Nat.le_of_ble_eq_true rfl) (Nat.le_of_ble_eq_true rfl) (az_k1 rfl rfl ?_) (az_k0 rfl)
    refine az_aload_n C 3 dX4_writeReach_150 rfl ?_
    refine az_bipush C (v := 48) dX4_writeReach_151 (by decide) ?_
    refine az_iload_n C 0 dX4_writeReach_153 rfl ?_
    refine az_iadd C dX4_writeReach_154 ?_
    refine az_i2c C dX4_writeReach_155 ?_
    refine az_callV C Y_X4_writes cX4 2 0 [.int ((((48 + nI d)).toUInt32 % 65536).toInt32)] [] wm_X4_243 wi_X4_writes wse_X4_writes dX4_writeReach_156 rfl rfl rfl (Mwrites hG (n + 1) (by omega) rfl ((((48 + nI d)).toUInt32 % 65536).toInt32)) rfl (Nat.le_of_ble_eq_true rfl) (Nat.le_of_ble_eq_true rfl) (Nat.le_of_ble_eq_true rfl) (Nat.le_of_ble_eq_true rfl) (Nat.le_of_ble_eq_true rfl) (az_k1 rfl rfl ?_) (az_k0 rfl)
    refine az_aload_n C 3 dX4_writeReach_159 rfl ?_
    refine az_get C cX4 2 0 19 (v := .ref (ρ.1 119)) wl_X4_60 dX4_writeReach_160 rfl rfl rfl (by decide) ?_
    refine az_iload_n C 0 dX4_writeReach_163 rfl ?_
    refine az_ialdN C 2 19 d (v := (wrC (wrC m n 43) (n + 1) ((((48 + nI d)).toUInt32 % 65536).toInt32)).1 19 d) dX4_writeReach_164 rfl rfl (by omega) (by decide) rfl ?_
    refine az_top (hdI s9) hs.2.1 ?_
    refine az_istore_n C (lv' := [(3, .int (hdI s9)), (2, .int (nI k)), (1, .int v), (0, .ref (ρ.1 100))]) (j := 3) rfl dX4_writeReach_165 (by decide) rfl ?_
    refine az_goto C 129 dX4_writeReach_166 (by decide) ?_
    exact az_lv [0, 1, 2, 3] rfl (ih _ (n + 2) (MSuf_w (fun b => (wrC_p (by decide) (by decide)).trans (wrC_p (by decide) (by decide))) hs.2.2) (fun b hb => hne b (List.mem_cons_of_mem _ hb)) rfl (by omega) hx)

/-- what one barge at the head of a convoy writes -/
def rowC (m : Ms) (v : Int32) (ch : Nat → List Nat) (k : Nat) : List Int32 := if m.1 13 k = v then (if m.1 18 k = (-1) then 32 :: (((48 + nI k).toUInt32 % 65536).toInt32) :: chC (ch k) else []) else []
def rowsC (m : Ms) (v : Int32) (ch : Nat → List Nat) : Nat → Nat → List Int32
  | 0, _ => []
  | j + 1, k => rowC m v ch k ++ rowsC m v ch j (k + 1)
theorem rowC_w {m m' : Ms} {v : Int32} {ch : Nat → List Nat} {k : Nat} (h13 : ∀ b, m'.1 13 b = m.1 13 b) (h18 : ∀ b, m'.1 18 b = m.1 18 b) : rowC m' v ch k = rowC m v ch k := by unfold rowC; rw [h13, h18]
theorem rowsC_w {m m' : Ms} {v : Int32} {ch : Nat → List Nat} (h13 : ∀ b, m'.1 13 b = m.1 13 b) (h18 : ∀ b, m'.1 18 b = m.1 18 b) : ∀ (j k : Nat), rowsC m' v ch j k = rowsC m v ch j k
  | 0, _ => rfl
  | j + 1, k => by rw [rowsC, rowsC, rowC_w h13 h18, rowsC_w h13 h18 j]
/-- the chains behind the heads at a reach -/
def MCh (m : Ms) (v : Int32) (nb : Nat) (ch : Nat → List Nat) : Prop := ∀ k, k < nb → m.1 13 k = v → m.1 18 k = (-1) → MSuf m (k :: ch k) ∧ ∀ d ∈ ch k, d ≠ k
theorem MCh_w {m m' : Ms} {v : Int32} {nb : Nat} {ch : Nat → List Nat} (h13 : ∀ b, m'.1 13 b = m.1 13 b) (h18 : ∀ b, m'.1 18 b = m.1 18 b) (h19 : ∀ b, m'.1 19 b = m.1 19 b) (h : MCh m v nb ch) : MCh m' v nb ch := fun k hk h1 h2 => ⟨MSuf_w h19 (h k hk ((h13 k).symm.trans h1) ((h18 k).symm.trans h2)).1, (h k hk ((h13 k).symm.trans h1) ((h18 k).symm.trans h2)).2⟩
set_option maxHeartbeats 4000000 in
set_option maxRecDepth 100000 in
theorem Mrows_l (hG : az_okS l G) {p : Program} {e : Env} {s : State} {mm : MethodId} {args : Array Value} {below : List Frame} {meth : Method} {c : Code} (C : az_C l G p s mm args meth c cX4_writeReach yX4_writeReach.cls 4 (Option.some FieldType.int) []) {Qx : State → Prop}  : ∀ (nb : Nat) (hnb : nb ≤ 8) (v : Int32) (ch : Nat → List Nat) (j : Nat) (m : Ms) (n k : Nat) (hk : k + j = nb) (hmb : m.1 0 12 = nI nb) (hl : m.1 0 39 = nI n) (hc : MCh m v nb ch) (hn : n + (rowsC m v ch j k).length ≤ 40),az_W l G 4 Qx p e (az_rm 3 0 0) s mm args below meth c (AD ρ) (KK G ρ x (wrL m n (rowsC m v ch j k)) ou) 0 0 175 [(1, .int v), (0, .ref (ρ.1 100))] [] → az_W l G 4 Qx p e (az_rm 3 0 0) s mm args below meth c (AD ρ) (KK G ρ x m ou) 0 0 96 [(2, .int (nI k)), (1, .int v), (0, .ref (ρ.1 100))] [] := by
  intro nb hnb v ch j
  induction j with
  | zero =>
    intro m n k hk hmb hl hc hn hx
    obtain rfl : k = nb := by omega
    refine az_iload_n C 0 dX4_writeReach_96 rfl ?_
    refine az_aload_n C 2 dX4_writeReach_97 rfl ?_
    refine az_get C cX4 2 0 12 (v := .int (m.1 0 12)) wl_X4_108 dX4_writeReach_98 rfl rfl rfl (by decide) ?_
    refine az_top (nI k) hmb ?_
    refine az_icmp_ge C 175 dX4_writeReach_101 (by decide) (fun _ => ?_) (fun q => absurd (Int32.le_refl _) q)
    exact az_lv [1, 2] rfl hx
  | succ j ih =>
    intro m n k hk hmb hl hc hn hx
    by_cases h13 : m.1 13 k = v
    · by_cases h18 : m.1 18 k = (-1)
      · have hs := hc k (by omega) h13 h18
        have hkk := hs.1.1
        have er : rowC m v ch k = 32 :: (((48 + nI k).toUInt32 % 65536).toInt32) :: chC (ch k) := by unfold rowC; rw [if_pos h13, if_pos h18]
        have hn2 := hn
        rw [rowsC, er, List.length_append, List.length_cons, List.length_cons, chC_len] at hn2
        refine az_iload_n C 0 dX4_writeReach_96 rfl ?_
        refine az_aload_n C 2 dX4_writeReach_97 rfl ?_
        refine az_get C cX4 2 0 12 (v := .int (m.1 0 12)) wl_X4_108 dX4_writeReach_98 rfl rfl rfl (by decide) ?_
        refine az_top (nI nb) hmb ?_
        refine az_icmp_ge C 175 dX4_writeReach_101 (by decide) (fun q => absurd q (nlt_nle (show k < nb by omega) (by omega))) (fun _ => ?_)
        refine az_aload_n C 2 dX4_writeReach_104 rfl ?_
        refine az_get C cX4 2 0 13 (v := .ref (ρ.1 113)) wl_X4_42 dX4_writeReach_105 rfl rfl rfl (by decide) ?_
        refine az_iload_n C 0 dX4_writeReach_108 rfl ?_
        refine az_ialdN C 2 13 k (v := m.1 13 k) dX4_writeReach_109 rfl rfl (by omega) (by decide) rfl ?_
        refine az_iload_n C 1 dX4_writeReach_110 rfl ?_
        refine az_icmp_ne C 169 dX4_writeReach_111 (by decide) (fun q => absurd h13 q) (fun _ => ?_)
        refine az_aload_n C 2 dX4_writeReach_114 rfl ?_
        refine az_get C cX4 2 0 18 (v := .ref (ρ.1 118)) wl_X4_57 dX4_writeReach_115 rfl rfl rfl (by decide) ?_
        refine az_iload_n C 0 dX4_writeReach_118 rfl ?_
        refine az_ialdN C 2 18 k (v := m.1 18 k) dX4_writeReach_119 rfl rfl (by omega) (by decide) rfl ?_
        refine az_top ((-1)) h18 ?_
        refine az_iconst C (v := (-1)) dX4_writeReach_120 (by decide) ?_
        refine az_icmp_eq C 127 dX4_writeReach_121 (by decide) (fun _ => ?_) (fun q => absurd (by decide) q)
        refine az_iload_n C 0 dX4_writeReach_127 rfl ?_
        refine az_istore_n C (lv' := [(3, .int (nI k)), (2, .int (nI k)), (1, .int v), (0, .ref (ρ.1 100))]) (j := 3) rfl dX4_writeReach_128 (by decide) rfl ?_
        refine az_iload_n C 0 dX4_writeReach_129 rfl ?_
        refine az_iconst C (v := (-1)) dX4_writeReach_130 (by decide) ?_
        refine az_icmp_eq C 169 dX4_writeReach_131 (by decide) (fun q => absurd q (nI_m1 hkk)) (fun _ => ?_)
        refine az_aload_n C 3 dX4_writeReach_134 rfl ?_
        refine az_iload_n C 0 dX4_writeReach_135 rfl ?_
        refine az_iload_n C 1 dX4_writeReach_136 rfl ?_
        refine az_icmp_ne C 145 dX4_writeReach_137 (by decide) (fun q => absurd rfl q) (fun _ => ?_)
        refine az_bipush C (v := 32) dX4_writeReach_140 (by decide) ?_
        refine az_goto C 147 dX4_writeReach_142 (by decide) ?_
        refine az_callV C Y_X4_writes cX4 2 0 [.int 32] [] wm_X4_243 wi_X4_writes wse_X4_writes dX4_writeReach_147 rfl rfl rfl (Mwrites hG n (by omega) hl (32)) rfl (Nat.le_of_ble_eq_true rfl) (Nat.le_of_ble_eq_true rfl) (Nat.le_of_ble_eq_true rfl) (Nat.le_of_ble_eq_true rfl) (Nat.le_of_ble_eq_true rfl) (az_k1 rfl rfl ?_) (az_k0 rfl)
        refine az_aload_n C 3 dX4_writeReach_150 rfl ?_
        refine az_bipush C (v := 48) dX4_writeReach_151 (by decide) ?_
        refine az_iload_n C 0 dX4_writeReach_153 rfl ?_
        refine az_iadd C dX4_writeReach_154 ?_
        refine az_i2c C dX4_writeReach_155 ?_
        refine az_callV C Y_X4_writes cX4 2 0 [.int ((((48 + nI k)).toUInt32 % 65536).toInt32)] [] wm_X4_243 wi_X4_writes wse_X4_writes dX4_writeReach_156 rfl rfl rfl (Mwrites hG (n + 1) (by omega) rfl ((((48 + nI k)).toUInt32 % 65536).toInt32)) rfl (Nat.le_of_ble_eq_true rfl) (Nat.le_of_ble_eq_true rfl) (Nat.le_of_ble_eq_true rfl) (Nat.le_of_ble_eq_true rfl) (Nat.le_of_ble_eq_true rfl) (az_k1 rfl rfl ?_) (az_k0 rfl)
        refine az_aload_n C 3 dX4_writeReach_159 rfl ?_
        refine az_get C cX4 2 0 19 (v := .ref (ρ.1 119)) wl_X4_60 dX4_writeReach_160 rfl rfl rfl (by decide) ?_
        refine az_iload_n C 0 dX4_writeReach_163 rfl ?_
        refine az_ialdN C 2 19 k (v := (wrC (wrC m n 32) (n + 1) ((((48 + nI k)).toUInt32 % 65536).toInt32)).1 19 k) dX4_writeReach_164 rfl rfl (by omega) (by decide) rfl ?_
        refine az_top (hdI (ch k)) hs.1.2.1 ?_
        refine az_istore_n C (lv' := [(3, .int (hdI (ch k))), (2, .int (nI k)), (1, .int v), (0, .ref (ρ.1 100))]) (j := 3) rfl dX4_writeReach_165 (by decide) rfl ?_
        refine az_goto C 129 dX4_writeReach_166 (by decide) ?_
        refine az_lv [0, 1, 2, 3] rfl (Mchain_l hG C k hkk v (ch k) (wrC (wrC m n 32) (n + 1) ((((48 + nI k)).toUInt32 % 65536).toInt32)) (n + 2) (MSuf_w (fun b => (wrC_p (by decide) (by decide)).trans (wrC_p (by decide) (by decide))) hs.1.2.2) hs.2 rfl (by omega) ?_)
        refine az_iinc C 0 (v := nI (k + 1)) (lv' := [(2, .int (nI (k + 1))), (1, .int v), (0, .ref (ρ.1 100))]) dX4_writeReach_169 rfl (nI_1 k) (by decide) rfl ?_
        refine az_goto C 96 dX4_writeReach_172 (by decide) ?_
        rw [rowsC, ← wrL_a, er] at hx
        rw [rowsC, List.length_append] at hn
        have q13 : ∀ b, (wrL m n (32 :: (((48 + nI k).toUInt32 % 65536).toInt32) :: chC (ch k))).1 13 b = m.1 13 b := fun b => wrL_p (by decide) (by decide) _ _ _
        have q18 : ∀ b, (wrL m n (32 :: (((48 + nI k).toUInt32 % 65536).toInt32) :: chC (ch k))).1 18 b = m.1 18 b := fun b => wrL_p (by decide) (by decide) _ _ _
        have q19 : ∀ b, (wrL m n (32 :: (((48 + nI k).toUInt32 % 65536).toInt32) :: chC (ch k))).1 19 b = m.1 19 b := fun b => wrL_p (by decide) (by decide) _ _ _
        rw [← rowsC_w q13 q18] at hx
        exact az_lv [0, 1, 2] rfl (ih (wrL m n (32 :: (((48 + nI k).toUInt32 % 65536).toInt32) :: chC (ch k))) (n + (32 :: (((48 + nI k).toUInt32 % 65536).toInt32) :: chC (ch k)).length) (k + 1) (by omega) ((wrL_0 (by decide) _ _ _).trans hmb) (wrL_n _ _ _ hl) (MCh_w q13 q18 q19 hc) (by rw [rowsC_w q13 q18, ← er]; omega) hx)
      · have er : rowC m v ch k = [] := by unfold rowC; rw [if_pos h13, if_neg h18]
        refine az_iload_n C 0 dX4_writeReach_96 rfl ?_
        refine az_aload_n C 2 dX4_writeReach_97 rfl ?_
        refine az_get C cX4 2 0 12 (v := .int (m.1 0 12)) wl_X4_108 dX4_writeReach_98 rfl rfl rfl (by decide) ?_
        refine az_top (nI nb) hmb ?_
        refine az_icmp_ge C 175 dX4_writeReach_101 (by decide) (fun q => absurd q (nlt_nle (show k < nb by omega) (by omega))) (fun _ => ?_)
        refine az_aload_n C 2 dX4_writeReach_104 rfl ?_
        refine az_get C cX4 2 0 13 (v := .ref (ρ.1 113)) wl_X4_42 dX4_writeReach_105 rfl rfl rfl (by decide) ?_
        refine az_iload_n C 0 dX4_writeReach_108 rfl ?_
        refine az_ialdN C 2 13 k (v := m.1 13 k) dX4_writeReach_109 rfl rfl (by omega) (by decide) rfl ?_
        refine az_iload_n C 1 dX4_writeReach_110 rfl ?_
        refine az_icmp_ne C 169 dX4_writeReach_111 (by decide) (fun q => absurd h13 q) (fun _ => ?_)
        refine az_aload_n C 2 dX4_writeReach_114 rfl ?_
        refine az_get C cX4 2 0 18 (v := .ref (ρ.1 118)) wl_X4_57 dX4_writeReach_115 rfl rfl rfl (by decide) ?_
        refine az_iload_n C 0 dX4_writeReach_118 rfl ?_
        refine az_ialdN C 2 18 k (v := m.1 18 k) dX4_writeReach_119 rfl rfl (by omega) (by decide) rfl ?_
        refine az_iconst C (v := (-1)) dX4_writeReach_120 (by decide) ?_
        refine az_icmp_eq C 127 dX4_writeReach_121 (by decide) (fun q => absurd q h18) (fun _ => ?_)
        refine az_goto C 169 dX4_writeReach_124 (by decide) ?_
        refine az_iinc C 0 (v := nI (k + 1)) (lv' := [(2, .int (nI (k + 1))), (1, .int v), (0, .ref (ρ.1 100))]) dX4_writeReach_169 rfl (nI_1 k) (by decide) rfl ?_
        refine az_goto C 96 dX4_writeReach_172 (by decide) ?_
        rw [rowsC, er, List.nil_append] at hn hx
        exact az_lv [0, 1, 2] rfl (ih m n (k + 1) (by omega) hmb hl hc hn hx)
    · have er : rowC m v ch k = [] := by unfold rowC; rw [if_neg h13]
      refine az_iload_n C 0 dX4_writeReach_96 rfl ?_
      refine az_aload_n C 2 dX4_writeReach_97 rfl ?_
      refine az_get C cX4 2 0 12 (v := .int (m.1 0 12)) wl_X4_108 dX4_writeReach_98 rfl rfl rfl (by decide) ?_
      refine az_top (nI nb) hmb ?_
      refine az_icmp_ge C 175 dX4_writeReach_101 (by decide) (fun q => absurd q (nlt_nle (show k < nb by omega) (by omega))) (fun _ => ?_)
      refine az_aload_n C 2 dX4_writeReach_104 rfl ?_
      refine az_get C cX4 2 0 13 (v := .ref (ρ.1 113)) wl_X4_42 dX4_writeReach_105 rfl rfl rfl (by decide) ?_
      refine az_iload_n C 0 dX4_writeReach_108 rfl ?_
      refine az_ialdN C 2 13 k (v := m.1 13 k) dX4_writeReach_109 rfl rfl (by omega) (by decide) rfl ?_
      refine az_iload_n C 1 dX4_writeReach_110 rfl ?_
      refine az_icmp_ne C 169 dX4_writeReach_111 (by decide) (fun _ => ?_) (fun q => absurd q h13)
      refine az_iinc C 0 (v := nI (k + 1)) (lv' := [(2, .int (nI (k + 1))), (1, .int v), (0, .ref (ρ.1 100))]) dX4_writeReach_169 rfl (nI_1 k) (by decide) rfl ?_
      refine az_goto C 96 dX4_writeReach_172 (by decide) ?_
      rw [rowsC, er, List.nil_append] at hn hx
      exact az_lv [0, 1, 2] rfl (ih m n (k + 1) (by omega) hmb hl hc hn hx)

/-- what stands ahead of the barges: the reach and its level -/
def headC (k : Nat) (v : Int32) : List Int32 := (((48 + nI k).toUInt32 % 65536).toInt32) :: 58 :: 32 :: (if v ≤ 9 then [((48 + (v - v / 10 * 10)).toUInt32 % 65536).toInt32, 100, 109] else [((48 + v / 10).toUInt32 % 65536).toInt32, ((48 + (v - v / 10 * 10)).toUInt32 % 65536).toInt32, 100, 109])
def lineM (m : Ms) (k nb : Nat) (ch : Nat → List Nat) : List Int32 := headC k (levM m k) ++ rowsC m (nI k) ch nb 0
def writeM (m : Ms) (k nb : Nat) (ch : Nat → List Nat) : Ms := wrL (mI m 0 39 0) 0 (lineM m k nb ch)
theorem headC_w {m : Ms} {k : Nat} {v : Int32} {nb : Nat} {ch : Nat → List Nat} : writeM m k nb ch = wrL (wrL (mI m 0 39 0) 0 (headC k (levM m k))) (0 + (headC k (levM m k)).length) (rowsC (wrL (mI m 0 39 0) 0 (headC k (levM m k))) (nI k) ch nb 0) := by
  rw [writeM, lineM, ← wrL_a, rowsC_w (m := m) (m' := wrL (mI m 0 39 0) 0 (headC k (levM m k))) (fun b => wrL_p (by decide) (by decide) _ _ _) (fun b => wrL_p (by decide) (by decide) _ _ _)]
set_option maxHeartbeats 4000000 in
set_option maxRecDepth 100000 in
theorem MwriteReach1 (hG : az_okS l G) (nr k : Nat) (hr : m.1 0 1 = nI nr) (hn : nr ≤ 6) (hk : k + 1 ≤ nr) (ha : ¬ m.1 3 k = 0) (nb : Nat) (hb : m.1 0 12 = nI nb) (hnb : nb ≤ 8) (ch : Nat → List Nat) (hch : MCh m (nI k) nb ch) (hlen : (lineM m k nb ch).length ≤ 40) (hv : levM m k ≤ 9) : az_M l G yX4_writeReach (az_ws yX4_writeReach cX4_writeReach 4 (Option.some FieldType.int)) 3 [.ref (ρ.1 100), .int (nI k)] (AD ρ) (KK G ρ x m ou) 0 0 (az_r (some (.int (nI (lineM m k nb ch).length))) (AD ρ) (KK G ρ x (mI (writeM m k nb ch) 0 0 0) ou)) := by
  refine az_start hG.1 (by decide +kernel) (Nat.le_of_ble_eq_true rfl) ?_
  intro p e s mm args below meth c C hnm
  show az_W l G 4 _ p e _ s mm args below meth c _ _ 0 0 0 [(0, .ref (ρ.1 100)), (1, .int (nI k))] []
  have eh : (headC k (levM m k)).length = 6 := by unfold headC; rw [if_pos hv]; rfl
  have eH := headC.eq_1 k (levM m k)
  rw [if_pos hv] at eH
  refine az_aload_n C 0 dX4_writeReach_0 rfl ?_
  refine az_iload_n C 1 dX4_writeReach_1 rfl ?_
  refine az_callV C Y_X4_isReach cX4 2 0 [.int (nI k)] [] wm_X4_128 wi_X4_isReach wse_X4_isReach dX4_writeReach_2 rfl rfl rfl (Mr1 hG nr k hr hn hk) rfl (Nat.le_of_ble_eq_true rfl) (Nat.le_of_ble_eq_true rfl) (Nat.le_of_ble_eq_true rfl) (Nat.le_of_ble_eq_true rfl) (Nat.le_of_ble_eq_true rfl) (az_k1 rfl rfl ?_) (az_k0 rfl)
  refine az_if_ne C 14 dX4_writeReach_5 (by decide) (fun _ => ?_) (fun q => absurd q (by decide))
  refine az_aload_n C 0 dX4_writeReach_14 rfl ?_
  refine az_iconst C (v := 0) dX4_writeReach_15 (by decide) ?_
  refine az_put C cX4 2 0 39 wl_X4_240 dX4_writeReach_16 rfl rfl (by decide) (Nat.le_of_ble_eq_true rfl) rfl rfl rfl (az_to rfl (K' := (KK G ρ x (mI m 0 39 0) ou)) (KK_M rfl) ?_)
  refine az_aload_n C 0 dX4_writeReach_19 rfl ?_
  refine az_bipush C (v := 48) dX4_writeReach_20 (by decide) ?_
  refine az_iload_n C 1 dX4_writeReach_22 rfl ?_
  refine az_iadd C dX4_writeReach_23 ?_
  refine az_i2c C dX4_writeReach_24 ?_
  refine az_callV C Y_X4_writes cX4 2 0 [.int ((((48 + nI k)).toUInt32 % 65536).toInt32)] [] wm_X4_243 wi_X4_writes wse_X4_writes dX4_writeReach_25 rfl rfl rfl (Mwrites hG 0 (by decide) rfl ((((48 + nI k)).toUInt32 % 65536).toInt32)) rfl (Nat.le_of_ble_eq_true rfl) (Nat.le_of_ble_eq_true rfl) (Nat.le_of_ble_eq_true rfl) (Nat.le_of_ble_eq_true rfl) (Nat.le_of_ble_eq_true rfl) (az_k1 rfl rfl ?_) (az_k0 rfl)
  refine az_aload_n C 0 dX4_writeReach_28 rfl ?_
  refine az_bipush C (v := 58) dX4_writeReach_29 (by decide) ?_
  refine az_callV C Y_X4_writes cX4 2 0 [.int 58] [] wm_X4_243 wi_X4_writes wse_X4_writes dX4_writeReach_31 rfl rfl rfl (Mwrites hG 1 (by decide) rfl (58)) rfl (Nat.le_of_ble_eq_true rfl) (Nat.le_of_ble_eq_true rfl) (Nat.le_of_ble_eq_true rfl) (Nat.le_of_ble_eq_true rfl) (Nat.le_of_ble_eq_true rfl) (az_k1 rfl rfl ?_) (az_k0 rfl)
  refine az_aload_n C 0 dX4_writeReach_34 rfl ?_
  refine az_bipush C (v := 32) dX4_writeReach_35 (by decide) ?_
  refine az_callV C Y_X4_writes cX4 2 0 [.int 32] [] wm_X4_243 wi_X4_writes wse_X4_writes dX4_writeReach_37 rfl rfl rfl (Mwrites hG 2 (by decide) rfl (32)) rfl (Nat.le_of_ble_eq_true rfl) (Nat.le_of_ble_eq_true rfl) (Nat.le_of_ble_eq_true rfl) (Nat.le_of_ble_eq_true rfl) (Nat.le_of_ble_eq_true rfl) (az_k1 rfl rfl ?_) (az_k0 rfl)
  refine az_aload_n C 0 dX4_writeReach_40 rfl ?_
  refine az_iload_n C 1 dX4_writeReach_41 rfl ?_
  refine az_callV C Y_X4_level cX4 2 0 [.int (nI k)] [] wm_X4_135 wi_X4_level wse_X4_level dX4_writeReach_42 rfl rfl rfl (Mlevel hG k (by omega) ha) rfl (Nat.le_of_ble_eq_true rfl) (Nat.le_of_ble_eq_true rfl) (Nat.le_of_ble_eq_true rfl) (Nat.le_of_ble_eq_true rfl) (Nat.le_of_ble_eq_true rfl) (az_k1 rfl rfl ?_) (az_k0 rfl)
  refine az_bipush C (v := 9) dX4_writeReach_45 (by decide) ?_
  refine az_icmp_le C 66 dX4_writeReach_47 (by decide) (fun _ => ?_) (fun q => absurd hv q)
  refine az_aload_n C 0 dX4_writeReach_66 rfl ?_
  refine az_bipush C (v := 48) dX4_writeReach_67 (by decide) ?_
  refine az_aload_n C 0 dX4_writeReach_69 rfl ?_
  refine az_iload_n C 1 dX4_writeReach_70 rfl ?_
  refine az_callV C Y_X4_level cX4 2 0 [.int (nI k)] [.int 48, .ref (ρ.1 100)] wm_X4_135 wi_X4_level wse_X4_level dX4_writeReach_71 rfl rfl rfl (Mlevel hG k (by omega) ha) rfl (Nat.le_of_ble_eq_true rfl) (Nat.le_of_ble_eq_true rfl) (Nat.le_of_ble_eq_true rfl) (Nat.le_of_ble_eq_true rfl) (Nat.le_of_ble_eq_true rfl) (az_k1 rfl rfl ?_) (az_k0 rfl)
  refine az_bipush C (v := 10) dX4_writeReach_74 (by decide) ?_
  refine az_irem C dX4_writeReach_76 (by decide) ?_
  refine az_iadd C dX4_writeReach_77 ?_
  refine az_i2c C dX4_writeReach_78 ?_
  refine az_callV C Y_X4_writes cX4 2 0 [.int ((((48 + (levM m k - levM m k / 10 * 10))).toUInt32 % 65536).toInt32)] [] wm_X4_243 wi_X4_writes wse_X4_writes dX4_writeReach_79 rfl rfl rfl (Mwrites hG 3 (by decide) rfl ((((48 + (levM m k - levM m k / 10 * 10))).toUInt32 % 65536).toInt32)) rfl (Nat.le_of_ble_eq_true rfl) (Nat.le_of_ble_eq_true rfl) (Nat.le_of_ble_eq_true rfl) (Nat.le_of_ble_eq_true rfl) (Nat.le_of_ble_eq_true rfl) (az_k1 rfl rfl ?_) (az_k0 rfl)
  refine az_aload_n C 0 dX4_writeReach_82 rfl ?_
  refine az_bipush C (v := 100) dX4_writeReach_83 (by decide) ?_
  refine az_callV C Y_X4_writes cX4 2 0 [.int 100] [] wm_X4_243 wi_X4_writes wse_X4_writes dX4_writeReach_85 rfl rfl rfl (Mwrites hG 4 (by decide) rfl (100)) rfl (Nat.le_of_ble_eq_true rfl) (Nat.le_of_ble_eq_true rfl) (Nat.le_of_ble_eq_true rfl) (Nat.le_of_ble_eq_true rfl) (Nat.le_of_ble_eq_true rfl) (az_k1 rfl rfl ?_) (az_k0 rfl)
  refine az_aload_n C 0 dX4_writeReach_88 rfl ?_
  refine az_bipush C (v := 109) dX4_writeReach_89 (by decide) ?_
  refine az_callV C Y_X4_writes cX4 2 0 [.int 109] [] wm_X4_243 wi_X4_writes wse_X4_writes dX4_writeReach_91 rfl rfl rfl (Mwrites hG 5 (by decide) rfl (109)) rfl (Nat.le_of_ble_eq_true rfl) (Nat.le_of_ble_eq_true rfl) (Nat.le_of_ble_eq_true rfl) (Nat.le_of_ble_eq_true rfl) (Nat.le_of_ble_eq_true rfl) (az_k1 rfl rfl ?_) (az_k0 rfl)
  refine az_iconst C (v := 0) dX4_writeReach_94 (by decide) ?_
  refine az_istore_n C (lv' := [(2, .int 0), (0, .ref (ρ.1 100)), (1, .int (nI k))]) (j := 2) rfl dX4_writeReach_95 (by decide) rfl ?_
  refine az_to (K' := KK G ρ x (wrL (mI m 0 39 0) 0 (headC k (levM m k))) ou) rfl (by rw [eH]; rfl) ?_
  refine az_lv [0, 2, 1] rfl (Mrows_l hG C nb hnb (nI k) ch nb (wrL (mI m 0 39 0) 0 (headC k (levM m k))) 6 0 (by omega) ((wrL_0 (by decide) _ _ _).trans hb) ((wrL_n _ _ _ rfl).trans (by rw [eh])) (MCh_w (m := m) (fun b => wrL_p (p := 13) (by decide) (by decide) (headC k (levM m k)) (mI m 0 39 0) 0) (fun b => wrL_p (p := 18) (by decide) (by decide) (headC k (levM m k)) (mI m 0 39 0) 0) (fun b => wrL_p (p := 19) (by decide) (by decide) (headC k (levM m k)) (mI m 0 39 0) 0) hch) (by rw [rowsC_w (m := m) (fun b => wrL_p (p := 13) (by decide) (by decide) (headC k (levM m k)) (mI m 0 39 0) 0) (fun b => wrL_p (p := 18) (by decide) (by decide) (headC k (levM m k)) (mI m 0 39 0) 0)]; rw [lineM, List.length_append, eh] at hlen; exact hlen) ?_)
  refine az_to (K' := KK G ρ x (writeM m k nb ch) ou) rfl (by rw [headC_w (v := 0), eh]) ?_
  refine az_aload_n C 1 dX4_writeReach_175 rfl ?_
  refine az_aload_n C 1 dX4_writeReach_176 rfl ?_
  refine az_get C cX4 2 0 39 (v := .int ((writeM m k nb ch).1 0 39)) wl_X4_240 dX4_writeReach_177 rfl rfl rfl (by decide) ?_
  refine az_top (nI (lineM m k nb ch).length) ((wrL_n _ _ _ rfl).trans (by rw [Nat.zero_add])) ?_
  refine az_callV C Y_X4_tells cX4 2 0 [.int (nI (lineM m k nb ch).length)] [] wm_X4_125 wi_X4_tells wse_X4_tells dX4_writeReach_180 rfl rfl rfl (Mtells hG (nI (lineM m k nb ch).length)) rfl (Nat.le_of_ble_eq_true rfl) (Nat.le_of_ble_eq_true rfl) (Nat.le_of_ble_eq_true rfl) (Nat.le_of_ble_eq_true rfl) (Nat.le_of_ble_eq_true rfl) (az_k1 rfl rfl ?_) (az_k0 rfl)
  exact az_iret C rfl dX4_writeReach_183 (Nat.le_of_ble_eq_true rfl) (Nat.le_of_ble_eq_true rfl) ⟨rfl, rfl, rfl⟩

set_option maxHeartbeats 4000000 in
set_option maxRecDepth 100000 in
theorem MwriteReach2 (hG : az_okS l G) (nr k : Nat) (hr : m.1 0 1 = nI nr) (hn : nr ≤ 6) (hk : k + 1 ≤ nr) (ha : ¬ m.1 3 k = 0) (nb : Nat) (hb : m.1 0 12 = nI nb) (hnb : nb ≤ 8) (ch : Nat → List Nat) (hch : MCh m (nI k) nb ch) (hlen : (lineM m k nb ch).length ≤ 40) (hv : 9 < levM m k) : az_M l G yX4_writeReach (az_ws yX4_writeReach cX4_writeReach 4 (Option.some FieldType.int)) 3 [.ref (ρ.1 100), .int (nI k)] (AD ρ) (KK G ρ x m ou) 0 0 (az_r (some (.int (nI (lineM m k nb ch).length))) (AD ρ) (KK G ρ x (mI (writeM m k nb ch) 0 0 0) ou)) := by
  refine az_start hG.1 (by decide +kernel) (Nat.le_of_ble_eq_true rfl) ?_
  intro p e s mm args below meth c C hnm
  show az_W l G 4 _ p e _ s mm args below meth c _ _ 0 0 0 [(0, .ref (ρ.1 100)), (1, .int (nI k))] []
  have eh : (headC k (levM m k)).length = 7 := by unfold headC; rw [if_neg (Int32.not_le.mpr hv)]; rfl
  have eH := headC.eq_1 k (levM m k)
  rw [if_neg (Int32.not_le.mpr hv)] at eH
  refine az_aload_n C 0 dX4_writeReach_0 rfl ?_
  refine az_iload_n C 1 dX4_writeReach_1 rfl ?_
  refine az_callV C Y_X4_isReach cX4 2 0 [.int (nI k)] [] wm_X4_128 wi_X4_isReach wse_X4_isReach dX4_writeReach_2 rfl rfl rfl (Mr1 hG nr k hr hn hk) rfl (Nat.le_of_ble_eq_true rfl) (Nat.le_of_ble_eq_true rfl) (Nat.le_of_ble_eq_true rfl) (Nat.le_of_ble_eq_true rfl) (Nat.le_of_ble_eq_true rfl) (az_k1 rfl rfl ?_) (az_k0 rfl)
  refine az_if_ne C 14 dX4_writeReach_5 (by decide) (fun _ => ?_) (fun q => absurd q (by decide))
  refine az_aload_n C 0 dX4_writeReach_14 rfl ?_
  refine az_iconst C (v := 0) dX4_writeReach_15 (by decide) ?_
  refine az_put C cX4 2 0 39 wl_X4_240 dX4_writeReach_16 rfl rfl (by decide) (Nat.le_of_ble_eq_true rfl) rfl rfl rfl (az_to rfl (K' := (KK G ρ x (mI m 0 39 0) ou)) (KK_M rfl) ?_)
  refine az_aload_n C 0 dX4_writeReach_19 rfl ?_
  refine az_bipush C (v := 48) dX4_writeReach_20 (by decide) ?_
  refine az_iload_n C 1 dX4_writeReach_22 rfl ?_
  refine az_iadd C dX4_writeReach_23 ?_
  refine az_i2c C dX4_writeReach_24 ?_
  refine az_callV C Y_X4_writes cX4 2 0 [.int ((((48 + nI k)).toUInt32 % 65536).toInt32)] [] wm_X4_243 wi_X4_writes wse_X4_writes dX4_writeReach_25 rfl rfl rfl (Mwrites hG 0 (by decide) rfl ((((48 + nI k)).toUInt32 % 65536).toInt32)) rfl (Nat.le_of_ble_eq_true rfl) (Nat.le_of_ble_eq_true rfl) (Nat.le_of_ble_eq_true rfl) (Nat.le_of_ble_eq_true rfl) (Nat.le_of_ble_eq_true rfl) (az_k1 rfl rfl ?_) (az_k0 rfl)
  refine az_aload_n C 0 dX4_writeReach_28 rfl ?_
  refine az_bipush C (v := 58) dX4_writeReach_29 (by decide) ?_
  refine az_callV C Y_X4_writes cX4 2 0 [.int 58] [] wm_X4_243 wi_X4_writes wse_X4_writes dX4_writeReach_31 rfl rfl rfl (Mwrites hG 1 (by decide) rfl (58)) rfl (Nat.le_of_ble_eq_true rfl) (Nat.le_of_ble_eq_true rfl) (Nat.le_of_ble_eq_true rfl) (Nat.le_of_ble_eq_true rfl) (Nat.le_of_ble_eq_true rfl) (az_k1 rfl rfl ?_) (az_k0 rfl)
  refine az_aload_n C 0 dX4_writeReach_34 rfl ?_
  refine az_bipush C (v := 32) dX4_writeReach_35 (by decide) ?_
  refine az_callV C Y_X4_writes cX4 2 0 [.int 32] [] wm_X4_243 wi_X4_writes wse_X4_writes dX4_writeReach_37 rfl rfl rfl (Mwrites hG 2 (by decide) rfl (32)) rfl (Nat.le_of_ble_eq_true rfl) (Nat.le_of_ble_eq_true rfl) (Nat.le_of_ble_eq_true rfl) (Nat.le_of_ble_eq_true rfl) (Nat.le_of_ble_eq_true rfl) (az_k1 rfl rfl ?_) (az_k0 rfl)
  refine az_aload_n C 0 dX4_writeReach_40 rfl ?_
  refine az_iload_n C 1 dX4_writeReach_41 rfl ?_
  refine az_callV C Y_X4_level cX4 2 0 [.int (nI k)] [] wm_X4_135 wi_X4_level wse_X4_level dX4_writeReach_42 rfl rfl rfl (Mlevel hG k (by omega) ha) rfl (Nat.le_of_ble_eq_true rfl) (Nat.le_of_ble_eq_true rfl) (Nat.le_of_ble_eq_true rfl) (Nat.le_of_ble_eq_true rfl) (Nat.le_of_ble_eq_true rfl) (az_k1 rfl rfl ?_) (az_k0 rfl)
  refine az_bipush C (v := 9) dX4_writeReach_45 (by decide) ?_
  refine az_icmp_le C 66 dX4_writeReach_47 (by decide) (fun q => absurd q (Int32.not_le.mpr hv)) (fun _ => ?_)
  refine az_aload_n C 0 dX4_writeReach_50 rfl ?_
  refine az_bipush C (v := 48) dX4_writeReach_51 (by decide) ?_
  refine az_aload_n C 0 dX4_writeReach_53 rfl ?_
  refine az_iload_n C 1 dX4_writeReach_54 rfl ?_
  refine az_callV C Y_X4_level cX4 2 0 [.int (nI k)] [.int 48, .ref (ρ.1 100)] wm_X4_135 wi_X4_level wse_X4_level dX4_writeReach_55 rfl rfl rfl (Mlevel hG k (by omega) ha) rfl (Nat.le_of_ble_eq_true rfl) (Nat.le_of_ble_eq_true rfl) (Nat.le_of_ble_eq_true rfl) (Nat.le_of_ble_eq_true rfl) (Nat.le_of_ble_eq_true rfl) (az_k1 rfl rfl ?_) (az_k0 rfl)
  refine az_bipush C (v := 10) dX4_writeReach_58 (by decide) ?_
  refine az_idiv C dX4_writeReach_60 (by decide) ?_
  refine az_iadd C dX4_writeReach_61 ?_
  refine az_i2c C dX4_writeReach_62 ?_
  refine az_callV C Y_X4_writes cX4 2 0 [.int ((((48 + (levM m k / 10))).toUInt32 % 65536).toInt32)] [] wm_X4_243 wi_X4_writes wse_X4_writes dX4_writeReach_63 rfl rfl rfl (Mwrites hG 3 (by decide) rfl ((((48 + (levM m k / 10))).toUInt32 % 65536).toInt32)) rfl (Nat.le_of_ble_eq_true rfl) (Nat.le_of_ble_eq_true rfl) (Nat.le_of_ble_eq_true rfl) (Nat.le_of_ble_eq_true rfl) (Nat.le_of_ble_eq_true rfl) (az_k1 rfl rfl ?_) (az_k0 rfl)
  refine az_aload_n C 0 dX4_writeReach_66 rfl ?_
  refine az_bipush C (v := 48) dX4_writeReach_67 (by decide) ?_
  refine az_aload_n C 0 dX4_writeReach_69 rfl ?_
  refine az_iload_n C 1 dX4_writeReach_70 rfl ?_
  refine az_callV C Y_X4_level cX4 2 0 [.int (nI k)] [.int 48, .ref (ρ.1 100)] wm_X4_135 wi_X4_level wse_X4_level dX4_writeReach_71 rfl rfl rfl (Mlevel hG k (by omega) ha) rfl (Nat.le_of_ble_eq_true rfl) (Nat.le_of_ble_eq_true rfl) (Nat.le_of_ble_eq_true rfl) (Nat.le_of_ble_eq_true rfl) (Nat.le_of_ble_eq_true rfl) (az_k1 rfl rfl ?_) (az_k0 rfl)
  refine az_bipush C (v := 10) dX4_writeReach_74 (by decide) ?_
  refine az_irem C dX4_writeReach_76 (by decide) ?_
  refine az_iadd C dX4_writeReach_77 ?_
  refine az_i2c C dX4_writeReach_78 ?_
  refine az_callV C Y_X4_writes cX4 2 0 [.int ((((48 + (levM m k - levM m k / 10 * 10))).toUInt32 % 65536).toInt32)] [] wm_X4_243 wi_X4_writes wse_X4_writes dX4_writeReach_79 rfl rfl rfl (Mwrites hG 4 (by decide) rfl ((((48 + (levM m k - levM m k / 10 * 10))).toUInt32 % 65536).toInt32)) rfl (Nat.le_of_ble_eq_true rfl) (Nat.le_of_ble_eq_true rfl) (Nat.le_of_ble_eq_true rfl) (Nat.le_of_ble_eq_true rfl) (Nat.le_of_ble_eq_true rfl) (az_k1 rfl rfl ?_) (az_k0 rfl)
  refine az_aload_n C 0 dX4_writeReach_82 rfl ?_
  refine az_bipush C (v := 100) dX4_writeReach_83 (by decide) ?_
  refine az_callV C Y_X4_writes cX4 2 0 [.int 100] [] wm_X4_243 wi_X4_writes wse_X4_writes dX4_writeReach_85 rfl rfl rfl (Mwrites hG 5 (by decide) rfl (100)) rfl (Nat.le_of_ble_eq_true rfl) (Nat.le_of_ble_eq_true rfl) (Nat.le_of_ble_eq_true rfl) (Nat.le_of_ble_eq_true rfl) (Nat.le_of_ble_eq_true rfl) (az_k1 rfl rfl ?_) (az_k0 rfl)
  refine az_aload_n C 0 dX4_writeReach_88 rfl ?_
  refine az_bipush C (v := 109) dX4_writeReach_89 (by decide) ?_
  refine az_callV C Y_X4_writes cX4 2 0 [.int 109] [] wm_X4_243 wi_X4_writes wse_X4_writes dX4_writeReach_91 rfl rfl rfl (Mwrites hG 6 (by decide) rfl (109)) rfl (Nat.le_of_ble_eq_true rfl) (Nat.le_of_ble_eq_true rfl) (Nat.le_of_ble_eq_true rfl) (Nat.le_of_ble_eq_true rfl) (Nat.le_of_ble_eq_true rfl) (az_k1 rfl rfl ?_) (az_k0 rfl)
  refine az_iconst C (v := 0) dX4_writeReach_94 (by decide) ?_
  refine az_istore_n C (lv' := [(2, .int 0), (0, .ref (ρ.1 100)), (1, .int (nI k))]) (j := 2) rfl dX4_writeReach_95 (by decide) rfl ?_
  refine az_to (K' := KK G ρ x (wrL (mI m 0 39 0) 0 (headC k (levM m k))) ou) rfl (by rw [eH]; rfl) ?_
  refine az_lv [0, 2, 1] rfl (Mrows_l hG C nb hnb (nI k) ch nb (wrL (mI m 0 39 0) 0 (headC k (levM m k))) 7 0 (by omega) ((wrL_0 (by decide) _ _ _).trans hb) ((wrL_n _ _ _ rfl).trans (by rw [eh])) (MCh_w (m := m) (fun b => wrL_p (p := 13) (by decide) (by decide) (headC k (levM m k)) (mI m 0 39 0) 0) (fun b => wrL_p (p := 18) (by decide) (by decide) (headC k (levM m k)) (mI m 0 39 0) 0) (fun b => wrL_p (p := 19) (by decide) (by decide) (headC k (levM m k)) (mI m 0 39 0) 0) hch) (by rw [rowsC_w (m := m) (fun b => wrL_p (p := 13) (by decide) (by decide) (headC k (levM m k)) (mI m 0 39 0) 0) (fun b => wrL_p (p := 18) (by decide) (by decide) (headC k (levM m k)) (mI m 0 39 0) 0)]; rw [lineM, List.length_append, eh] at hlen; exact hlen) ?_)
  refine az_to (K' := KK G ρ x (writeM m k nb ch) ou) rfl (by rw [headC_w (v := 0), eh]) ?_
  refine az_aload_n C 1 dX4_writeReach_175 rfl ?_
  refine az_aload_n C 1 dX4_writeReach_176 rfl ?_
  refine az_get C cX4 2 0 39 (v := .int ((writeM m k nb ch).1 0 39)) wl_X4_240 dX4_writeReach_177 rfl rfl rfl (by decide) ?_
  refine az_top (nI (lineM m k nb ch).length) ((wrL_n _ _ _ rfl).trans (by rw [Nat.zero_add])) ?_
  refine az_callV C Y_X4_tells cX4 2 0 [.int (nI (lineM m k nb ch).length)] [] wm_X4_125 wi_X4_tells wse_X4_tells dX4_writeReach_180 rfl rfl rfl (Mtells hG (nI (lineM m k nb ch).length)) rfl (Nat.le_of_ble_eq_true rfl) (Nat.le_of_ble_eq_true rfl) (Nat.le_of_ble_eq_true rfl) (Nat.le_of_ble_eq_true rfl) (Nat.le_of_ble_eq_true rfl) (az_k1 rfl rfl ?_) (az_k0 rfl)
  exact az_iret C rfl dX4_writeReach_183 (Nat.le_of_ble_eq_true rfl) (Nat.le_of_ble_eq_true rfl) ⟨rfl, rfl, rfl⟩

set_option maxHeartbeats 4000000 in
set_option maxRecDepth 100000 in
theorem MwriteReach0 (hG : az_okS l G) (nr : Nat) (v : Int32) (hr : m.1 0 1 = nI nr) (hn : nr ≤ 6) (hv : oo nr v) : az_M l G yX4_writeReach (az_ws yX4_writeReach cX4_writeReach 4 (Option.some FieldType.int)) 3 [.ref (ρ.1 100), .int v] (AD ρ) (KK G ρ x m ou) 0 0 (az_r (some (.int 0)) (AD ρ) (KK G ρ x (mI m 0 0 1) ou)) := by
  refine az_start hG.1 (by decide +kernel) (Nat.le_of_ble_eq_true rfl) ?_
  intro p e s mm args below meth c C hnm
  show az_W l G 4 _ p e _ s mm args below meth c _ _ 0 0 0 [(0, .ref (ρ.1 100)), (1, .int v)] []
  refine az_aload_n C 0 dX4_writeReach_0 rfl ?_
  refine az_iload_n C 1 dX4_writeReach_1 rfl ?_
  refine az_callV C Y_X4_isReach cX4 2 0 [.int v] [] wm_X4_128 wi_X4_isReach wse_X4_isReach dX4_writeReach_2 rfl rfl rfl (Mr0 hG nr v hr hn (by omega) hv) rfl (Nat.le_of_ble_eq_true rfl) (Nat.le_of_ble_eq_true rfl) (Nat.le_of_ble_eq_true rfl) (Nat.le_of_ble_eq_true rfl) (Nat.le_of_ble_eq_true rfl) (az_k1 rfl rfl ?_) (az_k0 rfl)
  refine az_if_ne C 14 dX4_writeReach_5 (by decide) (fun q => absurd (by decide) q) (fun _ => ?_)
  refine az_aload_n C 0 dX4_writeReach_8 rfl ?_
  refine az_iconst C (v := 1) dX4_writeReach_9 (by decide) ?_
  refine az_callV C Y_X4_fails cX4 2 0 [.int 1] [] wm_X4_121 wi_X4_fails wse_X4_fails dX4_writeReach_10 rfl rfl rfl (Mfails hG (1)) rfl (Nat.le_of_ble_eq_true rfl) (Nat.le_of_ble_eq_true rfl) (Nat.le_of_ble_eq_true rfl) (Nat.le_of_ble_eq_true rfl) (Nat.le_of_ble_eq_true rfl) (az_k1 rfl rfl ?_) (az_k0 rfl)
  exact az_iret C rfl dX4_writeReach_13 (Nat.le_of_ble_eq_true rfl) (Nat.le_of_ble_eq_true rfl) ⟨rfl, rfl, rfl⟩

set_option maxHeartbeats 4000000 in
set_option maxRecDepth 100000 in
theorem MlineAt1 (hG : az_okS l G) (n : Nat) (hl : m.1 0 39 = nI n) (hn : n ≤ 40) (k : Nat) (hk : k + 1 ≤ n) (hch : vp_nar .char (m.1 38 k) = m.1 38 k) : az_M l G yX4_lineAt (az_ws yX4_lineAt cX4_lineAt 2 (Option.some FieldType.char)) 2 [.ref (ρ.1 100), .int (nI k)] (AD ρ) (KK G ρ x m ou) 0 0 (az_r (some (.int (m.1 38 k))) (AD ρ) (KK G ρ x (mI m 0 0 0) ou)) := by
  refine az_start hG.1 (by decide +kernel) (Nat.le_of_ble_eq_true rfl) ?_
  intro p e s mm args below meth c C hnm
  show az_W l G 2 _ p e _ s mm args below meth c _ _ 0 0 0 [(0, .ref (ρ.1 100)), (1, .int (nI k))] []
  have hnar : narrow .char (.int (m.1 38 k)) = .int (m.1 38 k) := congrArg Value.int hch
  refine az_aload_n C 0 dX4_lineAt_0 rfl ?_
  refine az_iload_n C 1 dX4_lineAt_1 rfl ?_
  refine az_iconst C (v := 0) dX4_lineAt_2 (by decide) ?_
  refine az_aload_n C 0 dX4_lineAt_3 rfl ?_
  refine az_get C cX4 2 0 39 (v := .int (m.1 0 39)) wl_X4_240 dX4_lineAt_4 rfl rfl rfl (by decide) ?_
  refine az_top (nI n) hl ?_
  refine az_iconst C (v := 1) dX4_lineAt_7 (by decide) ?_
  refine az_isub C dX4_lineAt_8 ?_
  refine az_callS C Y_X4_in [.int (nI k), .int 0, .int ((nI n - 1))] [.ref (ρ.1 100)] wm_X4_104 wst_X4_in dX4_lineAt_9 rfl (Min1 hG (nI k) 0 ((nI n - 1)) (nI_pos' (by omega)) (hi_in hk (by omega))) rfl (Nat.le_of_ble_eq_true rfl) (Nat.le_of_ble_eq_true rfl) (Nat.le_of_ble_eq_true rfl) (Nat.le_of_ble_eq_true rfl) (Nat.le_of_ble_eq_true rfl) (az_k1 rfl rfl ?_) (az_k0 rfl)
  refine az_if_eq C 19 dX4_lineAt_12 (by decide) (fun q => absurd q (by decide)) (fun _ => ?_)
  refine az_iconst C (v := 0) dX4_lineAt_15 (by decide) ?_
  refine az_goto C 20 dX4_lineAt_16 (by decide) ?_
  refine az_put C cX4 2 0 0 wl_X4_101 dX4_lineAt_20 rfl rfl (by decide) (Nat.le_of_ble_eq_true rfl) rfl rfl rfl (az_to rfl (K' := (KK G ρ x (mI m 0 0 0) ou)) (KK_M rfl) ?_)
  refine az_aload_n C 0 dX4_lineAt_23 rfl ?_
  refine az_get C cX4 2 0 0 (v := .int 0) wl_X4_101 dX4_lineAt_24 rfl rfl rfl (by decide) ?_
  refine az_if_ne C 39 dX4_lineAt_27 (by decide) (fun q => absurd (by decide) q) (fun _ => ?_)
  refine az_aload_n C 0 dX4_lineAt_30 rfl ?_
  refine az_get C cX4 2 0 38 (v := .ref (ρ.1 138)) wl_X4_97 dX4_lineAt_31 rfl rfl rfl (by decide) ?_
  refine az_iload_n C 1 dX4_lineAt_34 rfl ?_
  refine az_caldN C 2 38 k (v := m.1 38 k) dX4_lineAt_35 rfl rfl (by omega) (by decide) rfl ?_
  refine az_goto C 41 dX4_lineAt_36 (by decide) ?_
  exact az_zret C .char rfl hnar dX4_lineAt_41 (Nat.le_of_ble_eq_true rfl) (Nat.le_of_ble_eq_true rfl) ⟨rfl, rfl, rfl⟩

set_option maxHeartbeats 4000000 in
set_option maxRecDepth 100000 in
theorem MlineAt0 (hG : az_okS l G) (n : Nat) (hl : m.1 0 39 = nI n) (hn : n ≤ 40) (v : Int32) (hv : oo n v) : az_M l G yX4_lineAt (az_ws yX4_lineAt cX4_lineAt 2 (Option.some FieldType.char)) 2 [.ref (ρ.1 100), .int v] (AD ρ) (KK G ρ x m ou) 0 0 (az_r (some (.int 32)) (AD ρ) (KK G ρ x (mI m 0 0 1) ou)) := by
  refine az_start hG.1 (by decide +kernel) (Nat.le_of_ble_eq_true rfl) ?_
  intro p e s mm args below meth c C hnm
  show az_W l G 2 _ p e _ s mm args below meth c _ _ 0 0 0 [(0, .ref (ρ.1 100)), (1, .int v)] []
  refine az_aload_n C 0 dX4_lineAt_0 rfl ?_
  refine az_iload_n C 1 dX4_lineAt_1 rfl ?_
  refine az_iconst C (v := 0) dX4_lineAt_2 (by decide) ?_
  refine az_aload_n C 0 dX4_lineAt_3 rfl ?_
  refine az_get C cX4 2 0 39 (v := .int (m.1 0 39)) wl_X4_240 dX4_lineAt_4 rfl rfl rfl (by decide) ?_
  refine az_top (nI n) hl ?_
  refine az_iconst C (v := 1) dX4_lineAt_7 (by decide) ?_
  refine az_isub C dX4_lineAt_8 ?_
  refine az_callS C Y_X4_in [.int v, .int 0, .int ((nI n - 1))] [.ref (ρ.1 100)] wm_X4_104 wst_X4_in dX4_lineAt_9 rfl (Min0 hG v 0 ((nI n - 1)) (fun z => hi_out (n := n) (c := 1) hv (by omega) (by omega) z)) rfl (Nat.le_of_ble_eq_true rfl) (Nat.le_of_ble_eq_true rfl) (Nat.le_of_ble_eq_true rfl) (Nat.le_of_ble_eq_true rfl) (Nat.le_of_ble_eq_true rfl) (az_k1 rfl rfl ?_) (az_k0 rfl)
  refine az_if_eq C 19 dX4_lineAt_12 (by decide) (fun _ => ?_) (fun q => absurd (by decide) q)
  refine az_iconst C (v := 1) dX4_lineAt_19 (by decide) ?_
  refine az_put C cX4 2 0 0 wl_X4_101 dX4_lineAt_20 rfl rfl (by decide) (Nat.le_of_ble_eq_true rfl) rfl rfl rfl (az_to rfl (K' := (KK G ρ x (mI m 0 0 1) ou)) (KK_M rfl) ?_)
  refine az_aload_n C 0 dX4_lineAt_23 rfl ?_
  refine az_get C cX4 2 0 0 (v := .int 1) wl_X4_101 dX4_lineAt_24 rfl rfl rfl (by decide) ?_
  refine az_if_ne C 39 dX4_lineAt_27 (by decide) (fun _ => ?_) (fun q => absurd q (by decide))
  refine az_bipush C (v := 32) dX4_lineAt_39 (by decide) ?_
  exact az_zret C .char rfl rfl dX4_lineAt_41 (Nat.le_of_ble_eq_true rfl) (Nat.le_of_ble_eq_true rfl) ⟨rfl, rfl, rfl⟩

end
