section
variable {l : Launch} {G : az_G} {ρ : Rp} {x : Xs} {m : Mz} {ou : Nat → Int64}
def XbalFa (v : Int32) (m : Mz) (x : Xs) (a : Int32) (k : Nat) : Int32 := (if ¬ x.1 20 k = v then (if ¬ x.1 21 k = v then a else (a + x.1 22 k)) else ((if ¬ x.1 21 k = v then a else (a + x.1 22 k)) - x.1 22 k))
def XbalF (v : Int32) : Nat → Mz → Xs → Int32 → Nat → Int32
  | 0, m, x, a, _ => a
  | n + 1, m, x, a, k => XbalF v n m x (XbalFa v m x a k) (k + 1)
set_option maxHeartbeats 4000000 in
set_option maxRecDepth 100000 in
theorem Xbal (hG : az_okS l G) {p : Program} {e : Env} {s : State} {mm : MethodId} {args : Array Value} {below : List Frame} {meth : Method} {c : Code} (C : az_C l G p s mm args meth c cX1_balanceOf yX1_balanceOf.cls 4 (Option.some FieldType.int) []) {Qx : State → Prop} (mv : Nat) (hmv : mv < 100000) (hc : mv ≤ ρ.2.2.2.1) (hc2 : ρ.2.2.2.1 < 2 ^ 31) (v : Int32) : ∀ (n : Nat) (m : Mz) (x : Xs) (a : Int32) (k : Nat) (hk : k + n = mv) (hm : x.1 8 3 = nI mv), az_W l G 4 Qx p e (az_rm 1 0 0) s mm args below meth c (AD ρ) (KK G ρ x m ou) 0 0 56 [(3, .int (nI mv)), (2, .int ((XbalF v n m x a k))), (1, .int v), (0, .ref (ρ.1 8))] [] → az_W l G 4 Qx p e (az_rm 1 0 0) s mm args below meth c (AD ρ) (KK G ρ x m ou) 0 0 4 [(3, .int (nI k)), (2, .int a), (1, .int v), (0, .ref (ρ.1 8))] [] := by
  intro n
  induction n with
  | zero =>
    intro m x a k hk hm hx
    have hkk : k = mv := by omega
    rw [hkk]
    refine az_iload_n C 0 dX1_balanceOf_4 rfl ?_
    refine az_aload_n C 3 dX1_balanceOf_5 rfl ?_
    refine az_get C cX1 0 8 3 (v := .int (x.1 8 3)) wl_X1_19 dX1_balanceOf_6 rfl rfl rfl (by decide) ?_
    refine az_top (nI mv) hm ?_
    refine az_icmp_ge C 56 dX1_balanceOf_9 (by decide) (fun _ => ?_) (fun q => absurd (Int32.le_refl _) q)
    exact az_lv [0, 1, 2, 3] rfl hx
  | succ n ih =>
    intro m x a k hk hm hx
    refine az_iload_n C 0 dX1_balanceOf_4 rfl ?_
    refine az_aload_n C 3 dX1_balanceOf_5 rfl ?_
    refine az_get C cX1 0 8 3 (v := .int (x.1 8 3)) wl_X1_19 dX1_balanceOf_6 rfl rfl rfl (by decide) ?_
    refine az_top (nI mv) hm ?_
    refine az_icmp_ge C 56 dX1_balanceOf_9 (by decide) (fun q => absurd q (nlt_nle (show k < mv by omega) (by omega))) (fun _ => ?_)
    refine az_aload_n C 3 dX1_balanceOf_12 rfl ?_
    refine az_get C cX1 0 8 1 (v := .ref (ρ.2.1 21)) wl_X1_13 dX1_balanceOf_13 rfl rfl rfl (by decide) ?_
    refine az_iload_n C 0 dX1_balanceOf_16 rfl ?_
    refine az_ialdN C 0 21 k (v := x.1 21 k) dX1_balanceOf_17 rfl rfl (by omega) hc2 rfl ?_
    refine az_iload_n C 2 dX1_balanceOf_18 rfl ?_
    suffices J1 : az_W l G 4 _ p e _ s mm args below meth c (AD ρ) (KK G ρ x m ou) _ _ 31 [(3, .int (nI k)), (2, .int ((if ¬ x.1 21 k = v then a else (a + x.1 22 k)))), (1, .int v), (0, .ref (ρ.1 8))] [] by
      refine az_icmp_ne C 31 dX1_balanceOf_19 (by decide) (fun c2 => ?_) (fun c2 => ?_)
      · first | rw [if_pos (show ¬ x.1 21 k = v from c2)] at J1 ⊢ | rw [if_pos (show ¬ x.1 21 k = v from c2)] at J1
        exact az_lv [0, 1, 2, 3] rfl J1
      · refine az_iload_n C 1 dX1_balanceOf_22 rfl ?_
        refine az_aload_n C 3 dX1_balanceOf_23 rfl ?_
        refine az_get C cX1 0 8 2 (v := .ref (ρ.2.1 22)) wl_X1_16 dX1_balanceOf_24 rfl rfl rfl (by decide) ?_
        refine az_iload_n C 0 dX1_balanceOf_27 rfl ?_
        refine az_ialdN C 0 22 k (v := x.1 22 k) dX1_balanceOf_28 rfl rfl (by omega) hc2 rfl ?_
        refine az_iadd C dX1_balanceOf_29 ?_
        refine az_istore_n C (lv' := [(2, .int ((a + x.1 22 k))), (3, .int (nI k)), (1, .int v), (0, .ref (ρ.1 8))]) (j := 2) rfl dX1_balanceOf_30 (by decide) rfl ?_
        first | rw [if_neg (show ¬ (¬ x.1 21 k = v) from fun z => z c2)] at J1 ⊢ | rw [if_neg (show ¬ (¬ x.1 21 k = v) from fun z => z c2)] at J1
        exact az_lv [1, 0, 2, 3] rfl J1
    refine az_aload_n C 3 dX1_balanceOf_31 rfl ?_
    refine az_get C cX1 0 8 0 (v := .ref (ρ.2.1 20)) wl_X1_9 dX1_balanceOf_32 rfl rfl rfl (by decide) ?_
    refine az_iload_n C 0 dX1_balanceOf_35 rfl ?_
    refine az_ialdN C 0 20 k (v := x.1 20 k) dX1_balanceOf_36 rfl rfl (by omega) hc2 rfl ?_
    refine az_iload_n C 2 dX1_balanceOf_37 rfl ?_
    suffices J3 : az_W l G 4 _ p e _ s mm args below meth c (AD ρ) (KK G ρ x m ou) _ _ 50 [(3, .int (nI k)), (2, .int ((if ¬ x.1 20 k = v then (if ¬ x.1 21 k = v then a else (a + x.1 22 k)) else ((if ¬ x.1 21 k = v then a else (a + x.1 22 k)) - x.1 22 k)))), (1, .int v), (0, .ref (ρ.1 8))] [] by
      refine az_icmp_ne C 50 dX1_balanceOf_38 (by decide) (fun c4 => ?_) (fun c4 => ?_)
      · first | rw [if_pos (show ¬ x.1 20 k = v from c4)] at J3 ⊢ | rw [if_pos (show ¬ x.1 20 k = v from c4)] at J3
        exact az_lv [0, 1, 2, 3] rfl J3
      · refine az_iload_n C 1 dX1_balanceOf_41 rfl ?_
        refine az_aload_n C 3 dX1_balanceOf_42 rfl ?_
        refine az_get C cX1 0 8 2 (v := .ref (ρ.2.1 22)) wl_X1_16 dX1_balanceOf_43 rfl rfl rfl (by decide) ?_
        refine az_iload_n C 0 dX1_balanceOf_46 rfl ?_
        refine az_ialdN C 0 22 k (v := x.1 22 k) dX1_balanceOf_47 rfl rfl (by omega) hc2 rfl ?_
        refine az_isub C dX1_balanceOf_48 ?_
        refine az_istore_n C (lv' := [(2, .int (((if ¬ x.1 21 k = v then a else (a + x.1 22 k)) - x.1 22 k))), (3, .int (nI k)), (1, .int v), (0, .ref (ρ.1 8))]) (j := 2) rfl dX1_balanceOf_49 (by decide) rfl ?_
        first | rw [if_neg (show ¬ (¬ x.1 20 k = v) from fun z => z c4)] at J3 ⊢ | rw [if_neg (show ¬ (¬ x.1 20 k = v) from fun z => z c4)] at J3
        exact az_lv [1, 0, 2, 3] rfl J3
    refine az_iinc C 0 (v := nI (k + 1)) (lv' := [(3, .int (nI (k + 1))), (2, .int ((if ¬ x.1 20 k = v then (if ¬ x.1 21 k = v then a else (a + x.1 22 k)) else ((if ¬ x.1 21 k = v then a else (a + x.1 22 k)) - x.1 22 k)))), (1, .int v), (0, .ref (ρ.1 8))]) dX1_balanceOf_50 rfl (nI_1 k) (by decide) rfl ?_
    refine az_goto C 4 dX1_balanceOf_53 (by decide) ?_
    exact az_lv [0, 1, 2, 3] rfl (ih m x (XbalFa v m x a k) (k + 1) (by omega) hm hx)

set_option maxHeartbeats 4000000 in
set_option maxRecDepth 100000 in
theorem XbalanceOf (hG : az_okS l G) (mv : Nat) (hm : x.1 8 3 = nI mv) (hmv : mv < 100000) (hc : mv ≤ ρ.2.2.2.1) (hc2 : ρ.2.2.2.1 < 2 ^ 31) (v : Int32) : az_M l G yX1_balanceOf (az_ws yX1_balanceOf cX1_balanceOf 4 (Option.some FieldType.int)) 1 [.ref (ρ.1 8), .int v] (AD ρ) (KK G ρ x m ou) 0 0 (az_r (some (.int ((XbalF v mv m x 0 0)))) (AD ρ) (KK G ρ x m ou)) := by
  refine az_start hG.1 (by decide +kernel) (Nat.le_of_ble_eq_true rfl) ?_
  intro p e s mm args below meth c C hnm
  show az_W l G 4 _ p e _ s mm args below meth c _ _ 0 0 0 [(0, .ref (ρ.1 8)), (1, .int v)] []
  refine az_iconst C (v := 0) dX1_balanceOf_0 (by decide) ?_
  refine az_istore_n C (lv' := [(2, .int 0), (0, .ref (ρ.1 8)), (1, .int v)]) (j := 2) rfl dX1_balanceOf_1 (by decide) rfl ?_
  refine az_iconst C (v := 0) dX1_balanceOf_2 (by decide) ?_
  refine az_istore_n C (lv' := [(3, .int 0), (2, .int 0), (0, .ref (ρ.1 8)), (1, .int v)]) (j := 3) rfl dX1_balanceOf_3 (by decide) rfl ?_
  refine az_lv [0, 1, 3, 2] rfl (Xbal hG C mv hmv hc hc2 v mv m x 0 0 (by omega) hm ?_)
  refine az_iload_n C 1 dX1_balanceOf_56 rfl ?_
  exact az_iret C rfl dX1_balanceOf_57 (Nat.le_of_ble_eq_true rfl) (Nat.le_of_ble_eq_true rfl) ⟨rfl, rfl, rfl⟩

def balX (x : Xs) (m : Mz) (mv : Nat) (v : Int32) : Int32 := XbalF v mv m x 0 0
set_option maxHeartbeats 4000000 in
set_option maxRecDepth 100000 in
theorem XvolumeBySteps1 (hG : az_okS l G) (nr k : Nat) (hr : x.1 1 8 = nI nr) (hn : nr ≤ 6) (hk : k + 1 ≤ nr) (mv : Nat) (hm : x.1 8 3 = nI mv) (hmv : mv < 100000) (hc : mv ≤ ρ.2.2.2.1) (hc2 : ρ.2.2.2.1 < 2 ^ 31) : az_M l G yX3_volumeBySteps (az_ws yX3_volumeBySteps cX3_volumeBySteps 2 (Option.some FieldType.int)) 3 [.ref (ρ.1 0), .int (nI k)] (AD ρ) (KK G ρ x m ou) 0 0 (az_r (some (.int (balX x m mv (nI k)))) (AD ρ) (KK G ρ x m ou)) := by
  refine az_start hG.1 (by decide +kernel) (Nat.le_of_ble_eq_true rfl) ?_
  intro p e s mm args below meth c C hnm
  show az_W l G 2 _ p e _ s mm args below meth c _ _ 0 0 0 [(0, .ref (ρ.1 0)), (1, .int (nI k))] []
  refine az_aload_n C 0 dX3_volumeBySteps_0 rfl ?_
  refine az_iload_n C 1 dX3_volumeBySteps_1 rfl ?_
  refine az_callV C Y_X3_needReach cX3 0 0 [.int (nI k)] [] wm_X3_78 wi_X3_needReach wse_X3_needReach dX3_volumeBySteps_2 rfl rfl rfl (XneedReach1 hG nr k hr hn hk) rfl (Nat.le_of_ble_eq_true rfl) (Nat.le_of_ble_eq_true rfl) (Nat.le_of_ble_eq_true rfl) (Nat.le_of_ble_eq_true rfl) (Nat.le_of_ble_eq_true rfl) (az_k1 rfl rfl ?_) (az_k0 rfl)
  refine az_aload_n C 0 dX3_volumeBySteps_5 rfl ?_
  refine az_get C cX3 0 0 0 (v := .ref (ρ.1 1)) wl_X3_12 dX3_volumeBySteps_6 rfl rfl rfl (by decide) ?_
  refine az_getN C cX2 0 1 6 (v := .ref (ρ.1 8)) (az_bw C hG nx_X3_89 rfl) dX3_volumeBySteps_9 rfl rfl rfl (by decide) ?_
  refine az_iload_n C 1 dX3_volumeBySteps_12 rfl ?_
  refine az_callV C Y_X1_balanceOf cX1 0 8 [.int (nI k)] [] wm_X3_93 wi_X1_balanceOf wse_X1_balanceOf dX3_volumeBySteps_13 rfl rfl rfl (XbalanceOf hG mv hm hmv hc hc2 (nI k)) rfl (Nat.le_of_ble_eq_true rfl) (Nat.le_of_ble_eq_true rfl) (Nat.le_of_ble_eq_true rfl) (Nat.le_of_ble_eq_true rfl) (Nat.le_of_ble_eq_true rfl) (az_k1 rfl rfl ?_) (az_k0 rfl)
  exact az_iret C rfl dX3_volumeBySteps_16 (Nat.le_of_ble_eq_true rfl) (Nat.le_of_ble_eq_true rfl) ⟨rfl, rfl, rfl⟩

set_option maxHeartbeats 4000000 in
set_option maxRecDepth 100000 in
theorem XvolumeBySteps0 (hG : az_okS l G) (nr : Nat) (v : Int32) (hr : x.1 1 8 = nI nr) (hn : nr ≤ 6) (hv : oo nr v) : az_M l G yX3_volumeBySteps (az_ws yX3_volumeBySteps cX3_volumeBySteps 2 (Option.some FieldType.int)) 7 [.ref (ρ.1 0), .int v] (AD ρ) (KK G ρ x m ou) 1 6 (az_x "java/lang/IndexOutOfBoundsException" (AD ρ) (KK G ρ x m ou)) := by
  refine az_start hG.1 (by decide +kernel) (Nat.le_of_ble_eq_true rfl) ?_
  intro p e s mm args below meth c C hnm
  show az_W l G 2 _ p e _ s mm args below meth c _ _ 0 0 0 [(0, .ref (ρ.1 0)), (1, .int v)] []
  refine az_aload_n C 0 dX3_volumeBySteps_0 rfl ?_
  refine az_iload_n C 1 dX3_volumeBySteps_1 rfl ?_
  refine az_callV C Y_X3_needReach cX3 0 0 [.int v] [] wm_X3_78 wi_X3_needReach wse_X3_needReach dX3_volumeBySteps_2 rfl rfl rfl (XneedReach0 hG nr v hr hn hv) rfl (Nat.le_of_ble_eq_true rfl) (Nat.le_of_ble_eq_true rfl) (Nat.le_of_ble_eq_true rfl) (Nat.le_of_ble_eq_true rfl) (Nat.le_of_ble_eq_true rfl) (az_x0 rfl) (az_x1 rfl ?_)
  exact az_out C (fun _ h => by cases h) (Nat.le_of_ble_eq_true rfl) (Nat.le_of_ble_eq_true rfl) ⟨rfl, rfl, rfl⟩

def Xheld1Fa (m : Mz) (x : Xs) (a : Int32) (k : Nat) : Int32 := (a + x.1 4 (k + 3))
def Xheld1F : Nat → Mz → Xs → Int32 → Nat → Int32
  | 0, m, x, a, _ => a
  | n + 1, m, x, a, k => Xheld1F n m x (Xheld1Fa m x a k) (k + 1)
set_option maxHeartbeats 4000000 in
set_option maxRecDepth 100000 in
theorem Xheld1 (hG : az_okS l G) {p : Program} {e : Env} {s : State} {mm : MethodId} {args : Array Value} {below : List Frame} {meth : Method} {c : Code} (C : az_C l G p s mm args meth c cX3_heldTotal yX3_heldTotal.cls 3 (Option.some FieldType.int) []) {Qx : State → Prop} (nr : Nat) (hn : nr ≤ 6) : ∀ (n : Nat) (m : Mz) (x : Xs) (a : Int32) (k : Nat) (hk : k + n = nr) (hr : x.1 1 8 = nI nr), az_W l G 3 Qx p e (az_rm 2 0 0) s mm args below meth c (AD ρ) (KK G ρ x m ou) 0 0 32 [(2, .int (nI nr)), (1, .int ((Xheld1F n m x a k))), (0, .ref (ρ.1 0))] [] → az_W l G 3 Qx p e (az_rm 2 0 0) s mm args below meth c (AD ρ) (KK G ρ x m ou) 0 0 4 [(2, .int (nI k)), (1, .int a), (0, .ref (ρ.1 0))] [] := by
  intro n
  induction n with
  | zero =>
    intro m x a k hk hr hx
    have hkk : k = nr := by omega
    rw [hkk]
    refine az_iload_n C 0 dX3_heldTotal_4 rfl ?_
    refine az_aload_n C 2 dX3_heldTotal_5 rfl ?_
    refine az_get C cX3 0 0 0 (v := .ref (ρ.1 1)) wl_X3_12 dX3_heldTotal_6 rfl rfl rfl (by decide) ?_
    refine az_getN C cX2 0 1 8 (v := .int (x.1 1 8)) (az_bw C hG nx_X3_67 rfl) dX3_heldTotal_9 rfl rfl rfl (by decide) ?_
    refine az_top (nI nr) hr ?_
    refine az_icmp_ge C 32 dX3_heldTotal_12 (by decide) (fun _ => ?_) (fun q => absurd (Int32.le_refl _) q)
    exact az_lv [0, 1, 2] rfl hx
  | succ n ih =>
    intro m x a k hk hr hx
    refine az_iload_n C 0 dX3_heldTotal_4 rfl ?_
    refine az_aload_n C 2 dX3_heldTotal_5 rfl ?_
    refine az_get C cX3 0 0 0 (v := .ref (ρ.1 1)) wl_X3_12 dX3_heldTotal_6 rfl rfl rfl (by decide) ?_
    refine az_getN C cX2 0 1 8 (v := .int (x.1 1 8)) (az_bw C hG nx_X3_67 rfl) dX3_heldTotal_9 rfl rfl rfl (by decide) ?_
    refine az_top (nI nr) hr ?_
    refine az_icmp_ge C 32 dX3_heldTotal_12 (by decide) (fun q => absurd q (nlt_nle (show k < nr by omega) (by omega))) (fun _ => ?_)
    refine az_iload_n C 1 dX3_heldTotal_15 rfl ?_
    refine az_aload_n C 2 dX3_heldTotal_16 rfl ?_
    refine az_get C cX3 0 0 0 (v := .ref (ρ.1 1)) wl_X3_12 dX3_heldTotal_17 rfl rfl rfl (by decide) ?_
    refine az_iload_n C 0 dX3_heldTotal_20 rfl ?_
    refine az_callV C Y_X2_at cX2 0 1 [.int (nI k)] [.int a] wm_X3_85 wi_X2_at wse_X2_at dX3_heldTotal_21 rfl rfl rfl (kat hG (nI k) (k + 3) (nI_m3 k) (by omega)) rfl (Nat.le_of_ble_eq_true rfl) (Nat.le_of_ble_eq_true rfl) (Nat.le_of_ble_eq_true rfl) (Nat.le_of_ble_eq_true rfl) (Nat.le_of_ble_eq_true rfl) (az_k1 rfl rfl ?_) (az_k0 rfl)
    refine az_iadd C dX3_heldTotal_24 ?_
    refine az_istore_n C (lv' := [(1, .int ((a + x.1 4 (k + 3)))), (2, .int (nI k)), (0, .ref (ρ.1 0))]) (j := 1) rfl dX3_heldTotal_25 (by decide) rfl ?_
    refine az_iinc C 1 (v := nI (k + 1)) (lv' := [(2, .int (nI (k + 1))), (1, .int ((a + x.1 4 (k + 3)))), (0, .ref (ρ.1 0))]) dX3_heldTotal_26 rfl (nI_1 k) (by decide) rfl ?_
    refine az_goto C 4 dX3_heldTotal_29 (by decide) ?_
    exact az_lv [0, 1, 2] rfl (ih m x (Xheld1Fa m x a k) (k + 1) (by omega) hr hx)

def Xheld2Fa (m : Mz) (x : Xs) (a : Int32) (k : Nat) : Int32 := (a + x.1 4 (k + 13))
def Xheld2F : Nat → Mz → Xs → Int32 → Nat → Int32
  | 0, m, x, a, _ => a
  | n + 1, m, x, a, k => Xheld2F n m x (Xheld2Fa m x a k) (k + 1)
set_option maxHeartbeats 4000000 in
set_option maxRecDepth 100000 in
theorem Xheld2 (hG : az_okS l G) {p : Program} {e : Env} {s : State} {mm : MethodId} {args : Array Value} {below : List Frame} {meth : Method} {c : Code} (C : az_C l G p s mm args meth c cX3_heldTotal yX3_heldTotal.cls 3 (Option.some FieldType.int) []) {Qx : State → Prop} (nr : Nat) (hn : nr ≤ 6) (h1 : 1 ≤ nr) : ∀ (n : Nat) (m : Mz) (x : Xs) (a : Int32) (k : Nat) (hk : k + n = (nr - 1)) (hr : x.1 1 8 = nI nr), az_W l G 3 Qx p e (az_rm 2 0 0) s mm args below meth c (AD ρ) (KK G ρ x m ou) 0 0 67 [(2, .int (nI ((nr - 1)))), (1, .int ((Xheld2F n m x a k))), (0, .ref (ρ.1 0))] [] → az_W l G 3 Qx p e (az_rm 2 0 0) s mm args below meth c (AD ρ) (KK G ρ x m ou) 0 0 34 [(2, .int (nI k)), (1, .int a), (0, .ref (ρ.1 0))] [] := by
  intro n
  induction n with
  | zero =>
    intro m x a k hk hr hx
    have hkk : k = (nr - 1) := by omega
    rw [hkk]
    refine az_iload_n C 0 dX3_heldTotal_34 rfl ?_
    refine az_aload_n C 2 dX3_heldTotal_35 rfl ?_
    refine az_get C cX3 0 0 0 (v := .ref (ρ.1 1)) wl_X3_12 dX3_heldTotal_36 rfl rfl rfl (by decide) ?_
    refine az_getN C cX2 0 1 8 (v := .int (x.1 1 8)) (az_bw C hG nx_X3_67 rfl) dX3_heldTotal_39 rfl rfl rfl (by decide) ?_
    refine az_top (nI nr) hr ?_
    refine az_iconst C (v := 1) dX3_heldTotal_42 (by decide) ?_
    refine az_isub C dX3_heldTotal_43 ?_
    refine az_top (nI (nr - 1)) (show nI nr - 1 = nI (nr - 1) from pk_sub (b := 1) (by omega)) ?_
    refine az_icmp_ge C 67 dX3_heldTotal_44 (by decide) (fun _ => ?_) (fun q => absurd (Int32.le_refl _) q)
    exact az_lv [0, 1, 2] rfl hx
  | succ n ih =>
    intro m x a k hk hr hx
    refine az_iload_n C 0 dX3_heldTotal_34 rfl ?_
    refine az_aload_n C 2 dX3_heldTotal_35 rfl ?_
    refine az_get C cX3 0 0 0 (v := .ref (ρ.1 1)) wl_X3_12 dX3_heldTotal_36 rfl rfl rfl (by decide) ?_
    refine az_getN C cX2 0 1 8 (v := .int (x.1 1 8)) (az_bw C hG nx_X3_67 rfl) dX3_heldTotal_39 rfl rfl rfl (by decide) ?_
    refine az_top (nI nr) hr ?_
    refine az_iconst C (v := 1) dX3_heldTotal_42 (by decide) ?_
    refine az_isub C dX3_heldTotal_43 ?_
    refine az_top (nI (nr - 1)) (show nI nr - 1 = nI (nr - 1) from pk_sub (b := 1) (by omega)) ?_
    refine az_icmp_ge C 67 dX3_heldTotal_44 (by decide) (fun q => absurd q (nlt_nle (show k < (nr - 1) by omega) (by omega))) (fun _ => ?_)
    refine az_iload_n C 1 dX3_heldTotal_47 rfl ?_
    refine az_aload_n C 2 dX3_heldTotal_48 rfl ?_
    refine az_get C cX3 0 0 0 (v := .ref (ρ.1 1)) wl_X3_12 dX3_heldTotal_49 rfl rfl rfl (by decide) ?_
    refine az_bipush C (v := 10) dX3_heldTotal_52 (by decide) ?_
    refine az_iload_n C 0 dX3_heldTotal_54 rfl ?_
    refine az_iadd C dX3_heldTotal_55 ?_
    refine az_callV C Y_X2_at cX2 0 1 [.int ((10 + nI k))] [.int a] wm_X3_85 wi_X2_at wse_X2_at dX3_heldTotal_56 rfl rfl rfl (kat hG ((10 + nI k)) (k + 13) (nI_c k) (by omega)) rfl (Nat.le_of_ble_eq_true rfl) (Nat.le_of_ble_eq_true rfl) (Nat.le_of_ble_eq_true rfl) (Nat.le_of_ble_eq_true rfl) (Nat.le_of_ble_eq_true rfl) (az_k1 rfl rfl ?_) (az_k0 rfl)
    refine az_iadd C dX3_heldTotal_59 ?_
    refine az_istore_n C (lv' := [(1, .int ((a + x.1 4 (k + 13)))), (2, .int (nI k)), (0, .ref (ρ.1 0))]) (j := 1) rfl dX3_heldTotal_60 (by decide) rfl ?_
    refine az_iinc C 1 (v := nI (k + 1)) (lv' := [(2, .int (nI (k + 1))), (1, .int ((a + x.1 4 (k + 13)))), (0, .ref (ρ.1 0))]) dX3_heldTotal_61 rfl (nI_1 k) (by decide) rfl ?_
    refine az_goto C 34 dX3_heldTotal_64 (by decide) ?_
    exact az_lv [0, 1, 2] rfl (ih m x (Xheld2Fa m x a k) (k + 1) (by omega) hr hx)

set_option maxHeartbeats 4000000 in
set_option maxRecDepth 100000 in
theorem XheldTotal (hG : az_okS l G) (nr : Nat) (hn : nr ≤ 6) (h1 : 1 ≤ nr) (hr : x.1 1 8 = nI nr) : az_M l G yX3_heldTotal (az_ws yX3_heldTotal cX3_heldTotal 3 (Option.some FieldType.int)) 2 [.ref (ρ.1 0)] (AD ρ) (KK G ρ x m ou) 0 0 (az_r (some (.int ((Xheld2F (nr - 1) m x ((Xheld1F nr m x 0 0)) 0)))) (AD ρ) (KK G ρ x m ou)) := by
  refine az_start hG.1 (by decide +kernel) (Nat.le_of_ble_eq_true rfl) ?_
  intro p e s mm args below meth c C hnm
  show az_W l G 3 _ p e _ s mm args below meth c _ _ 0 0 0 [(0, .ref (ρ.1 0))] []
  refine az_iconst C (v := 0) dX3_heldTotal_0 (by decide) ?_
  refine az_istore_n C (lv' := [(1, .int 0), (0, .ref (ρ.1 0))]) (j := 1) rfl dX3_heldTotal_1 (by decide) rfl ?_
  refine az_iconst C (v := 0) dX3_heldTotal_2 (by decide) ?_
  refine az_istore_n C (lv' := [(2, .int 0), (1, .int 0), (0, .ref (ρ.1 0))]) (j := 2) rfl dX3_heldTotal_3 (by decide) rfl ?_
  refine az_lv [0, 1, 2] rfl (Xheld1 hG C nr hn nr m x 0 0 (by omega) hr ?_)
  refine az_iconst C (v := 0) dX3_heldTotal_32 (by decide) ?_
  refine az_istore_n C (lv' := [(2, .int 0), (1, .int ((Xheld1F nr m x 0 0))), (0, .ref (ρ.1 0))]) (j := 2) rfl dX3_heldTotal_33 (by decide) rfl ?_
  refine az_lv [0, 1, 2] rfl (Xheld2 hG C nr hn h1 (nr - 1) m x ((Xheld1F nr m x 0 0)) 0 (by omega) hr ?_)
  refine az_iload_n C 1 dX3_heldTotal_67 rfl ?_
  exact az_iret C rfl dX3_heldTotal_68 (Nat.le_of_ble_eq_true rfl) (Nat.le_of_ble_eq_true rfl) ⟨rfl, rfl, rfl⟩

def heldX (x : Xs) (m : Mz) (nr : Nat) : Int32 := Xheld2F (nr - 1) m x (Xheld1F nr m x 0 0) 0
def XAr (x : Xs) (nr : Nat) : Prop := ∀ k, k < nr → ¬ x.1 2 k < 1
def Xmean_lFa (m : Mz) (x : Xs) (a : Int32) (k : Nat) : Int32 := (a + x.1 4 (k + 3) / x.1 2 k)
def Xmean_lF : Nat → Mz → Xs → Int32 → Nat → Int32
  | 0, m, x, a, _ => a
  | n + 1, m, x, a, k => Xmean_lF n m x (Xmean_lFa m x a k) (k + 1)
set_option maxHeartbeats 4000000 in
set_option maxRecDepth 100000 in
theorem Xmean_l (hG : az_okS l G) {p : Program} {e : Env} {s : State} {mm : MethodId} {args : Array Value} {below : List Frame} {meth : Method} {c : Code} (C : az_C l G p s mm args meth c cX3_meanLevel yX3_meanLevel.cls 3 (Option.some FieldType.double) []) {Qx : State → Prop} (nr : Nat) (hn : nr ≤ 6) : ∀ (n : Nat) (m : Mz) (x : Xs) (a : Int32) (k : Nat) (hk : k + n = nr) (hr : x.1 1 8 = nI nr) (ha : XAr x nr), az_W l G 3 Qx p e (az_rm 3 0 0) s mm args below meth c (AD ρ) (KK G ρ x m ou) 0 0 32 [(2, .int (nI nr)), (1, .int ((Xmean_lF n m x a k))), (0, .ref (ρ.1 0))] [] → az_W l G 3 Qx p e (az_rm 3 0 0) s mm args below meth c (AD ρ) (KK G ρ x m ou) 0 0 4 [(2, .int (nI k)), (1, .int a), (0, .ref (ρ.1 0))] [] := by
  intro n
  induction n with
  | zero =>
    intro m x a k hk hr ha hx
    have hkk : k = nr := by omega
    rw [hkk]
    refine az_iload_n C 0 dX3_meanLevel_4 rfl ?_
    refine az_aload_n C 2 dX3_meanLevel_5 rfl ?_
    refine az_get C cX3 0 0 0 (v := .ref (ρ.1 1)) wl_X3_12 dX3_meanLevel_6 rfl rfl rfl (by decide) ?_
    refine az_getN C cX2 0 1 8 (v := .int (x.1 1 8)) (az_bw C hG nx_X3_67 rfl) dX3_meanLevel_9 rfl rfl rfl (by decide) ?_
    refine az_top (nI nr) hr ?_
    refine az_icmp_ge C 32 dX3_meanLevel_12 (by decide) (fun _ => ?_) (fun q => absurd (Int32.le_refl _) q)
    exact az_lv [0, 1, 2] rfl hx
  | succ n ih =>
    intro m x a k hk hr ha hx
    refine az_iload_n C 0 dX3_meanLevel_4 rfl ?_
    refine az_aload_n C 2 dX3_meanLevel_5 rfl ?_
    refine az_get C cX3 0 0 0 (v := .ref (ρ.1 1)) wl_X3_12 dX3_meanLevel_6 rfl rfl rfl (by decide) ?_
    refine az_getN C cX2 0 1 8 (v := .int (x.1 1 8)) (az_bw C hG nx_X3_67 rfl) dX3_meanLevel_9 rfl rfl rfl (by decide) ?_
    refine az_top (nI nr) hr ?_
    refine az_icmp_ge C 32 dX3_meanLevel_12 (by decide) (fun q => absurd q (nlt_nle (show k < nr by omega) (by omega))) (fun _ => ?_)
    refine az_iload_n C 1 dX3_meanLevel_15 rfl ?_
    refine az_aload_n C 2 dX3_meanLevel_16 rfl ?_
    refine az_get C cX3 0 0 0 (v := .ref (ρ.1 1)) wl_X3_12 dX3_meanLevel_17 rfl rfl rfl (by decide) ?_
    refine az_iload_n C 0 dX3_meanLevel_20 rfl ?_
    refine az_callV C Y_X2_level cX2 0 1 [.int (nI k)] [.int a] wm_X3_98 wi_X2_level wse_X2_level dX3_meanLevel_21 rfl rfl rfl (klevel hG k (by omega) (ha k (by omega))) rfl (Nat.le_of_ble_eq_true rfl) (Nat.le_of_ble_eq_true rfl) (Nat.le_of_ble_eq_true rfl) (Nat.le_of_ble_eq_true rfl) (Nat.le_of_ble_eq_true rfl) (az_k1 rfl rfl ?_) (az_k0 rfl)
    refine az_iadd C dX3_meanLevel_24 ?_
    refine az_istore_n C (lv' := [(1, .int ((a + x.1 4 (k + 3) / x.1 2 k))), (2, .int (nI k)), (0, .ref (ρ.1 0))]) (j := 1) rfl dX3_meanLevel_25 (by decide) rfl ?_
    refine az_iinc C 1 (v := nI (k + 1)) (lv' := [(2, .int (nI (k + 1))), (1, .int ((a + x.1 4 (k + 3) / x.1 2 k))), (0, .ref (ρ.1 0))]) dX3_meanLevel_26 rfl (nI_1 k) (by decide) rfl ?_
    refine az_goto C 4 dX3_meanLevel_29 (by decide) ?_
    exact az_lv [0, 1, 2] rfl (ih m x (Xmean_lFa m x a k) (k + 1) (by omega) hr ha hx)

set_option maxHeartbeats 4000000 in
set_option maxRecDepth 100000 in
theorem XmeanLevel (hG : az_okS l G) (nr : Nat) (hn : nr ≤ 6) (hr : x.1 1 8 = nI nr) (ha : XAr x nr) (hne : ∀ v : Int32, vf_n64 (FP.ddiv (FP.i2d v) (FP.i2d (nI nr)))) : az_M l G yX3_meanLevel (az_ws yX3_meanLevel cX3_meanLevel 3 (Option.some FieldType.double)) 3 [.ref (ρ.1 0)] (AD ρ) (KK G ρ x m ou) 0 0 (az_r (some (.double ((FP.ddiv (FP.i2d ((Xmean_lF nr m x 0 0))) (FP.i2d (nI nr)))))) (AD ρ) (KK G ρ x m ou)) := by
  refine az_start hG.1 (by decide +kernel) (Nat.le_of_ble_eq_true rfl) ?_
  intro p e s mm args below meth c C hnm
  show az_W l G 3 _ p e _ s mm args below meth c _ _ 0 0 0 [(0, .ref (ρ.1 0))] []
  refine az_iconst C (v := 0) dX3_meanLevel_0 (by decide) ?_
  refine az_istore_n C (lv' := [(1, .int 0), (0, .ref (ρ.1 0))]) (j := 1) rfl dX3_meanLevel_1 (by decide) rfl ?_
  refine az_iconst C (v := 0) dX3_meanLevel_2 (by decide) ?_
  refine az_istore_n C (lv' := [(2, .int 0), (1, .int 0), (0, .ref (ρ.1 0))]) (j := 2) rfl dX3_meanLevel_3 (by decide) rfl ?_
  refine az_lv [0, 1, 2] rfl (Xmean_l hG C nr hn nr m x 0 0 (by omega) hr ha ?_)
  refine az_iload_n C 1 dX3_meanLevel_32 rfl ?_
  refine az_i2d C dX3_meanLevel_33 ?_
  refine az_aload_n C 2 dX3_meanLevel_34 rfl ?_
  refine az_get C cX3 0 0 0 (v := .ref (ρ.1 1)) wl_X3_12 dX3_meanLevel_35 rfl rfl rfl (by decide) ?_
  refine az_getN C cX2 0 1 8 (v := .int (x.1 1 8)) (az_bw C hG nx_X3_67 rfl) dX3_meanLevel_38 rfl rfl rfl (by decide) ?_
  refine az_top (nI nr) hr ?_
  refine az_i2d C dX3_meanLevel_41 ?_
  refine az_ddiv C dX3_meanLevel_42 (hne _) ?_
  exact az_dret C rfl dX3_meanLevel_43 (Nat.le_of_ble_eq_true rfl) (Nat.le_of_ble_eq_true rfl) ⟨rfl, rfl, rfl⟩

/-- the volumes that the record gives are those of the reaches from k on -/
def balOK (x : Xs) (m : Mz) (mv : Nat) : Nat → Nat → Int32
  | 0, _ => 1
  | n + 1, k => if x.1 4 (k + 3) = balX x m mv (nI k) then balOK x m mv n (k + 1) else 0
set_option maxHeartbeats 4000000 in
set_option maxRecDepth 100000 in
theorem XisBal_l (hG : az_okS l G) {p : Program} {e : Env} {s : State} {mm : MethodId} {args : Array Value} {below : List Frame} {meth : Method} {c : Code} (C : az_C l G p s mm args meth c cX3_isBalanced yX3_isBalanced.cls 2 (Option.some FieldType.boolean) []) : ∀ (nr : Nat) (hn : nr ≤ 6) (hr : x.1 1 8 = nI nr) (mv : Nat) (hm : x.1 8 3 = nI mv) (hmv : mv < 100000) (hc : mv ≤ ρ.2.2.2.1) (hc2 : ρ.2.2.2.1 < 2 ^ 31) (n k : Nat) (hk : k + n = nr), az_W l G 2 (az_Q G (az_r (some (.int (balOK x m mv n k))) (AD ρ) (KK G ρ x m ou)) below args s 0 0) p e (az_rm 4 0 0) s mm args below meth c (AD ρ) (KK G ρ x m ou) 0 0 25 [(1, .int (nI k)), (0, .ref (ρ.1 0))] [] := by
  intro nr hn hr mv hm hmv hc hc2 n
  induction n with
  | zero =>
    intro k hk
    obtain rfl : k = nr := by omega
    refine az_iload_n C 0 dX3_isBalanced_25 rfl ?_
    refine az_aload_n C 1 dX3_isBalanced_26 rfl ?_
    refine az_get C cX3 0 0 0 (v := .ref (ρ.1 1)) wl_X3_12 dX3_isBalanced_27 rfl rfl rfl (by decide) ?_
    refine az_getN C cX2 0 1 8 (v := .int (x.1 1 8)) (az_bw C hG nx_X3_67 rfl) dX3_isBalanced_30 rfl rfl rfl (by decide) ?_
    refine az_top (nI k) hr ?_
    refine az_icmp_ge C 57 dX3_isBalanced_33 (by decide) (fun _ => ?_) (fun q => absurd (Int32.le_refl _) q)
    refine az_iconst C (v := 1) dX3_isBalanced_57 (by decide) ?_
    exact az_zret C .boolean rfl rfl dX3_isBalanced_58 (Nat.le_of_ble_eq_true rfl) (Nat.le_of_ble_eq_true rfl) ⟨rfl, rfl, rfl⟩
  | succ n ih =>
    intro k hk
    by_cases he : x.1 4 (k + 3) = balX x m mv (nI k)
    · rw [balOK, if_pos he]
      refine az_iload_n C 0 dX3_isBalanced_25 rfl ?_
      refine az_aload_n C 1 dX3_isBalanced_26 rfl ?_
      refine az_get C cX3 0 0 0 (v := .ref (ρ.1 1)) wl_X3_12 dX3_isBalanced_27 rfl rfl rfl (by decide) ?_
      refine az_getN C cX2 0 1 8 (v := .int (x.1 1 8)) (az_bw C hG nx_X3_67 rfl) dX3_isBalanced_30 rfl rfl rfl (by decide) ?_
      refine az_top (nI nr) hr ?_
      refine az_icmp_ge C 57 dX3_isBalanced_33 (by decide) (fun q => absurd q (nlt_nle (show k < nr by omega) (by omega))) (fun _ => ?_)
      refine az_aload_n C 1 dX3_isBalanced_36 rfl ?_
      refine az_iload_n C 0 dX3_isBalanced_37 rfl ?_
      refine az_callV C Y_X3_volumeOf cX3 0 0 [.int (nI k)] [] wm_X3_294 wi_X3_volumeOf wse_X3_volumeOf dX3_isBalanced_38 rfl rfl rfl (XvolumeOf1 hG nr k hr hn (by omega)) rfl (Nat.le_of_ble_eq_true rfl) (Nat.le_of_ble_eq_true rfl) (Nat.le_of_ble_eq_true rfl) (Nat.le_of_ble_eq_true rfl) (Nat.le_of_ble_eq_true rfl) (az_k1 rfl rfl ?_) (az_k0 rfl)
      refine az_aload_n C 1 dX3_isBalanced_41 rfl ?_
      refine az_iload_n C 0 dX3_isBalanced_42 rfl ?_
      refine az_callV C Y_X3_volumeBySteps cX3 0 0 [.int (nI k)] [.int (x.1 4 (k + 3))] wm_X3_297 wi_X3_volumeBySteps wse_X3_volumeBySteps dX3_isBalanced_43 rfl rfl rfl (XvolumeBySteps1 hG nr k hr hn (by omega) mv hm hmv hc hc2) rfl (Nat.le_of_ble_eq_true rfl) (Nat.le_of_ble_eq_true rfl) (Nat.le_of_ble_eq_true rfl) (Nat.le_of_ble_eq_true rfl) (Nat.le_of_ble_eq_true rfl) (az_k1 rfl rfl ?_) (az_k0 rfl)
      refine az_icmp_eq C 51 dX3_isBalanced_46 (by decide) (fun _ => ?_) (fun q => absurd he q)
      refine az_iinc C 0 (v := nI (k + 1)) (lv' := [(1, .int (nI (k + 1))), (0, .ref (ρ.1 0))]) dX3_isBalanced_51 rfl (nI_1 k) (by decide) rfl ?_
      refine az_goto C 25 dX3_isBalanced_54 (by decide) ?_
      exact az_lv [0, 1] rfl (ih (k + 1) (by omega))
    · rw [balOK, if_neg he]
      refine az_iload_n C 0 dX3_isBalanced_25 rfl ?_
      refine az_aload_n C 1 dX3_isBalanced_26 rfl ?_
      refine az_get C cX3 0 0 0 (v := .ref (ρ.1 1)) wl_X3_12 dX3_isBalanced_27 rfl rfl rfl (by decide) ?_
      refine az_getN C cX2 0 1 8 (v := .int (x.1 1 8)) (az_bw C hG nx_X3_67 rfl) dX3_isBalanced_30 rfl rfl rfl (by decide) ?_
      refine az_top (nI nr) hr ?_
      refine az_icmp_ge C 57 dX3_isBalanced_33 (by decide) (fun q => absurd q (nlt_nle (show k < nr by omega) (by omega))) (fun _ => ?_)
      refine az_aload_n C 1 dX3_isBalanced_36 rfl ?_
      refine az_iload_n C 0 dX3_isBalanced_37 rfl ?_
      refine az_callV C Y_X3_volumeOf cX3 0 0 [.int (nI k)] [] wm_X3_294 wi_X3_volumeOf wse_X3_volumeOf dX3_isBalanced_38 rfl rfl rfl (XvolumeOf1 hG nr k hr hn (by omega)) rfl (Nat.le_of_ble_eq_true rfl) (Nat.le_of_ble_eq_true rfl) (Nat.le_of_ble_eq_true rfl) (Nat.le_of_ble_eq_true rfl) (Nat.le_of_ble_eq_true rfl) (az_k1 rfl rfl ?_) (az_k0 rfl)
      refine az_aload_n C 1 dX3_isBalanced_41 rfl ?_
      refine az_iload_n C 0 dX3_isBalanced_42 rfl ?_
      refine az_callV C Y_X3_volumeBySteps cX3 0 0 [.int (nI k)] [.int (x.1 4 (k + 3))] wm_X3_297 wi_X3_volumeBySteps wse_X3_volumeBySteps dX3_isBalanced_43 rfl rfl rfl (XvolumeBySteps1 hG nr k hr hn (by omega) mv hm hmv hc hc2) rfl (Nat.le_of_ble_eq_true rfl) (Nat.le_of_ble_eq_true rfl) (Nat.le_of_ble_eq_true rfl) (Nat.le_of_ble_eq_true rfl) (Nat.le_of_ble_eq_true rfl) (az_k1 rfl rfl ?_) (az_k0 rfl)
      refine az_icmp_eq C 51 dX3_isBalanced_46 (by decide) (fun q => absurd q he) (fun _ => ?_)
      refine az_iconst C (v := 0) dX3_isBalanced_49 (by decide) ?_
      exact az_zret C .boolean rfl rfl dX3_isBalanced_50 (Nat.le_of_ble_eq_true rfl) (Nat.le_of_ble_eq_true rfl) ⟨rfl, rfl, rfl⟩

set_option maxHeartbeats 4000000 in
set_option maxRecDepth 100000 in
theorem XisBalanced0 (hG : az_okS l G) (nr : Nat) (hn : nr ≤ 6) (h1 : 1 ≤ nr) (hr : x.1 1 8 = nI nr) (he : ¬ -x.1 4 2 = heldX x m nr + x.1 4 1 + x.1 4 0) : az_M l G yX3_isBalanced (az_ws yX3_isBalanced cX3_isBalanced 2 (Option.some FieldType.boolean)) 4 [.ref (ρ.1 0)] (AD ρ) (KK G ρ x m ou) 0 0 (az_r (some (.int 0)) (AD ρ) (KK G ρ x m ou)) := by
  refine az_start hG.1 (by decide +kernel) (Nat.le_of_ble_eq_true rfl) ?_
  intro p e s mm args below meth c C hnm
  show az_W l G 2 _ p e _ s mm args below meth c _ _ 0 0 0 [(0, .ref (ρ.1 0))] []
  refine az_aload_n C 0 dX3_isBalanced_0 rfl ?_
  refine az_callV C Y_X3_cameTotal cX3 0 0 [] [] wm_X3_282 wi_X3_cameTotal wse_X3_cameTotal dX3_isBalanced_1 rfl rfl rfl (XcameTotal hG) rfl (Nat.le_of_ble_eq_true rfl) (Nat.le_of_ble_eq_true rfl) (Nat.le_of_ble_eq_true rfl) (Nat.le_of_ble_eq_true rfl) (Nat.le_of_ble_eq_true rfl) (az_k1 rfl rfl ?_) (az_k0 rfl)
  refine az_aload_n C 0 dX3_isBalanced_4 rfl ?_
  refine az_callV C Y_X3_heldTotal cX3 0 0 [] [.int ((-x.1 4 2))] wm_X3_285 wi_X3_heldTotal wse_X3_heldTotal dX3_isBalanced_5 rfl rfl rfl (XheldTotal hG nr hn h1 hr) rfl (Nat.le_of_ble_eq_true rfl) (Nat.le_of_ble_eq_true rfl) (Nat.le_of_ble_eq_true rfl) (Nat.le_of_ble_eq_true rfl) (Nat.le_of_ble_eq_true rfl) (az_k1 rfl rfl ?_) (az_k0 rfl)
  refine az_aload_n C 0 dX3_isBalanced_8 rfl ?_
  refine az_callV C Y_X3_seaTotal cX3 0 0 [] [.int (heldX x m nr), .int ((-x.1 4 2))] wm_X3_288 wi_X3_seaTotal wse_X3_seaTotal dX3_isBalanced_9 rfl rfl rfl (XseaTotal hG) rfl (Nat.le_of_ble_eq_true rfl) (Nat.le_of_ble_eq_true rfl) (Nat.le_of_ble_eq_true rfl) (Nat.le_of_ble_eq_true rfl) (Nat.le_of_ble_eq_true rfl) (az_k1 rfl rfl ?_) (az_k0 rfl)
  refine az_iadd C dX3_isBalanced_12 ?_
  refine az_aload_n C 0 dX3_isBalanced_13 rfl ?_
  refine az_callV C Y_X3_airTotal cX3 0 0 [] [.int ((heldX x m nr + x.1 4 1)), .int ((-x.1 4 2))] wm_X3_291 wi_X3_airTotal wse_X3_airTotal dX3_isBalanced_14 rfl rfl rfl (XairTotal hG) rfl (Nat.le_of_ble_eq_true rfl) (Nat.le_of_ble_eq_true rfl) (Nat.le_of_ble_eq_true rfl) (Nat.le_of_ble_eq_true rfl) (Nat.le_of_ble_eq_true rfl) (az_k1 rfl rfl ?_) (az_k0 rfl)
  refine az_iadd C dX3_isBalanced_17 ?_
  refine az_icmp_eq C 23 dX3_isBalanced_18 (by decide) (fun q => absurd q he) (fun _ => ?_)
  refine az_iconst C (v := 0) dX3_isBalanced_21 (by decide) ?_
  exact az_zret C .boolean rfl rfl dX3_isBalanced_22 (Nat.le_of_ble_eq_true rfl) (Nat.le_of_ble_eq_true rfl) ⟨rfl, rfl, rfl⟩

set_option maxHeartbeats 4000000 in
set_option maxRecDepth 100000 in
theorem XisBalanced1 (hG : az_okS l G) (nr : Nat) (hn : nr ≤ 6) (h1 : 1 ≤ nr) (hr : x.1 1 8 = nI nr) (mv : Nat) (hm : x.1 8 3 = nI mv) (hmv : mv < 100000) (hc : mv ≤ ρ.2.2.2.1) (hc2 : ρ.2.2.2.1 < 2 ^ 31) (he : -x.1 4 2 = heldX x m nr + x.1 4 1 + x.1 4 0) : az_M l G yX3_isBalanced (az_ws yX3_isBalanced cX3_isBalanced 2 (Option.some FieldType.boolean)) 4 [.ref (ρ.1 0)] (AD ρ) (KK G ρ x m ou) 0 0 (az_r (some (.int (balOK x m mv nr 0))) (AD ρ) (KK G ρ x m ou)) := by
  refine az_start hG.1 (by decide +kernel) (Nat.le_of_ble_eq_true rfl) ?_
  intro p e s mm args below meth c C hnm
  show az_W l G 2 _ p e _ s mm args below meth c _ _ 0 0 0 [(0, .ref (ρ.1 0))] []
  refine az_aload_n C 0 dX3_isBalanced_0 rfl ?_
  refine az_callV C Y_X3_cameTotal cX3 0 0 [] [] wm_X3_282 wi_X3_cameTotal wse_X3_cameTotal dX3_isBalanced_1 rfl rfl rfl (XcameTotal hG) rfl (Nat.le_of_ble_eq_true rfl) (Nat.le_of_ble_eq_true rfl) (Nat.le_of_ble_eq_true rfl) (Nat.le_of_ble_eq_true rfl) (Nat.le_of_ble_eq_true rfl) (az_k1 rfl rfl ?_) (az_k0 rfl)
  refine az_aload_n C 0 dX3_isBalanced_4 rfl ?_
  refine az_callV C Y_X3_heldTotal cX3 0 0 [] [.int ((-x.1 4 2))] wm_X3_285 wi_X3_heldTotal wse_X3_heldTotal dX3_isBalanced_5 rfl rfl rfl (XheldTotal hG nr hn h1 hr) rfl (Nat.le_of_ble_eq_true rfl) (Nat.le_of_ble_eq_true rfl) (Nat.le_of_ble_eq_true rfl) (Nat.le_of_ble_eq_true rfl) (Nat.le_of_ble_eq_true rfl) (az_k1 rfl rfl ?_) (az_k0 rfl)
  refine az_aload_n C 0 dX3_isBalanced_8 rfl ?_
  refine az_callV C Y_X3_seaTotal cX3 0 0 [] [.int (heldX x m nr), .int ((-x.1 4 2))] wm_X3_288 wi_X3_seaTotal wse_X3_seaTotal dX3_isBalanced_9 rfl rfl rfl (XseaTotal hG) rfl (Nat.le_of_ble_eq_true rfl) (Nat.le_of_ble_eq_true rfl) (Nat.le_of_ble_eq_true rfl) (Nat.le_of_ble_eq_true rfl) (Nat.le_of_ble_eq_true rfl) (az_k1 rfl rfl ?_) (az_k0 rfl)
  refine az_iadd C dX3_isBalanced_12 ?_
  refine az_aload_n C 0 dX3_isBalanced_13 rfl ?_
  refine az_callV C Y_X3_airTotal cX3 0 0 [] [.int ((heldX x m nr + x.1 4 1)), .int ((-x.1 4 2))] wm_X3_291 wi_X3_airTotal wse_X3_airTotal dX3_isBalanced_14 rfl rfl rfl (XairTotal hG) rfl (Nat.le_of_ble_eq_true rfl) (Nat.le_of_ble_eq_true rfl) (Nat.le_of_ble_eq_true rfl) (Nat.le_of_ble_eq_true rfl) (Nat.le_of_ble_eq_true rfl) (az_k1 rfl rfl ?_) (az_k0 rfl)
  refine az_iadd C dX3_isBalanced_17 ?_
  refine az_icmp_eq C 23 dX3_isBalanced_18 (by decide) (fun _ => ?_) (fun q => absurd he q)
  refine az_iconst C (v := 0) dX3_isBalanced_23 (by decide) ?_
  refine az_istore_n C (lv' := [(1, .int 0), (0, .ref (ρ.1 0))]) (j := 1) rfl dX3_isBalanced_24 (by decide) rfl ?_
  exact az_lv [0, 1] rfl (XisBal_l hG C nr hn hr mv hm hmv hc hc2 nr 0 (by omega))

end
