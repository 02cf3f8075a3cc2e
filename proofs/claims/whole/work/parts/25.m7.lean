section
variable {l : Launch} {G : az_G} {ρ : Rp} {x : Xs} {m : Ms} {ou : Nat → Int64}
theorem nlt_nle {a b : Nat} (h : a < b) (hb : b < 2 ^ 30) : ¬ nI b ≤ nI a := fun z => by
  rw [Int32.le_iff_toInt_le, nI_toInt (by omega), nI_toInt (by omega)] at z
  omega
theorem b01 {c : Prop} {d : Decidable c} : (if (@ite Int32 c d 0 1) = 0 then (0 : Int32) else 1) = @ite Int32 c d 0 1 := by split <;> rfl
theorem b10 {c : Prop} {d : Decidable c} : (if (@ite Int32 c d 1 0) = 0 then (0 : Int32) else 1) = @ite Int32 c d 1 0 := by split <;> rfl
def Mheld1Fa (m : Ms) (a : Int32) (k : Nat) : Int32 := (a + m.1 4 k)
def Mheld1F : Nat → Ms → Int32 → Nat → Int32
  | 0, m, a, _ => a
  | n + 1, m, a, k => Mheld1F n m (Mheld1Fa m a k) (k + 1)
set_option maxHeartbeats 4000000 in
set_option maxRecDepth 100000 in
theorem Mheld1 (hG : az_okS l G) {p : Program} {e : Env} {s : State} {mm : MethodId} {args : Array Value} {below : List Frame} {meth : Method} {c : Code} (C : az_C l G p s mm args meth c cX4_held yX4_held.cls 3 (Option.some FieldType.int) []) {Qx : State → Prop} (nr : Nat) (hn : nr ≤ 6) : ∀ (n : Nat) (m : Ms) (a : Int32) (k : Nat) (hk : k + n = nr) (hr : m.1 0 1 = nI nr), az_W l G 3 Qx p e (az_rm 1 0 0) s mm args below meth c (AD ρ) (KK G ρ x m ou) 0 0 27 [(2, .int (nI nr)), (1, .int ((Mheld1F n m a k))), (0, .ref (ρ.1 100))] [] → az_W l G 3 Qx p e (az_rm 1 0 0) s mm args below meth c (AD ρ) (KK G ρ x m ou) 0 0 4 [(2, .int (nI k)), (1, .int a), (0, .ref (ρ.1 100))] [] := by
  intro n
  induction n with
  | zero =>
    intro m a k hk hr hx
    have hkk : k = nr := by omega
    rw [hkk]
    refine az_iload_n C 0 dX4_held_4 rfl ?_
    refine az_aload_n C 2 dX4_held_5 rfl ?_
    refine az_get C cX4 2 0 1 (v := .int (m.1 0 1)) wl_X4_7 dX4_held_6 rfl rfl rfl (by decide) ?_
    refine az_top (nI nr) hr ?_
    refine az_icmp_ge C 27 dX4_held_9 (by decide) (fun _ => ?_) (fun q => absurd (Int32.le_refl _) q)
    exact az_lv [0, 1, 2] rfl hx
  | succ n ih =>
    intro m a k hk hr hx
    refine az_iload_n C 0 dX4_held_4 rfl ?_
    refine az_aload_n C 2 dX4_held_5 rfl ?_
    refine az_get C cX4 2 0 1 (v := .int (m.1 0 1)) wl_X4_7 dX4_held_6 rfl rfl rfl (by decide) ?_
    refine az_top (nI nr) hr ?_
    refine az_icmp_ge C 27 dX4_held_9 (by decide) (fun q => absurd q (nlt_nle (show k < nr by omega) (by omega))) (fun _ => ?_)
    refine az_iload_n C 1 dX4_held_12 rfl ?_
    refine az_aload_n C 2 dX4_held_13 rfl ?_
    refine az_get C cX4 2 0 4 (v := .ref (ρ.1 104)) wl_X4_17 dX4_held_14 rfl rfl rfl (by decide) ?_
    refine az_iload_n C 0 dX4_held_17 rfl ?_
    refine az_ialdN C 2 4 k (v := m.1 4 k) dX4_held_18 rfl rfl (by omega) (by decide) rfl ?_
    refine az_iadd C dX4_held_19 ?_
    refine az_istore_n C (lv' := [(1, .int ((a + m.1 4 k))), (2, .int (nI k)), (0, .ref (ρ.1 100))]) (j := 1) rfl dX4_held_20 (by decide) rfl ?_
    refine az_iinc C 1 (v := nI (k + 1)) (lv' := [(2, .int (nI (k + 1))), (1, .int ((a + m.1 4 k))), (0, .ref (ρ.1 100))]) dX4_held_21 rfl (nI_1 k) (by decide) rfl ?_
    refine az_goto C 4 dX4_held_24 (by decide) ?_
    exact az_lv [0, 1, 2] rfl (ih m (Mheld1Fa m a k) (k + 1) (by omega) hr hx)

def Mheld2Fa (m : Ms) (a : Int32) (k : Nat) : Int32 := (a + (if m.1 11 k = 0 then 0 else m.1 7 k))
def Mheld2F : Nat → Ms → Int32 → Nat → Int32
  | 0, m, a, _ => a
  | n + 1, m, a, k => Mheld2F n m (Mheld2Fa m a k) (k + 1)
set_option maxHeartbeats 4000000 in
set_option maxRecDepth 100000 in
theorem Mheld2 (hG : az_okS l G) {p : Program} {e : Env} {s : State} {mm : MethodId} {args : Array Value} {below : List Frame} {meth : Method} {c : Code} (C : az_C l G p s mm args meth c cX4_held yX4_held.cls 3 (Option.some FieldType.int) []) {Qx : State → Prop}  : ∀ (n : Nat) (m : Ms) (a : Int32) (k : Nat) (hk : k + n = 5), az_W l G 3 Qx p e (az_rm 1 0 0) s mm args below meth c (AD ρ) (KK G ρ x m ou) 0 0 62 [(2, .int (nI 5)), (1, .int ((Mheld2F n m a k))), (0, .ref (ρ.1 100))] [] → az_W l G 3 Qx p e (az_rm 1 0 0) s mm args below meth c (AD ρ) (KK G ρ x m ou) 0 0 29 [(2, .int (nI k)), (1, .int a), (0, .ref (ρ.1 100))] [] := by
  intro n
  induction n with
  | zero =>
    intro m a k hk hx
    have hkk : k = 5 := by omega
    rw [hkk]
    refine az_iload_n C 0 dX4_held_29 rfl ?_
    refine az_iconst C (v := 5) dX4_held_30 (by decide) ?_
    refine az_top (nI 5) rfl ?_
    refine az_icmp_ge C 62 dX4_held_31 (by decide) (fun _ => ?_) (fun q => absurd (Int32.le_refl _) q)
    exact az_lv [0, 1, 2] rfl hx
  | succ n ih =>
    intro m a k hk hx
    refine az_iload_n C 0 dX4_held_29 rfl ?_
    refine az_iconst C (v := 5) dX4_held_30 (by decide) ?_
    refine az_top (nI 5) rfl ?_
    refine az_icmp_ge C 62 dX4_held_31 (by decide) (fun q => absurd q (nlt_nle (show k < 5 by omega) (by omega))) (fun _ => ?_)
    refine az_iload_n C 1 dX4_held_34 rfl ?_
    refine az_aload_n C 2 dX4_held_35 rfl ?_
    refine az_get C cX4 2 0 11 (v := .ref (ρ.1 111)) wl_X4_38 dX4_held_36 rfl rfl rfl (by decide) ?_
    refine az_iload_n C 0 dX4_held_39 rfl ?_
    refine az_zaldN C 2 11 k (v := m.1 11 k) dX4_held_40 rfl rfl (by omega) (by decide) rfl ?_
    suffices J1 : az_W l G 3 _ p e _ s mm args below meth c (AD ρ) (KK G ρ x m ou) _ _ 54 [(2, .int (nI k)), (1, .int a), (0, .ref (ρ.1 100))] [.int ((if m.1 11 k = 0 then 0 else m.1 7 k)), .int a] by
      refine az_if_eq C 53 dX4_held_41 (by decide) (fun c2 => ?_) (fun c2 => ?_)
      · refine az_iconst C (v := 0) dX4_held_53 (by decide) ?_
        first | rw [if_pos (show m.1 11 k = 0 from c2)] at J1 ⊢ | rw [if_pos (show m.1 11 k = 0 from c2)] at J1
        exact az_lv [0, 1, 2] rfl J1
      · refine az_aload_n C 2 dX4_held_44 rfl ?_
        refine az_get C cX4 2 0 7 (v := .ref (ρ.1 107)) wl_X4_26 dX4_held_45 rfl rfl rfl (by decide) ?_
        refine az_iload_n C 0 dX4_held_48 rfl ?_
        refine az_ialdN C 2 7 k (v := m.1 7 k) dX4_held_49 rfl rfl (by omega) (by decide) rfl ?_
        refine az_goto C 54 dX4_held_50 (by decide) ?_
        first | rw [if_neg (show ¬ (m.1 11 k = 0) from c2)] at J1 ⊢ | rw [if_neg (show ¬ (m.1 11 k = 0) from c2)] at J1
        exact az_lv [0, 1, 2] rfl J1
    refine az_iadd C dX4_held_54 ?_
    refine az_istore_n C (lv' := [(1, .int ((a + (if m.1 11 k = 0 then 0 else m.1 7 k)))), (2, .int (nI k)), (0, .ref (ρ.1 100))]) (j := 1) rfl dX4_held_55 (by decide) rfl ?_
    refine az_iinc C 1 (v := nI (k + 1)) (lv' := [(2, .int (nI (k + 1))), (1, .int ((a + (if m.1 11 k = 0 then 0 else m.1 7 k)))), (0, .ref (ρ.1 100))]) dX4_held_56 rfl (nI_1 k) (by decide) rfl ?_
    refine az_goto C 29 dX4_held_59 (by decide) ?_
    exact az_lv [0, 1, 2] rfl (ih m (Mheld2Fa m a k) (k + 1) (by omega) hx)

set_option maxHeartbeats 4000000 in
set_option maxRecDepth 100000 in
theorem Mheld (hG : az_okS l G) (nr : Nat) (hn : nr ≤ 6) (hr : m.1 0 1 = nI nr) : az_M l G yX4_held (az_ws yX4_held cX4_held 3 (Option.some FieldType.int)) 1 [.ref (ρ.1 100)] (AD ρ) (KK G ρ x m ou) 0 0 (az_r (some (.int ((Mheld2F 5 m ((Mheld1F nr m 0 0)) 0)))) (AD ρ) (KK G ρ x m ou)) := by
  refine az_start hG.1 (by decide +kernel) (Nat.le_of_ble_eq_true rfl) ?_
  intro p e s mm args below meth c C hnm
  show az_W l G 3 _ p e _ s mm args below meth c _ _ 0 0 0 [(0, .ref (ρ.1 100))] []
  refine az_iconst C (v := 0) dX4_held_0 (by decide) ?_
  refine az_istore_n C (lv' := [(1, .int 0), (0, .ref (ρ.1 100))]) (j := 1) rfl dX4_held_1 (by decide) rfl ?_
  refine az_iconst C (v := 0) dX4_held_2 (by decide) ?_
  refine az_istore_n C (lv' := [(2, .int 0), (1, .int 0), (0, .ref (ρ.1 100))]) (j := 2) rfl dX4_held_3 (by decide) rfl ?_
  refine az_lv [0, 1, 2] rfl (Mheld1 hG C nr hn nr m 0 0 (by omega) hr ?_)
  refine az_iconst C (v := 0) dX4_held_27 (by decide) ?_
  refine az_istore_n C (lv' := [(2, .int 0), (1, .int ((Mheld1F nr m 0 0))), (0, .ref (ρ.1 100))]) (j := 2) rfl dX4_held_28 (by decide) rfl ?_
  refine az_lv [0, 1, 2] rfl (Mheld2 hG C  5 m ((Mheld1F nr m 0 0)) 0 (by omega)  ?_)
  refine az_iload_n C 1 dX4_held_62 rfl ?_
  exact az_iret C rfl dX4_held_63 (Nat.le_of_ble_eq_true rfl) (Nat.le_of_ble_eq_true rfl) ⟨rfl, rfl, rfl⟩

def heldM (m : Ms) (nr : Nat) : Int32 := Mheld2F 5 m (Mheld1F nr m 0 0) 0
set_option maxHeartbeats 4000000 in
set_option maxRecDepth 100000 in
theorem MheldTotal (hG : az_okS l G) (nr : Nat) (hn : nr ≤ 6) (hr : m.1 0 1 = nI nr) : az_M l G yX4_heldTotal (az_ws yX4_heldTotal cX4_heldTotal 1 (Option.some FieldType.int)) 2 [.ref (ρ.1 100)] (AD ρ) (KK G ρ x m ou) 0 0 (az_r (some (.int (heldM m nr))) (AD ρ) (KK G ρ x (mI m 0 0 0) ou)) := by
  refine az_start hG.1 (by decide +kernel) (Nat.le_of_ble_eq_true rfl) ?_
  intro p e s mm args below meth c C hnm
  show az_W l G 1 _ p e _ s mm args below meth c _ _ 0 0 0 [(0, .ref (ρ.1 100))] []
  refine az_aload_n C 0 dX4_heldTotal_0 rfl ?_
  refine az_aload_n C 0 dX4_heldTotal_1 rfl ?_
  refine az_callV C Y_X4_held cX4 2 0 [] [.ref (ρ.1 100)] wm_X4_237 wi_X4_held wse_X4_held dX4_heldTotal_2 rfl rfl rfl (Mheld hG nr hn hr) rfl (Nat.le_of_ble_eq_true rfl) (Nat.le_of_ble_eq_true rfl) (Nat.le_of_ble_eq_true rfl) (Nat.le_of_ble_eq_true rfl) (Nat.le_of_ble_eq_true rfl) (az_k1 rfl rfl ?_) (az_k0 rfl)
  refine az_callV C Y_X4_tells cX4 2 0 [.int (heldM m nr)] [] wm_X4_125 wi_X4_tells wse_X4_tells dX4_heldTotal_5 rfl rfl rfl (Mtells hG (heldM m nr)) rfl (Nat.le_of_ble_eq_true rfl) (Nat.le_of_ble_eq_true rfl) (Nat.le_of_ble_eq_true rfl) (Nat.le_of_ble_eq_true rfl) (Nat.le_of_ble_eq_true rfl) (az_k1 rfl rfl ?_) (az_k0 rfl)
  exact az_iret C rfl dX4_heldTotal_8 (Nat.le_of_ble_eq_true rfl) (Nat.le_of_ble_eq_true rfl) ⟨rfl, rfl, rfl⟩

def MstepsFa (v : Int32) (m : Ms) (a : Int32) (k : Nat) : Int32 := ((a + (if ¬ m.1 26 k = v then 0 else m.1 27 k)) - (if ¬ m.1 25 k = v then 0 else m.1 27 k))
def MstepsF (v : Int32) : Nat → Ms → Int32 → Nat → Int32
  | 0, m, a, _ => a
  | n + 1, m, a, k => MstepsF v n m (MstepsFa v m a k) (k + 1)
set_option maxHeartbeats 4000000 in
set_option maxRecDepth 100000 in
theorem Msteps (hG : az_okS l G) {p : Program} {e : Env} {s : State} {mm : MethodId} {args : Array Value} {below : List Frame} {meth : Method} {c : Code} (C : az_C l G p s mm args meth c cX4_bySteps yX4_bySteps.cls 4 (Option.some FieldType.int) []) {Qx : State → Prop} (mv : Nat) (hmv : mv < 100000) (v : Int32) : ∀ (n : Nat) (m : Ms) (a : Int32) (k : Nat) (hk : k + n = mv) (hm : m.1 0 24 = nI mv), az_W l G 4 Qx p e (az_rm 1 0 0) s mm args below meth c (AD ρ) (KK G ρ x m ou) 0 0 64 [(3, .int (nI mv)), (2, .int ((MstepsF v n m a k))), (1, .int v), (0, .ref (ρ.1 100))] [] → az_W l G 4 Qx p e (az_rm 1 0 0) s mm args below meth c (AD ρ) (KK G ρ x m ou) 0 0 4 [(3, .int (nI k)), (2, .int a), (1, .int v), (0, .ref (ρ.1 100))] [] := by
  intro n
  induction n with
  | zero =>
    intro m a k hk hm hx
    have hkk : k = mv := by omega
    rw [hkk]
    refine az_iload_n C 0 dX4_bySteps_4 rfl ?_
    refine az_aload_n C 3 dX4_bySteps_5 rfl ?_
    refine az_get C cX4 2 0 24 (v := .int (m.1 0 24)) wl_X4_72 dX4_bySteps_6 rfl rfl rfl (by decide) ?_
    refine az_top (nI mv) hm ?_
    refine az_icmp_ge C 64 dX4_bySteps_9 (by decide) (fun _ => ?_) (fun q => absurd (Int32.le_refl _) q)
    exact az_lv [0, 1, 2, 3] rfl hx
  | succ n ih =>
    intro m a k hk hm hx
    refine az_iload_n C 0 dX4_bySteps_4 rfl ?_
    refine az_aload_n C 3 dX4_bySteps_5 rfl ?_
    refine az_get C cX4 2 0 24 (v := .int (m.1 0 24)) wl_X4_72 dX4_bySteps_6 rfl rfl rfl (by decide) ?_
    refine az_top (nI mv) hm ?_
    refine az_icmp_ge C 64 dX4_bySteps_9 (by decide) (fun q => absurd q (nlt_nle (show k < mv by omega) (by omega))) (fun _ => ?_)
    refine az_iload_n C 1 dX4_bySteps_12 rfl ?_
    refine az_aload_n C 3 dX4_bySteps_13 rfl ?_
    refine az_get C cX4 2 0 26 (v := .ref (ρ.1 126)) wl_X4_79 dX4_bySteps_14 rfl rfl rfl (by decide) ?_
    refine az_iload_n C 0 dX4_bySteps_17 rfl ?_
    refine az_ialdN C 2 26 k (v := m.1 26 k) dX4_bySteps_18 rfl rfl (by omega) (by decide) rfl ?_
    refine az_iload_n C 2 dX4_bySteps_19 rfl ?_
    suffices J1 : az_W l G 4 _ p e _ s mm args below meth c (AD ρ) (KK G ρ x m ou) _ _ 33 [(3, .int (nI k)), (2, .int a), (1, .int v), (0, .ref (ρ.1 100))] [.int ((if ¬ m.1 26 k = v then 0 else m.1 27 k)), .int a] by
      refine az_icmp_ne C 32 dX4_bySteps_20 (by decide) (fun c2 => ?_) (fun c2 => ?_)
      · refine az_iconst C (v := 0) dX4_bySteps_32 (by decide) ?_
        first | rw [if_pos (show ¬ m.1 26 k = v from c2)] at J1 ⊢ | rw [if_pos (show ¬ m.1 26 k = v from c2)] at J1
        exact az_lv [0, 1, 2, 3] rfl J1
      · refine az_aload_n C 3 dX4_bySteps_23 rfl ?_
        refine az_get C cX4 2 0 27 (v := .ref (ρ.1 127)) wl_X4_82 dX4_bySteps_24 rfl rfl rfl (by decide) ?_
        refine az_iload_n C 0 dX4_bySteps_27 rfl ?_
        refine az_ialdN C 2 27 k (v := m.1 27 k) dX4_bySteps_28 rfl rfl (by omega) (by decide) rfl ?_
        refine az_goto C 33 dX4_bySteps_29 (by decide) ?_
        first | rw [if_neg (show ¬ (¬ m.1 26 k = v) from fun z => z c2)] at J1 ⊢ | rw [if_neg (show ¬ (¬ m.1 26 k = v) from fun z => z c2)] at J1
        exact az_lv [0, 1, 2, 3] rfl J1
    refine az_iadd C dX4_bySteps_33 ?_
    refine az_istore_n C (lv' := [(2, .int ((a + (if ¬ m.1 26 k = v then 0 else m.1 27 k)))), (3, .int (nI k)), (1, .int v), (0, .ref (ρ.1 100))]) (j := 2) rfl dX4_bySteps_34 (by decide) rfl ?_
    refine az_iload_n C 0 dX4_bySteps_35 rfl ?_
    refine az_aload_n C 3 dX4_bySteps_36 rfl ?_
    refine az_get C cX4 2 0 25 (v := .ref (ρ.1 125)) wl_X4_76 dX4_bySteps_37 rfl rfl rfl (by decide) ?_
    refine az_iload_n C 1 dX4_bySteps_40 rfl ?_
    refine az_ialdN C 2 25 k (v := m.1 25 k) dX4_bySteps_41 rfl rfl (by omega) (by decide) rfl ?_
    refine az_iload_n C 2 dX4_bySteps_42 rfl ?_
    suffices J3 : az_W l G 4 _ p e _ s mm args below meth c (AD ρ) (KK G ρ x m ou) _ _ 56 [(2, .int ((a + (if ¬ m.1 26 k = v then 0 else m.1 27 k)))), (3, .int (nI k)), (1, .int v), (0, .ref (ρ.1 100))] [.int ((if ¬ m.1 25 k = v then 0 else m.1 27 k)), .int ((a + (if ¬ m.1 26 k = v then 0 else m.1 27 k)))] by
      refine az_icmp_ne C 55 dX4_bySteps_43 (by decide) (fun c4 => ?_) (fun c4 => ?_)
      · refine az_iconst C (v := 0) dX4_bySteps_55 (by decide) ?_
        first | rw [if_pos (show ¬ m.1 25 k = v from c4)] at J3 ⊢ | rw [if_pos (show ¬ m.1 25 k = v from c4)] at J3
        exact az_lv [0, 1, 2, 3] rfl J3
      · refine az_aload_n C 3 dX4_bySteps_46 rfl ?_
        refine az_get C cX4 2 0 27 (v := .ref (ρ.1 127)) wl_X4_82 dX4_bySteps_47 rfl rfl rfl (by decide) ?_
        refine az_iload_n C 1 dX4_bySteps_50 rfl ?_
        refine az_ialdN C 2 27 k (v := m.1 27 k) dX4_bySteps_51 rfl rfl (by omega) (by decide) rfl ?_
        refine az_goto C 56 dX4_bySteps_52 (by decide) ?_
        first | rw [if_neg (show ¬ (¬ m.1 25 k = v) from fun z => z c4)] at J3 ⊢ | rw [if_neg (show ¬ (¬ m.1 25 k = v) from fun z => z c4)] at J3
        exact az_lv [0, 1, 2, 3] rfl J3
    refine az_isub C dX4_bySteps_56 ?_
    refine az_istore_n C (lv' := [(2, .int (((a + (if ¬ m.1 26 k = v then 0 else m.1 27 k)) - (if ¬ m.1 25 k = v then 0 else m.1 27 k)))), (3, .int (nI k)), (1, .int v), (0, .ref (ρ.1 100))]) (j := 2) rfl dX4_bySteps_57 (by decide) rfl ?_
    refine az_iinc C 1 (v := nI (k + 1)) (lv' := [(3, .int (nI (k + 1))), (2, .int (((a + (if ¬ m.1 26 k = v then 0 else m.1 27 k)) - (if ¬ m.1 25 k = v then 0 else m.1 27 k)))), (1, .int v), (0, .ref (ρ.1 100))]) dX4_bySteps_58 rfl (nI_1 k) (by decide) rfl ?_
    refine az_goto C 4 dX4_bySteps_61 (by decide) ?_
    exact az_lv [0, 1, 2, 3] rfl (ih m (MstepsFa v m a k) (k + 1) (by omega) hm hx)

set_option maxHeartbeats 4000000 in
set_option maxRecDepth 100000 in
theorem MbySteps (hG : az_okS l G) (mv : Nat) (hmv : mv < 100000) (v : Int32) (hm : m.1 0 24 = nI mv) : az_M l G yX4_bySteps (az_ws yX4_bySteps cX4_bySteps 4 (Option.some FieldType.int)) 1 [.ref (ρ.1 100), .int v] (AD ρ) (KK G ρ x m ou) 0 0 (az_r (some (.int ((MstepsF v mv m 0 0)))) (AD ρ) (KK G ρ x m ou)) := by
  refine az_start hG.1 (by decide +kernel) (Nat.le_of_ble_eq_true rfl) ?_
  intro p e s mm args below meth c C hnm
  show az_W l G 4 _ p e _ s mm args below meth c _ _ 0 0 0 [(0, .ref (ρ.1 100)), (1, .int v)] []
  refine az_iconst C (v := 0) dX4_bySteps_0 (by decide) ?_
  refine az_istore_n C (lv' := [(2, .int 0), (0, .ref (ρ.1 100)), (1, .int v)]) (j := 2) rfl dX4_bySteps_1 (by decide) rfl ?_
  refine az_iconst C (v := 0) dX4_bySteps_2 (by decide) ?_
  refine az_istore_n C (lv' := [(3, .int 0), (2, .int 0), (0, .ref (ρ.1 100)), (1, .int v)]) (j := 3) rfl dX4_bySteps_3 (by decide) rfl ?_
  refine az_lv [0, 1, 3, 2] rfl (Msteps hG C mv hmv v mv m 0 0 (by omega) hm ?_)
  refine az_iload_n C 1 dX4_bySteps_64 rfl ?_
  exact az_iret C rfl dX4_bySteps_65 (Nat.le_of_ble_eq_true rfl) (Nat.le_of_ble_eq_true rfl) ⟨rfl, rfl, rfl⟩

def stepsM (m : Ms) (mv : Nat) (v : Int32) : Int32 := MstepsF v mv m 0 0
set_option maxHeartbeats 4000000 in
set_option maxRecDepth 100000 in
theorem MvolumeBySteps1 (hG : az_okS l G) (nr k : Nat) (hr : m.1 0 1 = nI nr) (hn : nr ≤ 6) (hk : k + 1 ≤ nr) (mv : Nat) (hmv : mv < 100000) (hm : m.1 0 24 = nI mv) : az_M l G yX4_volumeBySteps (az_ws yX4_volumeBySteps cX4_volumeBySteps 2 (Option.some FieldType.int)) 3 [.ref (ρ.1 100), .int (nI k)] (AD ρ) (KK G ρ x m ou) 0 0 (az_r (some (.int (stepsM m mv (nI k)))) (AD ρ) (KK G ρ x (mI m 0 0 0) ou)) := by
  refine az_start hG.1 (by decide +kernel) (Nat.le_of_ble_eq_true rfl) ?_
  intro p e s mm args below meth c C hnm
  show az_W l G 2 _ p e _ s mm args below meth c _ _ 0 0 0 [(0, .ref (ρ.1 100)), (1, .int (nI k))] []
  refine az_aload_n C 0 dX4_volumeBySteps_0 rfl ?_
  refine az_iload_n C 1 dX4_volumeBySteps_1 rfl ?_
  refine az_callV C Y_X4_isReach cX4 2 0 [.int (nI k)] [] wm_X4_128 wi_X4_isReach wse_X4_isReach dX4_volumeBySteps_2 rfl rfl rfl (Mr1 hG nr k hr hn hk) rfl (Nat.le_of_ble_eq_true rfl) (Nat.le_of_ble_eq_true rfl) (Nat.le_of_ble_eq_true rfl) (Nat.le_of_ble_eq_true rfl) (Nat.le_of_ble_eq_true rfl) (az_k1 rfl rfl ?_) (az_k0 rfl)
  refine az_if_eq C 20 dX4_volumeBySteps_5 (by decide) (fun q => absurd q (by decide)) (fun _ => ?_)
  refine az_aload_n C 0 dX4_volumeBySteps_8 rfl ?_
  refine az_aload_n C 0 dX4_volumeBySteps_9 rfl ?_
  refine az_iload_n C 1 dX4_volumeBySteps_10 rfl ?_
  refine az_callV C Y_X4_bySteps cX4 2 0 [.int (nI k)] [.ref (ρ.1 100)] wm_X4_132 wi_X4_bySteps wse_X4_bySteps dX4_volumeBySteps_11 rfl rfl rfl (MbySteps hG mv hmv (nI k) hm) rfl (Nat.le_of_ble_eq_true rfl) (Nat.le_of_ble_eq_true rfl) (Nat.le_of_ble_eq_true rfl) (Nat.le_of_ble_eq_true rfl) (Nat.le_of_ble_eq_true rfl) (az_k1 rfl rfl ?_) (az_k0 rfl)
  refine az_callV C Y_X4_tells cX4 2 0 [.int (stepsM m mv (nI k))] [] wm_X4_125 wi_X4_tells wse_X4_tells dX4_volumeBySteps_14 rfl rfl rfl (Mtells hG (stepsM m mv (nI k))) rfl (Nat.le_of_ble_eq_true rfl) (Nat.le_of_ble_eq_true rfl) (Nat.le_of_ble_eq_true rfl) (Nat.le_of_ble_eq_true rfl) (Nat.le_of_ble_eq_true rfl) (az_k1 rfl rfl ?_) (az_k0 rfl)
  refine az_goto C 25 dX4_volumeBySteps_17 (by decide) ?_
  exact az_iret C rfl dX4_volumeBySteps_25 (Nat.le_of_ble_eq_true rfl) (Nat.le_of_ble_eq_true rfl) ⟨rfl, rfl, rfl⟩

set_option maxHeartbeats 4000000 in
set_option maxRecDepth 100000 in
theorem MvolumeBySteps0 (hG : az_okS l G) (nr : Nat) (v : Int32) (hr : m.1 0 1 = nI nr) (hn : nr ≤ 6) (hv : oo nr v) : az_M l G yX4_volumeBySteps (az_ws yX4_volumeBySteps cX4_volumeBySteps 2 (Option.some FieldType.int)) 3 [.ref (ρ.1 100), .int v] (AD ρ) (KK G ρ x m ou) 0 0 (az_r (some (.int 0)) (AD ρ) (KK G ρ x (mI m 0 0 1) ou)) := by
  refine az_start hG.1 (by decide +kernel) (Nat.le_of_ble_eq_true rfl) ?_
  intro p e s mm args below meth c C hnm
  show az_W l G 2 _ p e _ s mm args below meth c _ _ 0 0 0 [(0, .ref (ρ.1 100)), (1, .int v)] []
  refine az_aload_n C 0 dX4_volumeBySteps_0 rfl ?_
  refine az_iload_n C 1 dX4_volumeBySteps_1 rfl ?_
  refine az_callV C Y_X4_isReach cX4 2 0 [.int v] [] wm_X4_128 wi_X4_isReach wse_X4_isReach dX4_volumeBySteps_2 rfl rfl rfl (Mr0 hG nr v hr hn (by omega) hv) rfl (Nat.le_of_ble_eq_true rfl) (Nat.le_of_ble_eq_true rfl) (Nat.le_of_ble_eq_true rfl) (Nat.le_of_ble_eq_true rfl) (Nat.le_of_ble_eq_true rfl) (az_k1 rfl rfl ?_) (az_k0 rfl)
  refine az_if_eq C 20 dX4_volumeBySteps_5 (by decide) (fun _ => ?_) (fun q => absurd (by decide) q)
  refine az_aload_n C 0 dX4_volumeBySteps_20 rfl ?_
  refine az_iconst C (v := 1) dX4_volumeBySteps_21 (by decide) ?_
  refine az_callV C Y_X4_fails cX4 2 0 [.int 1] [] wm_X4_121 wi_X4_fails wse_X4_fails dX4_volumeBySteps_22 rfl rfl rfl (Mfails hG (1)) rfl (Nat.le_of_ble_eq_true rfl) (Nat.le_of_ble_eq_true rfl) (Nat.le_of_ble_eq_true rfl) (Nat.le_of_ble_eq_true rfl) (Nat.le_of_ble_eq_true rfl) (az_k1 rfl rfl ?_) (az_k0 rfl)
  exact az_iret C rfl dX4_volumeBySteps_25 (Nat.le_of_ble_eq_true rfl) (Nat.le_of_ble_eq_true rfl) ⟨rfl, rfl, rfl⟩

/-- every reach of the river has an area -/
def MAr (m : Ms) (nr : Nat) : Prop := ∀ k, k < nr → ¬ m.1 3 k = 0
def Mmean_lFa (m : Ms) (a : Int32) (k : Nat) : Int32 := (a + levM m k)
def Mmean_lF : Nat → Ms → Int32 → Nat → Int32
  | 0, m, a, _ => a
  | n + 1, m, a, k => Mmean_lF n m (Mmean_lFa m a k) (k + 1)
set_option maxHeartbeats 4000000 in
set_option maxRecDepth 100000 in
theorem Mmean_l (hG : az_okS l G) {p : Program} {e : Env} {s : State} {mm : MethodId} {args : Array Value} {below : List Frame} {meth : Method} {c : Code} (C : az_C l G p s mm args meth c cX4_meanLevel yX4_meanLevel.cls 3 (Option.some FieldType.double) []) {Qx : State → Prop} (nr : Nat) (hn : nr ≤ 6) : ∀ (n : Nat) (m : Ms) (a : Int32) (k : Nat) (hk : k + n = nr) (hr : m.1 0 1 = nI nr) (ha : MAr m nr), az_W l G 3 Qx p e (az_rm 2 0 0) s mm args below meth c (AD ρ) (KK G ρ x m ou) 0 0 31 [(2, .int (nI nr)), (1, .int ((Mmean_lF n m a k))), (0, .ref (ρ.1 100))] [] → az_W l G 3 Qx p e (az_rm 2 0 0) s mm args below meth c (AD ρ) (KK G ρ x m ou) 0 0 9 [(2, .int (nI k)), (1, .int a), (0, .ref (ρ.1 100))] [] := by
  intro n
  induction n with
  | zero =>
    intro m a k hk hr ha hx
    have hkk : k = nr := by omega
    rw [hkk]
    refine az_iload_n C 0 dX4_meanLevel_9 rfl ?_
    refine az_aload_n C 2 dX4_meanLevel_10 rfl ?_
    refine az_get C cX4 2 0 1 (v := .int (m.1 0 1)) wl_X4_7 dX4_meanLevel_11 rfl rfl rfl (by decide) ?_
    refine az_top (nI nr) hr ?_
    refine az_icmp_ge C 31 dX4_meanLevel_14 (by decide) (fun _ => ?_) (fun q => absurd (Int32.le_refl _) q)
    exact az_lv [0, 1, 2] rfl hx
  | succ n ih =>
    intro m a k hk hr ha hx
    refine az_iload_n C 0 dX4_meanLevel_9 rfl ?_
    refine az_aload_n C 2 dX4_meanLevel_10 rfl ?_
    refine az_get C cX4 2 0 1 (v := .int (m.1 0 1)) wl_X4_7 dX4_meanLevel_11 rfl rfl rfl (by decide) ?_
    refine az_top (nI nr) hr ?_
    refine az_icmp_ge C 31 dX4_meanLevel_14 (by decide) (fun q => absurd q (nlt_nle (show k < nr by omega) (by omega))) (fun _ => ?_)
    refine az_iload_n C 1 dX4_meanLevel_17 rfl ?_
    refine az_aload_n C 2 dX4_meanLevel_18 rfl ?_
    refine az_iload_n C 0 dX4_meanLevel_19 rfl ?_
    refine az_callV C Y_X4_level cX4 2 0 [.int (nI k)] [.int a] wm_X4_135 wi_X4_level wse_X4_level dX4_meanLevel_20 rfl rfl rfl (Mlevel hG k (by omega) (ha k (by omega))) rfl (Nat.le_of_ble_eq_true rfl) (Nat.le_of_ble_eq_true rfl) (Nat.le_of_ble_eq_true rfl) (Nat.le_of_ble_eq_true rfl) (Nat.le_of_ble_eq_true rfl) (az_k1 rfl rfl ?_) (az_k0 rfl)
    refine az_iadd C dX4_meanLevel_23 ?_
    refine az_istore_n C (lv' := [(1, .int ((a + levM m k))), (2, .int (nI k)), (0, .ref (ρ.1 100))]) (j := 1) rfl dX4_meanLevel_24 (by decide) rfl ?_
    refine az_iinc C 1 (v := nI (k + 1)) (lv' := [(2, .int (nI (k + 1))), (1, .int ((a + levM m k))), (0, .ref (ρ.1 100))]) dX4_meanLevel_25 rfl (nI_1 k) (by decide) rfl ?_
    refine az_goto C 9 dX4_meanLevel_28 (by decide) ?_
    exact az_lv [0, 1, 2] rfl (ih m (Mmean_lFa m a k) (k + 1) (by omega) hr ha hx)

set_option maxHeartbeats 4000000 in
set_option maxRecDepth 100000 in
theorem MmeanLevel (hG : az_okS l G) (nr : Nat) (hn : nr ≤ 6) (hr : m.1 0 1 = nI nr) (ha : MAr m nr) (hne : ∀ v : Int32, vf_n64 (FP.ddiv (FP.i2d v) (FP.i2d (nI nr)))) : az_M l G yX4_meanLevel (az_ws yX4_meanLevel cX4_meanLevel 3 (Option.some FieldType.double)) 2 [.ref (ρ.1 100)] (AD ρ) (KK G ρ x m ou) 0 0 (az_r (some (.double ((FP.ddiv (FP.i2d ((Mmean_lF nr (mI m 0 0 0) 0 0))) (FP.i2d (nI nr)))))) (AD ρ) (KK G ρ x (mI m 0 0 0) ou)) := by
  refine az_start hG.1 (by decide +kernel) (Nat.le_of_ble_eq_true rfl) ?_
  intro p e s mm args below meth c C hnm
  show az_W l G 3 _ p e _ s mm args below meth c _ _ 0 0 0 [(0, .ref (ρ.1 100))] []
  refine az_aload_n C 0 dX4_meanLevel_0 rfl ?_
  refine az_iconst C (v := 0) dX4_meanLevel_1 (by decide) ?_
  refine az_put C cX4 2 0 0 wl_X4_101 dX4_meanLevel_2 rfl rfl (by decide) (Nat.le_of_ble_eq_true rfl) rfl rfl rfl (az_to rfl (K' := (KK G ρ x (mI m 0 0 0) ou)) (KK_M rfl) ?_)
  refine az_iconst C (v := 0) dX4_meanLevel_5 (by decide) ?_
  refine az_istore_n C (lv' := [(1, .int 0), (0, .ref (ρ.1 100))]) (j := 1) rfl dX4_meanLevel_6 (by decide) rfl ?_
  refine az_iconst C (v := 0) dX4_meanLevel_7 (by decide) ?_
  refine az_istore_n C (lv' := [(2, .int 0), (1, .int 0), (0, .ref (ρ.1 100))]) (j := 2) rfl dX4_meanLevel_8 (by decide) rfl ?_
  refine az_lv [0, 1, 2] rfl (Mmean_l hG C nr hn nr (mI m 0 0 0) 0 0 (by omega) hr ha ?_)
  refine az_iload_n C 1 dX4_meanLevel_31 rfl ?_
  refine az_i2d C dX4_meanLevel_32 ?_
  refine az_aload_n C 2 dX4_meanLevel_33 rfl ?_
  refine az_get C cX4 2 0 1 (v := .int (m.1 0 1)) wl_X4_7 dX4_meanLevel_34 rfl rfl rfl (by decide) ?_
  refine az_top (nI nr) hr ?_
  refine az_i2d C dX4_meanLevel_37 ?_
  refine az_ddiv C dX4_meanLevel_38 (hne _) ?_
  exact az_dret C rfl dX4_meanLevel_39 (Nat.le_of_ble_eq_true rfl) (Nat.le_of_ble_eq_true rfl) ⟨rfl, rfl, rfl⟩

def Mbal_lFa (mv : Nat) (m : Ms) (a : Int32) (k : Nat) : Int32 := (if a = 0 then 0 else (if ¬ stepsM m mv (nI k) = m.1 4 k then 0 else 1))
def Mbal_lF (mv : Nat) : Nat → Ms → Int32 → Nat → Int32
  | 0, m, a, _ => a
  | n + 1, m, a, k => Mbal_lF mv n m (Mbal_lFa mv m a k) (k + 1)
set_option maxHeartbeats 4000000 in
set_option maxRecDepth 100000 in
theorem Mbal_l (hG : az_okS l G) {p : Program} {e : Env} {s : State} {mm : MethodId} {args : Array Value} {below : List Frame} {meth : Method} {c : Code} (C : az_C l G p s mm args meth c cX4_isBalanced yX4_isBalanced.cls 3 (Option.some FieldType.boolean) []) {Qx : State → Prop} (nr : Nat) (hn : nr ≤ 6) (mv : Nat) (hmv : mv < 100000) : ∀ (n : Nat) (m : Ms) (a : Int32) (k : Nat) (hk : k + n = nr) (hr : m.1 0 1 = nI nr) (hm : m.1 0 24 = nI mv), az_W l G 3 Qx p e (az_rm 2 0 0) s mm args below meth c (AD ρ) (KK G ρ x m ou) 0 0 67 [(2, .int (nI nr)), (1, .int ((Mbal_lF mv n m a k))), (0, .ref (ρ.1 100))] [] → az_W l G 3 Qx p e (az_rm 2 0 0) s mm args below meth c (AD ρ) (KK G ρ x m ou) 0 0 29 [(2, .int (nI k)), (1, .int a), (0, .ref (ρ.1 100))] [] := by
  intro n
  induction n with
  | zero =>
    intro m a k hk hr hm hx
    have hkk : k = nr := by omega
    rw [hkk]
    refine az_iload_n C 0 dX4_isBalanced_29 rfl ?_
    refine az_aload_n C 2 dX4_isBalanced_30 rfl ?_
    refine az_get C cX4 2 0 1 (v := .int (m.1 0 1)) wl_X4_7 dX4_isBalanced_31 rfl rfl rfl (by decide) ?_
    refine az_top (nI nr) hr ?_
    refine az_icmp_ge C 67 dX4_isBalanced_34 (by decide) (fun _ => ?_) (fun q => absurd (Int32.le_refl _) q)
    exact az_lv [0, 1, 2] rfl hx
  | succ n ih =>
    intro m a k hk hr hm hx
    refine az_iload_n C 0 dX4_isBalanced_29 rfl ?_
    refine az_aload_n C 2 dX4_isBalanced_30 rfl ?_
    refine az_get C cX4 2 0 1 (v := .int (m.1 0 1)) wl_X4_7 dX4_isBalanced_31 rfl rfl rfl (by decide) ?_
    refine az_top (nI nr) hr ?_
    refine az_icmp_ge C 67 dX4_isBalanced_34 (by decide) (fun q => absurd q (nlt_nle (show k < nr by omega) (by omega))) (fun _ => ?_)
    refine az_iload_n C 1 dX4_isBalanced_37 rfl ?_
    suffices J1 : az_W l G 3 _ p e _ s mm args below meth c (AD ρ) (KK G ρ x m ou) _ _ 60 [(2, .int (nI k)), (1, .int a), (0, .ref (ρ.1 100))] [.int ((if a = 0 then 0 else (if ¬ stepsM m mv (nI k) = m.1 4 k then 0 else 1)))] by
      refine az_if_eq C 59 dX4_isBalanced_38 (by decide) (fun c2 => ?_) (fun c2 => ?_)
      · refine az_iconst C (v := 0) dX4_isBalanced_59 (by decide) ?_
        first | rw [if_pos (show a = 0 from c2)] at J1 ⊢ | rw [if_pos (show a = 0 from c2)] at J1
        exact az_lv [0, 1, 2] rfl J1
      · refine az_aload_n C 2 dX4_isBalanced_41 rfl ?_
        refine az_iload_n C 0 dX4_isBalanced_42 rfl ?_
        refine az_callV C Y_X4_bySteps cX4 2 0 [.int (nI k)] [] wm_X4_132 wi_X4_bySteps wse_X4_bySteps dX4_isBalanced_43 rfl rfl rfl (MbySteps hG mv hmv (nI k) hm) rfl (Nat.le_of_ble_eq_true rfl) (Nat.le_of_ble_eq_true rfl) (Nat.le_of_ble_eq_true rfl) (Nat.le_of_ble_eq_true rfl) (Nat.le_of_ble_eq_true rfl) (az_k1 rfl rfl ?_) (az_k0 rfl)
        refine az_aload_n C 2 dX4_isBalanced_46 rfl ?_
        refine az_get C cX4 2 0 4 (v := .ref (ρ.1 104)) wl_X4_17 dX4_isBalanced_47 rfl rfl rfl (by decide) ?_
        refine az_iload_n C 0 dX4_isBalanced_50 rfl ?_
        refine az_ialdN C 2 4 k (v := m.1 4 k) dX4_isBalanced_51 rfl rfl (by omega) (by decide) rfl ?_
        suffices J3 : az_W l G 3 _ p e _ s mm args below meth c (AD ρ) (KK G ρ x m ou) _ _ 60 [(2, .int (nI k)), (1, .int a), (0, .ref (ρ.1 100))] [.int ((if ¬ stepsM m mv (nI k) = m.1 4 k then 0 else 1))] by
          refine az_icmp_ne C 59 dX4_isBalanced_52 (by decide) (fun c4 => ?_) (fun c4 => ?_)
          · refine az_iconst C (v := 0) dX4_isBalanced_59 (by decide) ?_
            first | rw [if_pos (show ¬ stepsM m mv (nI k) = m.1 4 k from c4)] at J3 ⊢ | rw [if_pos (show ¬ stepsM m mv (nI k) = m.1 4 k from c4)] at J3
            exact az_lv [0, 1, 2] rfl J3
          · refine az_iconst C (v := 1) dX4_isBalanced_55 (by decide) ?_
            refine az_goto C 60 dX4_isBalanced_56 (by decide) ?_
            first | rw [if_neg (show ¬ (¬ stepsM m mv (nI k) = m.1 4 k) from fun z => z c4)] at J3 ⊢ | rw [if_neg (show ¬ (¬ stepsM m mv (nI k) = m.1 4 k) from fun z => z c4)] at J3
            exact az_lv [0, 1, 2] rfl J3
        first | rw [if_neg (show ¬ (a = 0) from c2)] at J1 ⊢ | rw [if_neg (show ¬ (a = 0) from c2)] at J1
        exact az_lv [0, 1, 2] rfl J1
    refine az_istore_n C (lv' := [(1, .int ((if a = 0 then 0 else (if ¬ stepsM m mv (nI k) = m.1 4 k then 0 else 1)))), (2, .int (nI k)), (0, .ref (ρ.1 100))]) (j := 1) rfl dX4_isBalanced_60 (by decide) rfl ?_
    refine az_iinc C 1 (v := nI (k + 1)) (lv' := [(2, .int (nI (k + 1))), (1, .int ((if a = 0 then 0 else (if ¬ stepsM m mv (nI k) = m.1 4 k then 0 else 1)))), (0, .ref (ρ.1 100))]) dX4_isBalanced_61 rfl (nI_1 k) (by decide) rfl ?_
    refine az_goto C 29 dX4_isBalanced_64 (by decide) ?_
    exact az_lv [0, 1, 2] rfl (ih m (Mbal_lFa mv m a k) (k + 1) (by omega) hr hm hx)

set_option maxHeartbeats 4000000 in
set_option maxRecDepth 100000 in
theorem MisBalanced (hG : az_okS l G) (nr : Nat) (hn : nr ≤ 6) (mv : Nat) (hmv : mv < 100000) (hr : m.1 0 1 = nI nr) (hm : m.1 0 24 = nI mv) : az_M l G yX4_isBalanced (az_ws yX4_isBalanced cX4_isBalanced 3 (Option.some FieldType.boolean)) 2 [.ref (ρ.1 100)] (AD ρ) (KK G ρ x m ou) 0 0 (az_r (some (.int (if (Mbal_lF mv nr m ((if ¬ m.1 0 21 = ((heldM m nr + m.1 0 22) + m.1 0 23) then 0 else 1)) 0) = 0 then 0 else 1))) (AD ρ) (KK G ρ x (mI m 0 0 0) ou)) := by
  refine az_start hG.1 (by decide +kernel) (Nat.le_of_ble_eq_true rfl) ?_
  intro p e s mm args below meth c C hnm
  show az_W l G 3 _ p e _ s mm args below meth c _ _ 0 0 0 [(0, .ref (ρ.1 100))] []
  refine az_aload_n C 0 dX4_isBalanced_0 rfl ?_
  refine az_get C cX4 2 0 21 (v := .int (m.1 0 21)) wl_X4_69 dX4_isBalanced_1 rfl rfl rfl (by decide) ?_
  refine az_aload_n C 0 dX4_isBalanced_4 rfl ?_
  refine az_callV C Y_X4_held cX4 2 0 [] [.int (m.1 0 21)] wm_X4_237 wi_X4_held wse_X4_held dX4_isBalanced_5 rfl rfl rfl (Mheld hG nr hn hr) rfl (Nat.le_of_ble_eq_true rfl) (Nat.le_of_ble_eq_true rfl) (Nat.le_of_ble_eq_true rfl) (Nat.le_of_ble_eq_true rfl) (Nat.le_of_ble_eq_true rfl) (az_k1 rfl rfl ?_) (az_k0 rfl)
  refine az_aload_n C 0 dX4_isBalanced_8 rfl ?_
  refine az_get C cX4 2 0 22 (v := .int (m.1 0 22)) wl_X4_115 dX4_isBalanced_9 rfl rfl rfl (by decide) ?_
  refine az_iadd C dX4_isBalanced_12 ?_
  refine az_aload_n C 0 dX4_isBalanced_13 rfl ?_
  refine az_get C cX4 2 0 23 (v := .int (m.1 0 23)) wl_X4_152 dX4_isBalanced_14 rfl rfl rfl (by decide) ?_
  refine az_iadd C dX4_isBalanced_17 ?_
  suffices J1 : az_W l G 3 (az_Q G (az_r (some (.int (if (Mbal_lF mv nr m ((if ¬ m.1 0 21 = ((heldM m nr + m.1 0 22) + m.1 0 23) then 0 else 1)) 0) = 0 then 0 else 1))) (AD ρ) (KK G ρ x (mI m 0 0 0) ou)) below args s 0 0) p e _ s mm args below meth c (AD ρ) (KK G ρ x m ou) _ _ 26 [(0, .ref (ρ.1 100))] [.int ((if ¬ m.1 0 21 = ((heldM m nr + m.1 0 22) + m.1 0 23) then 0 else 1))] by
    refine az_icmp_ne C 25 dX4_isBalanced_18 (by decide) (fun c2 => ?_) (fun c2 => ?_)
    · refine az_iconst C (v := 0) dX4_isBalanced_25 (by decide) ?_
      first | rw [if_pos (show ¬ m.1 0 21 = ((heldM m nr + m.1 0 22) + m.1 0 23) from c2)] at J1 ⊢ | rw [if_pos (show ¬ m.1 0 21 = ((heldM m nr + m.1 0 22) + m.1 0 23) from c2)] at J1
      exact az_lv [0] rfl J1
    · refine az_iconst C (v := 1) dX4_isBalanced_21 (by decide) ?_
      refine az_goto C 26 dX4_isBalanced_22 (by decide) ?_
      first | rw [if_neg (show ¬ (¬ m.1 0 21 = ((heldM m nr + m.1 0 22) + m.1 0 23)) from fun z => z c2)] at J1 ⊢ | rw [if_neg (show ¬ (¬ m.1 0 21 = ((heldM m nr + m.1 0 22) + m.1 0 23)) from fun z => z c2)] at J1
      exact az_lv [0] rfl J1
  refine az_istore_n C (lv' := [(1, .int ((if ¬ m.1 0 21 = ((heldM m nr + m.1 0 22) + m.1 0 23) then 0 else 1))), (0, .ref (ρ.1 100))]) (j := 1) rfl dX4_isBalanced_26 (by decide) rfl ?_
  refine az_iconst C (v := 0) dX4_isBalanced_27 (by decide) ?_
  refine az_istore_n C (lv' := [(2, .int 0), (1, .int ((if ¬ m.1 0 21 = ((heldM m nr + m.1 0 22) + m.1 0 23) then 0 else 1))), (0, .ref (ρ.1 100))]) (j := 2) rfl dX4_isBalanced_28 (by decide) rfl ?_
  refine az_lv [0, 1, 2] rfl (Mbal_l hG C nr hn mv hmv nr m ((if ¬ m.1 0 21 = ((heldM m nr + m.1 0 22) + m.1 0 23) then 0 else 1)) 0 (by omega) hr hm ?_)
  refine az_aload_n C 2 dX4_isBalanced_67 rfl ?_
  refine az_iconst C (v := 0) dX4_isBalanced_68 (by decide) ?_
  refine az_iload_n C 1 dX4_isBalanced_69 rfl ?_
  refine az_callV C Y_X4_asks cX4 2 0 [.int 0, .int ((Mbal_lF mv nr m ((if ¬ m.1 0 21 = ((heldM m nr + m.1 0 22) + m.1 0 23) then 0 else 1)) 0))] [] wm_X4_141 wi_X4_asks wse_X4_asks dX4_isBalanced_70 rfl rfl rfl (Masks hG 0 ((Mbal_lF mv nr m ((if ¬ m.1 0 21 = ((heldM m nr + m.1 0 22) + m.1 0 23) then 0 else 1)) 0))) rfl (Nat.le_of_ble_eq_true rfl) (Nat.le_of_ble_eq_true rfl) (Nat.le_of_ble_eq_true rfl) (Nat.le_of_ble_eq_true rfl) (Nat.le_of_ble_eq_true rfl) (az_k1 (by rw [if_neg (show ¬ ¬ (0 : Int32) = 0 by decide)]) rfl ?_) (az_k0 rfl)
  exact az_zret C .boolean rfl (nar_01 _ _) dX4_isBalanced_73 (Nat.le_of_ble_eq_true rfl) (Nat.le_of_ble_eq_true rfl) ⟨rfl, rfl, rfl⟩

theorem recM_okE {m m' : Ms} {f t u : Int32} {z : Nat} (h : mvok m (z + 1)) (e : m'.1 0 24 = (recM m f t u).1 0 24 := by rfl) : mvok m' z := (recM_ok h).eq e
def Mew1Fm (m : Ms) (k : Nat) : Ms := (mI (mI (recM m (nI k) ((-3)) ((if m.1 3 k ≤ m.1 4 k then m.1 3 k else m.1 4 k))) 4 k (((recM m (nI k) ((-3)) ((if m.1 3 k ≤ m.1 4 k then m.1 3 k else m.1 4 k))).1 4 k - (if m.1 3 k ≤ m.1 4 k then m.1 3 k else m.1 4 k)))) 0 23 (((recM m (nI k) ((-3)) ((if m.1 3 k ≤ m.1 4 k then m.1 3 k else m.1 4 k))).1 0 23 + (if m.1 3 k ≤ m.1 4 k then m.1 3 k else m.1 4 k))))
def Mew1F : Nat → Ms → Nat → Ms
  | 0, m, _ => m
  | n + 1, m, k => Mew1F n (Mew1Fm m k) (k + 1)
set_option maxHeartbeats 4000000 in
set_option maxRecDepth 100000 in
theorem Mew1 (hG : az_okS l G) {p : Program} {e : Env} {s : State} {mm : MethodId} {args : Array Value} {below : List Frame} {meth : Method} {c : Code} (C : az_C l G p s mm args meth c cX4_endWeek yX4_endWeek.cls 5 (Option.some FieldType.int) []) {Qx : State → Prop} (nr : Nat) (hn : nr ≤ 6) : ∀ (n : Nat) (m : Ms) (k : Nat) (hk : k + n = nr) (hr : m.1 0 1 = nI nr) (hm : mvok m n), az_W l G 5 Qx p e (az_rm 2 0 0) s mm args below meth c (AD ρ) (KK G ρ x (Mew1F n m k) ou) 0 0 75 [(1, .int (nI nr)), (0, .ref (ρ.1 100))] [] → az_W l G 5 Qx p e (az_rm 2 0 0) s mm args below meth c (AD ρ) (KK G ρ x m ou) 0 0 2 [(1, .int (nI k)), (0, .ref (ρ.1 100))] [] := by
  intro n
  induction n with
  | zero =>
    intro m k hk hr hm hx
    have hkk : k = nr := by omega
    rw [hkk]
    refine az_iload_n C 0 dX4_endWeek_2 rfl ?_
    refine az_aload_n C 1 dX4_endWeek_3 rfl ?_
    refine az_get C cX4 2 0 1 (v := .int (m.1 0 1)) wl_X4_7 dX4_endWeek_4 rfl rfl rfl (by decide) ?_
    refine az_top (nI nr) hr ?_
    refine az_icmp_ge C 75 dX4_endWeek_7 (by decide) (fun _ => ?_) (fun q => absurd (Int32.le_refl _) q)
    exact az_lv [0, 1] rfl hx
  | succ n ih =>
    intro m k hk hr hm hx
    refine az_iload_n C 0 dX4_endWeek_2 rfl ?_
    refine az_aload_n C 1 dX4_endWeek_3 rfl ?_
    refine az_get C cX4 2 0 1 (v := .int (m.1 0 1)) wl_X4_7 dX4_endWeek_4 rfl rfl rfl (by decide) ?_
    refine az_top (nI nr) hr ?_
    refine az_icmp_ge C 75 dX4_endWeek_7 (by decide) (fun q => absurd q (nlt_nle (show k < nr by omega) (by omega))) (fun _ => ?_)
    refine az_aload_n C 1 dX4_endWeek_10 rfl ?_
    refine az_get C cX4 2 0 4 (v := .ref (ρ.1 104)) wl_X4_17 dX4_endWeek_11 rfl rfl rfl (by decide) ?_
    refine az_iload_n C 0 dX4_endWeek_14 rfl ?_
    refine az_ialdN C 2 4 k (v := m.1 4 k) dX4_endWeek_15 rfl rfl (by omega) (by decide) rfl ?_
    refine az_aload_n C 1 dX4_endWeek_16 rfl ?_
    refine az_get C cX4 2 0 3 (v := .ref (ρ.1 103)) wl_X4_13 dX4_endWeek_17 rfl rfl rfl (by decide) ?_
    refine az_iload_n C 0 dX4_endWeek_20 rfl ?_
    refine az_ialdN C 2 3 k (v := m.1 3 k) dX4_endWeek_21 rfl rfl (by omega) (by decide) rfl ?_
    suffices J1 : az_W l G 5 _ p e _ s mm args below meth c (AD ρ) (KK G ρ x m ou) _ _ 40 [(1, .int (nI k)), (0, .ref (ρ.1 100))] [.int ((if m.1 3 k ≤ m.1 4 k then m.1 3 k else m.1 4 k))] by
      refine az_icmp_ge C 34 dX4_endWeek_22 (by decide) (fun c2 => ?_) (fun c2 => ?_)
      · refine az_aload_n C 1 dX4_endWeek_34 rfl ?_
        refine az_get C cX4 2 0 3 (v := .ref (ρ.1 103)) wl_X4_13 dX4_endWeek_35 rfl rfl rfl (by decide) ?_
        refine az_iload_n C 0 dX4_endWeek_38 rfl ?_
        refine az_ialdN C 2 3 k (v := m.1 3 k) dX4_endWeek_39 rfl rfl (by omega) (by decide) rfl ?_
        first | rw [if_pos (show m.1 3 k ≤ m.1 4 k from c2)] at J1 ⊢ | rw [if_pos (show m.1 3 k ≤ m.1 4 k from c2)] at J1
        exact az_lv [0, 1] rfl J1
      · refine az_aload_n C 1 dX4_endWeek_25 rfl ?_
        refine az_get C cX4 2 0 4 (v := .ref (ρ.1 104)) wl_X4_17 dX4_endWeek_26 rfl rfl rfl (by decide) ?_
        refine az_iload_n C 0 dX4_endWeek_29 rfl ?_
        refine az_ialdN C 2 4 k (v := m.1 4 k) dX4_endWeek_30 rfl rfl (by omega) (by decide) rfl ?_
        refine az_goto C 40 dX4_endWeek_31 (by decide) ?_
        first | rw [if_neg (show ¬ (m.1 3 k ≤ m.1 4 k) from c2)] at J1 ⊢ | rw [if_neg (show ¬ (m.1 3 k ≤ m.1 4 k) from c2)] at J1
        exact az_lv [0, 1] rfl J1
    refine az_istore_n C (lv' := [(2, .int ((if m.1 3 k ≤ m.1 4 k then m.1 3 k else m.1 4 k))), (1, .int (nI k)), (0, .ref (ρ.1 100))]) (j := 2) rfl dX4_endWeek_40 (by decide) rfl ?_
    refine az_aload_n C 2 dX4_endWeek_41 rfl ?_
    refine az_iload_n C 1 dX4_endWeek_42 rfl ?_
    refine az_bipush C (v := (-3)) dX4_endWeek_43 (by decide) ?_
    refine az_iload_n C 0 dX4_endWeek_45 rfl ?_
    refine az_callV C Y_X4_records cX4 2 0 [.int (nI k), .int ((-3)), .int ((if m.1 3 k ≤ m.1 4 k then m.1 3 k else m.1 4 k))] [] wm_X4_111 wi_X4_records wse_X4_records dX4_endWeek_46 rfl rfl rfl (Mrecords hG (nI k) ((-3)) ((if m.1 3 k ≤ m.1 4 k then m.1 3 k else m.1 4 k)) (hm.le (by omega))) rfl (Nat.le_of_ble_eq_true rfl) (Nat.le_of_ble_eq_true rfl) (Nat.le_of_ble_eq_true rfl) (Nat.le_of_ble_eq_true rfl) (Nat.le_of_ble_eq_true rfl) (az_k1 rfl rfl ?_) (az_k0 rfl)
    refine az_aload_n C 2 dX4_endWeek_49 rfl ?_
    refine az_get C cX4 2 0 4 (v := .ref (ρ.1 104)) wl_X4_17 dX4_endWeek_50 rfl rfl rfl (by decide) ?_
    refine az_iload_n C 1 dX4_endWeek_53 rfl ?_
    refine az_dup2 C dX4_endWeek_54 rfl rfl ?_
    refine az_ialdN C 2 4 k (v := (recM m (nI k) ((-3)) ((if m.1 3 k ≤ m.1 4 k then m.1 3 k else m.1 4 k))).1 4 k) dX4_endWeek_55 rfl rfl (by omega) (by decide) rfl ?_
    refine az_iload_n C 0 dX4_endWeek_56 rfl ?_
    refine az_isub C dX4_endWeek_57 ?_
    refine az_iastN C 2 4 k dX4_endWeek_58 rfl rfl (by omega) (by decide) (az_to rfl (K' := (KK G ρ x (mI (recM m (nI k) ((-3)) ((if m.1 3 k ≤ m.1 4 k then m.1 3 k else m.1 4 k))) 4 k (((recM m (nI k) ((-3)) ((if m.1 3 k ≤ m.1 4 k then m.1 3 k else m.1 4 k))).1 4 k - (if m.1 3 k ≤ m.1 4 k then m.1 3 k else m.1 4 k)))) ou)) (KK_M rfl) ?_)
    refine az_aload_n C 2 dX4_endWeek_59 rfl ?_
    refine az_dup C dX4_endWeek_60 rfl ?_
    refine az_get C cX4 2 0 23 (v := .int ((recM m (nI k) ((-3)) ((if m.1 3 k ≤ m.1 4 k then m.1 3 k else m.1 4 k))).1 0 23)) wl_X4_152 dX4_endWeek_61 rfl rfl rfl (by decide) ?_
    refine az_iload_n C 0 dX4_endWeek_64 rfl ?_
    refine az_iadd C dX4_endWeek_65 ?_
    refine az_put C cX4 2 0 23 wl_X4_152 dX4_endWeek_66 rfl rfl (by decide) (Nat.le_of_ble_eq_true rfl) rfl rfl rfl (az_to rfl (K' := (KK G ρ x (mI (mI (recM m (nI k) ((-3)) ((if m.1 3 k ≤ m.1 4 k then m.1 3 k else m.1 4 k))) 4 k (((recM m (nI k) ((-3)) ((if m.1 3 k ≤ m.1 4 k then m.1 3 k else m.1 4 k))).1 4 k - (if m.1 3 k ≤ m.1 4 k then m.1 3 k else m.1 4 k)))) 0 23 (((recM m (nI k) ((-3)) ((if m.1 3 k ≤ m.1 4 k then m.1 3 k else m.1 4 k))).1 0 23 + (if m.1 3 k ≤ m.1 4 k then m.1 3 k else m.1 4 k)))) ou)) (KK_M rfl) ?_)
    refine az_iinc C 1 (v := nI (k + 1)) (lv' := [(1, .int (nI (k + 1))), (2, .int ((if m.1 3 k ≤ m.1 4 k then m.1 3 k else m.1 4 k))), (0, .ref (ρ.1 100))]) dX4_endWeek_69 rfl (nI_1 k) (by decide) rfl ?_
    refine az_goto C 2 dX4_endWeek_72 (by decide) ?_
    have hr1 : (Mew1Fm m k).1 0 1 = nI nr := (recM_0 (by decide)).trans hr
    exact az_lv [0, 2] rfl (ih (Mew1Fm m k) (k + 1) (by omega) (hr1) (recM_okE hm) hx)

def Mew2Fm (m : Ms) (a : Int32) (k : Nat) : Ms := (mI (mI m 6 k ((if (if m.1 5 k ≤ levM m k then (if levM m k ≤ m.1 5 k then m.1 6 k else (m.1 6 k - ((m.1 6 k + 9) / 10))) else (m.1 6 k + ((m.1 6 k + 9) / 10))) ≤ 9999 then (if 1 ≤ (if m.1 5 k ≤ levM m k then (if levM m k ≤ m.1 5 k then m.1 6 k else (m.1 6 k - ((m.1 6 k + 9) / 10))) else (m.1 6 k + ((m.1 6 k + 9) / 10))) then (if m.1 5 k ≤ levM m k then (if levM m k ≤ m.1 5 k then m.1 6 k else (m.1 6 k - ((m.1 6 k + 9) / 10))) else (m.1 6 k + ((m.1 6 k + 9) / 10))) else 1) else 9999))) 5 k (levM (mI m 6 k ((if (if m.1 5 k ≤ levM m k then (if levM m k ≤ m.1 5 k then m.1 6 k else (m.1 6 k - ((m.1 6 k + 9) / 10))) else (m.1 6 k + ((m.1 6 k + 9) / 10))) ≤ 9999 then (if 1 ≤ (if m.1 5 k ≤ levM m k then (if levM m k ≤ m.1 5 k then m.1 6 k else (m.1 6 k - ((m.1 6 k + 9) / 10))) else (m.1 6 k + ((m.1 6 k + 9) / 10))) then (if m.1 5 k ≤ levM m k then (if levM m k ≤ m.1 5 k then m.1 6 k else (m.1 6 k - ((m.1 6 k + 9) / 10))) else (m.1 6 k + ((m.1 6 k + 9) / 10))) else 1) else 9999))) k))
def Mew2Fa (m : Ms) (a : Int32) (k : Nat) : Int32 := (a + (if (if (if m.1 5 k ≤ levM m k then (if levM m k ≤ m.1 5 k then m.1 6 k else (m.1 6 k - ((m.1 6 k + 9) / 10))) else (m.1 6 k + ((m.1 6 k + 9) / 10))) ≤ 9999 then (if 1 ≤ (if m.1 5 k ≤ levM m k then (if levM m k ≤ m.1 5 k then m.1 6 k else (m.1 6 k - ((m.1 6 k + 9) / 10))) else (m.1 6 k + ((m.1 6 k + 9) / 10))) then (if m.1 5 k ≤ levM m k then (if levM m k ≤ m.1 5 k then m.1 6 k else (m.1 6 k - ((m.1 6 k + 9) / 10))) else (m.1 6 k + ((m.1 6 k + 9) / 10))) else 1) else 9999) ≤ m.1 6 k then 0 else 1))
def Mew2F : Nat → Ms → Int32 → Nat → Ms × Int32
  | 0, m, a, _ => (m, a)
  | n + 1, m, a, k => Mew2F n (Mew2Fm m a k) (Mew2Fa m a k) (k + 1)
set_option maxHeartbeats 4000000 in
set_option maxRecDepth 100000 in
theorem Mew2 (hG : az_okS l G) {p : Program} {e : Env} {s : State} {mm : MethodId} {args : Array Value} {below : List Frame} {meth : Method} {c : Code} (C : az_C l G p s mm args meth c cX4_endWeek yX4_endWeek.cls 5 (Option.some FieldType.int) []) {Qx : State → Prop} (nr : Nat) (hn : nr ≤ 6) : ∀ (n : Nat) (m : Ms) (a : Int32) (k : Nat) (hk : k + n = nr) (hr : m.1 0 1 = nI nr) (ha : MAr m nr), az_W l G 5 Qx p e (az_rm 2 0 0) s mm args below meth c (AD ρ) (KK G ρ x (Mew2F n m a k).1 ou) 0 0 230 [(2, .int (nI nr)), (1, .int ((Mew2F n m a k).2)), (0, .ref (ρ.1 100))] [] → az_W l G 5 Qx p e (az_rm 2 0 0) s mm args below meth c (AD ρ) (KK G ρ x m ou) 0 0 79 [(2, .int (nI k)), (1, .int a), (0, .ref (ρ.1 100))] [] := by
  intro n
  induction n with
  | zero =>
    intro m a k hk hr ha hx
    have hkk : k = nr := by omega
    rw [hkk]
    refine az_iload_n C 0 dX4_endWeek_79 rfl ?_
    refine az_aload_n C 2 dX4_endWeek_80 rfl ?_
    refine az_get C cX4 2 0 1 (v := .int (m.1 0 1)) wl_X4_7 dX4_endWeek_81 rfl rfl rfl (by decide) ?_
    refine az_top (nI nr) hr ?_
    refine az_icmp_ge C 230 dX4_endWeek_84 (by decide) (fun _ => ?_) (fun q => absurd (Int32.le_refl _) q)
    exact az_lv [0, 1, 2] rfl hx
  | succ n ih =>
    intro m a k hk hr ha hx
    refine az_iload_n C 0 dX4_endWeek_79 rfl ?_
    refine az_aload_n C 2 dX4_endWeek_80 rfl ?_
    refine az_get C cX4 2 0 1 (v := .int (m.1 0 1)) wl_X4_7 dX4_endWeek_81 rfl rfl rfl (by decide) ?_
    refine az_top (nI nr) hr ?_
    refine az_icmp_ge C 230 dX4_endWeek_84 (by decide) (fun q => absurd q (nlt_nle (show k < nr by omega) (by omega))) (fun _ => ?_)
    refine az_aload_n C 2 dX4_endWeek_87 rfl ?_
    refine az_get C cX4 2 0 6 (v := .ref (ρ.1 106)) wl_X4_23 dX4_endWeek_88 rfl rfl rfl (by decide) ?_
    refine az_iload_n C 0 dX4_endWeek_91 rfl ?_
    refine az_ialdN C 2 6 k (v := m.1 6 k) dX4_endWeek_92 rfl rfl (by omega) (by decide) rfl ?_
    refine az_bipush C (v := 9) dX4_endWeek_93 (by decide) ?_
    refine az_iadd C dX4_endWeek_95 ?_
    refine az_bipush C (v := 10) dX4_endWeek_96 (by decide) ?_
    refine az_idiv C dX4_endWeek_98 (by decide) ?_
    refine az_istore_n C (lv' := [(3, .int (((m.1 6 k + 9) / 10))), (2, .int (nI k)), (1, .int a), (0, .ref (ρ.1 100))]) (j := 3) rfl dX4_endWeek_99 (by decide) rfl ?_
    refine az_aload_n C 3 dX4_endWeek_100 rfl ?_
    refine az_iload_n C 1 dX4_endWeek_101 rfl ?_
    refine az_callV C Y_X4_level cX4 2 0 [.int (nI k)] [] wm_X4_135 wi_X4_level wse_X4_level dX4_endWeek_102 rfl rfl rfl (Mlevel hG k (by omega) (ha k (by omega))) rfl (Nat.le_of_ble_eq_true rfl) (Nat.le_of_ble_eq_true rfl) (Nat.le_of_ble_eq_true rfl) (Nat.le_of_ble_eq_true rfl) (Nat.le_of_ble_eq_true rfl) (az_k1 rfl rfl ?_) (az_k0 rfl)
    refine az_aload_n C 3 dX4_endWeek_105 rfl ?_
    refine az_get C cX4 2 0 5 (v := .ref (ρ.1 105)) wl_X4_20 dX4_endWeek_106 rfl rfl rfl (by decide) ?_
    refine az_iload_n C 1 dX4_endWeek_109 rfl ?_
    refine az_ialdN C 2 5 k (v := m.1 5 k) dX4_endWeek_110 rfl rfl (by omega) (by decide) rfl ?_
    suffices J1 : az_W l G 5 _ p e _ s mm args below meth c (AD ρ) (KK G ρ x m ou) _ _ 156 [(3, .int (((m.1 6 k + 9) / 10))), (2, .int (nI k)), (1, .int a), (0, .ref (ρ.1 100))] [.int ((if m.1 5 k ≤ levM m k then (if levM m k ≤ m.1 5 k then m.1 6 k else (m.1 6 k - ((m.1 6 k + 9) / 10))) else (m.1 6 k + ((m.1 6 k + 9) / 10))))] by
      refine az_icmp_ge C 125 dX4_endWeek_111 (by decide) (fun c2 => ?_) (fun c2 => ?_)
      · refine az_aload_n C 3 dX4_endWeek_125 rfl ?_
        refine az_iload_n C 1 dX4_endWeek_126 rfl ?_
        refine az_callV C Y_X4_level cX4 2 0 [.int (nI k)] [] wm_X4_135 wi_X4_level wse_X4_level dX4_endWeek_127 rfl rfl rfl (Mlevel hG k (by omega) (ha k (by omega))) rfl (Nat.le_of_ble_eq_true rfl) (Nat.le_of_ble_eq_true rfl) (Nat.le_of_ble_eq_true rfl) (Nat.le_of_ble_eq_true rfl) (Nat.le_of_ble_eq_true rfl) (az_k1 rfl rfl ?_) (az_k0 rfl)
        refine az_aload_n C 3 dX4_endWeek_130 rfl ?_
        refine az_get C cX4 2 0 5 (v := .ref (ρ.1 105)) wl_X4_20 dX4_endWeek_131 rfl rfl rfl (by decide) ?_
        refine az_iload_n C 1 dX4_endWeek_134 rfl ?_
        refine az_ialdN C 2 5 k (v := m.1 5 k) dX4_endWeek_135 rfl rfl (by omega) (by decide) rfl ?_
        suffices J3 : az_W l G 5 _ p e _ s mm args below meth c (AD ρ) (KK G ρ x m ou) _ _ 156 [(3, .int (((m.1 6 k + 9) / 10))), (2, .int (nI k)), (1, .int a), (0, .ref (ρ.1 100))] [.int ((if levM m k ≤ m.1 5 k then m.1 6 k else (m.1 6 k - ((m.1 6 k + 9) / 10))))] by
          refine az_icmp_le C 150 dX4_endWeek_136 (by decide) (fun c4 => ?_) (fun c4 => ?_)
          · refine az_aload_n C 3 dX4_endWeek_150 rfl ?_
            refine az_get C cX4 2 0 6 (v := .ref (ρ.1 106)) wl_X4_23 dX4_endWeek_151 rfl rfl rfl (by decide) ?_
            refine az_iload_n C 1 dX4_endWeek_154 rfl ?_
            refine az_ialdN C 2 6 k (v := m.1 6 k) dX4_endWeek_155 rfl rfl (by omega) (by decide) rfl ?_
            first | rw [if_pos (show levM m k ≤ m.1 5 k from c4)] at J3 ⊢ | rw [if_pos (show levM m k ≤ m.1 5 k from c4)] at J3
            exact az_lv [0, 1, 2, 3] rfl J3
          · refine az_aload_n C 3 dX4_endWeek_139 rfl ?_
            refine az_get C cX4 2 0 6 (v := .ref (ρ.1 106)) wl_X4_23 dX4_endWeek_140 rfl rfl rfl (by decide) ?_
            refine az_iload_n C 1 dX4_endWeek_143 rfl ?_
            refine az_ialdN C 2 6 k (v := m.1 6 k) dX4_endWeek_144 rfl rfl (by omega) (by decide) rfl ?_
            refine az_iload_n C 0 dX4_endWeek_145 rfl ?_
            refine az_isub C dX4_endWeek_146 ?_
            refine az_goto C 156 dX4_endWeek_147 (by decide) ?_
            first | rw [if_neg (show ¬ (levM m k ≤ m.1 5 k) from c4)] at J3 ⊢ | rw [if_neg (show ¬ (levM m k ≤ m.1 5 k) from c4)] at J3
            exact az_lv [0, 1, 2, 3] rfl J3
        first | rw [if_pos (show m.1 5 k ≤ levM m k from c2)] at J1 ⊢ | rw [if_pos (show m.1 5 k ≤ levM m k from c2)] at J1
        exact az_lv [0, 1, 2, 3] rfl J1
      · refine az_aload_n C 3 dX4_endWeek_114 rfl ?_
        refine az_get C cX4 2 0 6 (v := .ref (ρ.1 106)) wl_X4_23 dX4_endWeek_115 rfl rfl rfl (by decide) ?_
        refine az_iload_n C 1 dX4_endWeek_118 rfl ?_
        refine az_ialdN C 2 6 k (v := m.1 6 k) dX4_endWeek_119 rfl rfl (by omega) (by decide) rfl ?_
        refine az_iload_n C 0 dX4_endWeek_120 rfl ?_
        refine az_iadd C dX4_endWeek_121 ?_
        refine az_goto C 156 dX4_endWeek_122 (by decide) ?_
        first | rw [if_neg (show ¬ (m.1 5 k ≤ levM m k) from c2)] at J1 ⊢ | rw [if_neg (show ¬ (m.1 5 k ≤ levM m k) from c2)] at J1
        exact az_lv [0, 1, 2, 3] rfl J1
    refine az_istore C (lv' := [(4, .int ((if m.1 5 k ≤ levM m k then (if levM m k ≤ m.1 5 k then m.1 6 k else (m.1 6 k - ((m.1 6 k + 9) / 10))) else (m.1 6 k + ((m.1 6 k + 9) / 10))))), (3, .int (((m.1 6 k + 9) / 10))), (2, .int (nI k)), (1, .int a), (0, .ref (ρ.1 100))]) dX4_endWeek_156 (by decide) rfl ?_
    refine az_iload C 0 dX4_endWeek_158 rfl ?_
    refine az_sipush C (v := 9999) dX4_endWeek_160 (by decide) ?_
    suffices J5 : az_W l G 5 _ p e _ s mm args below meth c (AD ρ) (KK G ρ x m ou) _ _ 184 [(4, .int ((if m.1 5 k ≤ levM m k then (if levM m k ≤ m.1 5 k then m.1 6 k else (m.1 6 k - ((m.1 6 k + 9) / 10))) else (m.1 6 k + ((m.1 6 k + 9) / 10))))), (3, .int (((m.1 6 k + 9) / 10))), (2, .int (nI k)), (1, .int a), (0, .ref (ρ.1 100))] [.int ((if (if m.1 5 k ≤ levM m k then (if levM m k ≤ m.1 5 k then m.1 6 k else (m.1 6 k - ((m.1 6 k + 9) / 10))) else (m.1 6 k + ((m.1 6 k + 9) / 10))) ≤ 9999 then (if 1 ≤ (if m.1 5 k ≤ levM m k then (if levM m k ≤ m.1 5 k then m.1 6 k else (m.1 6 k - ((m.1 6 k + 9) / 10))) else (m.1 6 k + ((m.1 6 k + 9) / 10))) then (if m.1 5 k ≤ levM m k then (if levM m k ≤ m.1 5 k then m.1 6 k else (m.1 6 k - ((m.1 6 k + 9) / 10))) else (m.1 6 k + ((m.1 6 k + 9) / 10))) else 1) else 9999))] by
      refine az_icmp_le C 172 dX4_endWeek_163 (by decide) (fun c6 => ?_) (fun c6 => ?_)
      · refine az_iload C 0 dX4_endWeek_172 rfl ?_
        refine az_iconst C (v := 1) dX4_endWeek_174 (by decide) ?_
        suffices J7 : az_W l G 5 _ p e _ s mm args below meth c (AD ρ) (KK G ρ x m ou) _ _ 184 [(4, .int ((if m.1 5 k ≤ levM m k then (if levM m k ≤ m.1 5 k then m.1 6 k else (m.1 6 k - ((m.1 6 k + 9) / 10))) else (m.1 6 k + ((m.1 6 k + 9) / 10))))), (3, .int (((m.1 6 k + 9) / 10))), (2, .int (nI k)), (1, .int a), (0, .ref (ρ.1 100))] [.int ((if 1 ≤ (if m.1 5 k ≤ levM m k then (if levM m k ≤ m.1 5 k then m.1 6 k else (m.1 6 k - ((m.1 6 k + 9) / 10))) else (m.1 6 k + ((m.1 6 k + 9) / 10))) then (if m.1 5 k ≤ levM m k then (if levM m k ≤ m.1 5 k then m.1 6 k else (m.1 6 k - ((m.1 6 k + 9) / 10))) else (m.1 6 k + ((m.1 6 k + 9) / 10))) else 1))] by
          refine az_icmp_ge C 182 dX4_endWeek_175 (by decide) (fun c8 => ?_) (fun c8 => ?_)
          · refine az_iload C 0 dX4_endWeek_182 rfl ?_
            first | rw [if_pos (show 1 ≤ (if m.1 5 k ≤ levM m k then (if levM m k ≤ m.1 5 k then m.1 6 k else (m.1 6 k - ((m.1 6 k + 9) / 10))) else (m.1 6 k + ((m.1 6 k + 9) / 10))) from c8)] at J7 ⊢ | rw [if_pos (show 1 ≤ (if m.1 5 k ≤ levM m k then (if levM m k ≤ m.1 5 k then m.1 6 k else (m.1 6 k - ((m.1 6 k + 9) / 10))) else (m.1 6 k + ((m.1 6 k + 9) / 10))) from c8)] at J7
            exact az_lv [0, 1, 2, 3, 4] rfl J7
          · refine az_iconst C (v := 1) dX4_endWeek_178 (by decide) ?_
            refine az_goto C 184 dX4_endWeek_179 (by decide) ?_
            first | rw [if_neg (show ¬ (1 ≤ (if m.1 5 k ≤ levM m k then (if levM m k ≤ m.1 5 k then m.1 6 k else (m.1 6 k - ((m.1 6 k + 9) / 10))) else (m.1 6 k + ((m.1 6 k + 9) / 10)))) from c8)] at J7 ⊢ | rw [if_neg (show ¬ (1 ≤ (if m.1 5 k ≤ levM m k then (if levM m k ≤ m.1 5 k then m.1 6 k else (m.1 6 k - ((m.1 6 k + 9) / 10))) else (m.1 6 k + ((m.1 6 k + 9) / 10)))) from c8)] at J7
            exact az_lv [0, 1, 2, 3, 4] rfl J7
        first | rw [if_pos (show (if m.1 5 k ≤ levM m k then (if levM m k ≤ m.1 5 k then m.1 6 k else (m.1 6 k - ((m.1 6 k + 9) / 10))) else (m.1 6 k + ((m.1 6 k + 9) / 10))) ≤ 9999 from c6)] at J5 ⊢ | rw [if_pos (show (if m.1 5 k ≤ levM m k then (if levM m k ≤ m.1 5 k then m.1 6 k else (m.1 6 k - ((m.1 6 k + 9) / 10))) else (m.1 6 k + ((m.1 6 k + 9) / 10))) ≤ 9999 from c6)] at J5
        exact az_lv [0, 1, 2, 3, 4] rfl J5
      · refine az_sipush C (v := 9999) dX4_endWeek_166 (by decide) ?_
        refine az_goto C 184 dX4_endWeek_169 (by decide) ?_
        first | rw [if_neg (show ¬ ((if m.1 5 k ≤ levM m k then (if levM m k ≤ m.1 5 k then m.1 6 k else (m.1 6 k - ((m.1 6 k + 9) / 10))) else (m.1 6 k + ((m.1 6 k + 9) / 10))) ≤ 9999) from c6)] at J5 ⊢ | rw [if_neg (show ¬ ((if m.1 5 k ≤ levM m k then (if levM m k ≤ m.1 5 k then m.1 6 k else (m.1 6 k - ((m.1 6 k + 9) / 10))) else (m.1 6 k + ((m.1 6 k + 9) / 10))) ≤ 9999) from c6)] at J5
        exact az_lv [0, 1, 2, 3, 4] rfl J5
    refine az_istore C (lv' := [(4, .int ((if (if m.1 5 k ≤ levM m k then (if levM m k ≤ m.1 5 k then m.1 6 k else (m.1 6 k - ((m.1 6 k + 9) / 10))) else (m.1 6 k + ((m.1 6 k + 9) / 10))) ≤ 9999 then (if 1 ≤ (if m.1 5 k ≤ levM m k then (if levM m k ≤ m.1 5 k then m.1 6 k else (m.1 6 k - ((m.1 6 k + 9) / 10))) else (m.1 6 k + ((m.1 6 k + 9) / 10))) then (if m.1 5 k ≤ levM m k then (if levM m k ≤ m.1 5 k then m.1 6 k else (m.1 6 k - ((m.1 6 k + 9) / 10))) else (m.1 6 k + ((m.1 6 k + 9) / 10))) else 1) else 9999))), (3, .int (((m.1 6 k + 9) / 10))), (2, .int (nI k)), (1, .int a), (0, .ref (ρ.1 100))]) dX4_endWeek_184 (by decide) rfl ?_
    refine az_iload_n C 3 dX4_endWeek_186 rfl ?_
    refine az_iload C 0 dX4_endWeek_187 rfl ?_
    refine az_aload_n C 4 dX4_endWeek_189 rfl ?_
    refine az_get C cX4 2 0 6 (v := .ref (ρ.1 106)) wl_X4_23 dX4_endWeek_190 rfl rfl rfl (by decide) ?_
    refine az_iload_n C 2 dX4_endWeek_193 rfl ?_
    refine az_ialdN C 2 6 k (v := m.1 6 k) dX4_endWeek_194 rfl rfl (by omega) (by decide) rfl ?_
    suffices J9 : az_W l G 5 _ p e _ s mm args below meth c (AD ρ) (KK G ρ x m ou) _ _ 203 [(4, .int ((if (if m.1 5 k ≤ levM m k then (if levM m k ≤ m.1 5 k then m.1 6 k else (m.1 6 k - ((m.1 6 k + 9) / 10))) else (m.1 6 k + ((m.1 6 k + 9) / 10))) ≤ 9999 then (if 1 ≤ (if m.1 5 k ≤ levM m k then (if levM m k ≤ m.1 5 k then m.1 6 k else (m.1 6 k - ((m.1 6 k + 9) / 10))) else (m.1 6 k + ((m.1 6 k + 9) / 10))) then (if m.1 5 k ≤ levM m k then (if levM m k ≤ m.1 5 k then m.1 6 k else (m.1 6 k - ((m.1 6 k + 9) / 10))) else (m.1 6 k + ((m.1 6 k + 9) / 10))) else 1) else 9999))), (3, .int (((m.1 6 k + 9) / 10))), (2, .int (nI k)), (1, .int a), (0, .ref (ρ.1 100))] [.int ((if (if (if m.1 5 k ≤ levM m k then (if levM m k ≤ m.1 5 k then m.1 6 k else (m.1 6 k - ((m.1 6 k + 9) / 10))) else (m.1 6 k + ((m.1 6 k + 9) / 10))) ≤ 9999 then (if 1 ≤ (if m.1 5 k ≤ levM m k then (if levM m k ≤ m.1 5 k then m.1 6 k else (m.1 6 k - ((m.1 6 k + 9) / 10))) else (m.1 6 k + ((m.1 6 k + 9) / 10))) then (if m.1 5 k ≤ levM m k then (if levM m k ≤ m.1 5 k then m.1 6 k else (m.1 6 k - ((m.1 6 k + 9) / 10))) else (m.1 6 k + ((m.1 6 k + 9) / 10))) else 1) else 9999) ≤ m.1 6 k then 0 else 1)), .int a] by
      refine az_icmp_le C 202 dX4_endWeek_195 (by decide) (fun c10 => ?_) (fun c10 => ?_)
      · refine az_iconst C (v := 0) dX4_endWeek_202 (by decide) ?_
        first | rw [if_pos (show (if (if m.1 5 k ≤ levM m k then (if levM m k ≤ m.1 5 k then m.1 6 k else (m.1 6 k - ((m.1 6 k + 9) / 10))) else (m.1 6 k + ((m.1 6 k + 9) / 10))) ≤ 9999 then (if 1 ≤ (if m.1 5 k ≤ levM m k then (if levM m k ≤ m.1 5 k then m.1 6 k else (m.1 6 k - ((m.1 6 k + 9) / 10))) else (m.1 6 k + ((m.1 6 k + 9) / 10))) then (if m.1 5 k ≤ levM m k then (if levM m k ≤ m.1 5 k then m.1 6 k else (m.1 6 k - ((m.1 6 k + 9) / 10))) else (m.1 6 k + ((m.1 6 k + 9) / 10))) else 1) else 9999) ≤ m.1 6 k from c10)] at J9 ⊢ | rw [if_pos (show (if (if m.1 5 k ≤ levM m k then (if levM m k ≤ m.1 5 k then m.1 6 k else (m.1 6 k - ((m.1 6 k + 9) / 10))) else (m.1 6 k + ((m.1 6 k + 9) / 10))) ≤ 9999 then (if 1 ≤ (if m.1 5 k ≤ levM m k then (if levM m k ≤ m.1 5 k then m.1 6 k else (m.1 6 k - ((m.1 6 k + 9) / 10))) else (m.1 6 k + ((m.1 6 k + 9) / 10))) then (if m.1 5 k ≤ levM m k then (if levM m k ≤ m.1 5 k then m.1 6 k else (m.1 6 k - ((m.1 6 k + 9) / 10))) else (m.1 6 k + ((m.1 6 k + 9) / 10))) else 1) else 9999) ≤ m.1 6 k from c10)] at J9
        exact az_lv [0, 1, 2, 3, 4] rfl J9
      · refine az_iconst C (v := 1) dX4_endWeek_198 (by decide) ?_
        refine az_goto C 203 dX4_endWeek_199 (by decide) ?_
        first | rw [if_neg (show ¬ ((if (if m.1 5 k ≤ levM m k then (if levM m k ≤ m.1 5 k then m.1 6 k else (m.1 6 k - ((m.1 6 k + 9) / 10))) else (m.1 6 k + ((m.1 6 k + 9) / 10))) ≤ 9999 then (if 1 ≤ (if m.1 5 k ≤ levM m k then (if levM m k ≤ m.1 5 k then m.1 6 k else (m.1 6 k - ((m.1 6 k + 9) / 10))) else (m.1 6 k + ((m.1 6 k + 9) / 10))) then (if m.1 5 k ≤ levM m k then (if levM m k ≤ m.1 5 k then m.1 6 k else (m.1 6 k - ((m.1 6 k + 9) / 10))) else (m.1 6 k + ((m.1 6 k + 9) / 10))) else 1) else 9999) ≤ m.1 6 k) from c10)] at J9 ⊢ | rw [if_neg (show ¬ ((if (if m.1 5 k ≤ levM m k then (if levM m k ≤ m.1 5 k then m.1 6 k else (m.1 6 k - ((m.1 6 k + 9) / 10))) else (m.1 6 k + ((m.1 6 k + 9) / 10))) ≤ 9999 then (if 1 ≤ (if m.1 5 k ≤ levM m k then (if levM m k ≤ m.1 5 k then m.1 6 k else (m.1 6 k - ((m.1 6 k + 9) / 10))) else (m.1 6 k + ((m.1 6 k + 9) / 10))) then (if m.1 5 k ≤ levM m k then (if levM m k ≤ m.1 5 k then m.1 6 k else (m.1 6 k - ((m.1 6 k + 9) / 10))) else (m.1 6 k + ((m.1 6 k + 9) / 10))) else 1) else 9999) ≤ m.1 6 k) from c10)] at J9
        exact az_lv [0, 1, 2, 3, 4] rfl J9
    refine az_iadd C dX4_endWeek_203 ?_
    refine az_istore_n C (lv' := [(1, .int ((a + (if (if (if m.1 5 k ≤ levM m k then (if levM m k ≤ m.1 5 k then m.1 6 k else (m.1 6 k - ((m.1 6 k + 9) / 10))) else (m.1 6 k + ((m.1 6 k + 9) / 10))) ≤ 9999 then (if 1 ≤ (if m.1 5 k ≤ levM m k then (if levM m k ≤ m.1 5 k then m.1 6 k else (m.1 6 k - ((m.1 6 k + 9) / 10))) else (m.1 6 k + ((m.1 6 k + 9) / 10))) then (if m.1 5 k ≤ levM m k then (if levM m k ≤ m.1 5 k then m.1 6 k else (m.1 6 k - ((m.1 6 k + 9) / 10))) else (m.1 6 k + ((m.1 6 k + 9) / 10))) else 1) else 9999) ≤ m.1 6 k then 0 else 1)))), (4, .int ((if (if m.1 5 k ≤ levM m k then (if levM m k ≤ m.1 5 k then m.1 6 k else (m.1 6 k - ((m.1 6 k + 9) / 10))) else (m.1 6 k + ((m.1 6 k + 9) / 10))) ≤ 9999 then (if 1 ≤ (if m.1 5 k ≤ levM m k then (if levM m k ≤ m.1 5 k then m.1 6 k else (m.1 6 k - ((m.1 6 k + 9) / 10))) else (m.1 6 k + ((m.1 6 k + 9) / 10))) then (if m.1 5 k ≤ levM m k then (if levM m k ≤ m.1 5 k then m.1 6 k else (m.1 6 k - ((m.1 6 k + 9) / 10))) else (m.1 6 k + ((m.1 6 k + 9) / 10))) else 1) else 9999))), (3, .int (((m.1 6 k + 9) / 10))), (2, .int (nI k)), (0, .ref (ρ.1 100))]) (j := 1) rfl dX4_endWeek_204 (by decide) rfl ?_
    refine az_aload_n C 4 dX4_endWeek_205 rfl ?_
    refine az_get C cX4 2 0 6 (v := .ref (ρ.1 106)) wl_X4_23 dX4_endWeek_206 rfl rfl rfl (by decide) ?_
    refine az_iload_n C 3 dX4_endWeek_209 rfl ?_
    refine az_iload C 1 dX4_endWeek_210 rfl ?_
    refine az_iastN C 2 6 k dX4_endWeek_212 rfl rfl (by omega) (by decide) (az_to rfl (K' := (KK G ρ x (mI m 6 k ((if (if m.1 5 k ≤ levM m k then (if levM m k ≤ m.1 5 k then m.1 6 k else (m.1 6 k - ((m.1 6 k + 9) / 10))) else (m.1 6 k + ((m.1 6 k + 9) / 10))) ≤ 9999 then (if 1 ≤ (if m.1 5 k ≤ levM m k then (if levM m k ≤ m.1 5 k then m.1 6 k else (m.1 6 k - ((m.1 6 k + 9) / 10))) else (m.1 6 k + ((m.1 6 k + 9) / 10))) then (if m.1 5 k ≤ levM m k then (if levM m k ≤ m.1 5 k then m.1 6 k else (m.1 6 k - ((m.1 6 k + 9) / 10))) else (m.1 6 k + ((m.1 6 k + 9) / 10))) else 1) else 9999))) ou)) (KK_M rfl) ?_)
    refine az_aload_n C 4 dX4_endWeek_213 rfl ?_
    refine az_get C cX4 2 0 5 (v := .ref (ρ.1 105)) wl_X4_20 dX4_endWeek_214 rfl rfl rfl (by decide) ?_
    refine az_iload_n C 3 dX4_endWeek_217 rfl ?_
    refine az_aload_n C 4 dX4_endWeek_218 rfl ?_
    refine az_iload_n C 3 dX4_endWeek_219 rfl ?_
    refine az_callV C Y_X4_level cX4 2 0 [.int (nI k)] [.int (nI k), .ref (ρ.1 105)] wm_X4_135 wi_X4_level wse_X4_level dX4_endWeek_220 rfl rfl rfl (Mlevel hG k (by omega) (ha k (by omega))) rfl (Nat.le_of_ble_eq_true rfl) (Nat.le_of_ble_eq_true rfl) (Nat.le_of_ble_eq_true rfl) (Nat.le_of_ble_eq_true rfl) (Nat.le_of_ble_eq_true rfl) (az_k1 rfl rfl ?_) (az_k0 rfl)
    refine az_iastN C 2 5 k dX4_endWeek_223 rfl rfl (by omega) (by decide) (az_to rfl (K' := (KK G ρ x (mI (mI m 6 k ((if (if m.1 5 k ≤ levM m k then (if levM m k ≤ m.1 5 k then m.1 6 k else (m.1 6 k - ((m.1 6 k + 9) / 10))) else (m.1 6 k + ((m.1 6 k + 9) / 10))) ≤ 9999 then (if 1 ≤ (if m.1 5 k ≤ levM m k then (if levM m k ≤ m.1 5 k then m.1 6 k else (m.1 6 k - ((m.1 6 k + 9) / 10))) else (m.1 6 k + ((m.1 6 k + 9) / 10))) then (if m.1 5 k ≤ levM m k then (if levM m k ≤ m.1 5 k then m.1 6 k else (m.1 6 k - ((m.1 6 k + 9) / 10))) else (m.1 6 k + ((m.1 6 k + 9) / 10))) else 1) else 9999))) 5 k (levM (mI m 6 k ((if (if m.1 5 k ≤ levM m k then (if levM m k ≤ m.1 5 k then m.1 6 k else (m.1 6 k - ((m.1 6 k + 9) / 10))) else (m.1 6 k + ((m.1 6 k + 9) / 10))) ≤ 9999 then (if 1 ≤ (if m.1 5 k ≤ levM m k then (if levM m k ≤ m.1 5 k then m.1 6 k else (m.1 6 k - ((m.1 6 k + 9) / 10))) else (m.1 6 k + ((m.1 6 k + 9) / 10))) then (if m.1 5 k ≤ levM m k then (if levM m k ≤ m.1 5 k then m.1 6 k else (m.1 6 k - ((m.1 6 k + 9) / 10))) else (m.1 6 k + ((m.1 6 k + 9) / 10))) else 1) else 9999))) k)) ou)) (KK_M rfl) ?_)
    refine az_iinc C 3 (v := nI (k + 1)) (lv' := [(2, .int (nI (k + 1))), (1, .int ((a + (if (if (if m.1 5 k ≤ levM m k then (if levM m k ≤ m.1 5 k then m.1 6 k else (m.1 6 k - ((m.1 6 k + 9) / 10))) else (m.1 6 k + ((m.1 6 k + 9) / 10))) ≤ 9999 then (if 1 ≤ (if m.1 5 k ≤ levM m k then (if levM m k ≤ m.1 5 k then m.1 6 k else (m.1 6 k - ((m.1 6 k + 9) / 10))) else (m.1 6 k + ((m.1 6 k + 9) / 10))) then (if m.1 5 k ≤ levM m k then (if levM m k ≤ m.1 5 k then m.1 6 k else (m.1 6 k - ((m.1 6 k + 9) / 10))) else (m.1 6 k + ((m.1 6 k + 9) / 10))) else 1) else 9999) ≤ m.1 6 k then 0 else 1)))), (4, .int ((if (if m.1 5 k ≤ levM m k then (if levM m k ≤ m.1 5 k then m.1 6 k else (m.1 6 k - ((m.1 6 k + 9) / 10))) else (m.1 6 k + ((m.1 6 k + 9) / 10))) ≤ 9999 then (if 1 ≤ (if m.1 5 k ≤ levM m k then (if levM m k ≤ m.1 5 k then m.1 6 k else (m.1 6 k - ((m.1 6 k + 9) / 10))) else (m.1 6 k + ((m.1 6 k + 9) / 10))) then (if m.1 5 k ≤ levM m k then (if levM m k ≤ m.1 5 k then m.1 6 k else (m.1 6 k - ((m.1 6 k + 9) / 10))) else (m.1 6 k + ((m.1 6 k + 9) / 10))) else 1) else 9999))), (3, .int (((m.1 6 k + 9) / 10))), (0, .ref (ρ.1 100))]) dX4_endWeek_224 rfl (nI_1 k) (by decide) rfl ?_
    refine az_goto C 79 dX4_endWeek_227 (by decide) ?_
    exact az_lv [0, 1, 4] rfl (ih (Mew2Fm m a k) (Mew2Fa m a k) (k + 1) (by omega) hr (fun j hj => ha j hj) hx)

theorem Mew1_p {nr : Nat} {p j : Nat} (h0 : p ≠ 0) (h4 : p ≠ 4) (h1 : p ≠ 25) (h2 : p ≠ 26) (h3 : p ≠ 27) : ∀ (n : Nat) (m : Ms) (k : Nat), (Mew1F n m k).1 p j = m.1 p j
  | 0, _, _ => rfl
  | n + 1, m, k => by
    rw [Mew1F, Mew1_p (nr := nr) h0 h4 h1 h2 h3 n]
    simp only [Mew1Fm, mI]
    rw [up2_p h0, up2_p h4]
    exact recM_p h0 h1 h2 h3
theorem Mew1_0 {j : Nat} (hj : j ≠ 24) (h23 : j ≠ 23) : ∀ (n : Nat) (m : Ms) (k : Nat), (Mew1F n m k).1 0 j = m.1 0 j
  | 0, _, _ => rfl
  | n + 1, m, k => by
    rw [Mew1F, Mew1_0 hj h23 n]
    simp only [Mew1Fm, mI]
    rw [up2_k h23, up2_p (by decide)]
    exact recM_0 hj
theorem Mew1_ok {nr : Nat} : ∀ (n : Nat) (m : Ms) (k z : Nat), mvok m (n + z) → mvok (Mew1F n m k) z
  | 0, _, _, _, h => h.le (by omega)
  | n + 1, m, k, z, h => by
    rw [Mew1F]
    exact Mew1_ok (nr := nr) n _ (k + 1) z (recM_okE (z := n + z) (h.le (by omega)))
def endWeekM (m : Ms) (nr : Nat) : Ms := (mI (mI (Mew2F nr (Mew1F nr m 0) 0 0).1 0 2 (((Mew2F nr (Mew1F nr m 0) 0 0).1.1 0 2 + 1))) 0 0 0)
set_option maxHeartbeats 4000000 in
set_option maxRecDepth 100000 in
theorem MendWeek (hG : az_okS l G) (nr : Nat) (hn : nr ≤ 6) (hr : m.1 0 1 = nI nr) (hm : mvok m nr) (ha : MAr m nr) : az_M l G yX4_endWeek (az_ws yX4_endWeek cX4_endWeek 5 (Option.some FieldType.int)) 2 [.ref (ρ.1 100)] (AD ρ) (KK G ρ x m ou) 0 0 (az_r (some (.int ((Mew2F nr (Mew1F nr m 0) 0 0).2))) (AD ρ) (KK G ρ x (endWeekM m nr) ou)) := by
  refine az_start hG.1 (by decide +kernel) (Nat.le_of_ble_eq_true rfl) ?_
  intro p e s mm args below meth c C hnm
  show az_W l G 5 _ p e _ s mm args below meth c _ _ 0 0 0 [(0, .ref (ρ.1 100))] []
  refine az_iconst C (v := 0) dX4_endWeek_0 (by decide) ?_
  refine az_istore_n C (lv' := [(1, .int 0), (0, .ref (ρ.1 100))]) (j := 1) rfl dX4_endWeek_1 (by decide) rfl ?_
  refine az_lv [0, 1] rfl (Mew1 hG C nr hn nr m 0 (by omega) hr hm ?_)
  refine az_iconst C (v := 0) dX4_endWeek_75 (by decide) ?_
  refine az_istore_n C (lv' := [(1, .int 0), (0, .ref (ρ.1 100))]) (j := 1) rfl dX4_endWeek_76 (by decide) rfl ?_
  refine az_iconst C (v := 0) dX4_endWeek_77 (by decide) ?_
  refine az_istore_n C (lv' := [(2, .int 0), (1, .int 0), (0, .ref (ρ.1 100))]) (j := 2) rfl dX4_endWeek_78 (by decide) rfl ?_
  refine az_lv [0, 1, 2] rfl (Mew2 hG C nr hn nr (Mew1F nr m 0) 0 0 (by omega) ((Mew1_0 (by decide) (by decide) nr m 0).trans hr) (fun j hj z => ha j hj ((Mew1_p (nr := nr) (by decide) (by decide) (by decide) (by decide) (by decide) nr m 0).symm.trans z)) ?_)
  refine az_aload_n C 2 dX4_endWeek_230 rfl ?_
  refine az_dup C dX4_endWeek_231 rfl ?_
  refine az_get C cX4 2 0 2 (v := .int ((Mew2F nr (Mew1F nr m 0) 0 0).1.1 0 2)) wl_X4_155 dX4_endWeek_232 rfl rfl rfl (by decide) ?_
  refine az_iconst C (v := 1) dX4_endWeek_235 (by decide) ?_
  refine az_iadd C dX4_endWeek_236 ?_
  refine az_put C cX4 2 0 2 wl_X4_155 dX4_endWeek_237 rfl rfl (by decide) (Nat.le_of_ble_eq_true rfl) rfl rfl rfl (az_to rfl (K' := (KK G ρ x (mI (Mew2F nr (Mew1F nr m 0) 0 0).1 0 2 (((Mew2F nr (Mew1F nr m 0) 0 0).1.1 0 2 + 1))) ou)) (KK_M rfl) ?_)
  refine az_aload_n C 2 dX4_endWeek_240 rfl ?_
  refine az_iload_n C 1 dX4_endWeek_241 rfl ?_
  refine az_callV C Y_X4_tells cX4 2 0 [.int ((Mew2F nr (Mew1F nr m 0) 0 0).2)] [] wm_X4_125 wi_X4_tells wse_X4_tells dX4_endWeek_242 rfl rfl rfl (Mtells hG ((Mew2F nr (Mew1F nr m 0) 0 0).2)) rfl (Nat.le_of_ble_eq_true rfl) (Nat.le_of_ble_eq_true rfl) (Nat.le_of_ble_eq_true rfl) (Nat.le_of_ble_eq_true rfl) (Nat.le_of_ble_eq_true rfl) (az_k1 rfl rfl ?_) (az_k0 rfl)
  exact az_iret C rfl dX4_endWeek_245 (Nat.le_of_ble_eq_true rfl) (Nat.le_of_ble_eq_true rfl) ⟨rfl, rfl, rfl⟩

set_option maxHeartbeats 4000000 in
set_option maxRecDepth 100000 in
theorem MaddBarge0 (hG : az_okS l G) (nr : Nat) (v : Int32) (hr : m.1 0 1 = nI nr) (hn : nr ≤ 6) (hv : oo nr v) (b1 b2 b3 : Int32) : az_M l G yX4_addBarge (az_ws yX4_addBarge cX4_addBarge 5 (Option.some FieldType.int)) 3 [.ref (ρ.1 100), .int v, .int b1, .int b2, .int b3] (AD ρ) (KK G ρ x m ou) 0 0 (az_r (some (.int 0)) (AD ρ) (KK G ρ x (mI m 0 0 1) ou)) := by
  refine az_start hG.1 (by decide +kernel) (Nat.le_of_ble_eq_true rfl) ?_
  intro p e s mm args below meth c C hnm
  show az_W l G 5 _ p e _ s mm args below meth c _ _ 0 0 0 [(0, .ref (ρ.1 100)), (1, .int v), (2, .int b1), (3, .int b2), (4, .int b3)] []
  refine az_aload_n C 0 dX4_addBarge_0 rfl ?_
  refine az_iload_n C 1 dX4_addBarge_1 rfl ?_
  refine az_callV C Y_X4_isReach cX4 2 0 [.int v] [] wm_X4_128 wi_X4_isReach wse_X4_isReach dX4_addBarge_2 rfl rfl rfl (Mr0 hG nr v hr hn (by omega) hv) rfl (Nat.le_of_ble_eq_true rfl) (Nat.le_of_ble_eq_true rfl) (Nat.le_of_ble_eq_true rfl) (Nat.le_of_ble_eq_true rfl) (Nat.le_of_ble_eq_true rfl) (az_k1 rfl rfl ?_) (az_k0 rfl)
  refine az_if_ne C 14 dX4_addBarge_5 (by decide) (fun q => absurd (by decide) q) (fun _ => ?_)
  refine az_aload_n C 0 dX4_addBarge_8 rfl ?_
  refine az_iconst C (v := 1) dX4_addBarge_9 (by decide) ?_
  refine az_callV C Y_X4_fails cX4 2 0 [.int 1] [] wm_X4_121 wi_X4_fails wse_X4_fails dX4_addBarge_10 rfl rfl rfl (Mfails hG (1)) rfl (Nat.le_of_ble_eq_true rfl) (Nat.le_of_ble_eq_true rfl) (Nat.le_of_ble_eq_true rfl) (Nat.le_of_ble_eq_true rfl) (Nat.le_of_ble_eq_true rfl) (az_k1 rfl rfl ?_) (az_k0 rfl)
  exact az_iret C rfl dX4_addBarge_13 (Nat.le_of_ble_eq_true rfl) (Nat.le_of_ble_eq_true rfl) ⟨rfl, rfl, rfl⟩

set_option maxHeartbeats 4000000 in
set_option maxRecDepth 100000 in
theorem MaddBarge1 (hG : az_okS l G) (nr k : Nat) (hr : m.1 0 1 = nI nr) (hn : nr ≤ 6) (hk : k + 1 ≤ nr) (b1 b2 b3 : Int32) (h : ¬ (¬ inI b1 5 80 = 0 ∧ ¬ inI b2 2 20 = 0 ∧ ¬ inI b3 1 20 = 0)) : az_M l G yX4_addBarge (az_ws yX4_addBarge cX4_addBarge 5 (Option.some FieldType.int)) 3 [.ref (ρ.1 100), .int (nI k), .int b1, .int b2, .int b3] (AD ρ) (KK G ρ x m ou) 0 0 (az_r (some (.int 0)) (AD ρ) (KK G ρ x (mI m 0 0 2) ou)) := by
  refine az_start hG.1 (by decide +kernel) (Nat.le_of_ble_eq_true rfl) ?_
  intro p e s mm args below meth c C hnm
  show az_W l G 5 _ p e _ s mm args below meth c _ _ 0 0 0 [(0, .ref (ρ.1 100)), (1, .int (nI k)), (2, .int b1), (3, .int b2), (4, .int b3)] []
  refine az_aload_n C 0 dX4_addBarge_0 rfl ?_
  refine az_iload_n C 1 dX4_addBarge_1 rfl ?_
  refine az_callV C Y_X4_isReach cX4 2 0 [.int (nI k)] [] wm_X4_128 wi_X4_isReach wse_X4_isReach dX4_addBarge_2 rfl rfl rfl (Mr1 hG nr k hr hn hk) rfl (Nat.le_of_ble_eq_true rfl) (Nat.le_of_ble_eq_true rfl) (Nat.le_of_ble_eq_true rfl) (Nat.le_of_ble_eq_true rfl) (Nat.le_of_ble_eq_true rfl) (az_k1 rfl rfl ?_) (az_k0 rfl)
  refine az_if_ne C 14 dX4_addBarge_5 (by decide) (fun _ => ?_) (fun q => absurd q (by decide))
  refine az_iload_n C 2 dX4_addBarge_14 rfl ?_
  refine az_iconst C (v := 5) dX4_addBarge_15 (by decide) ?_
  refine az_bipush C (v := 80) dX4_addBarge_16 (by decide) ?_
  refine az_callS C Y_X4_in [.int b1, .int 5, .int 80] [] wm_X4_104 wst_X4_in dX4_addBarge_18 rfl (Min hG (b1) (5) (80)) rfl (Nat.le_of_ble_eq_true rfl) (Nat.le_of_ble_eq_true rfl) (Nat.le_of_ble_eq_true rfl) (Nat.le_of_ble_eq_true rfl) (Nat.le_of_ble_eq_true rfl) (az_k1 rfl rfl ?_) (az_k0 rfl)
  refine az_if_eq C 45 dX4_addBarge_21 (by decide) (fun c1 => ?_) (fun c1 => ?_)
  · refine az_aload_n C 0 dX4_addBarge_45 rfl ?_
    refine az_iconst C (v := 2) dX4_addBarge_46 (by decide) ?_
    refine az_callV C Y_X4_fails cX4 2 0 [.int 2] [] wm_X4_121 wi_X4_fails wse_X4_fails dX4_addBarge_47 rfl rfl rfl (Mfails hG (2)) rfl (Nat.le_of_ble_eq_true rfl) (Nat.le_of_ble_eq_true rfl) (Nat.le_of_ble_eq_true rfl) (Nat.le_of_ble_eq_true rfl) (Nat.le_of_ble_eq_true rfl) (az_k1 rfl rfl ?_) (az_k0 rfl)
    exact az_iret C rfl dX4_addBarge_50 (Nat.le_of_ble_eq_true rfl) (Nat.le_of_ble_eq_true rfl) ⟨rfl, rfl, rfl⟩
  · refine az_iload_n C 3 dX4_addBarge_24 rfl ?_
    refine az_iconst C (v := 2) dX4_addBarge_25 (by decide) ?_
    refine az_bipush C (v := 20) dX4_addBarge_26 (by decide) ?_
    refine az_callS C Y_X4_in [.int b2, .int 2, .int 20] [] wm_X4_104 wst_X4_in dX4_addBarge_28 rfl (Min hG (b2) (2) (20)) rfl (Nat.le_of_ble_eq_true rfl) (Nat.le_of_ble_eq_true rfl) (Nat.le_of_ble_eq_true rfl) (Nat.le_of_ble_eq_true rfl) (Nat.le_of_ble_eq_true rfl) (az_k1 rfl rfl ?_) (az_k0 rfl)
    refine az_if_eq C 45 dX4_addBarge_31 (by decide) (fun c2 => ?_) (fun c2 => ?_)
    · refine az_aload_n C 0 dX4_addBarge_45 rfl ?_
      refine az_iconst C (v := 2) dX4_addBarge_46 (by decide) ?_
      refine az_callV C Y_X4_fails cX4 2 0 [.int 2] [] wm_X4_121 wi_X4_fails wse_X4_fails dX4_addBarge_47 rfl rfl rfl (Mfails hG (2)) rfl (Nat.le_of_ble_eq_true rfl) (Nat.le_of_ble_eq_true rfl) (Nat.le_of_ble_eq_true rfl) (Nat.le_of_ble_eq_true rfl) (Nat.le_of_ble_eq_true rfl) (az_k1 rfl rfl ?_) (az_k0 rfl)
      exact az_iret C rfl dX4_addBarge_50 (Nat.le_of_ble_eq_true rfl) (Nat.le_of_ble_eq_true rfl) ⟨rfl, rfl, rfl⟩
    · refine az_iload C 4 dX4_addBarge_34 rfl ?_
      refine az_iconst C (v := 1) dX4_addBarge_36 (by decide) ?_
      refine az_bipush C (v := 20) dX4_addBarge_37 (by decide) ?_
      refine az_callS C Y_X4_in [.int b3, .int 1, .int 20] [] wm_X4_104 wst_X4_in dX4_addBarge_39 rfl (Min hG (b3) (1) (20)) rfl (Nat.le_of_ble_eq_true rfl) (Nat.le_of_ble_eq_true rfl) (Nat.le_of_ble_eq_true rfl) (Nat.le_of_ble_eq_true rfl) (Nat.le_of_ble_eq_true rfl) (az_k1 rfl rfl ?_) (az_k0 rfl)
      refine az_if_ne C 51 dX4_addBarge_42 (by decide) (fun c3 => ?_) (fun c3 => ?_)
      · exact absurd ⟨c1, c2, c3⟩ h
      · refine az_aload_n C 0 dX4_addBarge_45 rfl ?_
        refine az_iconst C (v := 2) dX4_addBarge_46 (by decide) ?_
        refine az_callV C Y_X4_fails cX4 2 0 [.int 2] [] wm_X4_121 wi_X4_fails wse_X4_fails dX4_addBarge_47 rfl rfl rfl (Mfails hG (2)) rfl (Nat.le_of_ble_eq_true rfl) (Nat.le_of_ble_eq_true rfl) (Nat.le_of_ble_eq_true rfl) (Nat.le_of_ble_eq_true rfl) (Nat.le_of_ble_eq_true rfl) (az_k1 rfl rfl ?_) (az_k0 rfl)
        exact az_iret C rfl dX4_addBarge_50 (Nat.le_of_ble_eq_true rfl) (Nat.le_of_ble_eq_true rfl) ⟨rfl, rfl, rfl⟩

set_option maxHeartbeats 4000000 in
set_option maxRecDepth 100000 in
theorem MaddBarge2 (hG : az_okS l G) (nr k : Nat) (hr : m.1 0 1 = nI nr) (hn : nr ≤ 6) (hk : k + 1 ≤ nr) (b1 b2 b3 : Int32) (h1 : 5 ≤ b1 ∧ b1 ≤ 80) (h2 : 2 ≤ b2 ∧ b2 ≤ 20) (h3 : 1 ≤ b3 ∧ b3 ≤ 20) (h6 : m.1 0 12 = 8) : az_M l G yX4_addBarge (az_ws yX4_addBarge cX4_addBarge 5 (Option.some FieldType.int)) 3 [.ref (ρ.1 100), .int (nI k), .int b1, .int b2, .int b3] (AD ρ) (KK G ρ x m ou) 0 0 (az_r (some (.int 0)) (AD ρ) (KK G ρ x (mI m 0 0 3) ou)) := by
  refine az_start hG.1 (by decide +kernel) (Nat.le_of_ble_eq_true rfl) ?_
  intro p e s mm args below meth c C hnm
  show az_W l G 5 _ p e _ s mm args below meth c _ _ 0 0 0 [(0, .ref (ρ.1 100)), (1, .int (nI k)), (2, .int b1), (3, .int b2), (4, .int b3)] []
  refine az_aload_n C 0 dX4_addBarge_0 rfl ?_
  refine az_iload_n C 1 dX4_addBarge_1 rfl ?_
  refine az_callV C Y_X4_isReach cX4 2 0 [.int (nI k)] [] wm_X4_128 wi_X4_isReach wse_X4_isReach dX4_addBarge_2 rfl rfl rfl (Mr1 hG nr k hr hn hk) rfl (Nat.le_of_ble_eq_true rfl) (Nat.le_of_ble_eq_true rfl) (Nat.le_of_ble_eq_true rfl) (Nat.le_of_ble_eq_true rfl) (Nat.le_of_ble_eq_true rfl) (az_k1 rfl rfl ?_) (az_k0 rfl)
  refine az_if_ne C 14 dX4_addBarge_5 (by decide) (fun _ => ?_) (fun q => absurd q (by decide))
  refine az_iload_n C 2 dX4_addBarge_14 rfl ?_
  refine az_iconst C (v := 5) dX4_addBarge_15 (by decide) ?_
  refine az_bipush C (v := 80) dX4_addBarge_16 (by decide) ?_
  refine az_callS C Y_X4_in [.int b1, .int 5, .int 80] [] wm_X4_104 wst_X4_in dX4_addBarge_18 rfl (Min1 hG (b1) (5) (80) h1.1 h1.2) rfl (Nat.le_of_ble_eq_true rfl) (Nat.le_of_ble_eq_true rfl) (Nat.le_of_ble_eq_true rfl) (Nat.le_of_ble_eq_true rfl) (Nat.le_of_ble_eq_true rfl) (az_k1 rfl rfl ?_) (az_k0 rfl)
  refine az_if_eq C 45 dX4_addBarge_21 (by decide) (fun q => absurd q (by decide)) (fun _ => ?_)
  refine az_iload_n C 3 dX4_addBarge_24 rfl ?_
  refine az_iconst C (v := 2) dX4_addBarge_25 (by decide) ?_
  refine az_bipush C (v := 20) dX4_addBarge_26 (by decide) ?_
  refine az_callS C Y_X4_in [.int b2, .int 2, .int 20] [] wm_X4_104 wst_X4_in dX4_addBarge_28 rfl (Min1 hG (b2) (2) (20) h2.1 h2.2) rfl (Nat.le_of_ble_eq_true rfl) (Nat.le_of_ble_eq_true rfl) (Nat.le_of_ble_eq_true rfl) (Nat.le_of_ble_eq_true rfl) (Nat.le_of_ble_eq_true rfl) (az_k1 rfl rfl ?_) (az_k0 rfl)
  refine az_if_eq C 45 dX4_addBarge_31 (by decide) (fun q => absurd q (by decide)) (fun _ => ?_)
  refine az_iload C 4 dX4_addBarge_34 rfl ?_
  refine az_iconst C (v := 1) dX4_addBarge_36 (by decide) ?_
  refine az_bipush C (v := 20) dX4_addBarge_37 (by decide) ?_
  refine az_callS C Y_X4_in [.int b3, .int 1, .int 20] [] wm_X4_104 wst_X4_in dX4_addBarge_39 rfl (Min1 hG (b3) (1) (20) h3.1 h3.2) rfl (Nat.le_of_ble_eq_true rfl) (Nat.le_of_ble_eq_true rfl) (Nat.le_of_ble_eq_true rfl) (Nat.le_of_ble_eq_true rfl) (Nat.le_of_ble_eq_true rfl) (az_k1 rfl rfl ?_) (az_k0 rfl)
  refine az_if_ne C 51 dX4_addBarge_42 (by decide) (fun _ => ?_) (fun q => absurd q (by decide))
  refine az_aload_n C 0 dX4_addBarge_51 rfl ?_
  refine az_get C cX4 2 0 12 (v := .int (m.1 0 12)) wl_X4_108 dX4_addBarge_52 rfl rfl rfl (by decide) ?_
  refine az_top (8) h6 ?_
  refine az_bipush C (v := 8) dX4_addBarge_55 (by decide) ?_
  refine az_icmp_ne C 66 dX4_addBarge_57 (by decide) (fun q => absurd (by decide) q) (fun _ => ?_)
  refine az_aload_n C 0 dX4_addBarge_60 rfl ?_
  refine az_iconst C (v := 3) dX4_addBarge_61 (by decide) ?_
  refine az_callV C Y_X4_fails cX4 2 0 [.int 3] [] wm_X4_121 wi_X4_fails wse_X4_fails dX4_addBarge_62 rfl rfl rfl (Mfails hG (3)) rfl (Nat.le_of_ble_eq_true rfl) (Nat.le_of_ble_eq_true rfl) (Nat.le_of_ble_eq_true rfl) (Nat.le_of_ble_eq_true rfl) (Nat.le_of_ble_eq_true rfl) (az_k1 rfl rfl ?_) (az_k0 rfl)
  exact az_iret C rfl dX4_addBarge_65 (Nat.le_of_ble_eq_true rfl) (Nat.le_of_ble_eq_true rfl) ⟨rfl, rfl, rfl⟩

set_option maxHeartbeats 4000000 in
set_option maxRecDepth 100000 in
theorem MaddBarge3 (hG : az_okS l G) (nr k : Nat) (hr : m.1 0 1 = nI nr) (hn : nr ≤ 6) (hk : k + 1 ≤ nr) (b1 b2 b3 : Int32) (h1 : 5 ≤ b1 ∧ b1 ≤ 80) (h2 : 2 ≤ b2 ∧ b2 ≤ 20) (h3 : 1 ≤ b3 ∧ b3 ≤ 20) (nb : Nat) (hb : m.1 0 12 = nI nb) (hnb : nb < 8) (ha : ¬ m.1 3 k = 0) (hl : levM m k ≤ b2) : az_M l G yX4_addBarge (az_ws yX4_addBarge cX4_addBarge 5 (Option.some FieldType.int)) 3 [.ref (ρ.1 100), .int (nI k), .int b1, .int b2, .int b3] (AD ρ) (KK G ρ x m ou) 0 0 (az_r (some (.int 0)) (AD ρ) (KK G ρ x (mI m 0 0 4) ou)) := by
  refine az_start hG.1 (by decide +kernel) (Nat.le_of_ble_eq_true rfl) ?_
  intro p e s mm args below meth c C hnm
  show az_W l G 5 _ p e _ s mm args below meth c _ _ 0 0 0 [(0, .ref (ρ.1 100)), (1, .int (nI k)), (2, .int b1), (3, .int b2), (4, .int b3)] []
  refine az_aload_n C 0 dX4_addBarge_0 rfl ?_
  refine az_iload_n C 1 dX4_addBarge_1 rfl ?_
  refine az_callV C Y_X4_isReach cX4 2 0 [.int (nI k)] [] wm_X4_128 wi_X4_isReach wse_X4_isReach dX4_addBarge_2 rfl rfl rfl (Mr1 hG nr k hr hn hk) rfl (Nat.le_of_ble_eq_true rfl) (Nat.le_of_ble_eq_true rfl) (Nat.le_of_ble_eq_true rfl) (Nat.le_of_ble_eq_true rfl) (Nat.le_of_ble_eq_true rfl) (az_k1 rfl rfl ?_) (az_k0 rfl)
  refine az_if_ne C 14 dX4_addBarge_5 (by decide) (fun _ => ?_) (fun q => absurd q (by decide))
  refine az_iload_n C 2 dX4_addBarge_14 rfl ?_
  refine az_iconst C (v := 5) dX4_addBarge_15 (by decide) ?_
  refine az_bipush C (v := 80) dX4_addBarge_16 (by decide) ?_
  refine az_callS C Y_X4_in [.int b1, .int 5, .int 80] [] wm_X4_104 wst_X4_in dX4_addBarge_18 rfl (Min1 hG (b1) (5) (80) h1.1 h1.2) rfl (Nat.le_of_ble_eq_true rfl) (Nat.le_of_ble_eq_true rfl) (Nat.le_of_ble_eq_true rfl) (Nat.le_of_ble_eq_true rfl) (Nat.le_of_ble_eq_true rfl) (az_k1 rfl rfl ?_) (az_k0 rfl)
  refine az_if_eq C 45 dX4_addBarge_21 (by decide) (fun q => absurd q (by decide)) (fun _ => ?_)
  refine az_iload_n C 3 dX4_addBarge_24 rfl ?_
  refine az_iconst C (v := 2) dX4_addBarge_25 (by decide) ?_
  refine az_bipush C (v := 20) dX4_addBarge_26 (by decide) ?_
  refine az_callS C Y_X4_in [.int b2, .int 2, .int 20] [] wm_X4_104 wst_X4_in dX4_addBarge_28 rfl (Min1 hG (b2) (2) (20) h2.1 h2.2) rfl (Nat.le_of_ble_eq_true rfl) (Nat.le_of_ble_eq_true rfl) (Nat.le_of_ble_eq_true rfl) (Nat.le_of_ble_eq_true rfl) (Nat.le_of_ble_eq_true rfl) (az_k1 rfl rfl ?_) (az_k0 rfl)
  refine az_if_eq C 45 dX4_addBarge_31 (by decide) (fun q => absurd q (by decide)) (fun _ => ?_)
  refine az_iload C 4 dX4_addBarge_34 rfl ?_
  refine az_iconst C (v := 1) dX4_addBarge_36 (by decide) ?_
  refine az_bipush C (v := 20) dX4_addBarge_37 (by decide) ?_
  refine az_callS C Y_X4_in [.int b3, .int 1, .int 20] [] wm_X4_104 wst_X4_in dX4_addBarge_39 rfl (Min1 hG (b3) (1) (20) h3.1 h3.2) rfl (Nat.le_of_ble_eq_true rfl) (Nat.le_of_ble_eq_true rfl) (Nat.le_of_ble_eq_true rfl) (Nat.le_of_ble_eq_true rfl) (Nat.le_of_ble_eq_true rfl) (az_k1 rfl rfl ?_) (az_k0 rfl)
  refine az_if_ne C 51 dX4_addBarge_42 (by decide) (fun _ => ?_) (fun q => absurd q (by decide))
  refine az_aload_n C 0 dX4_addBarge_51 rfl ?_
  refine az_get C cX4 2 0 12 (v := .int (m.1 0 12)) wl_X4_108 dX4_addBarge_52 rfl rfl rfl (by decide) ?_
  refine az_top (nI nb) hb ?_
  refine az_bipush C (v := 8) dX4_addBarge_55 (by decide) ?_
  refine az_icmp_ne C 66 dX4_addBarge_57 (by decide) (fun _ => ?_) (fun q => absurd q (fun z => by rw [show (8 : Int32) = nI 8 from rfl, nI_eq (by omega) (by omega)] at z; omega))
  refine az_iload_n C 3 dX4_addBarge_66 rfl ?_
  refine az_aload_n C 0 dX4_addBarge_67 rfl ?_
  refine az_iload_n C 1 dX4_addBarge_68 rfl ?_
  refine az_callV C Y_X4_level cX4 2 0 [.int (nI k)] [.int b2] wm_X4_135 wi_X4_level wse_X4_level dX4_addBarge_69 rfl rfl rfl (Mlevel hG k (by omega) ha) rfl (Nat.le_of_ble_eq_true rfl) (Nat.le_of_ble_eq_true rfl) (Nat.le_of_ble_eq_true rfl) (Nat.le_of_ble_eq_true rfl) (Nat.le_of_ble_eq_true rfl) (az_k1 rfl rfl ?_) (az_k0 rfl)
  refine az_icmp_lt C 81 dX4_addBarge_72 (by decide) (fun q => absurd q (Int32.not_lt.mpr hl)) (fun _ => ?_)
  refine az_aload_n C 0 dX4_addBarge_75 rfl ?_
  refine az_iconst C (v := 4) dX4_addBarge_76 (by decide) ?_
  refine az_callV C Y_X4_fails cX4 2 0 [.int 4] [] wm_X4_121 wi_X4_fails wse_X4_fails dX4_addBarge_77 rfl rfl rfl (Mfails hG (4)) rfl (Nat.le_of_ble_eq_true rfl) (Nat.le_of_ble_eq_true rfl) (Nat.le_of_ble_eq_true rfl) (Nat.le_of_ble_eq_true rfl) (Nat.le_of_ble_eq_true rfl) (az_k1 rfl rfl ?_) (az_k0 rfl)
  exact az_iret C rfl dX4_addBarge_80 (Nat.le_of_ble_eq_true rfl) (Nat.le_of_ble_eq_true rfl) ⟨rfl, rfl, rfl⟩

def addBargeM (m : Ms) (k nb : Nat) (b1 b2 b3 : Int32) : Ms := (mI (mI (mI (mI (mI (mI (mI (mI m 13 nb (nI k)) 14 nb b1) 15 nb b2) 16 nb b3) 18 nb ((-1))) 19 nb ((-1))) 0 12 (nI (nb + 1))) 0 0 0)
set_option maxHeartbeats 4000000 in
set_option maxRecDepth 100000 in
theorem MaddBarge4 (hG : az_okS l G) (nr k : Nat) (hr : m.1 0 1 = nI nr) (hn : nr ≤ 6) (hk : k + 1 ≤ nr) (b1 b2 b3 : Int32) (h1 : 5 ≤ b1 ∧ b1 ≤ 80) (h2 : 2 ≤ b2 ∧ b2 ≤ 20) (h3 : 1 ≤ b3 ∧ b3 ≤ 20) (nb : Nat) (hb : m.1 0 12 = nI nb) (hnb : nb < 8) (ha : ¬ m.1 3 k = 0) (hl : b2 < levM m k) : az_M l G yX4_addBarge (az_ws yX4_addBarge cX4_addBarge 5 (Option.some FieldType.int)) 3 [.ref (ρ.1 100), .int (nI k), .int b1, .int b2, .int b3] (AD ρ) (KK G ρ x m ou) 0 0 (az_r (some (.int (nI nb))) (AD ρ) (KK G ρ x (addBargeM m k nb b1 b2 b3) ou)) := by
  refine az_start hG.1 (by decide +kernel) (Nat.le_of_ble_eq_true rfl) ?_
  intro p e s mm args below meth c C hnm
  show az_W l G 5 _ p e _ s mm args below meth c _ _ 0 0 0 [(0, .ref (ρ.1 100)), (1, .int (nI k)), (2, .int b1), (3, .int b2), (4, .int b3)] []
  refine az_aload_n C 0 dX4_addBarge_0 rfl ?_
  refine az_iload_n C 1 dX4_addBarge_1 rfl ?_
  refine az_callV C Y_X4_isReach cX4 2 0 [.int (nI k)] [] wm_X4_128 wi_X4_isReach wse_X4_isReach dX4_addBarge_2 rfl rfl rfl (Mr1 hG nr k hr hn hk) rfl (Nat.le_of_ble_eq_true rfl) (Nat.le_of_ble_eq_true rfl) (Nat.le_of_ble_eq_true rfl) (Nat.le_of_ble_eq_true rfl) (Nat.le_of_ble_eq_true rfl) (az_k1 rfl rfl ?_) (az_k0 rfl)
  refine az_if_ne C 14 dX4_addBarge_5 (by decide) (fun _ => ?_) (fun q => absurd q (by decide))
  refine az_iload_n C 2 dX4_addBarge_14 rfl ?_
  refine az_iconst C (v := 5) dX4_addBarge_15 (by decide) ?_
  refine az_bipush C (v := 80) dX4_addBarge_16 (by decide) ?_
  refine az_callS C Y_X4_in [.int b1, .int 5, .int 80] [] wm_X4_104 wst_X4_in dX4_addBarge_18 rfl (Min1 hG (b1) (5) (80) h1.1 h1.2) rfl (Nat.le_of_ble_eq_true rfl) (Nat.le_of_ble_eq_true rfl) (Nat.le_of_ble_eq_true rfl) (Nat.le_of_ble_eq_true rfl) (Nat.le_of_ble_eq_true rfl) (az_k1 rfl rfl ?_) (az_k0 rfl)
  refine az_if_eq C 45 dX4_addBarge_21 (by decide) (fun q => absurd q (by decide)) (fun _ => ?_)
  refine az_iload_n C 3 dX4_addBarge_24 rfl ?_
  refine az_iconst C (v := 2) dX4_addBarge_25 (by decide) ?_
  refine az_bipush C (v := 20) dX4_addBarge_26 (by decide) ?_
  refine az_callS C Y_X4_in [.int b2, .int 2, .int 20] [] wm_X4_104 wst_X4_in dX4_addBarge_28 rfl (Min1 hG (b2) (2) (20) h2.1 h2.2) rfl (Nat.le_of_ble_eq_true rfl) (Nat.le_of_ble_eq_true rfl) (Nat.le_of_ble_eq_true rfl) (Nat.le_of_ble_eq_true rfl) (Nat.le_of_ble_eq_true rfl) (az_k1 rfl rfl ?_) (az_k0 rfl)
  refine az_if_eq C 45 dX4_addBarge_31 (by decide) (fun q => absurd q (by decide)) (fun _ => ?_)
  refine az_iload C 4 dX4_addBarge_34 rfl ?_
  refine az_iconst C (v := 1) dX4_addBarge_36 (by decide) ?_
  refine az_bipush C (v := 20) dX4_addBarge_37 (by decide) ?_
  refine az_callS C Y_X4_in [.int b3, .int 1, .int 20] [] wm_X4_104 wst_X4_in dX4_addBarge_39 rfl (Min1 hG (b3) (1) (20) h3.1 h3.2) rfl (Nat.le_of_ble_eq_true rfl) (Nat.le_of_ble_eq_true rfl) (Nat.le_of_ble_eq_true rfl) (Nat.le_of_ble_eq_true rfl) (Nat.le_of_ble_eq_true rfl) (az_k1 rfl rfl ?_) (az_k0 rfl)
  refine az_if_ne C 51 dX4_addBarge_42 (by decide) (fun _ => ?_) (fun q => absurd q (by decide))
  refine az_aload_n C 0 dX4_addBarge_51 rfl ?_
  refine az_get C cX4 2 0 12 (v := .int (m.1 0 12)) wl_X4_108 dX4_addBarge_52 rfl rfl rfl (by decide) ?_
  refine az_top (nI nb) hb ?_
  refine az_bipush C (v := 8) dX4_addBarge_55 (by decide) ?_
  refine az_icmp_ne C 66 dX4_addBarge_57 (by decide) (fun _ => ?_) (fun q => absurd q (fun z => by rw [show (8 : Int32) = nI 8 from rfl, nI_eq (by omega) (by omega)] at z; omega))
  refine az_iload_n C 3 dX4_addBarge_66 rfl ?_
  refine az_aload_n C 0 dX4_addBarge_67 rfl ?_
  refine az_iload_n C 1 dX4_addBarge_68 rfl ?_
  refine az_callV C Y_X4_level cX4 2 0 [.int (nI k)] [.int b2] wm_X4_135 wi_X4_level wse_X4_level dX4_addBarge_69 rfl rfl rfl (Mlevel hG k (by omega) ha) rfl (Nat.le_of_ble_eq_true rfl) (Nat.le_of_ble_eq_true rfl) (Nat.le_of_ble_eq_true rfl) (Nat.le_of_ble_eq_true rfl) (Nat.le_of_ble_eq_true rfl) (az_k1 rfl rfl ?_) (az_k0 rfl)
  refine az_icmp_lt C 81 dX4_addBarge_72 (by decide) (fun _ => ?_) (fun q => absurd hl q)
  refine az_aload_n C 0 dX4_addBarge_81 rfl ?_
  refine az_get C cX4 2 0 13 (v := .ref (ρ.1 113)) wl_X4_42 dX4_addBarge_82 rfl rfl rfl (by decide) ?_
  refine az_aload_n C 0 dX4_addBarge_85 rfl ?_
  refine az_get C cX4 2 0 12 (v := .int (m.1 0 12)) wl_X4_108 dX4_addBarge_86 rfl rfl rfl (by decide) ?_
  refine az_top (nI nb) hb ?_
  refine az_iload_n C 1 dX4_addBarge_89 rfl ?_
  refine az_iastN C 2 13 nb dX4_addBarge_90 rfl rfl (by omega) (by decide) (az_to rfl (K' := (KK G ρ x (mI m 13 nb (nI k)) ou)) (KK_M rfl) ?_)
  refine az_aload_n C 0 dX4_addBarge_91 rfl ?_
  refine az_get C cX4 2 0 14 (v := .ref (ρ.1 114)) wl_X4_45 dX4_addBarge_92 rfl rfl rfl (by decide) ?_
  refine az_aload_n C 0 dX4_addBarge_95 rfl ?_
  refine az_get C cX4 2 0 12 (v := .int (m.1 0 12)) wl_X4_108 dX4_addBarge_96 rfl rfl rfl (by decide) ?_
  refine az_top (nI nb) hb ?_
  refine az_iload_n C 2 dX4_addBarge_99 rfl ?_
  refine az_iastN C 2 14 nb dX4_addBarge_100 rfl rfl (by omega) (by decide) (az_to rfl (K' := (KK G ρ x (mI (mI m 13 nb (nI k)) 14 nb b1) ou)) (KK_M rfl) ?_)
  refine az_aload_n C 0 dX4_addBarge_101 rfl ?_
  refine az_get C cX4 2 0 15 (v := .ref (ρ.1 115)) wl_X4_48 dX4_addBarge_102 rfl rfl rfl (by decide) ?_
  refine az_aload_n C 0 dX4_addBarge_105 rfl ?_
  refine az_get C cX4 2 0 12 (v := .int (m.1 0 12)) wl_X4_108 dX4_addBarge_106 rfl rfl rfl (by decide) ?_
  refine az_top (nI nb) hb ?_
  refine az_iload_n C 3 dX4_addBarge_109 rfl ?_
  refine az_iastN C 2 15 nb dX4_addBarge_110 rfl rfl (by omega) (by decide) (az_to rfl (K' := (KK G ρ x (mI (mI (mI m 13 nb (nI k)) 14 nb b1) 15 nb b2) ou)) (KK_M rfl) ?_)
  refine az_aload_n C 0 dX4_addBarge_111 rfl ?_
  refine az_get C cX4 2 0 16 (v := .ref (ρ.1 116)) wl_X4_51 dX4_addBarge_112 rfl rfl rfl (by decide) ?_
  refine az_aload_n C 0 dX4_addBarge_115 rfl ?_
  refine az_get C cX4 2 0 12 (v := .int (m.1 0 12)) wl_X4_108 dX4_addBarge_116 rfl rfl rfl (by decide) ?_
  refine az_top (nI nb) hb ?_
  refine az_iload C 4 dX4_addBarge_119 rfl ?_
  refine az_iastN C 2 16 nb dX4_addBarge_121 rfl rfl (by omega) (by decide) (az_to rfl (K' := (KK G ρ x (mI (mI (mI (mI m 13 nb (nI k)) 14 nb b1) 15 nb b2) 16 nb b3) ou)) (KK_M rfl) ?_)
  refine az_aload_n C 0 dX4_addBarge_122 rfl ?_
  refine az_get C cX4 2 0 18 (v := .ref (ρ.1 118)) wl_X4_57 dX4_addBarge_123 rfl rfl rfl (by decide) ?_
  refine az_aload_n C 0 dX4_addBarge_126 rfl ?_
  refine az_get C cX4 2 0 12 (v := .int (m.1 0 12)) wl_X4_108 dX4_addBarge_127 rfl rfl rfl (by decide) ?_
  refine az_top (nI nb) hb ?_
  refine az_iconst C (v := (-1)) dX4_addBarge_130 (by decide) ?_
  refine az_iastN C 2 18 nb dX4_addBarge_131 rfl rfl (by omega) (by decide) (az_to rfl (K' := (KK G ρ x (mI (mI (mI (mI (mI m 13 nb (nI k)) 14 nb b1) 15 nb b2) 16 nb b3) 18 nb ((-1))) ou)) (KK_M rfl) ?_)
  refine az_aload_n C 0 dX4_addBarge_132 rfl ?_
  refine az_get C cX4 2 0 19 (v := .ref (ρ.1 119)) wl_X4_60 dX4_addBarge_133 rfl rfl rfl (by decide) ?_
  refine az_aload_n C 0 dX4_addBarge_136 rfl ?_
  refine az_get C cX4 2 0 12 (v := .int (m.1 0 12)) wl_X4_108 dX4_addBarge_137 rfl rfl rfl (by decide) ?_
  refine az_top (nI nb) hb ?_
  refine az_iconst C (v := (-1)) dX4_addBarge_140 (by decide) ?_
  refine az_iastN C 2 19 nb dX4_addBarge_141 rfl rfl (by omega) (by decide) (az_to rfl (K' := (KK G ρ x (mI (mI (mI (mI (mI (mI m 13 nb (nI k)) 14 nb b1) 15 nb b2) 16 nb b3) 18 nb ((-1))) 19 nb ((-1))) ou)) (KK_M rfl) ?_)
  refine az_aload_n C 0 dX4_addBarge_142 rfl ?_
  refine az_dup C dX4_addBarge_143 rfl ?_
  refine az_get C cX4 2 0 12 (v := .int (m.1 0 12)) wl_X4_108 dX4_addBarge_144 rfl rfl rfl (by decide) ?_
  refine az_top (nI nb) hb ?_
  refine az_iconst C (v := 1) dX4_addBarge_147 (by decide) ?_
  refine az_iadd C dX4_addBarge_148 ?_
  refine az_top (nI (nb + 1)) (nI_1 nb) ?_
  refine az_put C cX4 2 0 12 wl_X4_108 dX4_addBarge_149 rfl rfl (by decide) (Nat.le_of_ble_eq_true rfl) rfl rfl rfl (az_to rfl (K' := (KK G ρ x (mI (mI (mI (mI (mI (mI (mI m 13 nb (nI k)) 14 nb b1) 15 nb b2) 16 nb b3) 18 nb ((-1))) 19 nb ((-1))) 0 12 (nI (nb + 1))) ou)) (KK_M rfl) ?_)
  refine az_aload_n C 0 dX4_addBarge_152 rfl ?_
  refine az_aload_n C 0 dX4_addBarge_153 rfl ?_
  refine az_get C cX4 2 0 12 (v := .int ((nI (nb + 1)))) wl_X4_108 dX4_addBarge_154 rfl rfl rfl (by decide) ?_
  refine az_top (nI (nb + 1)) rfl ?_
  refine az_iconst C (v := 1) dX4_addBarge_157 (by decide) ?_
  refine az_isub C dX4_addBarge_158 ?_
  refine az_top (nI nb) (show nI (nb + 1) - 1 = nI nb from pk_sub (b := 1) (by omega)) ?_
  refine az_callV C Y_X4_tells cX4 2 0 [.int (nI nb)] [] wm_X4_125 wi_X4_tells wse_X4_tells dX4_addBarge_159 rfl rfl rfl (Mtells hG (nI nb)) rfl (Nat.le_of_ble_eq_true rfl) (Nat.le_of_ble_eq_true rfl) (Nat.le_of_ble_eq_true rfl) (Nat.le_of_ble_eq_true rfl) (Nat.le_of_ble_eq_true rfl) (az_k1 rfl rfl ?_) (az_k0 rfl)
  exact az_iret C rfl dX4_addBarge_162 (Nat.le_of_ble_eq_true rfl) (Nat.le_of_ble_eq_true rfl) ⟨rfl, rfl, rfl⟩

set_option maxHeartbeats 4000000 in
set_option maxRecDepth 100000 in
theorem MdraughtOf1 (hG : az_okS l G) (nb k : Nat) (hb : m.1 0 12 = nI nb) (hn : nb ≤ 8) (hk : k + 1 ≤ nb) (ht : ¬ m.1 16 k = 0) : az_M l G yX4_draughtOf (az_ws yX4_draughtOf cX4_draughtOf 2 (Option.some FieldType.int)) 3 [.ref (ρ.1 100), .int (nI k)] (AD ρ) (KK G ρ x m ou) 0 0 (az_r (some (.int (deepM m k))) (AD ρ) (KK G ρ x (mI m 0 0 0) ou)) := by
  refine az_start hG.1 (by decide +kernel) (Nat.le_of_ble_eq_true rfl) ?_
  intro p e s mm args below meth c C hnm
  show az_W l G 2 _ p e _ s mm args below meth c _ _ 0 0 0 [(0, .ref (ρ.1 100)), (1, .int (nI k))] []
  refine az_aload_n C 0 dX4_draughtOf_0 rfl ?_
  refine az_iload_n C 1 dX4_draughtOf_1 rfl ?_
  refine az_callV C Y_X4_isBarge cX4 2 0 [.int (nI k)] [] wm_X4_161 wi_X4_isBarge wse_X4_isBarge dX4_draughtOf_2 rfl rfl rfl (Mb1 hG nb k hb hn hk) rfl (Nat.le_of_ble_eq_true rfl) (Nat.le_of_ble_eq_true rfl) (Nat.le_of_ble_eq_true rfl) (Nat.le_of_ble_eq_true rfl) (Nat.le_of_ble_eq_true rfl) (az_k1 rfl rfl ?_) (az_k0 rfl)
  refine az_if_eq C 20 dX4_draughtOf_5 (by decide) (fun q => absurd q (by decide)) (fun _ => ?_)
  refine az_aload_n C 0 dX4_draughtOf_8 rfl ?_
  refine az_aload_n C 0 dX4_draughtOf_9 rfl ?_
  refine az_iload_n C 1 dX4_draughtOf_10 rfl ?_
  refine az_callV C Y_X4_deep cX4 2 0 [.int (nI k)] [.ref (ρ.1 100)] wm_X4_158 wi_X4_deep wse_X4_deep dX4_draughtOf_11 rfl rfl rfl (Mdeep hG k (by omega) ht) rfl (Nat.le_of_ble_eq_true rfl) (Nat.le_of_ble_eq_true rfl) (Nat.le_of_ble_eq_true rfl) (Nat.le_of_ble_eq_true rfl) (Nat.le_of_ble_eq_true rfl) (az_k1 rfl rfl ?_) (az_k0 rfl)
  refine az_callV C Y_X4_tells cX4 2 0 [.int (deepM m k)] [] wm_X4_125 wi_X4_tells wse_X4_tells dX4_draughtOf_14 rfl rfl rfl (Mtells hG (deepM m k)) rfl (Nat.le_of_ble_eq_true rfl) (Nat.le_of_ble_eq_true rfl) (Nat.le_of_ble_eq_true rfl) (Nat.le_of_ble_eq_true rfl) (Nat.le_of_ble_eq_true rfl) (az_k1 rfl rfl ?_) (az_k0 rfl)
  refine az_goto C 25 dX4_draughtOf_17 (by decide) ?_
  exact az_iret C rfl dX4_draughtOf_25 (Nat.le_of_ble_eq_true rfl) (Nat.le_of_ble_eq_true rfl) ⟨rfl, rfl, rfl⟩

set_option maxHeartbeats 4000000 in
set_option maxRecDepth 100000 in
theorem MdraughtOf0 (hG : az_okS l G) (nb : Nat) (v : Int32) (hb : m.1 0 12 = nI nb) (hn : nb ≤ 8) (hv : oo nb v) : az_M l G yX4_draughtOf (az_ws yX4_draughtOf cX4_draughtOf 2 (Option.some FieldType.int)) 3 [.ref (ρ.1 100), .int v] (AD ρ) (KK G ρ x m ou) 0 0 (az_r (some (.int 0)) (AD ρ) (KK G ρ x (mI m 0 0 1) ou)) := by
  refine az_start hG.1 (by decide +kernel) (Nat.le_of_ble_eq_true rfl) ?_
  intro p e s mm args below meth c C hnm
  show az_W l G 2 _ p e _ s mm args below meth c _ _ 0 0 0 [(0, .ref (ρ.1 100)), (1, .int v)] []
  refine az_aload_n C 0 dX4_draughtOf_0 rfl ?_
  refine az_iload_n C 1 dX4_draughtOf_1 rfl ?_
  refine az_callV C Y_X4_isBarge cX4 2 0 [.int v] [] wm_X4_161 wi_X4_isBarge wse_X4_isBarge dX4_draughtOf_2 rfl rfl rfl (Mb0 hG nb v hb hn (by omega) hv) rfl (Nat.le_of_ble_eq_true rfl) (Nat.le_of_ble_eq_true rfl) (Nat.le_of_ble_eq_true rfl) (Nat.le_of_ble_eq_true rfl) (Nat.le_of_ble_eq_true rfl) (az_k1 rfl rfl ?_) (az_k0 rfl)
  refine az_if_eq C 20 dX4_draughtOf_5 (by decide) (fun _ => ?_) (fun q => absurd (by decide) q)
  refine az_aload_n C 0 dX4_draughtOf_20 rfl ?_
  refine az_iconst C (v := 1) dX4_draughtOf_21 (by decide) ?_
  refine az_callV C Y_X4_fails cX4 2 0 [.int 1] [] wm_X4_121 wi_X4_fails wse_X4_fails dX4_draughtOf_22 rfl rfl rfl (Mfails hG (1)) rfl (Nat.le_of_ble_eq_true rfl) (Nat.le_of_ble_eq_true rfl) (Nat.le_of_ble_eq_true rfl) (Nat.le_of_ble_eq_true rfl) (Nat.le_of_ble_eq_true rfl) (az_k1 rfl rfl ?_) (az_k0 rfl)
  exact az_iret C rfl dX4_draughtOf_25 (Nat.le_of_ble_eq_true rfl) (Nat.le_of_ble_eq_true rfl) ⟨rfl, rfl, rfl⟩

def floatsI (m : Ms) (b r : Nat) : Int32 := if levM m r ≤ deepM m b then 0 else 1
set_option maxHeartbeats 4000000 in
set_option maxRecDepth 100000 in
theorem MisAfloat1 (hG : az_okS l G) (nb k : Nat) (hb : m.1 0 12 = nI nb) (hn : nb ≤ 8) (hk : k + 1 ≤ nb) (r : Nat) (hr6 : r < 6) (ht : ¬ m.1 16 k = 0) (hat : m.1 13 k = nI r) (ha : ¬ m.1 3 r = 0) : az_M l G yX4_isAfloat (az_ws yX4_isAfloat cX4_isAfloat 2 (Option.some FieldType.boolean)) 3 [.ref (ρ.1 100), .int (nI k)] (AD ρ) (KK G ρ x m ou) 0 0 (az_r (some (.int (if (if floatsI m k r = 0 then (0 : Int32) else 1) = 0 then 0 else 1))) (AD ρ) (KK G ρ x (mI m 0 0 0) ou)) := by
  refine az_start hG.1 (by decide +kernel) (Nat.le_of_ble_eq_true rfl) ?_
  intro p e s mm args below meth c C hnm
  show az_W l G 2 _ p e _ s mm args below meth c _ _ 0 0 0 [(0, .ref (ρ.1 100)), (1, .int (nI k))] []
  refine az_aload_n C 0 dX4_isAfloat_0 rfl ?_
  refine az_aload_n C 0 dX4_isAfloat_1 rfl ?_
  refine az_iload_n C 1 dX4_isAfloat_2 rfl ?_
  refine az_callV C Y_X4_isBarge cX4 2 0 [.int (nI k)] [.ref (ρ.1 100)] wm_X4_161 wi_X4_isBarge wse_X4_isBarge dX4_isAfloat_3 rfl rfl rfl (Mb1 hG nb k hb hn hk) rfl (Nat.le_of_ble_eq_true rfl) (Nat.le_of_ble_eq_true rfl) (Nat.le_of_ble_eq_true rfl) (Nat.le_of_ble_eq_true rfl) (Nat.le_of_ble_eq_true rfl) (az_k1 rfl rfl ?_) (az_k0 rfl)
  refine az_if_eq C 13 dX4_isAfloat_6 (by decide) (fun q => absurd q (by decide)) (fun _ => ?_)
  refine az_iconst C (v := 0) dX4_isAfloat_9 (by decide) ?_
  refine az_goto C 14 dX4_isAfloat_10 (by decide) ?_
  refine az_aload_n C 0 dX4_isAfloat_14 rfl ?_
  refine az_iload_n C 1 dX4_isAfloat_15 rfl ?_
  refine az_callV C Y_X4_isBarge cX4 2 0 [.int (nI k)] [.int 0, .ref (ρ.1 100)] wm_X4_161 wi_X4_isBarge wse_X4_isBarge dX4_isAfloat_16 rfl rfl rfl (Mb1 hG nb k hb hn hk) rfl (Nat.le_of_ble_eq_true rfl) (Nat.le_of_ble_eq_true rfl) (Nat.le_of_ble_eq_true rfl) (Nat.le_of_ble_eq_true rfl) (Nat.le_of_ble_eq_true rfl) (az_k1 rfl rfl ?_) (az_k0 rfl)
  refine az_if_eq C 34 dX4_isAfloat_19 (by decide) (fun q => absurd q (by decide)) (fun _ => ?_)
  refine az_aload_n C 0 dX4_isAfloat_22 rfl ?_
  refine az_iload_n C 1 dX4_isAfloat_23 rfl ?_
  refine az_callV C Y_X4_floats cX4 2 0 [.int (nI k)] [.int 0, .ref (ρ.1 100)] wm_X4_164 wi_X4_floats wse_X4_floats dX4_isAfloat_24 rfl rfl rfl (Mfloats hG k r (by omega) hr6 ht hat ha) rfl (Nat.le_of_ble_eq_true rfl) (Nat.le_of_ble_eq_true rfl) (Nat.le_of_ble_eq_true rfl) (Nat.le_of_ble_eq_true rfl) (Nat.le_of_ble_eq_true rfl) (az_k1 rfl rfl ?_) (az_k0 rfl)
  suffices J1 : az_W l G 2 (az_Q G (az_r (some (.int (if (if floatsI m k r = 0 then (0 : Int32) else 1) = 0 then 0 else 1))) (AD ρ) (KK G ρ x (mI m 0 0 0) ou)) below args s 0 0) p e _ s mm args below meth c (AD ρ) (KK G ρ x m ou) _ _ 35 [(0, .ref (ρ.1 100)), (1, .int (nI k))] [.int ((if floatsI m k r = 0 then 0 else 1)), .int 0, .ref (ρ.1 100)] by
    refine az_if_eq C 34 dX4_isAfloat_27 (by decide) (fun c2 => ?_) (fun c2 => ?_)
    · refine az_iconst C (v := 0) dX4_isAfloat_34 (by decide) ?_
      first | rw [if_pos (show floatsI m k r = 0 from c2)] at J1 ⊢ | rw [if_pos (show floatsI m k r = 0 from c2)] at J1
      exact az_lv [0, 1] rfl J1
    · refine az_iconst C (v := 1) dX4_isAfloat_30 (by decide) ?_
      refine az_goto C 35 dX4_isAfloat_31 (by decide) ?_
      first | rw [if_neg (show ¬ (floatsI m k r = 0) from c2)] at J1 ⊢ | rw [if_neg (show ¬ (floatsI m k r = 0) from c2)] at J1
      exact az_lv [0, 1] rfl J1
  refine az_callV C Y_X4_asks cX4 2 0 [.int 0, .int ((if floatsI m k r = 0 then 0 else 1))] [] wm_X4_141 wi_X4_asks wse_X4_asks dX4_isAfloat_35 rfl rfl rfl (Masks hG 0 ((if floatsI m k r = 0 then 0 else 1))) rfl (Nat.le_of_ble_eq_true rfl) (Nat.le_of_ble_eq_true rfl) (Nat.le_of_ble_eq_true rfl) (Nat.le_of_ble_eq_true rfl) (Nat.le_of_ble_eq_true rfl) (az_k1 (by rw [if_neg (show ¬ ¬ (0 : Int32) = 0 by decide)]) rfl ?_) (az_k0 rfl)
  exact az_zret C .boolean rfl (nar_01 _ _) dX4_isAfloat_38 (Nat.le_of_ble_eq_true rfl) (Nat.le_of_ble_eq_true rfl) ⟨rfl, rfl, rfl⟩

set_option maxHeartbeats 4000000 in
set_option maxRecDepth 100000 in
theorem MisAfloat0 (hG : az_okS l G) (nb : Nat) (v : Int32) (hb : m.1 0 12 = nI nb) (hn : nb ≤ 8) (hv : oo nb v) : az_M l G yX4_isAfloat (az_ws yX4_isAfloat cX4_isAfloat 2 (Option.some FieldType.boolean)) 3 [.ref (ρ.1 100), .int v] (AD ρ) (KK G ρ x m ou) 0 0 (az_r (some (.int 0)) (AD ρ) (KK G ρ x (mI m 0 0 1) ou)) := by
  refine az_start hG.1 (by decide +kernel) (Nat.le_of_ble_eq_true rfl) ?_
  intro p e s mm args below meth c C hnm
  show az_W l G 2 _ p e _ s mm args below meth c _ _ 0 0 0 [(0, .ref (ρ.1 100)), (1, .int v)] []
  refine az_aload_n C 0 dX4_isAfloat_0 rfl ?_
  refine az_aload_n C 0 dX4_isAfloat_1 rfl ?_
  refine az_iload_n C 1 dX4_isAfloat_2 rfl ?_
  refine az_callV C Y_X4_isBarge cX4 2 0 [.int v] [.ref (ρ.1 100)] wm_X4_161 wi_X4_isBarge wse_X4_isBarge dX4_isAfloat_3 rfl rfl rfl (Mb0 hG nb v hb hn (by omega) hv) rfl (Nat.le_of_ble_eq_true rfl) (Nat.le_of_ble_eq_true rfl) (Nat.le_of_ble_eq_true rfl) (Nat.le_of_ble_eq_true rfl) (Nat.le_of_ble_eq_true rfl) (az_k1 rfl rfl ?_) (az_k0 rfl)
  refine az_if_eq C 13 dX4_isAfloat_6 (by decide) (fun _ => ?_) (fun q => absurd (by decide) q)
  refine az_iconst C (v := 1) dX4_isAfloat_13 (by decide) ?_
  refine az_aload_n C 0 dX4_isAfloat_14 rfl ?_
  refine az_iload_n C 1 dX4_isAfloat_15 rfl ?_
  refine az_callV C Y_X4_isBarge cX4 2 0 [.int v] [.int 1, .ref (ρ.1 100)] wm_X4_161 wi_X4_isBarge wse_X4_isBarge dX4_isAfloat_16 rfl rfl rfl (Mb0 hG nb v hb hn (by omega) hv) rfl (Nat.le_of_ble_eq_true rfl) (Nat.le_of_ble_eq_true rfl) (Nat.le_of_ble_eq_true rfl) (Nat.le_of_ble_eq_true rfl) (Nat.le_of_ble_eq_true rfl) (az_k1 rfl rfl ?_) (az_k0 rfl)
  refine az_if_eq C 34 dX4_isAfloat_19 (by decide) (fun _ => ?_) (fun q => absurd (by decide) q)
  refine az_iconst C (v := 0) dX4_isAfloat_34 (by decide) ?_
  refine az_callV C Y_X4_asks cX4 2 0 [.int 1, .int 0] [] wm_X4_141 wi_X4_asks wse_X4_asks dX4_isAfloat_35 rfl rfl rfl (Masks hG 1 0) rfl (Nat.le_of_ble_eq_true rfl) (Nat.le_of_ble_eq_true rfl) (Nat.le_of_ble_eq_true rfl) (Nat.le_of_ble_eq_true rfl) (Nat.le_of_ble_eq_true rfl) (az_k1 (by rw [show (if ¬ (1 : Int32) = 0 then (0 : Int32) else if (0 : Int32) = 0 then 0 else 1) = 0 from by decide]) rfl ?_) (az_k0 rfl)
  exact az_zret C .boolean rfl rfl dX4_isAfloat_38 (Nat.le_of_ble_eq_true rfl) (Nat.le_of_ble_eq_true rfl) ⟨rfl, rfl, rfl⟩

set_option maxHeartbeats 4000000 in
set_option maxRecDepth 100000 in
theorem Msell0 (hG : az_okS l G) (nb : Nat) (v u : Int32) (hb : m.1 0 12 = nI nb) (hn : nb ≤ 8) (hv : oo nb v) : az_M l G yX4_sell (az_ws yX4_sell cX4_sell 3 (Option.some FieldType.long)) 3 [.ref (ρ.1 100), .int v, .int u] (AD ρ) (KK G ρ x m ou) 0 0 (az_r (some (.long 0)) (AD ρ) (KK G ρ x (mI m 0 0 1) ou)) := by
  refine az_start hG.1 (by decide +kernel) (Nat.le_of_ble_eq_true rfl) ?_
  intro p e s mm args below meth c C hnm
  show az_W l G 3 _ p e _ s mm args below meth c _ _ 0 0 0 [(0, .ref (ρ.1 100)), (1, .int v), (2, .int u)] []
  refine az_aload_n C 0 dX4_sell_0 rfl ?_
  refine az_iload_n C 1 dX4_sell_1 rfl ?_
  refine az_callV C Y_X4_isBarge cX4 2 0 [.int v] [] wm_X4_161 wi_X4_isBarge wse_X4_isBarge dX4_sell_2 rfl rfl rfl (Mb0 hG nb v hb hn (by omega) hv) rfl (Nat.le_of_ble_eq_true rfl) (Nat.le_of_ble_eq_true rfl) (Nat.le_of_ble_eq_true rfl) (Nat.le_of_ble_eq_true rfl) (Nat.le_of_ble_eq_true rfl) (az_k1 rfl rfl ?_) (az_k0 rfl)
  refine az_if_ne C 14 dX4_sell_5 (by decide) (fun q => absurd (by decide) q) (fun _ => ?_)
  refine az_aload_n C 0 dX4_sell_8 rfl ?_
  refine az_iconst C (v := 1) dX4_sell_9 (by decide) ?_
  refine az_callV C Y_X4_has cX4 2 0 [.int 1] [] wm_X4_229 wi_X4_has wse_X4_has dX4_sell_10 rfl rfl rfl (Mhas1 hG (1) (by decide)) rfl (Nat.le_of_ble_eq_true rfl) (Nat.le_of_ble_eq_true rfl) (Nat.le_of_ble_eq_true rfl) (Nat.le_of_ble_eq_true rfl) (Nat.le_of_ble_eq_true rfl) (az_k1 rfl rfl ?_) (az_k0 rfl)
  exact az_lret C rfl dX4_sell_13 (Nat.le_of_ble_eq_true rfl) (Nat.le_of_ble_eq_true rfl) ⟨rfl, rfl, rfl⟩

set_option maxHeartbeats 4000000 in
set_option maxRecDepth 100000 in
theorem Msell1 (hG : az_okS l G) (nb k : Nat) (hb : m.1 0 12 = nI nb) (hn : nb ≤ 8) (hk : k + 1 ≤ nb) (u : Int32) (hu : inI u 1 999 = 0) : az_M l G yX4_sell (az_ws yX4_sell cX4_sell 3 (Option.some FieldType.long)) 3 [.ref (ρ.1 100), .int (nI k), .int u] (AD ρ) (KK G ρ x m ou) 0 0 (az_r (some (.long 0)) (AD ρ) (KK G ρ x (mI m 0 0 2) ou)) := by
  refine az_start hG.1 (by decide +kernel) (Nat.le_of_ble_eq_true rfl) ?_
  intro p e s mm args below meth c C hnm
  show az_W l G 3 _ p e _ s mm args below meth c _ _ 0 0 0 [(0, .ref (ρ.1 100)), (1, .int (nI k)), (2, .int u)] []
  refine az_aload_n C 0 dX4_sell_0 rfl ?_
  refine az_iload_n C 1 dX4_sell_1 rfl ?_
  refine az_callV C Y_X4_isBarge cX4 2 0 [.int (nI k)] [] wm_X4_161 wi_X4_isBarge wse_X4_isBarge dX4_sell_2 rfl rfl rfl (Mb1 hG nb k hb hn hk) rfl (Nat.le_of_ble_eq_true rfl) (Nat.le_of_ble_eq_true rfl) (Nat.le_of_ble_eq_true rfl) (Nat.le_of_ble_eq_true rfl) (Nat.le_of_ble_eq_true rfl) (az_k1 rfl rfl ?_) (az_k0 rfl)
  refine az_if_ne C 14 dX4_sell_5 (by decide) (fun _ => ?_) (fun q => absurd q (by decide))
  refine az_iload_n C 2 dX4_sell_14 rfl ?_
  refine az_iconst C (v := 1) dX4_sell_15 (by decide) ?_
  refine az_sipush C (v := 999) dX4_sell_16 (by decide) ?_
  refine az_callS C Y_X4_in [.int u, .int 1, .int 999] [] wm_X4_104 wst_X4_in dX4_sell_19 rfl (Min hG (u) (1) (999)) rfl (Nat.le_of_ble_eq_true rfl) (Nat.le_of_ble_eq_true rfl) (Nat.le_of_ble_eq_true rfl) (Nat.le_of_ble_eq_true rfl) (Nat.le_of_ble_eq_true rfl) (az_k1 rfl rfl ?_) (az_k0 rfl)
  refine az_if_ne C 31 dX4_sell_22 (by decide) (fun q => absurd hu q) (fun _ => ?_)
  refine az_aload_n C 0 dX4_sell_25 rfl ?_
  refine az_iconst C (v := 2) dX4_sell_26 (by decide) ?_
  refine az_callV C Y_X4_has cX4 2 0 [.int 2] [] wm_X4_229 wi_X4_has wse_X4_has dX4_sell_27 rfl rfl rfl (Mhas1 hG (2) (by decide)) rfl (Nat.le_of_ble_eq_true rfl) (Nat.le_of_ble_eq_true rfl) (Nat.le_of_ble_eq_true rfl) (Nat.le_of_ble_eq_true rfl) (Nat.le_of_ble_eq_true rfl) (az_k1 rfl rfl ?_) (az_k0 rfl)
  exact az_lret C rfl dX4_sell_30 (Nat.le_of_ble_eq_true rfl) (Nat.le_of_ble_eq_true rfl) ⟨rfl, rfl, rfl⟩

set_option maxHeartbeats 4000000 in
set_option maxRecDepth 100000 in
theorem Msell2 (hG : az_okS l G) (nb k : Nat) (hb : m.1 0 12 = nI nb) (hn : nb ≤ 8) (hk : k + 1 ≤ nb) (u : Int32) (hu : 1 ≤ u ∧ u ≤ 999) (hc : m.1 17 k < u) : az_M l G yX4_sell (az_ws yX4_sell cX4_sell 3 (Option.some FieldType.long)) 3 [.ref (ρ.1 100), .int (nI k), .int u] (AD ρ) (KK G ρ x m ou) 0 0 (az_r (some (.long 0)) (AD ρ) (KK G ρ x (mI m 0 0 3) ou)) := by
  refine az_start hG.1 (by decide +kernel) (Nat.le_of_ble_eq_true rfl) ?_
  intro p e s mm args below meth c C hnm
  show az_W l G 3 _ p e _ s mm args below meth c _ _ 0 0 0 [(0, .ref (ρ.1 100)), (1, .int (nI k)), (2, .int u)] []
  refine az_aload_n C 0 dX4_sell_0 rfl ?_
  refine az_iload_n C 1 dX4_sell_1 rfl ?_
  refine az_callV C Y_X4_isBarge cX4 2 0 [.int (nI k)] [] wm_X4_161 wi_X4_isBarge wse_X4_isBarge dX4_sell_2 rfl rfl rfl (Mb1 hG nb k hb hn hk) rfl (Nat.le_of_ble_eq_true rfl) (Nat.le_of_ble_eq_true rfl) (Nat.le_of_ble_eq_true rfl) (Nat.le_of_ble_eq_true rfl) (Nat.le_of_ble_eq_true rfl) (az_k1 rfl rfl ?_) (az_k0 rfl)
  refine az_if_ne C 14 dX4_sell_5 (by decide) (fun _ => ?_) (fun q => absurd q (by decide))
  refine az_iload_n C 2 dX4_sell_14 rfl ?_
  refine az_iconst C (v := 1) dX4_sell_15 (by decide) ?_
  refine az_sipush C (v := 999) dX4_sell_16 (by decide) ?_
  refine az_callS C Y_X4_in [.int u, .int 1, .int 999] [] wm_X4_104 wst_X4_in dX4_sell_19 rfl (Min1 hG (u) (1) (999) hu.1 hu.2) rfl (Nat.le_of_ble_eq_true rfl) (Nat.le_of_ble_eq_true rfl) (Nat.le_of_ble_eq_true rfl) (Nat.le_of_ble_eq_true rfl) (Nat.le_of_ble_eq_true rfl) (az_k1 rfl rfl ?_) (az_k0 rfl)
  refine az_if_ne C 31 dX4_sell_22 (by decide) (fun _ => ?_) (fun q => absurd q (by decide))
  refine az_aload_n C 0 dX4_sell_31 rfl ?_
  refine az_get C cX4 2 0 17 (v := .ref (ρ.1 117)) wl_X4_54 dX4_sell_32 rfl rfl rfl (by decide) ?_
  refine az_iload_n C 1 dX4_sell_35 rfl ?_
  refine az_ialdN C 2 17 k (v := m.1 17 k) dX4_sell_36 rfl rfl (by omega) (by decide) rfl ?_
  refine az_iload_n C 2 dX4_sell_37 rfl ?_
  refine az_icmp_ge C 47 dX4_sell_38 (by decide) (fun q => absurd q (Int32.not_le.mpr hc)) (fun _ => ?_)
  refine az_aload_n C 0 dX4_sell_41 rfl ?_
  refine az_iconst C (v := 3) dX4_sell_42 (by decide) ?_
  refine az_callV C Y_X4_has cX4 2 0 [.int 3] [] wm_X4_229 wi_X4_has wse_X4_has dX4_sell_43 rfl rfl rfl (Mhas1 hG (3) (by decide)) rfl (Nat.le_of_ble_eq_true rfl) (Nat.le_of_ble_eq_true rfl) (Nat.le_of_ble_eq_true rfl) (Nat.le_of_ble_eq_true rfl) (Nat.le_of_ble_eq_true rfl) (az_k1 rfl rfl ?_) (az_k0 rfl)
  exact az_lret C rfl dX4_sell_46 (Nat.le_of_ble_eq_true rfl) (Nat.le_of_ble_eq_true rfl) ⟨rfl, rfl, rfl⟩

set_option maxHeartbeats 4000000 in
set_option maxRecDepth 100000 in
theorem Msell3 (hG : az_okS l G) (nb k : Nat) (hb : m.1 0 12 = nI nb) (hn : nb ≤ 8) (hk : k + 1 ≤ nb) (u : Int32) (hu : 1 ≤ u ∧ u ≤ 999) (hc : u ≤ m.1 17 k) (r : Nat) (hr6 : r < 6) (hat : m.1 13 k = nI r) : az_M l G yX4_sell (az_ws yX4_sell cX4_sell 3 (Option.some FieldType.long)) 3 [.ref (ρ.1 100), .int (nI k), .int u] (AD ρ) (KK G ρ x m ou) 0 0 (az_r (some (.long (sellsM m k r u).2)) (AD ρ) (KK G ρ x (mI (sellsM m k r u) 0 0 0) ou)) := by
  refine az_start hG.1 (by decide +kernel) (Nat.le_of_ble_eq_true rfl) ?_
  intro p e s mm args below meth c C hnm
  show az_W l G 3 _ p e _ s mm args below meth c _ _ 0 0 0 [(0, .ref (ρ.1 100)), (1, .int (nI k)), (2, .int u)] []
  refine az_aload_n C 0 dX4_sell_0 rfl ?_
  refine az_iload_n C 1 dX4_sell_1 rfl ?_
  refine az_callV C Y_X4_isBarge cX4 2 0 [.int (nI k)] [] wm_X4_161 wi_X4_isBarge wse_X4_isBarge dX4_sell_2 rfl rfl rfl (Mb1 hG nb k hb hn hk) rfl (Nat.le_of_ble_eq_true rfl) (Nat.le_of_ble_eq_true rfl) (Nat.le_of_ble_eq_true rfl) (Nat.le_of_ble_eq_true rfl) (Nat.le_of_ble_eq_true rfl) (az_k1 rfl rfl ?_) (az_k0 rfl)
  refine az_if_ne C 14 dX4_sell_5 (by decide) (fun _ => ?_) (fun q => absurd q (by decide))
  refine az_iload_n C 2 dX4_sell_14 rfl ?_
  refine az_iconst C (v := 1) dX4_sell_15 (by decide) ?_
  refine az_sipush C (v := 999) dX4_sell_16 (by decide) ?_
  refine az_callS C Y_X4_in [.int u, .int 1, .int 999] [] wm_X4_104 wst_X4_in dX4_sell_19 rfl (Min1 hG (u) (1) (999) hu.1 hu.2) rfl (Nat.le_of_ble_eq_true rfl) (Nat.le_of_ble_eq_true rfl) (Nat.le_of_ble_eq_true rfl) (Nat.le_of_ble_eq_true rfl) (Nat.le_of_ble_eq_true rfl) (az_k1 rfl rfl ?_) (az_k0 rfl)
  refine az_if_ne C 31 dX4_sell_22 (by decide) (fun _ => ?_) (fun q => absurd q (by decide))
  refine az_aload_n C 0 dX4_sell_31 rfl ?_
  refine az_get C cX4 2 0 17 (v := .ref (ρ.1 117)) wl_X4_54 dX4_sell_32 rfl rfl rfl (by decide) ?_
  refine az_iload_n C 1 dX4_sell_35 rfl ?_
  refine az_ialdN C 2 17 k (v := m.1 17 k) dX4_sell_36 rfl rfl (by omega) (by decide) rfl ?_
  refine az_iload_n C 2 dX4_sell_37 rfl ?_
  refine az_icmp_ge C 47 dX4_sell_38 (by decide) (fun _ => ?_) (fun q => absurd hc q)
  refine az_aload_n C 0 dX4_sell_47 rfl ?_
  refine az_iload_n C 1 dX4_sell_48 rfl ?_
  refine az_iload_n C 2 dX4_sell_49 rfl ?_
  refine az_callV C Y_X4_sells cX4 2 0 [.int (nI k), .int u] [] wm_X4_233 wi_X4_sells wse_X4_sells dX4_sell_50 rfl rfl rfl (Msells hG k r (u) (by omega) hr6 hat) rfl (Nat.le_of_ble_eq_true rfl) (Nat.le_of_ble_eq_true rfl) (Nat.le_of_ble_eq_true rfl) (Nat.le_of_ble_eq_true rfl) (Nat.le_of_ble_eq_true rfl) (az_k1 rfl rfl ?_) (az_k0 rfl)
  refine az_aload_n C 0 dX4_sell_53 rfl ?_
  refine az_iconst C (v := 0) dX4_sell_54 (by decide) ?_
  refine az_callV C Y_X4_has cX4 2 0 [.int 0] [] wm_X4_229 wi_X4_has wse_X4_has dX4_sell_55 rfl rfl rfl (Mhas0 hG) rfl (Nat.le_of_ble_eq_true rfl) (Nat.le_of_ble_eq_true rfl) (Nat.le_of_ble_eq_true rfl) (Nat.le_of_ble_eq_true rfl) (Nat.le_of_ble_eq_true rfl) (az_k1 rfl rfl ?_) (az_k0 rfl)
  exact az_lret C rfl dX4_sell_58 (Nat.le_of_ble_eq_true rfl) (Nat.le_of_ble_eq_true rfl) ⟨rfl, rfl, rfl⟩

set_option maxHeartbeats 4000000 in
set_option maxRecDepth 100000 in
theorem Mbuy0 (hG : az_okS l G) (nb : Nat) (v u : Int32) (hb : m.1 0 12 = nI nb) (hn : nb ≤ 8) (hv : oo nb v) : az_M l G yX4_buy (az_ws yX4_buy cX4_buy 6 (Option.some FieldType.long)) 3 [.ref (ρ.1 100), .int v, .int u] (AD ρ) (KK G ρ x m ou) 0 0 (az_r (some (.long 0)) (AD ρ) (KK G ρ x (mI m 0 0 1) ou)) := by
  refine az_start hG.1 (by decide +kernel) (Nat.le_of_ble_eq_true rfl) ?_
  intro p e s mm args below meth c C hnm
  show az_W l G 6 _ p e _ s mm args below meth c _ _ 0 0 0 [(0, .ref (ρ.1 100)), (1, .int v), (2, .int u)] []
  refine az_aload_n C 0 dX4_buy_0 rfl ?_
  refine az_iload_n C 1 dX4_buy_1 rfl ?_
  refine az_callV C Y_X4_isBarge cX4 2 0 [.int v] [] wm_X4_161 wi_X4_isBarge wse_X4_isBarge dX4_buy_2 rfl rfl rfl (Mb0 hG nb v hb hn (by omega) hv) rfl (Nat.le_of_ble_eq_true rfl) (Nat.le_of_ble_eq_true rfl) (Nat.le_of_ble_eq_true rfl) (Nat.le_of_ble_eq_true rfl) (Nat.le_of_ble_eq_true rfl) (az_k1 rfl rfl ?_) (az_k0 rfl)
  refine az_if_ne C 14 dX4_buy_5 (by decide) (fun q => absurd (by decide) q) (fun _ => ?_)
  refine az_aload_n C 0 dX4_buy_8 rfl ?_
  refine az_iconst C (v := 1) dX4_buy_9 (by decide) ?_
  refine az_callV C Y_X4_has cX4 2 0 [.int 1] [] wm_X4_229 wi_X4_has wse_X4_has dX4_buy_10 rfl rfl rfl (Mhas1 hG (1) (by decide)) rfl (Nat.le_of_ble_eq_true rfl) (Nat.le_of_ble_eq_true rfl) (Nat.le_of_ble_eq_true rfl) (Nat.le_of_ble_eq_true rfl) (Nat.le_of_ble_eq_true rfl) (az_k1 rfl rfl ?_) (az_k0 rfl)
  exact az_lret C rfl dX4_buy_13 (Nat.le_of_ble_eq_true rfl) (Nat.le_of_ble_eq_true rfl) ⟨rfl, rfl, rfl⟩

set_option maxHeartbeats 4000000 in
set_option maxRecDepth 100000 in
theorem Mbuy1 (hG : az_okS l G) (nb k : Nat) (hb : m.1 0 12 = nI nb) (hn : nb ≤ 8) (hk : k + 1 ≤ nb) (u : Int32) (hu : inI u 1 999 = 0) : az_M l G yX4_buy (az_ws yX4_buy cX4_buy 6 (Option.some FieldType.long)) 3 [.ref (ρ.1 100), .int (nI k), .int u] (AD ρ) (KK G ρ x m ou) 0 0 (az_r (some (.long 0)) (AD ρ) (KK G ρ x (mI m 0 0 2) ou)) := by
  refine az_start hG.1 (by decide +kernel) (Nat.le_of_ble_eq_true rfl) ?_
  intro p e s mm args below meth c C hnm
  show az_W l G 6 _ p e _ s mm args below meth c _ _ 0 0 0 [(0, .ref (ρ.1 100)), (1, .int (nI k)), (2, .int u)] []
  refine az_aload_n C 0 dX4_buy_0 rfl ?_
  refine az_iload_n C 1 dX4_buy_1 rfl ?_
  refine az_callV C Y_X4_isBarge cX4 2 0 [.int (nI k)] [] wm_X4_161 wi_X4_isBarge wse_X4_isBarge dX4_buy_2 rfl rfl rfl (Mb1 hG nb k hb hn hk) rfl (Nat.le_of_ble_eq_true rfl) (Nat.le_of_ble_eq_true rfl) (Nat.le_of_ble_eq_true rfl) (Nat.le_of_ble_eq_true rfl) (Nat.le_of_ble_eq_true rfl) (az_k1 rfl rfl ?_) (az_k0 rfl)
  refine az_if_ne C 14 dX4_buy_5 (by decide) (fun _ => ?_) (fun q => absurd q (by decide))
  refine az_iload_n C 2 dX4_buy_14 rfl ?_
  refine az_iconst C (v := 1) dX4_buy_15 (by decide) ?_
  refine az_sipush C (v := 999) dX4_buy_16 (by decide) ?_
  refine az_callS C Y_X4_in [.int u, .int 1, .int 999] [] wm_X4_104 wst_X4_in dX4_buy_19 rfl (Min hG (u) (1) (999)) rfl (Nat.le_of_ble_eq_true rfl) (Nat.le_of_ble_eq_true rfl) (Nat.le_of_ble_eq_true rfl) (Nat.le_of_ble_eq_true rfl) (Nat.le_of_ble_eq_true rfl) (az_k1 rfl rfl ?_) (az_k0 rfl)
  refine az_if_ne C 31 dX4_buy_22 (by decide) (fun q => absurd hu q) (fun _ => ?_)
  refine az_aload_n C 0 dX4_buy_25 rfl ?_
  refine az_iconst C (v := 2) dX4_buy_26 (by decide) ?_
  refine az_callV C Y_X4_has cX4 2 0 [.int 2] [] wm_X4_229 wi_X4_has wse_X4_has dX4_buy_27 rfl rfl rfl (Mhas1 hG (2) (by decide)) rfl (Nat.le_of_ble_eq_true rfl) (Nat.le_of_ble_eq_true rfl) (Nat.le_of_ble_eq_true rfl) (Nat.le_of_ble_eq_true rfl) (Nat.le_of_ble_eq_true rfl) (az_k1 rfl rfl ?_) (az_k0 rfl)
  exact az_lret C rfl dX4_buy_30 (Nat.le_of_ble_eq_true rfl) (Nat.le_of_ble_eq_true rfl) ⟨rfl, rfl, rfl⟩

def buyC (m : Ms) (k : Nat) (u : Int32) : Ms := mI m 17 k (m.1 17 k + u)
def buyB (m : Ms) (k : Nat) (u : Int32) : Ms := mI (buyC m k u) 17 k ((buyC m k u).1 17 k - u)
def costM (m : Ms) (r : Nat) (u : Int32) : Int64 := u.toInt64 * (m.1 6 r).toInt64
def buyF (m : Ms) (k r : Nat) (u : Int32) : Ms := mM (mI (buyB m k u) 17 k ((buyB m k u).1 17 k + u)) (m.2 - costM m r u)
set_option maxHeartbeats 4000000 in
set_option maxRecDepth 100000 in
theorem Mbuy2 (hG : az_okS l G) (nb k : Nat) (hb : m.1 0 12 = nI nb) (hn : nb ≤ 8) (hk : k + 1 ≤ nb) (u : Int32) (hu : 1 ≤ u ∧ u ≤ 999) (r : Nat) (hr6 : r < 6) (ht : ¬ m.1 16 k = 0) (hat : m.1 13 k = nI r) (ha : ¬ m.1 3 r = 0) (hf : floatsI (buyC m k u) k r = 0) : az_M l G yX4_buy (az_ws yX4_buy cX4_buy 6 (Option.some FieldType.long)) 3 [.ref (ρ.1 100), .int (nI k), .int u] (AD ρ) (KK G ρ x m ou) 0 0 (az_r (some (.long 0)) (AD ρ) (KK G ρ x (mI (buyB m k u) 0 0 3) ou)) := by
  refine az_start hG.1 (by decide +kernel) (Nat.le_of_ble_eq_true rfl) ?_
  intro p e s mm args below meth c C hnm
  show az_W l G 6 _ p e _ s mm args below meth c _ _ 0 0 0 [(0, .ref (ρ.1 100)), (1, .int (nI k)), (2, .int u)] []
  refine az_aload_n C 0 dX4_buy_0 rfl ?_
  refine az_iload_n C 1 dX4_buy_1 rfl ?_
  refine az_callV C Y_X4_isBarge cX4 2 0 [.int (nI k)] [] wm_X4_161 wi_X4_isBarge wse_X4_isBarge dX4_buy_2 rfl rfl rfl (Mb1 hG nb k hb hn hk) rfl (Nat.le_of_ble_eq_true rfl) (Nat.le_of_ble_eq_true rfl) (Nat.le_of_ble_eq_true rfl) (Nat.le_of_ble_eq_true rfl) (Nat.le_of_ble_eq_true rfl) (az_k1 rfl rfl ?_) (az_k0 rfl)
  refine az_if_ne C 14 dX4_buy_5 (by decide) (fun _ => ?_) (fun q => absurd q (by decide))
  refine az_iload_n C 2 dX4_buy_14 rfl ?_
  refine az_iconst C (v := 1) dX4_buy_15 (by decide) ?_
  refine az_sipush C (v := 999) dX4_buy_16 (by decide) ?_
  refine az_callS C Y_X4_in [.int u, .int 1, .int 999] [] wm_X4_104 wst_X4_in dX4_buy_19 rfl (Min1 hG (u) (1) (999) hu.1 hu.2) rfl (Nat.le_of_ble_eq_true rfl) (Nat.le_of_ble_eq_true rfl) (Nat.le_of_ble_eq_true rfl) (Nat.le_of_ble_eq_true rfl) (Nat.le_of_ble_eq_true rfl) (az_k1 rfl rfl ?_) (az_k0 rfl)
  refine az_if_ne C 31 dX4_buy_22 (by decide) (fun _ => ?_) (fun q => absurd q (by decide))
  refine az_aload_n C 0 dX4_buy_31 rfl ?_
  refine az_get C cX4 2 0 17 (v := .ref (ρ.1 117)) wl_X4_54 dX4_buy_32 rfl rfl rfl (by decide) ?_
  refine az_iload_n C 1 dX4_buy_35 rfl ?_
  refine az_dup2 C dX4_buy_36 rfl rfl ?_
  refine az_ialdN C 2 17 k (v := m.1 17 k) dX4_buy_37 rfl rfl (by omega) (by decide) rfl ?_
  refine az_iload_n C 2 dX4_buy_38 rfl ?_
  refine az_iadd C dX4_buy_39 ?_
  refine az_iastN C 2 17 k dX4_buy_40 rfl rfl (by omega) (by decide) (az_to rfl (K' := (KK G ρ x (mI m 17 k ((m.1 17 k + u))) ou)) (KK_M rfl) ?_)
  refine az_aload_n C 0 dX4_buy_41 rfl ?_
  refine az_iload_n C 1 dX4_buy_42 rfl ?_
  refine az_callV C Y_X4_floats cX4 2 0 [.int (nI k)] [] wm_X4_164 wi_X4_floats wse_X4_floats dX4_buy_43 rfl rfl rfl (Mfloats hG k r (by omega) hr6 ht hat ha) rfl (Nat.le_of_ble_eq_true rfl) (Nat.le_of_ble_eq_true rfl) (Nat.le_of_ble_eq_true rfl) (Nat.le_of_ble_eq_true rfl) (Nat.le_of_ble_eq_true rfl) (az_k1 rfl rfl ?_) (az_k0 rfl)
  refine az_top (0) hf ?_
  refine az_istore_n C (lv' := [(3, .int 0), (0, .ref (ρ.1 100)), (1, .int (nI k)), (2, .int u)]) (j := 3) rfl dX4_buy_46 (by decide) rfl ?_
  refine az_aload_n C 1 dX4_buy_47 rfl ?_
  refine az_get C cX4 2 0 17 (v := .ref (ρ.1 117)) wl_X4_54 dX4_buy_48 rfl rfl rfl (by decide) ?_
  refine az_iload_n C 2 dX4_buy_51 rfl ?_
  refine az_dup2 C dX4_buy_52 rfl rfl ?_
  refine az_ialdN C 2 17 k (v := ((mI m 17 k ((m.1 17 k + u)))).1 17 k) dX4_buy_53 rfl rfl (by omega) (by decide) rfl ?_
  refine az_iload_n C 3 dX4_buy_54 rfl ?_
  refine az_isub C dX4_buy_55 ?_
  refine az_iastN C 2 17 k dX4_buy_56 rfl rfl (by omega) (by decide) (az_to rfl (K' := (KK G ρ x (mI (mI m 17 k ((m.1 17 k + u))) 17 k ((((mI m 17 k ((m.1 17 k + u)))).1 17 k - u))) ou)) (KK_M rfl) ?_)
  refine az_iload_n C 3 dX4_buy_57 rfl ?_
  refine az_i2l C dX4_buy_58 ?_
  refine az_aload_n C 1 dX4_buy_59 rfl ?_
  refine az_get C cX4 2 0 6 (v := .ref (ρ.1 106)) wl_X4_23 dX4_buy_60 rfl rfl rfl (by decide) ?_
  refine az_aload_n C 1 dX4_buy_63 rfl ?_
  refine az_get C cX4 2 0 13 (v := .ref (ρ.1 113)) wl_X4_42 dX4_buy_64 rfl rfl rfl (by decide) ?_
  refine az_iload_n C 2 dX4_buy_67 rfl ?_
  refine az_ialdN C 2 13 k (v := m.1 13 k) dX4_buy_68 rfl rfl (by omega) (by decide) rfl ?_
  refine az_top (nI r) hat ?_
  refine az_ialdN C 2 6 r (v := m.1 6 r) dX4_buy_69 rfl rfl (by omega) (by decide) rfl ?_
  refine az_i2l C dX4_buy_70 ?_
  refine az_lmul C dX4_buy_71 ?_
  refine az_lstore C (lv' := [(4, .long (((u.toInt64) * ((m.1 6 r).toInt64)))), (3, .int 0), (0, .ref (ρ.1 100)), (1, .int (nI k)), (2, .int u)]) dX4_buy_72 (by decide) rfl ?_
  refine az_iload_n C 1 dX4_buy_74 rfl ?_
  refine az_if_eq C 88 dX4_buy_75 (by decide) (fun _ => ?_) (fun q => absurd (by decide) q)
  refine az_aload_n C 2 dX4_buy_88 rfl ?_
  refine az_iload_n C 1 dX4_buy_89 rfl ?_
  refine az_if_eq C 97 dX4_buy_90 (by decide) (fun _ => ?_) (fun q => absurd (by decide) q)
  refine az_iconst C (v := 3) dX4_buy_97 (by decide) ?_
  refine az_callV C Y_X4_has cX4 2 0 [.int 3] [] wm_X4_229 wi_X4_has wse_X4_has dX4_buy_98 rfl rfl rfl (Mhas1 hG (3) (by decide)) rfl (Nat.le_of_ble_eq_true rfl) (Nat.le_of_ble_eq_true rfl) (Nat.le_of_ble_eq_true rfl) (Nat.le_of_ble_eq_true rfl) (Nat.le_of_ble_eq_true rfl) (az_k1 rfl rfl ?_) (az_k0 rfl)
  exact az_lret C rfl dX4_buy_101 (Nat.le_of_ble_eq_true rfl) (Nat.le_of_ble_eq_true rfl) ⟨rfl, rfl, rfl⟩

set_option maxHeartbeats 4000000 in
set_option maxRecDepth 100000 in
theorem Mbuy3 (hG : az_okS l G) (nb k : Nat) (hb : m.1 0 12 = nI nb) (hn : nb ≤ 8) (hk : k + 1 ≤ nb) (u : Int32) (hu : 1 ≤ u ∧ u ≤ 999) (r : Nat) (hr6 : r < 6) (ht : ¬ m.1 16 k = 0) (hat : m.1 13 k = nI r) (ha : ¬ m.1 3 r = 0) (hf : floatsI (buyC m k u) k r = 1) (hp : ¬ lg_cmp (costM m r u) m.2 ≤ 0) : az_M l G yX4_buy (az_ws yX4_buy cX4_buy 6 (Option.some FieldType.long)) 3 [.ref (ρ.1 100), .int (nI k), .int u] (AD ρ) (KK G ρ x m ou) 0 0 (az_r (some (.long 0)) (AD ρ) (KK G ρ x (mI (buyB m k u) 0 0 4) ou)) := by
  refine az_start hG.1 (by decide +kernel) (Nat.le_of_ble_eq_true rfl) ?_
  intro p e s mm args below meth c C hnm
  show az_W l G 6 _ p e _ s mm args below meth c _ _ 0 0 0 [(0, .ref (ρ.1 100)), (1, .int (nI k)), (2, .int u)] []
  refine az_aload_n C 0 dX4_buy_0 rfl ?_
  refine az_iload_n C 1 dX4_buy_1 rfl ?_
  refine az_callV C Y_X4_isBarge cX4 2 0 [.int (nI k)] [] wm_X4_161 wi_X4_isBarge wse_X4_isBarge dX4_buy_2 rfl rfl rfl (Mb1 hG nb k hb hn hk) rfl (Nat.le_of_ble_eq_true rfl) (Nat.le_of_ble_eq_true rfl) (Nat.le_of_ble_eq_true rfl) (Nat.le_of_ble_eq_true rfl) (Nat.le_of_ble_eq_true rfl) (az_k1 rfl rfl ?_) (az_k0 rfl)
  refine az_if_ne C 14 dX4_buy_5 (by decide) (fun _ => ?_) (fun q => absurd q (by decide))
  refine az_iload_n C 2 dX4_buy_14 rfl ?_
  refine az_iconst C (v := 1) dX4_buy_15 (by decide) ?_
  refine az_sipush C (v := 999) dX4_buy_16 (by decide) ?_
  refine az_callS C Y_X4_in [.int u, .int 1, .int 999] [] wm_X4_104 wst_X4_in dX4_buy_19 rfl (Min1 hG (u) (1) (999) hu.1 hu.2) rfl (Nat.le_of_ble_eq_true rfl) (Nat.le_of_ble_eq_true rfl) (Nat.le_of_ble_eq_true rfl) (Nat.le_of_ble_eq_true rfl) (Nat.le_of_ble_eq_true rfl) (az_k1 rfl rfl ?_) (az_k0 rfl)
  refine az_if_ne C 31 dX4_buy_22 (by decide) (fun _ => ?_) (fun q => absurd q (by decide))
  refine az_aload_n C 0 dX4_buy_31 rfl ?_
  refine az_get C cX4 2 0 17 (v := .ref (ρ.1 117)) wl_X4_54 dX4_buy_32 rfl rfl rfl (by decide) ?_
  refine az_iload_n C 1 dX4_buy_35 rfl ?_
  refine az_dup2 C dX4_buy_36 rfl rfl ?_
  refine az_ialdN C 2 17 k (v := m.1 17 k) dX4_buy_37 rfl rfl (by omega) (by decide) rfl ?_
  refine az_iload_n C 2 dX4_buy_38 rfl ?_
  refine az_iadd C dX4_buy_39 ?_
  refine az_iastN C 2 17 k dX4_buy_40 rfl rfl (by omega) (by decide) (az_to rfl (K' := (KK G ρ x (mI m 17 k ((m.1 17 k + u))) ou)) (KK_M rfl) ?_)
  refine az_aload_n C 0 dX4_buy_41 rfl ?_
  refine az_iload_n C 1 dX4_buy_42 rfl ?_
  refine az_callV C Y_X4_floats cX4 2 0 [.int (nI k)] [] wm_X4_164 wi_X4_floats wse_X4_floats dX4_buy_43 rfl rfl rfl (Mfloats hG k r (by omega) hr6 ht hat ha) rfl (Nat.le_of_ble_eq_true rfl) (Nat.le_of_ble_eq_true rfl) (Nat.le_of_ble_eq_true rfl) (Nat.le_of_ble_eq_true rfl) (Nat.le_of_ble_eq_true rfl) (az_k1 rfl rfl ?_) (az_k0 rfl)
  refine az_top (1) hf ?_
  refine az_istore_n C (lv' := [(3, .int 1), (0, .ref (ρ.1 100)), (1, .int (nI k)), (2, .int u)]) (j := 3) rfl dX4_buy_46 (by decide) rfl ?_
  refine az_aload_n C 1 dX4_buy_47 rfl ?_
  refine az_get C cX4 2 0 17 (v := .ref (ρ.1 117)) wl_X4_54 dX4_buy_48 rfl rfl rfl (by decide) ?_
  refine az_iload_n C 2 dX4_buy_51 rfl ?_
  refine az_dup2 C dX4_buy_52 rfl rfl ?_
  refine az_ialdN C 2 17 k (v := ((mI m 17 k ((m.1 17 k + u)))).1 17 k) dX4_buy_53 rfl rfl (by omega) (by decide) rfl ?_
  refine az_iload_n C 3 dX4_buy_54 rfl ?_
  refine az_isub C dX4_buy_55 ?_
  refine az_iastN C 2 17 k dX4_buy_56 rfl rfl (by omega) (by decide) (az_to rfl (K' := (KK G ρ x (mI (mI m 17 k ((m.1 17 k + u))) 17 k ((((mI m 17 k ((m.1 17 k + u)))).1 17 k - u))) ou)) (KK_M rfl) ?_)
  refine az_iload_n C 3 dX4_buy_57 rfl ?_
  refine az_i2l C dX4_buy_58 ?_
  refine az_aload_n C 1 dX4_buy_59 rfl ?_
  refine az_get C cX4 2 0 6 (v := .ref (ρ.1 106)) wl_X4_23 dX4_buy_60 rfl rfl rfl (by decide) ?_
  refine az_aload_n C 1 dX4_buy_63 rfl ?_
  refine az_get C cX4 2 0 13 (v := .ref (ρ.1 113)) wl_X4_42 dX4_buy_64 rfl rfl rfl (by decide) ?_
  refine az_iload_n C 2 dX4_buy_67 rfl ?_
  refine az_ialdN C 2 13 k (v := m.1 13 k) dX4_buy_68 rfl rfl (by omega) (by decide) rfl ?_
  refine az_top (nI r) hat ?_
  refine az_ialdN C 2 6 r (v := m.1 6 r) dX4_buy_69 rfl rfl (by omega) (by decide) rfl ?_
  refine az_i2l C dX4_buy_70 ?_
  refine az_lmul C dX4_buy_71 ?_
  refine az_lstore C (lv' := [(4, .long (((u.toInt64) * ((m.1 6 r).toInt64)))), (3, .int 1), (0, .ref (ρ.1 100)), (1, .int (nI k)), (2, .int u)]) dX4_buy_72 (by decide) rfl ?_
  refine az_iload_n C 1 dX4_buy_74 rfl ?_
  refine az_if_eq C 88 dX4_buy_75 (by decide) (fun q => absurd q (by decide)) (fun _ => ?_)
  refine az_lload C 0 dX4_buy_78 rfl ?_
  refine az_aload_n C 2 dX4_buy_80 rfl ?_
  refine az_get C cX4 2 0 20 (v := .long m.2) wl_X4_65 dX4_buy_81 rfl rfl rfl (by decide) ?_
  refine az_lcmp C dX4_buy_84 ?_
  refine az_if_le C 102 dX4_buy_85 (by decide) (fun q => absurd q hp) (fun _ => ?_)
  refine az_aload_n C 2 dX4_buy_88 rfl ?_
  refine az_iload_n C 1 dX4_buy_89 rfl ?_
  refine az_if_eq C 97 dX4_buy_90 (by decide) (fun q => absurd q (by decide)) (fun _ => ?_)
  refine az_iconst C (v := 4) dX4_buy_93 (by decide) ?_
  refine az_goto C 98 dX4_buy_94 (by decide) ?_
  refine az_callV C Y_X4_has cX4 2 0 [.int 4] [] wm_X4_229 wi_X4_has wse_X4_has dX4_buy_98 rfl rfl rfl (Mhas1 hG (4) (by decide)) rfl (Nat.le_of_ble_eq_true rfl) (Nat.le_of_ble_eq_true rfl) (Nat.le_of_ble_eq_true rfl) (Nat.le_of_ble_eq_true rfl) (Nat.le_of_ble_eq_true rfl) (az_k1 rfl rfl ?_) (az_k0 rfl)
  exact az_lret C rfl dX4_buy_101 (Nat.le_of_ble_eq_true rfl) (Nat.le_of_ble_eq_true rfl) ⟨rfl, rfl, rfl⟩

set_option maxHeartbeats 4000000 in
set_option maxRecDepth 100000 in
theorem Mbuy4 (hG : az_okS l G) (nb k : Nat) (hb : m.1 0 12 = nI nb) (hn : nb ≤ 8) (hk : k + 1 ≤ nb) (u : Int32) (hu : 1 ≤ u ∧ u ≤ 999) (r : Nat) (hr6 : r < 6) (ht : ¬ m.1 16 k = 0) (hat : m.1 13 k = nI r) (ha : ¬ m.1 3 r = 0) (hf : floatsI (buyC m k u) k r = 1) (hp : lg_cmp (costM m r u) m.2 ≤ 0) : az_M l G yX4_buy (az_ws yX4_buy cX4_buy 6 (Option.some FieldType.long)) 3 [.ref (ρ.1 100), .int (nI k), .int u] (AD ρ) (KK G ρ x m ou) 0 0 (az_r (some (.long (buyF m k r u).2)) (AD ρ) (KK G ρ x (mI (buyF m k r u) 0 0 0) ou)) := by
  refine az_start hG.1 (by decide +kernel) (Nat.le_of_ble_eq_true rfl) ?_
  intro p e s mm args below meth c C hnm
  show az_W l G 6 _ p e _ s mm args below meth c _ _ 0 0 0 [(0, .ref (ρ.1 100)), (1, .int (nI k)), (2, .int u)] []
  refine az_aload_n C 0 dX4_buy_0 rfl ?_
  refine az_iload_n C 1 dX4_buy_1 rfl ?_
  refine az_callV C Y_X4_isBarge cX4 2 0 [.int (nI k)] [] wm_X4_161 wi_X4_isBarge wse_X4_isBarge dX4_buy_2 rfl rfl rfl (Mb1 hG nb k hb hn hk) rfl (Nat.le_of_ble_eq_true rfl) (Nat.le_of_ble_eq_true rfl) (Nat.le_of_ble_eq_true rfl) (Nat.le_of_ble_eq_true rfl) (Nat.le_of_ble_eq_true rfl) (az_k1 rfl rfl ?_) (az_k0 rfl)
  refine az_if_ne C 14 dX4_buy_5 (by decide) (fun _ => ?_) (fun q => absurd q (by decide))
  refine az_iload_n C 2 dX4_buy_14 rfl ?_
  refine az_iconst C (v := 1) dX4_buy_15 (by decide) ?_
  refine az_sipush C (v := 999) dX4_buy_16 (by decide) ?_
  refine az_callS C Y_X4_in [.int u, .int 1, .int 999] [] wm_X4_104 wst_X4_in dX4_buy_19 rfl (Min1 hG (u) (1) (999) hu.1 hu.2) rfl (Nat.le_of_ble_eq_true rfl) (Nat.le_of_ble_eq_true rfl) (Nat.le_of_ble_eq_true rfl) (Nat.le_of_ble_eq_true rfl) (Nat.le_of_ble_eq_true rfl) (az_k1 rfl rfl ?_) (az_k0 rfl)
  refine az_if_ne C 31 dX4_buy_22 (by decide) (fun _ => ?_) (fun q => absurd q (by decide))
  refine az_aload_n C 0 dX4_buy_31 rfl ?_
  refine az_get C cX4 2 0 17 (v := .ref (ρ.1 117)) wl_X4_54 dX4_buy_32 rfl rfl rfl (by decide) ?_
  refine az_iload_n C 1 dX4_buy_35 rfl ?_
  refine az_dup2 C dX4_buy_36 rfl rfl ?_
  refine az_ialdN C 2 17 k (v := m.1 17 k) dX4_buy_37 rfl rfl (by omega) (by decide) rfl ?_
  refine az_iload_n C 2 dX4_buy_38 rfl ?_
  refine az_iadd C dX4_buy_39 ?_
  refine az_iastN C 2 17 k dX4_buy_40 rfl rfl (by omega) (by decide) (az_to rfl (K' := (KK G ρ x (mI m 17 k ((m.1 17 k + u))) ou)) (KK_M rfl) ?_)
  refine az_aload_n C 0 dX4_buy_41 rfl ?_
  refine az_iload_n C 1 dX4_buy_42 rfl ?_
  refine az_callV C Y_X4_floats cX4 2 0 [.int (nI k)] [] wm_X4_164 wi_X4_floats wse_X4_floats dX4_buy_43 rfl rfl rfl (Mfloats hG k r (by omega) hr6 ht hat ha) rfl (Nat.le_of_ble_eq_true rfl) (Nat.le_of_ble_eq_true rfl) (Nat.le_of_ble_eq_true rfl) (Nat.le_of_ble_eq_true rfl) (Nat.le_of_ble_eq_true rfl) (az_k1 rfl rfl ?_) (az_k0 rfl)
  refine az_top (1) hf ?_
  refine az_istore_n C (lv' := [(3, .int 1), (0, .ref (ρ.1 100)), (1, .int (nI k)), (2, .int u)]) (j := 3) rfl dX4_buy_46 (by decide) rfl ?_
  refine az_aload_n C 1 dX4_buy_47 rfl ?_
  refine az_get C cX4 2 0 17 (v := .ref (ρ.1 117)) wl_X4_54 dX4_buy_48 rfl rfl rfl (by decide) ?_
  refine az_iload_n C 2 dX4_buy_51 rfl ?_
  refine az_dup2 C dX4_buy_52 rfl rfl ?_
  refine az_ialdN C 2 17 k (v := ((mI m 17 k ((m.1 17 k + u)))).1 17 k) dX4_buy_53 rfl rfl (by omega) (by decide) rfl ?_
  refine az_iload_n C 3 dX4_buy_54 rfl ?_
  refine az_isub C dX4_buy_55 ?_
  refine az_iastN C 2 17 k dX4_buy_56 rfl rfl (by omega) (by decide) (az_to rfl (K' := (KK G ρ x (mI (mI m 17 k ((m.1 17 k + u))) 17 k ((((mI m 17 k ((m.1 17 k + u)))).1 17 k - u))) ou)) (KK_M rfl) ?_)
  refine az_iload_n C 3 dX4_buy_57 rfl ?_
  refine az_i2l C dX4_buy_58 ?_
  refine az_aload_n C 1 dX4_buy_59 rfl ?_
  refine az_get C cX4 2 0 6 (v := .ref (ρ.1 106)) wl_X4_23 dX4_buy_60 rfl rfl rfl (by decide) ?_
  refine az_aload_n C 1 dX4_buy_63 rfl ?_
  refine az_get C cX4 2 0 13 (v := .ref (ρ.1 113)) wl_X4_42 dX4_buy_64 rfl rfl rfl (by decide) ?_
  refine az_iload_n C 2 dX4_buy_67 rfl ?_
  refine az_ialdN C 2 13 k (v := m.1 13 k) dX4_buy_68 rfl rfl (by omega) (by decide) rfl ?_
  refine az_top (nI r) hat ?_
  refine az_ialdN C 2 6 r (v := m.1 6 r) dX4_buy_69 rfl rfl (by omega) (by decide) rfl ?_
  refine az_i2l C dX4_buy_70 ?_
  refine az_lmul C dX4_buy_71 ?_
  refine az_lstore C (lv' := [(4, .long (((u.toInt64) * ((m.1 6 r).toInt64)))), (3, .int 1), (0, .ref (ρ.1 100)), (1, .int (nI k)), (2, .int u)]) dX4_buy_72 (by decide) rfl ?_
  refine az_iload_n C 1 dX4_buy_74 rfl ?_
  refine az_if_eq C 88 dX4_buy_75 (by decide) (fun q => absurd q (by decide)) (fun _ => ?_)
  refine az_lload C 0 dX4_buy_78 rfl ?_
  refine az_aload_n C 2 dX4_buy_80 rfl ?_
  refine az_get C cX4 2 0 20 (v := .long m.2) wl_X4_65 dX4_buy_81 rfl rfl rfl (by decide) ?_
  refine az_lcmp C dX4_buy_84 ?_
  refine az_if_le C 102 dX4_buy_85 (by decide) (fun _ => ?_) (fun q => absurd hp q)
  refine az_aload_n C 2 dX4_buy_102 rfl ?_
  refine az_get C cX4 2 0 17 (v := .ref (ρ.1 117)) wl_X4_54 dX4_buy_103 rfl rfl rfl (by decide) ?_
  refine az_iload_n C 3 dX4_buy_106 rfl ?_
  refine az_dup2 C dX4_buy_107 rfl rfl ?_
  refine az_ialdN C 2 17 k (v := ((mI (mI m 17 k ((m.1 17 k + u))) 17 k ((((mI m 17 k ((m.1 17 k + u)))).1 17 k - u)))).1 17 k) dX4_buy_108 rfl rfl (by omega) (by decide) rfl ?_
  refine az_iload_n C 4 dX4_buy_109 rfl ?_
  refine az_iadd C dX4_buy_110 ?_
  refine az_iastN C 2 17 k dX4_buy_111 rfl rfl (by omega) (by decide) (az_to rfl (K' := (KK G ρ x (mI (mI (mI m 17 k ((m.1 17 k + u))) 17 k ((((mI m 17 k ((m.1 17 k + u)))).1 17 k - u))) 17 k ((((mI (mI m 17 k ((m.1 17 k + u))) 17 k ((((mI m 17 k ((m.1 17 k + u)))).1 17 k - u)))).1 17 k + u))) ou)) (KK_M rfl) ?_)
  refine az_aload_n C 2 dX4_buy_112 rfl ?_
  refine az_dup C dX4_buy_113 rfl ?_
  refine az_get C cX4 2 0 20 (v := .long m.2) wl_X4_65 dX4_buy_114 rfl rfl rfl (by decide) ?_
  refine az_lload C 0 dX4_buy_117 rfl ?_
  refine az_lsub C dX4_buy_119 ?_
  refine az_put C cX4 2 0 20 wl_X4_65 dX4_buy_120 rfl rfl (by decide) (Nat.le_of_ble_eq_true rfl) rfl rfl rfl (az_to rfl (K' := (KK G ρ x (mM (mI (mI (mI m 17 k ((m.1 17 k + u))) 17 k ((((mI m 17 k ((m.1 17 k + u)))).1 17 k - u))) 17 k ((((mI (mI m 17 k ((m.1 17 k + u))) 17 k ((((mI m 17 k ((m.1 17 k + u)))).1 17 k - u)))).1 17 k + u))) ((m.2 - ((u.toInt64) * ((m.1 6 r).toInt64))))) ou)) (KK_mo rfl) ?_)
  refine az_aload_n C 2 dX4_buy_123 rfl ?_
  refine az_iconst C (v := 0) dX4_buy_124 (by decide) ?_
  refine az_callV C Y_X4_has cX4 2 0 [.int 0] [] wm_X4_229 wi_X4_has wse_X4_has dX4_buy_125 rfl rfl rfl (Mhas0 hG) rfl (Nat.le_of_ble_eq_true rfl) (Nat.le_of_ble_eq_true rfl) (Nat.le_of_ble_eq_true rfl) (Nat.le_of_ble_eq_true rfl) (Nat.le_of_ble_eq_true rfl) (az_k1 rfl rfl ?_) (az_k0 rfl)
  exact az_lret C rfl dX4_buy_128 (Nat.le_of_ble_eq_true rfl) (Nat.le_of_ble_eq_true rfl) ⟨rfl, rfl, rfl⟩

end
