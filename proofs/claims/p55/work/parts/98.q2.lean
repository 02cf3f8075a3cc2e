section
variable {l : Launch} {G : az_G} {ρ : Rp} {x : Xs} {m : Mz} {ou : Nat → Int64}
def LwaFb (x : Xs) (nr : Nat) (m : Mz) (b : Int32) (a : Int32) (k : Nat) : Int32 := (b + x.1 4 (k + 3) / x.1 2 k)
def LwaFa (x : Xs) (nr : Nat) (m : Mz) (b : Int32) (a : Int32) (k : Nat) : Int32 := (if nI nr ≤ (nI k + 1) then (a + x.1 4 (k + 3)) else (if ¬ fuX x k = 1 then (a + x.1 4 (k + 3)) else ((a + x.1 4 (k + 3)) + x.1 3 k)))
def LwaF (x : Xs) (nr : Nat) : Nat → Mz → Int32 → Int32 → Nat → Int32 × Int32
  | 0, m, b, a, _ => (b, a)
  | n + 1, m, b, a, k => LwaF x nr n m (LwaFb x nr m b a k) (LwaFa x nr m b a k) (k + 1)
set_option maxHeartbeats 4000000 in
set_option maxRecDepth 100000 in
theorem Lwa (hG : az_okS l G) {p : Program} {e : Env} {s : State} {mm : MethodId} {args : Array Value} {below : List Frame} {meth : Method} {c : Code} (C : az_C l G p s mm args meth c cL_water yL_water.cls 8 (Option.some FieldType.boolean) []) {Qx : State → Prop} (nr : Nat) (hn : nr ≤ 6) (h1 : 1 ≤ nr) (hr : x.1 1 8 = nI nr) (ha : ∀ k, k < nr → ¬ x.1 2 k < 1) (mv : Nat) (hm : x.1 8 3 = nI mv) (hmv : mv < 100000) (hc : mv ≤ ρ.2.2.2.1) (hc2 : ρ.2.2.2.1 < 2 ^ 31) (hv0 : ∀ k, k < nr → ¬ x.1 4 (k + 3) < 0) (hv1 : ∀ k, k < nr → ¬ (60 * x.1 2 k) < x.1 4 (k + 3)) (hv2 : ∀ (m : Mz) (k : Nat), k < nr → x.1 4 (k + 3) = balX x m mv (nI k)) : ∀ (n : Nat) (m : Mz) (b : Int32) (a : Int32) (k : Nat) (hk : k + n = nr), az_W l G 8 Qx p e (az_rm 11 0 0) s mm args below meth c (AD ρ) (KK G ρ x m ou) 0 0 113 [(3, .int (nI nr)), (2, .int ((LwaF x nr n m b a k).1)), (1, .int ((LwaF x nr n m b a k).2)), (0, .ref (ρ.1 0))] [] → az_W l G 8 Qx p e (az_rm 11 0 0) s mm args below meth c (AD ρ) (KK G ρ x m ou) 0 0 6 [(3, .int (nI k)), (2, .int b), (1, .int a), (0, .ref (ρ.1 0))] [] := by
  intro n
  induction n with
  | zero =>
    intro m b a k hk hx
    have hkk : k = nr := by omega
    rw [hkk]
    refine az_iload_n C 0 dL_water_6 rfl ?_
    refine az_aload_n C 3 dL_water_7 rfl ?_
    refine az_callV C Y_X3_reachCount cX3 0 0 [] [.int (nI nr)] wm_L_157 wi_X3_reachCount wse_X3_reachCount dL_water_8 rfl rfl rfl (XreachCount hG) rfl (Nat.le_of_ble_eq_true rfl) (Nat.le_of_ble_eq_true rfl) (Nat.le_of_ble_eq_true rfl) (Nat.le_of_ble_eq_true rfl) (Nat.le_of_ble_eq_true rfl) (az_k1 rfl rfl ?_) (az_k0 rfl)
    refine az_top (nI nr) hr ?_
    refine az_icmp_ge C 113 dL_water_11 (by decide) (fun _ => ?_) (fun q => absurd (Int32.le_refl _) q)
    exact az_lv [0, 1, 2, 3] rfl hx
  | succ n ih =>
    intro m b a k hk hx
    refine az_iload_n C 0 dL_water_6 rfl ?_
    refine az_aload_n C 3 dL_water_7 rfl ?_
    refine az_callV C Y_X3_reachCount cX3 0 0 [] [.int (nI k)] wm_L_157 wi_X3_reachCount wse_X3_reachCount dL_water_8 rfl rfl rfl (XreachCount hG) rfl (Nat.le_of_ble_eq_true rfl) (Nat.le_of_ble_eq_true rfl) (Nat.le_of_ble_eq_true rfl) (Nat.le_of_ble_eq_true rfl) (Nat.le_of_ble_eq_true rfl) (az_k1 rfl rfl ?_) (az_k0 rfl)
    refine az_top (nI nr) hr ?_
    refine az_icmp_ge C 113 dL_water_11 (by decide) (fun q => absurd q (nlt_nle (show k < nr by omega) (by omega))) (fun _ => ?_)
    refine az_aload_n C 3 dL_water_14 rfl ?_
    refine az_iload_n C 0 dL_water_15 rfl ?_
    refine az_callH C Y_L_volumeOf [.ref (ρ.1 0), .int (nI k)] [] wm_L_160 wst_L_volumeOf dL_water_16 rfl (H_volumeOf (ρ := ρ) (x := x) (m := m) (ou := ou) hG (nI k) (by decide) (XvolumeOf1 hG nr k hr hn (by omega)) hq_v (fun _ _ _ h => hq_x h)) rfl (Nat.le_of_ble_eq_true rfl) (Nat.le_of_ble_eq_true rfl) (Nat.le_of_ble_eq_true rfl) (Nat.le_of_ble_eq_true rfl) (Nat.le_of_ble_eq_true rfl) (az_k1 rfl rfl ?_) (az_k0 rfl)
    refine az_istore C (lv' := [(4, .int (x.1 4 (k + 3))), (3, .int (nI k)), (2, .int b), (1, .int a), (0, .ref (ρ.1 0))]) dL_water_19 (by decide) rfl ?_
    refine az_iload C 0 dL_water_21 rfl ?_
    refine az_if_lt C 65 dL_water_23 (by decide) (fun q => absurd q (hv0 k (by omega))) (fun _ => ?_)
    refine az_iload C 0 dL_water_26 rfl ?_
    refine az_bipush C (v := 60) dL_water_28 (by decide) ?_
    refine az_aload_n C 4 dL_water_30 rfl ?_
    refine az_iload_n C 1 dL_water_31 rfl ?_
    refine az_callH C Y_L_areaOf [.ref (ρ.1 0), .int (nI k)] [.int 60, .int (x.1 4 (k + 3))] wm_L_178 wst_L_areaOf dL_water_32 rfl (H_areaOf (ρ := ρ) (x := x) (m := m) (ou := ou) hG (nI k) (by decide) (XareaOf1 hG nr k hr hn (by omega)) hq_v (fun _ _ _ h => hq_x h)) rfl (Nat.le_of_ble_eq_true rfl) (Nat.le_of_ble_eq_true rfl) (Nat.le_of_ble_eq_true rfl) (Nat.le_of_ble_eq_true rfl) (Nat.le_of_ble_eq_true rfl) (az_k1 rfl rfl ?_) (az_k0 rfl)
    refine az_imul C dL_water_35 ?_
    refine az_icmp_gt C 65 dL_water_36 (by decide) (fun q => absurd q (hv1 k (by omega))) (fun _ => ?_)
    refine az_iload C 0 dL_water_39 rfl ?_
    refine az_aload_n C 4 dL_water_41 rfl ?_
    refine az_iload_n C 1 dL_water_42 rfl ?_
    refine az_callH C Y_L_volumeBySteps [.ref (ρ.1 0), .int (nI k)] [.int (x.1 4 (k + 3))] wm_L_180 wst_L_volumeBySteps dL_water_43 rfl (H_volumeBySteps (ρ := ρ) (x := x) (m := m) (ou := ou) hG (nI k) (by decide) (XvolumeBySteps1 hG nr k hr hn (by omega) mv hm hmv hc hc2) hq_v (fun _ _ _ h => hq_x h)) rfl (Nat.le_of_ble_eq_true rfl) (Nat.le_of_ble_eq_true rfl) (Nat.le_of_ble_eq_true rfl) (Nat.le_of_ble_eq_true rfl) (Nat.le_of_ble_eq_true rfl) (az_k1 rfl rfl ?_) (az_k0 rfl)
    refine az_icmp_ne C 65 dL_water_46 (by decide) (fun q => absurd (hv2 m k (by omega)) q) (fun _ => ?_)
    refine az_aload_n C 4 dL_water_49 rfl ?_
    refine az_iload_n C 1 dL_water_50 rfl ?_
    refine az_callH C Y_L_levelOf [.ref (ρ.1 0), .int (nI k)] [] wm_L_182 wst_L_levelOf dL_water_51 rfl (H_levelOf (ρ := ρ) (x := x) (m := m) (ou := ou) hG (nI k) (by decide) (XlevelOf1 hG nr k hr hn (by omega) (ha k (by omega))) hq_v (fun _ _ _ h => hq_x h)) rfl (Nat.le_of_ble_eq_true rfl) (Nat.le_of_ble_eq_true rfl) (Nat.le_of_ble_eq_true rfl) (Nat.le_of_ble_eq_true rfl) (Nat.le_of_ble_eq_true rfl) (az_k1 rfl rfl ?_) (az_k0 rfl)
    refine az_iload C 0 dL_water_54 rfl ?_
    refine az_aload_n C 4 dL_water_56 rfl ?_
    refine az_iload_n C 1 dL_water_57 rfl ?_
    refine az_callH C Y_L_areaOf [.ref (ρ.1 0), .int (nI k)] [.int (x.1 4 (k + 3)), .int (x.1 4 (k + 3) / x.1 2 k)] wm_L_178 wst_L_areaOf dL_water_58 rfl (H_areaOf (ρ := ρ) (x := x) (m := m) (ou := ou) hG (nI k) (by decide) (XareaOf1 hG nr k hr hn (by omega)) hq_v (fun _ _ _ h => hq_x h)) rfl (Nat.le_of_ble_eq_true rfl) (Nat.le_of_ble_eq_true rfl) (Nat.le_of_ble_eq_true rfl) (Nat.le_of_ble_eq_true rfl) (Nat.le_of_ble_eq_true rfl) (az_k1 rfl rfl ?_) (az_k0 rfl)
    refine az_idiv C dL_water_61 (nlt1 (ha k (by omega))) ?_
    refine az_icmp_eq C 67 dL_water_62 (by decide) (fun _ => ?_) (fun q => absurd rfl q)
    refine az_iload_n C 3 dL_water_67 rfl ?_
    refine az_iload C 0 dL_water_68 rfl ?_
    refine az_iadd C dL_water_70 ?_
    refine az_istore_n C (lv' := [(1, .int ((a + x.1 4 (k + 3)))), (4, .int (x.1 4 (k + 3))), (3, .int (nI k)), (2, .int b), (0, .ref (ρ.1 0))]) (j := 1) rfl dL_water_71 (by decide) rfl ?_
    refine az_iload_n C 3 dL_water_72 rfl ?_
    refine az_aload_n C 4 dL_water_73 rfl ?_
    refine az_iload_n C 2 dL_water_74 rfl ?_
    refine az_callH C Y_L_levelOf [.ref (ρ.1 0), .int (nI k)] [.int b] wm_L_182 wst_L_levelOf dL_water_75 rfl (H_levelOf (ρ := ρ) (x := x) (m := m) (ou := ou) hG (nI k) (by decide) (XlevelOf1 hG nr k hr hn (by omega) (ha k (by omega))) hq_v (fun _ _ _ h => hq_x h)) rfl (Nat.le_of_ble_eq_true rfl) (Nat.le_of_ble_eq_true rfl) (Nat.le_of_ble_eq_true rfl) (Nat.le_of_ble_eq_true rfl) (Nat.le_of_ble_eq_true rfl) (az_k1 rfl rfl ?_) (az_k0 rfl)
    refine az_iadd C dL_water_78 ?_
    refine az_istore_n C (lv' := [(2, .int ((b + x.1 4 (k + 3) / x.1 2 k))), (1, .int ((a + x.1 4 (k + 3)))), (4, .int (x.1 4 (k + 3))), (3, .int (nI k)), (0, .ref (ρ.1 0))]) (j := 2) rfl dL_water_79 (by decide) rfl ?_
    refine az_iload_n C 3 dL_water_80 rfl ?_
    refine az_iconst C (v := 1) dL_water_81 (by decide) ?_
    refine az_iadd C dL_water_82 ?_
    refine az_aload_n C 4 dL_water_83 rfl ?_
    refine az_callV C Y_X3_reachCount cX3 0 0 [] [.int ((nI k + 1))] wm_L_157 wi_X3_reachCount wse_X3_reachCount dL_water_84 rfl rfl rfl (XreachCount hG) rfl (Nat.le_of_ble_eq_true rfl) (Nat.le_of_ble_eq_true rfl) (Nat.le_of_ble_eq_true rfl) (Nat.le_of_ble_eq_true rfl) (Nat.le_of_ble_eq_true rfl) (az_k1 rfl rfl ?_) (az_k0 rfl)
    refine az_top (nI nr) hr ?_
    suffices J1 : az_W l G 8 _ p e _ s mm args below meth c (AD ρ) (KK G ρ x m ou) _ _ 107 [(2, .int ((b + x.1 4 (k + 3) / x.1 2 k))), (1, .int ((if nI nr ≤ (nI k + 1) then (a + x.1 4 (k + 3)) else (if ¬ fuX x k = 1 then (a + x.1 4 (k + 3)) else ((a + x.1 4 (k + 3)) + x.1 3 k))))), (4, .int (x.1 4 (k + 3))), (3, .int (nI k)), (0, .ref (ρ.1 0))] [] by
      refine az_icmp_ge C 107 dL_water_87 (by decide) (fun c2 => ?_) (fun c2 => ?_)
      · first | rw [if_pos (show nI nr ≤ (nI k + 1) from c2)] at J1 ⊢ | rw [if_pos (show nI nr ≤ (nI k + 1) from c2)] at J1
        exact az_lv [0, 1, 2, 3, 4] rfl J1
      · have hk1 : k + 1 < nr := k1_lt (by omega) c2
        refine az_aload_n C 4 dL_water_90 rfl ?_
        refine az_iload_n C 3 dL_water_91 rfl ?_
        refine az_callH C Y_L_isFull [.ref (ρ.1 0), .int (nI k)] [] wm_L_163 wst_L_isFull dL_water_92 rfl (H_isFull (ρ := ρ) (x := x) (m := m) (ou := ou) hG (nI k) (by decide) (XisFull1 hG nr k hr hn (by omega)) (hq_b (fuX_01 (x := x) (k := k))) (fun _ _ _ h => hq_x h)) rfl (Nat.le_of_ble_eq_true rfl) (Nat.le_of_ble_eq_true rfl) (Nat.le_of_ble_eq_true rfl) (Nat.le_of_ble_eq_true rfl) (Nat.le_of_ble_eq_true rfl) (az_k1 rfl rfl ?_) (az_k0 rfl)
        refine az_iconst C (v := 1) dL_water_95 (by decide) ?_
        suffices J3 : az_W l G 8 _ p e _ s mm args below meth c (AD ρ) (KK G ρ x m ou) _ _ 107 [(2, .int ((b + x.1 4 (k + 3) / x.1 2 k))), (1, .int ((if ¬ fuX x k = 1 then (a + x.1 4 (k + 3)) else ((a + x.1 4 (k + 3)) + x.1 3 k)))), (4, .int (x.1 4 (k + 3))), (3, .int (nI k)), (0, .ref (ρ.1 0))] [] by
          refine az_icmp_ne C 107 dL_water_96 (by decide) (fun c4 => ?_) (fun c4 => ?_)
          · first | rw [if_pos (show ¬ fuX x k = 1 from c4)] at J3 ⊢ | rw [if_pos (show ¬ fuX x k = 1 from c4)] at J3
            exact az_lv [0, 1, 2, 3, 4] rfl J3
          · refine az_iload_n C 1 dL_water_99 rfl ?_
            refine az_aload_n C 4 dL_water_100 rfl ?_
            refine az_iload_n C 3 dL_water_101 rfl ?_
            refine az_callH C Y_L_lockfulOf [.ref (ρ.1 0), .int (nI k)] [.int ((a + x.1 4 (k + 3)))] wm_L_184 wst_L_lockfulOf dL_water_102 rfl (H_lockfulOf (ρ := ρ) (x := x) (m := m) (ou := ou) hG (nI k) (by decide) (XlockfulOf1 hG nr k hr hn (by omega)) hq_v (fun _ _ _ h => hq_x h)) rfl (Nat.le_of_ble_eq_true rfl) (Nat.le_of_ble_eq_true rfl) (Nat.le_of_ble_eq_true rfl) (Nat.le_of_ble_eq_true rfl) (Nat.le_of_ble_eq_true rfl) (az_k1 rfl rfl ?_) (az_k0 rfl)
            refine az_iadd C dL_water_105 ?_
            refine az_istore_n C (lv' := [(1, .int (((a + x.1 4 (k + 3)) + x.1 3 k))), (2, .int ((b + x.1 4 (k + 3) / x.1 2 k))), (4, .int (x.1 4 (k + 3))), (3, .int (nI k)), (0, .ref (ρ.1 0))]) (j := 1) rfl dL_water_106 (by decide) rfl ?_
            first | rw [if_neg (show ¬ (¬ fuX x k = 1) from fun z => z c4)] at J3 ⊢ | rw [if_neg (show ¬ (¬ fuX x k = 1) from fun z => z c4)] at J3
            exact az_lv [1, 0, 2, 3, 4] rfl J3
        first | rw [if_neg (show ¬ (nI nr ≤ (nI k + 1)) from c2)] at J1 ⊢ | rw [if_neg (show ¬ (nI nr ≤ (nI k + 1)) from c2)] at J1
        exact az_lv [0, 1, 2, 3, 4] rfl J1
    refine az_iinc C 3 (v := nI (k + 1)) (lv' := [(3, .int (nI (k + 1))), (2, .int ((b + x.1 4 (k + 3) / x.1 2 k))), (1, .int ((if nI nr ≤ (nI k + 1) then (a + x.1 4 (k + 3)) else (if ¬ fuX x k = 1 then (a + x.1 4 (k + 3)) else ((a + x.1 4 (k + 3)) + x.1 3 k))))), (4, .int (x.1 4 (k + 3))), (0, .ref (ρ.1 0))]) dL_water_107 rfl (nI_1 k) (by decide) rfl ?_
    refine az_goto C 6 dL_water_110 (by decide) ?_
    exact az_lv [0, 1, 2, 4] rfl (ih m (LwaFb x nr m b a k) (LwaFa x nr m b a k) (k + 1) (by omega) hx)

def LwbFd (x : Xs) (m : Mz) (d : Int32) (b : Int32) (a : Int32) (k : Nat) : Int32 := (d + (if ¬ x.1 21 k = (-3) then 0 else x.1 22 k))
def LwbFb (x : Xs) (m : Mz) (d : Int32) (b : Int32) (a : Int32) (k : Nat) : Int32 := (b + (if ¬ x.1 21 k = (-2) then 0 else x.1 22 k))
def LwbFa (x : Xs) (m : Mz) (d : Int32) (b : Int32) (a : Int32) (k : Nat) : Int32 := (a + (if ¬ x.1 20 k = (-1) then 0 else x.1 22 k))
def LwbF (x : Xs) : Nat → Mz → Int32 → Int32 → Int32 → Nat → Int32 × Int32 × Int32
  | 0, m, d, b, a, _ => (d, b, a)
  | n + 1, m, d, b, a, k => LwbF x n m (LwbFd x m d b a k) (LwbFb x m d b a k) (LwbFa x m d b a k) (k + 1)
set_option maxHeartbeats 4000000 in
set_option maxRecDepth 100000 in
theorem Lwb (hG : az_okS l G) {p : Program} {e : Env} {s : State} {mm : MethodId} {args : Array Value} {below : List Frame} {meth : Method} {c : Code} (C : az_C l G p s mm args meth c cL_water yL_water.cls 8 (Option.some FieldType.boolean) []) {Qx : State → Prop} (nr : Nat) (hn : nr ≤ 6) (h1 : 1 ≤ nr) (hr : x.1 1 8 = nI nr) (ha : ∀ k, k < nr → ¬ x.1 2 k < 1) (mv : Nat) (hm : x.1 8 3 = nI mv) (hmv : mv < 100000) (hc : mv ≤ ρ.2.2.2.1) (hc2 : ρ.2.2.2.1 < 2 ^ 31) (lv9 hd9 : Int32) (hw : ∀ k, k < mv → 1 ≤ x.1 22 k) : ∀ (n : Nat) (m : Mz) (d : Int32) (b : Int32) (a : Int32) (k : Nat) (hk : k + n = mv), az_W l G 8 Qx p e (az_rm 11 0 0) s mm args below meth c (AD ρ) (KK G ρ x m ou) 0 0 218 [(6, .int (nI mv)), (5, .int ((LwbF x n m d b a k).1)), (4, .int ((LwbF x n m d b a k).2.1)), (3, .int ((LwbF x n m d b a k).2.2)), (2, .int lv9), (1, .int hd9), (0, .ref (ρ.1 0))] [] → az_W l G 8 Qx p e (az_rm 11 0 0) s mm args below meth c (AD ρ) (KK G ρ x m ou) 0 0 124 [(6, .int (nI k)), (5, .int d), (4, .int b), (3, .int a), (2, .int lv9), (1, .int hd9), (0, .ref (ρ.1 0))] [] := by
  intro n
  induction n with
  | zero =>
    intro m d b a k hk hx
    have hkk : k = mv := by omega
    rw [hkk]
    refine az_iload C 0 dL_water_124 rfl ?_
    refine az_aload_n C 6 dL_water_126 rfl ?_
    refine az_callV C Y_X3_movementCount cX3 0 0 [] [.int (nI mv)] wm_L_172 wi_X3_movementCount wse_X3_movementCount dL_water_127 rfl rfl rfl (XmovementCount hG) rfl (Nat.le_of_ble_eq_true rfl) (Nat.le_of_ble_eq_true rfl) (Nat.le_of_ble_eq_true rfl) (Nat.le_of_ble_eq_true rfl) (Nat.le_of_ble_eq_true rfl) (az_k1 rfl rfl ?_) (az_k0 rfl)
    refine az_top (nI mv) hm ?_
    refine az_icmp_ge C 218 dL_water_130 (by decide) (fun _ => ?_) (fun q => absurd (Int32.le_refl _) q)
    exact az_lv [0, 1, 2, 3, 4, 5, 6] rfl hx
  | succ n ih =>
    intro m d b a k hk hx
    refine az_iload C 0 dL_water_124 rfl ?_
    refine az_aload_n C 6 dL_water_126 rfl ?_
    refine az_callV C Y_X3_movementCount cX3 0 0 [] [.int (nI k)] wm_L_172 wi_X3_movementCount wse_X3_movementCount dL_water_127 rfl rfl rfl (XmovementCount hG) rfl (Nat.le_of_ble_eq_true rfl) (Nat.le_of_ble_eq_true rfl) (Nat.le_of_ble_eq_true rfl) (Nat.le_of_ble_eq_true rfl) (Nat.le_of_ble_eq_true rfl) (az_k1 rfl rfl ?_) (az_k0 rfl)
    refine az_top (nI mv) hm ?_
    refine az_icmp_ge C 218 dL_water_130 (by decide) (fun q => absurd q (nlt_nle (show k < mv by omega) (by omega))) (fun _ => ?_)
    refine az_aload_n C 6 dL_water_133 rfl ?_
    refine az_iload C 0 dL_water_134 rfl ?_
    refine az_callH C Y_L_movementVolume [.ref (ρ.1 0), .int (nI k)] [] wm_L_186 wst_L_movementVolume dL_water_136 rfl (H_movementVolume (ρ := ρ) (x := x) (m := m) (ou := ou) hG (nI k) (by decide) (XmovementVolume1 hG mv k hm hmv (by omega) hc hc2) hq_v (fun _ _ _ h => hq_x h)) rfl (Nat.le_of_ble_eq_true rfl) (Nat.le_of_ble_eq_true rfl) (Nat.le_of_ble_eq_true rfl) (Nat.le_of_ble_eq_true rfl) (Nat.le_of_ble_eq_true rfl) (az_k1 rfl rfl ?_) (az_k0 rfl)
    refine az_istore C (lv' := [(7, .int (x.1 22 k)), (6, .int (nI k)), (5, .int d), (4, .int b), (3, .int a), (2, .int lv9), (1, .int hd9), (0, .ref (ρ.1 0))]) dL_water_139 (by decide) rfl ?_
    refine az_iload C 0 dL_water_141 rfl ?_
    refine az_iconst C (v := 1) dL_water_143 (by decide) ?_
    refine az_icmp_ge C 149 dL_water_144 (by decide) (fun _ => ?_) (fun q => absurd (hw k (by omega)) q)
    refine az_iload_n C 4 dL_water_149 rfl ?_
    refine az_aload_n C 7 dL_water_150 rfl ?_
    refine az_iload C 1 dL_water_151 rfl ?_
    refine az_callH C Y_L_movementFrom [.ref (ρ.1 0), .int (nI k)] [.int a] wm_L_188 wst_L_movementFrom dL_water_153 rfl (H_movementFrom (ρ := ρ) (x := x) (m := m) (ou := ou) hG (nI k) (by decide) (XmovementFrom1 hG mv k hm hmv (by omega) hc hc2) hq_v (fun _ _ _ h => hq_x h)) rfl (Nat.le_of_ble_eq_true rfl) (Nat.le_of_ble_eq_true rfl) (Nat.le_of_ble_eq_true rfl) (Nat.le_of_ble_eq_true rfl) (Nat.le_of_ble_eq_true rfl) (az_k1 rfl rfl ?_) (az_k0 rfl)
    refine az_iconst C (v := (-1)) dL_water_156 (by decide) ?_
    suffices J1 : az_W l G 8 _ p e _ s mm args below meth c (AD ρ) (KK G ρ x m ou) _ _ 166 [(7, .int (x.1 22 k)), (6, .int (nI k)), (5, .int d), (4, .int b), (3, .int a), (2, .int lv9), (1, .int hd9), (0, .ref (ρ.1 0))] [.int ((if ¬ x.1 20 k = (-1) then 0 else x.1 22 k)), .int a] by
      refine az_icmp_ne C 165 dL_water_157 (by decide) (fun c2 => ?_) (fun c2 => ?_)
      · refine az_iconst C (v := 0) dL_water_165 (by decide) ?_
        first | rw [if_pos (show ¬ x.1 20 k = (-1) from c2)] at J1 ⊢ | rw [if_pos (show ¬ x.1 20 k = (-1) from c2)] at J1
        exact az_lv [0, 1, 2, 3, 4, 5, 6, 7] rfl J1
      · refine az_iload C 0 dL_water_160 rfl ?_
        refine az_goto C 166 dL_water_162 (by decide) ?_
        first | rw [if_neg (show ¬ (¬ x.1 20 k = (-1)) from fun z => z c2)] at J1 ⊢ | rw [if_neg (show ¬ (¬ x.1 20 k = (-1)) from fun z => z c2)] at J1
        exact az_lv [0, 1, 2, 3, 4, 5, 6, 7] rfl J1
    refine az_iadd C dL_water_166 ?_
    refine az_istore_n C (lv' := [(3, .int ((a + (if ¬ x.1 20 k = (-1) then 0 else x.1 22 k)))), (7, .int (x.1 22 k)), (6, .int (nI k)), (5, .int d), (4, .int b), (2, .int lv9), (1, .int hd9), (0, .ref (ρ.1 0))]) (j := 3) rfl dL_water_167 (by decide) rfl ?_
    refine az_iload C 4 dL_water_168 rfl ?_
    refine az_aload_n C 7 dL_water_170 rfl ?_
    refine az_iload C 2 dL_water_171 rfl ?_
    refine az_callH C Y_L_movementTo [.ref (ρ.1 0), .int (nI k)] [.int b] wm_L_190 wst_L_movementTo dL_water_173 rfl (H_movementTo (ρ := ρ) (x := x) (m := m) (ou := ou) hG (nI k) (by decide) (XmovementTo1 hG mv k hm hmv (by omega) hc hc2) hq_v (fun _ _ _ h => hq_x h)) rfl (Nat.le_of_ble_eq_true rfl) (Nat.le_of_ble_eq_true rfl) (Nat.le_of_ble_eq_true rfl) (Nat.le_of_ble_eq_true rfl) (Nat.le_of_ble_eq_true rfl) (az_k1 rfl rfl ?_) (az_k0 rfl)
    refine az_bipush C (v := (-2)) dL_water_176 (by decide) ?_
    suffices J3 : az_W l G 8 _ p e _ s mm args below meth c (AD ρ) (KK G ρ x m ou) _ _ 187 [(3, .int ((a + (if ¬ x.1 20 k = (-1) then 0 else x.1 22 k)))), (7, .int (x.1 22 k)), (6, .int (nI k)), (5, .int d), (4, .int b), (2, .int lv9), (1, .int hd9), (0, .ref (ρ.1 0))] [.int ((if ¬ x.1 21 k = (-2) then 0 else x.1 22 k)), .int b] by
      refine az_icmp_ne C 186 dL_water_178 (by decide) (fun c4 => ?_) (fun c4 => ?_)
      · refine az_iconst C (v := 0) dL_water_186 (by decide) ?_
        first | rw [if_pos (show ¬ x.1 21 k = (-2) from c4)] at J3 ⊢ | rw [if_pos (show ¬ x.1 21 k = (-2) from c4)] at J3
        exact az_lv [0, 1, 2, 3, 4, 5, 6, 7] rfl J3
      · refine az_iload C 1 dL_water_181 rfl ?_
        refine az_goto C 187 dL_water_183 (by decide) ?_
        first | rw [if_neg (show ¬ (¬ x.1 21 k = (-2)) from fun z => z c4)] at J3 ⊢ | rw [if_neg (show ¬ (¬ x.1 21 k = (-2)) from fun z => z c4)] at J3
        exact az_lv [0, 1, 2, 3, 4, 5, 6, 7] rfl J3
    refine az_iadd C dL_water_187 ?_
    refine az_istore C (lv' := [(4, .int ((b + (if ¬ x.1 21 k = (-2) then 0 else x.1 22 k)))), (3, .int ((a + (if ¬ x.1 20 k = (-1) then 0 else x.1 22 k)))), (7, .int (x.1 22 k)), (6, .int (nI k)), (5, .int d), (2, .int lv9), (1, .int hd9), (0, .ref (ρ.1 0))]) dL_water_188 (by decide) rfl ?_
    refine az_iload C 4 dL_water_190 rfl ?_
    refine az_aload_n C 7 dL_water_192 rfl ?_
    refine az_iload C 3 dL_water_193 rfl ?_
    refine az_callH C Y_L_movementTo [.ref (ρ.1 0), .int (nI k)] [.int d] wm_L_190 wst_L_movementTo dL_water_195 rfl (H_movementTo (ρ := ρ) (x := x) (m := m) (ou := ou) hG (nI k) (by decide) (XmovementTo1 hG mv k hm hmv (by omega) hc hc2) hq_v (fun _ _ _ h => hq_x h)) rfl (Nat.le_of_ble_eq_true rfl) (Nat.le_of_ble_eq_true rfl) (Nat.le_of_ble_eq_true rfl) (Nat.le_of_ble_eq_true rfl) (Nat.le_of_ble_eq_true rfl) (az_k1 rfl rfl ?_) (az_k0 rfl)
    refine az_bipush C (v := (-3)) dL_water_198 (by decide) ?_
    suffices J5 : az_W l G 8 _ p e _ s mm args below meth c (AD ρ) (KK G ρ x m ou) _ _ 209 [(4, .int ((b + (if ¬ x.1 21 k = (-2) then 0 else x.1 22 k)))), (3, .int ((a + (if ¬ x.1 20 k = (-1) then 0 else x.1 22 k)))), (7, .int (x.1 22 k)), (6, .int (nI k)), (5, .int d), (2, .int lv9), (1, .int hd9), (0, .ref (ρ.1 0))] [.int ((if ¬ x.1 21 k = (-3) then 0 else x.1 22 k)), .int d] by
      refine az_icmp_ne C 208 dL_water_200 (by decide) (fun c6 => ?_) (fun c6 => ?_)
      · refine az_iconst C (v := 0) dL_water_208 (by decide) ?_
        first | rw [if_pos (show ¬ x.1 21 k = (-3) from c6)] at J5 ⊢ | rw [if_pos (show ¬ x.1 21 k = (-3) from c6)] at J5
        exact az_lv [0, 1, 2, 3, 4, 5, 6, 7] rfl J5
      · refine az_iload C 2 dL_water_203 rfl ?_
        refine az_goto C 209 dL_water_205 (by decide) ?_
        first | rw [if_neg (show ¬ (¬ x.1 21 k = (-3)) from fun z => z c6)] at J5 ⊢ | rw [if_neg (show ¬ (¬ x.1 21 k = (-3)) from fun z => z c6)] at J5
        exact az_lv [0, 1, 2, 3, 4, 5, 6, 7] rfl J5
    refine az_iadd C dL_water_209 ?_
    refine az_istore C (lv' := [(5, .int ((d + (if ¬ x.1 21 k = (-3) then 0 else x.1 22 k)))), (4, .int ((b + (if ¬ x.1 21 k = (-2) then 0 else x.1 22 k)))), (3, .int ((a + (if ¬ x.1 20 k = (-1) then 0 else x.1 22 k)))), (7, .int (x.1 22 k)), (6, .int (nI k)), (2, .int lv9), (1, .int hd9), (0, .ref (ρ.1 0))]) dL_water_210 (by decide) rfl ?_
    refine az_iinc C 4 (v := nI (k + 1)) (lv' := [(6, .int (nI (k + 1))), (5, .int ((d + (if ¬ x.1 21 k = (-3) then 0 else x.1 22 k)))), (4, .int ((b + (if ¬ x.1 21 k = (-2) then 0 else x.1 22 k)))), (3, .int ((a + (if ¬ x.1 20 k = (-1) then 0 else x.1 22 k)))), (7, .int (x.1 22 k)), (2, .int lv9), (1, .int hd9), (0, .ref (ρ.1 0))]) dL_water_212 rfl (nI_1 k) (by decide) rfl ?_
    refine az_goto C 124 dL_water_215 (by decide) ?_
    exact az_lv [0, 1, 2, 3, 5, 6, 7] rfl (ih m (LwbFd x m d b a k) (LwbFb x m d b a k) (LwbFa x m d b a k) (k + 1) (by omega) hx)

set_option maxHeartbeats 4000000 in
set_option maxRecDepth 100000 in
theorem Xwater (hG : az_okS l G) (nr : Nat) (hn : nr ≤ 6) (h1 : 1 ≤ nr) (hr : x.1 1 8 = nI nr) (ha : ∀ k, k < nr → ¬ x.1 2 k < 1) (mv : Nat) (hm : x.1 8 3 = nI mv) (hmv : mv < 100000) (hc : mv ≤ ρ.2.2.2.1) (hc2 : ρ.2.2.2.1 < 2 ^ 31) (hv0 : ∀ k, k < nr → ¬ x.1 4 (k + 3) < 0) (hv1 : ∀ k, k < nr → ¬ (60 * x.1 2 k) < x.1 4 (k + 3)) (hv2 : ∀ (m : Mz) (k : Nat), k < nr → x.1 4 (k + 3) = balX x m mv (nI k)) (hw : ∀ k, k < mv → 1 ≤ x.1 22 k) (e1 : (LwaF x nr nr m 0 0 0).2 = heldX x m nr) (e2 : (LwbF x mv m 0 0 0 0).2.2 = -x.1 4 2) (e3 : (LwbF x mv m 0 0 0 0).2.1 = x.1 4 1) (e4 : (LwbF x mv m 0 0 0 0).1 = x.1 4 0) (e5 : -x.1 4 2 = heldX x m nr + x.1 4 1 + x.1 4 0) (e6 : balOK x m mv nr 0 = 1) (e7 : (LwaF x nr nr m 0 0 0).1 = Xmean_lF nr m x 0 0) : az_M l G yL_water (az_ws yL_water cL_water 8 (Option.some FieldType.boolean)) 11 [.ref (ρ.1 0)] (AD ρ) (KK G ρ x m ou) 0 0 (az_r (some (.int 1)) (AD ρ) (KK G ρ x m ou)) := by
  refine az_start hG.1 (by decide +kernel) (Nat.le_of_ble_eq_true rfl) ?_
  intro p e s mm args below meth c C hnm
  show az_W l G 8 _ p e _ s mm args below meth c _ _ 0 0 0 [(0, .ref (ρ.1 0))] []
  refine az_iconst C (v := 0) dL_water_0 (by decide) ?_
  refine az_istore_n C (lv' := [(1, .int 0), (0, .ref (ρ.1 0))]) (j := 1) rfl dL_water_1 (by decide) rfl ?_
  refine az_iconst C (v := 0) dL_water_2 (by decide) ?_
  refine az_istore_n C (lv' := [(2, .int 0), (1, .int 0), (0, .ref (ρ.1 0))]) (j := 2) rfl dL_water_3 (by decide) rfl ?_
  refine az_iconst C (v := 0) dL_water_4 (by decide) ?_
  refine az_istore_n C (lv' := [(3, .int 0), (2, .int 0), (1, .int 0), (0, .ref (ρ.1 0))]) (j := 3) rfl dL_water_5 (by decide) rfl ?_
  refine az_lv [0, 1, 2, 3] rfl (Lwa hG C nr hn h1 hr ha mv hm hmv hc hc2 hv0 hv1 hv2 nr m 0 0 0 (by omega)  ?_)
  refine az_iconst C (v := 0) dL_water_113 (by decide) ?_
  refine az_istore_n C (lv' := [(3, .int 0), (2, .int ((LwaF x nr nr m 0 0 0).1)), (1, .int ((LwaF x nr nr m 0 0 0).2)), (0, .ref (ρ.1 0))]) (j := 3) rfl dL_water_114 (by decide) rfl ?_
  refine az_iconst C (v := 0) dL_water_115 (by decide) ?_
  refine az_istore C (lv' := [(4, .int 0), (3, .int 0), (2, .int ((LwaF x nr nr m 0 0 0).1)), (1, .int ((LwaF x nr nr m 0 0 0).2)), (0, .ref (ρ.1 0))]) dL_water_116 (by decide) rfl ?_
  refine az_iconst C (v := 0) dL_water_118 (by decide) ?_
  refine az_istore C (lv' := [(5, .int 0), (4, .int 0), (3, .int 0), (2, .int ((LwaF x nr nr m 0 0 0).1)), (1, .int ((LwaF x nr nr m 0 0 0).2)), (0, .ref (ρ.1 0))]) dL_water_119 (by decide) rfl ?_
  refine az_iconst C (v := 0) dL_water_121 (by decide) ?_
  refine az_istore C (lv' := [(6, .int 0), (5, .int 0), (4, .int 0), (3, .int 0), (2, .int ((LwaF x nr nr m 0 0 0).1)), (1, .int ((LwaF x nr nr m 0 0 0).2)), (0, .ref (ρ.1 0))]) dL_water_122 (by decide) rfl ?_
  refine az_lv [0, 1, 2, 3, 4, 5, 6] rfl (Lwb hG C nr hn h1 hr ha mv hm hmv hc hc2 _ _ hw mv m 0 0 0 0 (by omega)  ?_)
  refine az_iload_n C 5 dL_water_218 rfl ?_
  refine az_aload_n C 6 dL_water_219 rfl ?_
  refine az_callV C Y_X3_heldTotal cX3 0 0 [] [.int ((LwaF x nr nr m 0 0 0).2)] wm_L_192 wi_X3_heldTotal wse_X3_heldTotal dL_water_220 rfl rfl rfl (XheldTotal hG nr hn h1 hr) rfl (Nat.le_of_ble_eq_true rfl) (Nat.le_of_ble_eq_true rfl) (Nat.le_of_ble_eq_true rfl) (Nat.le_of_ble_eq_true rfl) (Nat.le_of_ble_eq_true rfl) (az_k1 rfl rfl ?_) (az_k0 rfl)
  refine az_icmp_ne C 290 dL_water_223 (by decide) (fun q => absurd e1 q) (fun _ => ?_)
  refine az_iload_n C 3 dL_water_226 rfl ?_
  refine az_aload_n C 6 dL_water_227 rfl ?_
  refine az_callV C Y_X3_cameTotal cX3 0 0 [] [.int ((LwbF x mv m 0 0 0 0).2.2)] wm_L_195 wi_X3_cameTotal wse_X3_cameTotal dL_water_228 rfl rfl rfl (XcameTotal hG) rfl (Nat.le_of_ble_eq_true rfl) (Nat.le_of_ble_eq_true rfl) (Nat.le_of_ble_eq_true rfl) (Nat.le_of_ble_eq_true rfl) (Nat.le_of_ble_eq_true rfl) (az_k1 rfl rfl ?_) (az_k0 rfl)
  refine az_icmp_ne C 290 dL_water_231 (by decide) (fun q => absurd e2 q) (fun _ => ?_)
  refine az_iload C 2 dL_water_234 rfl ?_
  refine az_aload_n C 6 dL_water_236 rfl ?_
  refine az_callV C Y_X3_seaTotal cX3 0 0 [] [.int ((LwbF x mv m 0 0 0 0).2.1)] wm_L_175 wi_X3_seaTotal wse_X3_seaTotal dL_water_237 rfl rfl rfl (XseaTotal hG) rfl (Nat.le_of_ble_eq_true rfl) (Nat.le_of_ble_eq_true rfl) (Nat.le_of_ble_eq_true rfl) (Nat.le_of_ble_eq_true rfl) (Nat.le_of_ble_eq_true rfl) (az_k1 rfl rfl ?_) (az_k0 rfl)
  refine az_icmp_ne C 290 dL_water_240 (by decide) (fun q => absurd e3 q) (fun _ => ?_)
  refine az_iload C 1 dL_water_243 rfl ?_
  refine az_aload_n C 6 dL_water_245 rfl ?_
  refine az_callV C Y_X3_airTotal cX3 0 0 [] [.int ((LwbF x mv m 0 0 0 0).1)] wm_L_198 wi_X3_airTotal wse_X3_airTotal dL_water_246 rfl rfl rfl (XairTotal hG) rfl (Nat.le_of_ble_eq_true rfl) (Nat.le_of_ble_eq_true rfl) (Nat.le_of_ble_eq_true rfl) (Nat.le_of_ble_eq_true rfl) (Nat.le_of_ble_eq_true rfl) (az_k1 rfl rfl ?_) (az_k0 rfl)
  refine az_icmp_ne C 290 dL_water_249 (by decide) (fun q => absurd e4 q) (fun _ => ?_)
  refine az_iload_n C 3 dL_water_252 rfl ?_
  refine az_iload_n C 5 dL_water_253 rfl ?_
  refine az_iload C 2 dL_water_254 rfl ?_
  refine az_iadd C dL_water_256 ?_
  refine az_iload C 1 dL_water_257 rfl ?_
  refine az_iadd C dL_water_259 ?_
  refine az_icmp_ne C 290 dL_water_260 (by decide) (fun q => absurd (by rw [e1, e2, e3, e4]; exact e5) q) (fun _ => ?_)
  refine az_aload_n C 6 dL_water_263 rfl ?_
  refine az_callV C Y_X3_isBalanced cX3 0 0 [] [] wm_L_201 wi_X3_isBalanced wse_X3_isBalanced dL_water_264 rfl rfl rfl (XisBalanced1 hG nr hn h1 hr mv hm hmv hc hc2 e5) rfl (Nat.le_of_ble_eq_true rfl) (Nat.le_of_ble_eq_true rfl) (Nat.le_of_ble_eq_true rfl) (Nat.le_of_ble_eq_true rfl) (Nat.le_of_ble_eq_true rfl) (az_k1 rfl rfl ?_) (az_k0 rfl)
  refine az_top (1) e6 ?_
  refine az_if_eq C 290 dL_water_267 (by decide) (fun q => absurd q (by decide)) (fun _ => ?_)
  refine az_aload_n C 6 dL_water_270 rfl ?_
  refine az_callV C Y_X3_meanLevel cX3 0 0 [] [] wm_L_205 wi_X3_meanLevel wse_X3_meanLevel dL_water_271 rfl rfl rfl (XmeanLevel hG nr hn hr ha (fun v => dd_out (by omega) hn v)) rfl (Nat.le_of_ble_eq_true rfl) (Nat.le_of_ble_eq_true rfl) (Nat.le_of_ble_eq_true rfl) (Nat.le_of_ble_eq_true rfl) (Nat.le_of_ble_eq_true rfl) (az_k1 rfl rfl ?_) (az_k0 rfl)
  refine az_iload_n C 4 dL_water_274 rfl ?_
  refine az_i2d C dL_water_275 ?_
  refine az_aload_n C 6 dL_water_276 rfl ?_
  refine az_callV C Y_X3_reachCount cX3 0 0 [] [.double ((FP.i2d ((LwaF x nr nr m 0 0 0).1))), .double ((FP.ddiv (FP.i2d (Xmean_lF nr m x 0 0)) (FP.i2d (nI nr))))] wm_L_157 wi_X3_reachCount wse_X3_reachCount dL_water_277 rfl rfl rfl (XreachCount hG) rfl (Nat.le_of_ble_eq_true rfl) (Nat.le_of_ble_eq_true rfl) (Nat.le_of_ble_eq_true rfl) (Nat.le_of_ble_eq_true rfl) (Nat.le_of_ble_eq_true rfl) (az_k1 rfl rfl ?_) (az_k0 rfl)
  refine az_top (nI nr) hr ?_
  refine az_i2d C dL_water_280 ?_
  refine az_ddiv C dL_water_281 (dd_out (by omega) hn _) ?_
  refine az_dcmp C dL_water_282 ?_
  refine az_top (0) (by rw [e7]; exact dd_eq (by omega) hn _) ?_
  refine az_if_ne C 290 dL_water_283 (by decide) (fun q => absurd (by decide) q) (fun _ => ?_)
  refine az_iconst C (v := 1) dL_water_286 (by decide) ?_
  refine az_goto C 291 dL_water_287 (by decide) ?_
  exact az_zret C .boolean rfl rfl dL_water_291 (Nat.le_of_ble_eq_true rfl) (Nat.le_of_ble_eq_true rfl) ⟨rfl, rfl, rfl⟩

end
