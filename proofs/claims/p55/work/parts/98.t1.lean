section
variable {l : Launch} {G : az_G} {ρ : Rp} {x : Xs} {m : Mz} {ou : Nat → Int64}
theorem rN_q {ρ : Rp} {i q : Nat} : (rN ρ i q).1 (100 + i) = q := if_pos rfl
/-- values put into a row, one behind another -/
def upL (v : Nat → Int32) (off : Nat) : Nat → (Nat → Int32) → Nat → Nat → Int32
  | 0, f, _ => f
  | c + 1, f, k => upL v off c (upd f (off + k) (v k)) (k + 1)
/-- the row that state(o) gives -/
def stA (x : Xs) (nr nb mv : Nat) : Nat → Int32 := upd (upd (upL (fun k => x.2.1 k 4) 11 nb (upL (fun k => fuX x k + 2 * x.1 5 k) 6 (nr - 1) (upL (fun k => x.1 4 (k + 3)) 0 nr (fun _ => 0) 0) 0) 0) 19 (nI mv)) 20 (x.1 4 1)
def zP (m : Mz) (i : Nat) (f : Nat → Int32) : Mz := (up1 m.1 i f, up1 m.2 i true)
theorem zI_zP {i j : Nat} {f : Nat → Int32} {v : Int32} : zI (zP m i f) i j v = zP m i (upd f j v) := by
  refine Prod.ext ?_ rfl
  show up2 (up1 m.1 i f) i j v = up1 m.1 i (upd f j v)
  funext p
  by_cases h : p = i
  · subst h
    rw [up2_row, up1_s, up1_s]
  · rw [up2_p h, up1_n h, up1_n h]
theorem zN_zP {i : Nat} : zN m i = zP m i (fun _ => 0) := rfl
theorem upL_eq {v w : Nat → Int32} {off : Nat} : ∀ (c : Nat) (f : Nat → Int32) (k : Nat), (∀ j, k ≤ j → j < k + c → v j = w j) → upL v off c f k = upL w off c f k
  | 0, _, _, _ => rfl
  | c + 1, f, k, h => by
    show upL v off c (upd f (off + k) (v k)) (k + 1) = upL w off c (upd f (off + k) (w k)) (k + 1)
    rw [h k (Nat.le_refl k) (by omega)]
    exact upL_eq c _ _ (fun j h1 h2 => h j (by omega) (by omega))
def Lsa0Fm (x : Xs) (m : Mz) (k : Nat) : Mz := (zI m 0 k (x.1 4 (k + 3)))
def Lsa0F (x : Xs) : Nat → Mz → Nat → Mz
  | 0, m, _ => m
  | n + 1, m, k => Lsa0F x n (Lsa0Fm x m k) (k + 1)
set_option maxHeartbeats 4000000 in
set_option maxRecDepth 100000 in
theorem Lsa0 (hG : az_okS l G) {p : Program} {e : Env} {s : State} {mm : MethodId} {args : Array Value} {below : List Frame} {meth : Method} {c : Code} (C : az_C l G p s mm args meth c cL_state yL_state.cls 3 (Option.some (FieldType.array FieldType.int)) []) {Qx : State → Prop} {k9 n9 mc ms : Nat} (hk9 : k9 ≤ mc) (hn9 : n9 ≤ ms) (nr : Nat) (hn : nr ≤ 6) (h1 : 1 ≤ nr) (hr : x.1 1 8 = nI nr) (ha : ∀ k, k < nr → ¬ x.1 2 k < 1) (mv : Nat) (hm : x.1 8 3 = nI mv) (hmv : mv < 100000) (hc : mv ≤ ρ.2.2.2.1) (hc2 : ρ.2.2.2.1 < 2 ^ 31) (nb : Nat) (hb : x.1 0 7 = nI nb) (hnb : nb = ρ.2.2.2.2.2) (hn8 : nb ≤ 8) : ∀ (n : Nat) (m : Mz) (k : Nat) (hk : k + n = nr) (hz0 : m.2 0 = true), az_W l G 3 Qx p e (az_rm 11 mc ms) s mm args below meth c (AD ρ) (KK G ρ x (Lsa0F x n m k) ou) k9 n9 29 [(2, .int (nI nr)), (1, .ref (ρ.1 100)), (0, .ref (ρ.1 0))] [] → az_W l G 3 Qx p e (az_rm 11 mc ms) s mm args below meth c (AD ρ) (KK G ρ x m ou) k9 n9 7 [(2, .int (nI k)), (1, .ref (ρ.1 100)), (0, .ref (ρ.1 0))] [] := by
  intro n
  induction n with
  | zero =>
    intro m k hk hz0 hx
    have hkk : k = nr := by omega
    rw [hkk]
    refine az_iload_n C 0 dL_state_7 rfl ?_
    refine az_aload_n C 2 dL_state_8 rfl ?_
    refine az_callV C Y_X3_reachCount cX3 0 0 [] [.int (nI nr)] wm_L_157 wi_X3_reachCount wse_X3_reachCount dL_state_9 rfl rfl rfl (XreachCount hG) rfl (Nat.le_of_ble_eq_true rfl) (Nat.le_of_ble_eq_true rfl) (Nat.le_of_ble_eq_true rfl) hk9 hn9 (az_k1 rfl rfl ?_) (az_k0 rfl)
    refine az_top (nI nr) hr ?_
    refine az_icmp_ge C 29 dL_state_12 (by decide) (fun _ => ?_) (fun q => absurd (Int32.le_refl _) q)
    exact az_lv [0, 1, 2] rfl hx
  | succ n ih =>
    intro m k hk hz0 hx
    refine az_iload_n C 0 dL_state_7 rfl ?_
    refine az_aload_n C 2 dL_state_8 rfl ?_
    refine az_callV C Y_X3_reachCount cX3 0 0 [] [.int (nI k)] wm_L_157 wi_X3_reachCount wse_X3_reachCount dL_state_9 rfl rfl rfl (XreachCount hG) rfl (Nat.le_of_ble_eq_true rfl) (Nat.le_of_ble_eq_true rfl) (Nat.le_of_ble_eq_true rfl) hk9 hn9 (az_k1 rfl rfl ?_) (az_k0 rfl)
    refine az_top (nI nr) hr ?_
    refine az_icmp_ge C 29 dL_state_12 (by decide) (fun q => absurd q (nlt_nle (show k < nr by omega) (by omega))) (fun _ => ?_)
    refine az_aload_n C 1 dL_state_15 rfl ?_
    refine az_iload_n C 0 dL_state_16 rfl ?_
    refine az_aload_n C 2 dL_state_17 rfl ?_
    refine az_iload_n C 0 dL_state_18 rfl ?_
    refine az_callH C Y_L_volumeOf [.ref (ρ.1 0), .int (nI k)] [.int (nI k), .ref (ρ.1 100)] wm_L_160 wst_L_volumeOf dL_state_19 rfl (H_volumeOf (ρ := ρ) (x := x) (m := m) (ou := ou) hG (nI k) (by decide) (XvolumeOf1 hG nr k hr hn (by omega)) hq_v (fun _ _ _ h => hq_x h)) rfl (Nat.le_of_ble_eq_true rfl) (Nat.le_of_ble_eq_true rfl) (Nat.le_of_ble_eq_true rfl) hk9 hn9 (az_k1 rfl rfl ?_) (az_k0 rfl)
    refine az_iastN C 2 0 k dL_state_22 rfl (KZ hz0) (by omega) (by decide) (az_to rfl (K' := (KK G ρ x (zI m 0 k (x.1 4 (k + 3))) ou)) (KK_Z hz0) ?_)
    refine az_iinc C 0 (v := nI (k + 1)) (lv' := [(2, .int (nI (k + 1))), (1, .ref (ρ.1 100)), (0, .ref (ρ.1 0))]) dL_state_23 rfl (nI_1 k) (by decide) rfl ?_
    refine az_goto C 7 dL_state_26 (by decide) ?_
    exact az_lv [0, 1, 2] rfl (ih (Lsa0Fm x m k) (k + 1) (by omega) hz0 hx)

def Lsb0Fm (x : Xs) (m : Mz) (k : Nat) : Mz := (zI m 0 ((6 + k)) ((fuX x k + (2 * x.1 5 k))))
def Lsb0F (x : Xs) : Nat → Mz → Nat → Mz
  | 0, m, _ => m
  | n + 1, m, k => Lsb0F x n (Lsb0Fm x m k) (k + 1)
set_option maxHeartbeats 4000000 in
set_option maxRecDepth 100000 in
theorem Lsb0 (hG : az_okS l G) {p : Program} {e : Env} {s : State} {mm : MethodId} {args : Array Value} {below : List Frame} {meth : Method} {c : Code} (C : az_C l G p s mm args meth c cL_state yL_state.cls 3 (Option.some (FieldType.array FieldType.int)) []) {Qx : State → Prop} {k9 n9 mc ms : Nat} (hk9 : k9 ≤ mc) (hn9 : n9 ≤ ms) (nr : Nat) (hn : nr ≤ 6) (h1 : 1 ≤ nr) (hr : x.1 1 8 = nI nr) (ha : ∀ k, k < nr → ¬ x.1 2 k < 1) (mv : Nat) (hm : x.1 8 3 = nI mv) (hmv : mv < 100000) (hc : mv ≤ ρ.2.2.2.1) (hc2 : ρ.2.2.2.1 < 2 ^ 31) (nb : Nat) (hb : x.1 0 7 = nI nb) (hnb : nb = ρ.2.2.2.2.2) (hn8 : nb ≤ 8) : ∀ (n : Nat) (m : Mz) (k : Nat) (hk : k + n = (nr - 1)) (hz0 : m.2 0 = true), az_W l G 3 Qx p e (az_rm 11 mc ms) s mm args below meth c (AD ρ) (KK G ρ x (Lsb0F x n m k) ou) k9 n9 66 [(2, .int (nI ((nr - 1)))), (1, .ref (ρ.1 100)), (0, .ref (ρ.1 0))] [] → az_W l G 3 Qx p e (az_rm 11 mc ms) s mm args below meth c (AD ρ) (KK G ρ x m ou) k9 n9 31 [(2, .int (nI k)), (1, .ref (ρ.1 100)), (0, .ref (ρ.1 0))] [] := by
  intro n
  induction n with
  | zero =>
    intro m k hk hz0 hx
    have hkk : k = (nr - 1) := by omega
    rw [hkk]
    refine az_iload_n C 0 dL_state_31 rfl ?_
    refine az_aload_n C 2 dL_state_32 rfl ?_
    refine az_callV C Y_X3_reachCount cX3 0 0 [] [.int (nI ((nr - 1)))] wm_L_157 wi_X3_reachCount wse_X3_reachCount dL_state_33 rfl rfl rfl (XreachCount hG) rfl (Nat.le_of_ble_eq_true rfl) (Nat.le_of_ble_eq_true rfl) (Nat.le_of_ble_eq_true rfl) hk9 hn9 (az_k1 rfl rfl ?_) (az_k0 rfl)
    refine az_top (nI nr) hr ?_
    refine az_iconst C (v := 1) dL_state_36 (by decide) ?_
    refine az_isub C dL_state_37 ?_
    refine az_top (nI (nr - 1)) (show nI nr - 1 = nI (nr - 1) from pk_sub (b := 1) (by omega)) ?_
    refine az_icmp_ge C 66 dL_state_38 (by decide) (fun _ => ?_) (fun q => absurd (Int32.le_refl _) q)
    exact az_lv [0, 1, 2] rfl hx
  | succ n ih =>
    intro m k hk hz0 hx
    refine az_iload_n C 0 dL_state_31 rfl ?_
    refine az_aload_n C 2 dL_state_32 rfl ?_
    refine az_callV C Y_X3_reachCount cX3 0 0 [] [.int (nI k)] wm_L_157 wi_X3_reachCount wse_X3_reachCount dL_state_33 rfl rfl rfl (XreachCount hG) rfl (Nat.le_of_ble_eq_true rfl) (Nat.le_of_ble_eq_true rfl) (Nat.le_of_ble_eq_true rfl) hk9 hn9 (az_k1 rfl rfl ?_) (az_k0 rfl)
    refine az_top (nI nr) hr ?_
    refine az_iconst C (v := 1) dL_state_36 (by decide) ?_
    refine az_isub C dL_state_37 ?_
    refine az_top (nI (nr - 1)) (show nI nr - 1 = nI (nr - 1) from pk_sub (b := 1) (by omega)) ?_
    refine az_icmp_ge C 66 dL_state_38 (by decide) (fun q => absurd q (nlt_nle (show k < (nr - 1) by omega) (by omega))) (fun _ => ?_)
    refine az_aload_n C 1 dL_state_41 rfl ?_
    refine az_bipush C (v := 6) dL_state_42 (by decide) ?_
    refine az_iload_n C 0 dL_state_44 rfl ?_
    refine az_iadd C dL_state_45 ?_
    refine az_top (nI (6 + k)) (nI_add 6 k) ?_
    refine az_aload_n C 2 dL_state_46 rfl ?_
    refine az_iload_n C 0 dL_state_47 rfl ?_
    refine az_callH C Y_L_isFull [.ref (ρ.1 0), .int (nI k)] [.int (nI (6 + k)), .ref (ρ.1 100)] wm_L_163 wst_L_isFull dL_state_48 rfl (H_isFull (ρ := ρ) (x := x) (m := m) (ou := ou) hG (nI k) (by decide) (XisFull1 hG nr k hr hn (by omega)) (hq_b (fuX_01 (x := x) (k := k))) (fun _ _ _ h => hq_x h)) rfl (Nat.le_of_ble_eq_true rfl) (Nat.le_of_ble_eq_true rfl) (Nat.le_of_ble_eq_true rfl) hk9 hn9 (az_k1 rfl rfl ?_) (az_k0 rfl)
    refine az_iconst C (v := 2) dL_state_51 (by decide) ?_
    refine az_aload_n C 2 dL_state_52 rfl ?_
    refine az_iload_n C 0 dL_state_53 rfl ?_
    refine az_callH C Y_L_waterThrough [.ref (ρ.1 0), .int (nI k)] [.int 2, .int (fuX x k), .int (nI (6 + k)), .ref (ρ.1 100)] wm_L_165 wst_L_waterThrough dL_state_54 rfl (H_waterThrough (ρ := ρ) (x := x) (m := m) (ou := ou) hG (nI k) (by decide) (XwaterThrough1 hG nr k hr hn (by omega)) hq_v (fun _ _ _ h => hq_x h)) rfl (Nat.le_of_ble_eq_true rfl) (Nat.le_of_ble_eq_true rfl) (Nat.le_of_ble_eq_true rfl) hk9 hn9 (az_k1 rfl rfl ?_) (az_k0 rfl)
    refine az_imul C dL_state_57 ?_
    refine az_iadd C dL_state_58 ?_
    refine az_iastN C 2 0 ((6 + k)) dL_state_59 rfl (KZ hz0) (by omega) (by decide) (az_to rfl (K' := (KK G ρ x (zI m 0 ((6 + k)) ((fuX x k + (2 * x.1 5 k)))) ou)) (KK_Z hz0) ?_)
    refine az_iinc C 0 (v := nI (k + 1)) (lv' := [(2, .int (nI (k + 1))), (1, .ref (ρ.1 100)), (0, .ref (ρ.1 0))]) dL_state_60 rfl (nI_1 k) (by decide) rfl ?_
    refine az_goto C 31 dL_state_63 (by decide) ?_
    exact az_lv [0, 1, 2] rfl (ih (Lsb0Fm x m k) (k + 1) (by omega) hz0 hx)

def Lsc0Fm (x : Xs) (m : Mz) (k : Nat) : Mz := (zI m 0 ((11 + k)) (x.2.1 k 4))
def Lsc0F (x : Xs) : Nat → Mz → Nat → Mz
  | 0, m, _ => m
  | n + 1, m, k => Lsc0F x n (Lsc0Fm x m k) (k + 1)
set_option maxHeartbeats 4000000 in
set_option maxRecDepth 100000 in
theorem Lsc0 (hG : az_okS l G) {p : Program} {e : Env} {s : State} {mm : MethodId} {args : Array Value} {below : List Frame} {meth : Method} {c : Code} (C : az_C l G p s mm args meth c cL_state yL_state.cls 3 (Option.some (FieldType.array FieldType.int)) []) {Qx : State → Prop} {k9 n9 mc ms : Nat} (hk9 : k9 ≤ mc) (hn9 : n9 ≤ ms) (nr : Nat) (hn : nr ≤ 6) (h1 : 1 ≤ nr) (hr : x.1 1 8 = nI nr) (ha : ∀ k, k < nr → ¬ x.1 2 k < 1) (mv : Nat) (hm : x.1 8 3 = nI mv) (hmv : mv < 100000) (hc : mv ≤ ρ.2.2.2.1) (hc2 : ρ.2.2.2.1 < 2 ^ 31) (nb : Nat) (hb : x.1 0 7 = nI nb) (hnb : nb = ρ.2.2.2.2.2) (hn8 : nb ≤ 8) : ∀ (n : Nat) (m : Mz) (k : Nat) (hk : k + n = nb) (hz0 : m.2 0 = true), az_W l G 3 Qx p e (az_rm 11 mc ms) s mm args below meth c (AD ρ) (KK G ρ x (Lsc0F x n m k) ou) k9 n9 93 [(2, .int (nI nb)), (1, .ref (ρ.1 100)), (0, .ref (ρ.1 0))] [] → az_W l G 3 Qx p e (az_rm 11 mc ms) s mm args below meth c (AD ρ) (KK G ρ x m ou) k9 n9 68 [(2, .int (nI k)), (1, .ref (ρ.1 100)), (0, .ref (ρ.1 0))] [] := by
  intro n
  induction n with
  | zero =>
    intro m k hk hz0 hx
    have hkk : k = nb := by omega
    rw [hkk]
    refine az_iload_n C 0 dL_state_68 rfl ?_
    refine az_aload_n C 2 dL_state_69 rfl ?_
    refine az_callV C Y_X3_bargeCount cX3 0 0 [] [.int (nI nb)] wm_L_167 wi_X3_bargeCount wse_X3_bargeCount dL_state_70 rfl rfl rfl (XbargeCount hG) rfl (Nat.le_of_ble_eq_true rfl) (Nat.le_of_ble_eq_true rfl) (Nat.le_of_ble_eq_true rfl) hk9 hn9 (az_k1 rfl rfl ?_) (az_k0 rfl)
    refine az_top (nI nb) hb ?_
    refine az_icmp_ge C 93 dL_state_73 (by decide) (fun _ => ?_) (fun q => absurd (Int32.le_refl _) q)
    exact az_lv [0, 1, 2] rfl hx
  | succ n ih =>
    intro m k hk hz0 hx
    refine az_iload_n C 0 dL_state_68 rfl ?_
    refine az_aload_n C 2 dL_state_69 rfl ?_
    refine az_callV C Y_X3_bargeCount cX3 0 0 [] [.int (nI k)] wm_L_167 wi_X3_bargeCount wse_X3_bargeCount dL_state_70 rfl rfl rfl (XbargeCount hG) rfl (Nat.le_of_ble_eq_true rfl) (Nat.le_of_ble_eq_true rfl) (Nat.le_of_ble_eq_true rfl) hk9 hn9 (az_k1 rfl rfl ?_) (az_k0 rfl)
    refine az_top (nI nb) hb ?_
    refine az_icmp_ge C 93 dL_state_73 (by decide) (fun q => absurd q (nlt_nle (show k < nb by omega) (by omega))) (fun _ => ?_)
    refine az_aload_n C 1 dL_state_76 rfl ?_
    refine az_bipush C (v := 11) dL_state_77 (by decide) ?_
    refine az_iload_n C 0 dL_state_79 rfl ?_
    refine az_iadd C dL_state_80 ?_
    refine az_top (nI (11 + k)) (nI_add 11 k) ?_
    refine az_aload_n C 2 dL_state_81 rfl ?_
    refine az_iload_n C 0 dL_state_82 rfl ?_
    refine az_callH C Y_L_reachOf [.ref (ρ.1 0), .int (nI k)] [.int (nI (11 + k)), .ref (ρ.1 100)] wm_L_170 wst_L_reachOf dL_state_83 rfl (H_reachOf (ρ := ρ) (x := x) (m := m) (ou := ou) hG (nI k) (by decide) (XreachOf1 hG nb k hb hnb hn8 (by omega)) hq_v (fun _ _ _ h => hq_x h)) rfl (Nat.le_of_ble_eq_true rfl) (Nat.le_of_ble_eq_true rfl) (Nat.le_of_ble_eq_true rfl) hk9 hn9 (az_k1 rfl rfl ?_) (az_k0 rfl)
    refine az_iastN C 2 0 ((11 + k)) dL_state_86 rfl (KZ hz0) (by omega) (by decide) (az_to rfl (K' := (KK G ρ x (zI m 0 ((11 + k)) (x.2.1 k 4)) ou)) (KK_Z hz0) ?_)
    refine az_iinc C 0 (v := nI (k + 1)) (lv' := [(2, .int (nI (k + 1))), (1, .ref (ρ.1 100)), (0, .ref (ρ.1 0))]) dL_state_87 rfl (nI_1 k) (by decide) rfl ?_
    refine az_goto C 68 dL_state_90 (by decide) ?_
    exact az_lv [0, 1, 2] rfl (ih (Lsc0Fm x m k) (k + 1) (by omega) hz0 hx)

theorem Lsa0_2 : ∀ (c : Nat) (m : Mz) (k : Nat), (Lsa0F x c m k).2 = m.2
  | 0, _, _ => rfl
  | c + 1, m, k => by
    show (Lsa0F x c (Lsa0Fm x m k) (k + 1)).2 = m.2
    rw [Lsa0_2 c _ (k + 1)]
    rfl
theorem Lsa0_z : ∀ (c : Nat) (f : Nat → Int32) (k : Nat), Lsa0F x c (zP m 0 f) k = zP m 0 (upL (fun k => x.1 4 (k + 3)) 0 c f k)
  | 0, _, _ => rfl
  | c + 1, f, k => by
    show Lsa0F x c (zI (zP m 0 f) 0 k (((fun k => x.1 4 (k + 3)) : Nat → Int32) k)) (k + 1) = zP m 0 (upL (fun k => x.1 4 (k + 3)) 0 c (upd f (0 + k) (((fun k => x.1 4 (k + 3)) : Nat → Int32) k)) (k + 1))
    rw [zI_zP, Lsa0_z c _ (k + 1), Nat.zero_add]
theorem Lsb0_2 : ∀ (c : Nat) (m : Mz) (k : Nat), (Lsb0F x c m k).2 = m.2
  | 0, _, _ => rfl
  | c + 1, m, k => by
    show (Lsb0F x c (Lsb0Fm x m k) (k + 1)).2 = m.2
    rw [Lsb0_2 c _ (k + 1)]
    rfl
theorem Lsb0_z : ∀ (c : Nat) (f : Nat → Int32) (k : Nat), Lsb0F x c (zP m 0 f) k = zP m 0 (upL (fun k => fuX x k + 2 * x.1 5 k) 6 c f k)
  | 0, _, _ => rfl
  | c + 1, f, k => by
    show Lsb0F x c (zI (zP m 0 f) 0 (6 + k) (((fun k => fuX x k + 2 * x.1 5 k) : Nat → Int32) k)) (k + 1) = zP m 0 (upL (fun k => fuX x k + 2 * x.1 5 k) 6 c (upd f (6 + k) (((fun k => fuX x k + 2 * x.1 5 k) : Nat → Int32) k)) (k + 1))
    rw [zI_zP, Lsb0_z c _ (k + 1)]
theorem Lsc0_2 : ∀ (c : Nat) (m : Mz) (k : Nat), (Lsc0F x c m k).2 = m.2
  | 0, _, _ => rfl
  | c + 1, m, k => by
    show (Lsc0F x c (Lsc0Fm x m k) (k + 1)).2 = m.2
    rw [Lsc0_2 c _ (k + 1)]
    rfl
theorem Lsc0_z : ∀ (c : Nat) (f : Nat → Int32) (k : Nat), Lsc0F x c (zP m 0 f) k = zP m 0 (upL (fun k => x.2.1 k 4) 11 c f k)
  | 0, _, _ => rfl
  | c + 1, f, k => by
    show Lsc0F x c (zI (zP m 0 f) 0 (11 + k) (((fun k => x.2.1 k 4) : Nat → Int32) k)) (k + 1) = zP m 0 (upL (fun k => x.2.1 k 4) 11 c (upd f (11 + k) (((fun k => x.2.1 k 4) : Nat → Int32) k)) (k + 1))
    rw [zI_zP, Lsc0_z c _ (k + 1)]
theorem st_m0 {nr nb mv : Nat} : zI (zI (Lsc0F x nb (Lsb0F x (nr - 1) (Lsa0F x nr (zN m 0) 0) 0) 0) 0 19 (nI mv)) 0 20 (x.1 4 1) = zP m 0 (stA x nr nb mv) := by
  rw [zN_zP, Lsa0_z, Lsb0_z, Lsc0_z, zI_zP, zI_zP]
  rfl
set_option maxHeartbeats 4000000 in
set_option maxRecDepth 100000 in
theorem Xstate0 (hG : az_okS l G) (nr : Nat) (hn : nr ≤ 6) (h1 : 1 ≤ nr) (hr : x.1 1 8 = nI nr) (ha : ∀ k, k < nr → ¬ x.1 2 k < 1) (mv : Nat) (hm : x.1 8 3 = nI mv) (hmv : mv < 100000) (hc : mv ≤ ρ.2.2.2.1) (hc2 : ρ.2.2.2.1 < 2 ^ 31) (nb : Nat) (hb : x.1 0 7 = nI nb) (hnb : nb = ρ.2.2.2.2.2) (hn8 : nb ≤ 8) : az_M l G yL_state (az_ws yL_state cL_state 3 (Option.some (FieldType.array FieldType.int))) 11 [.ref (ρ.1 0)] (AD ρ) (KK G ρ x m ou) 1 24 (fun o ad' K' => ∃ q : Nat, o = .inl (some (.ref ((rN ρ 0 q).1 100))) ∧ ad' = AD (rN ρ 0 q) ∧ K' = KK G (rN ρ 0 q) x (zP m 0 (stA x nr nb mv)) ou) := by
  refine az_start hG.1 (by decide +kernel) (Nat.le_of_ble_eq_true rfl) ?_
  intro p e s mm args below meth c C hnm
  show az_W l G 3 _ p e _ s mm args below meth c _ _ 0 0 0 [(0, .ref (ρ.1 0))] []
  have hcl : 0 + 1 ≤ 1 := Nat.le_refl 1
  have hsl : 0 + 24 ≤ 24 := Nat.le_refl 24
  refine az_bipush C (v := 24) dL_state_0 (by decide) ?_
  refine az_newa C 0 .int rfl rfl (fun U cA h => va_nm_int h) 2 0 24 (24, (.inl (fun _ => 0))) (fun cA => rfl) wa_int (by decide) (by decide) (by decide) (Nat.le_of_ble_eq_true rfl) (Nat.le_of_ble_eq_true rfl) dL_state_2 (fun q9 => ?_)
  refine az_to (ad' := AD (rN ρ 0 q9)) (K' := KK G (rN ρ 0 q9) x (zN m 0) ou) AD_N (KK_N (by decide)) ?_
  refine az_st [.ref ((rN ρ 0 q9).1 100)] (by rw [show (rN ρ 0 q9).1 100 = q9 from rN_q (i := 0)]) ?_
  have hz0 : (zN m 0).2 0 = true := up1_s (f := m.2) (p := 0) (v := true)
  refine az_astore_n C (lv' := [(1, .ref ((rN ρ 0 q9).1 100)), (0, .ref (ρ.1 0))]) (j := 1) rfl dL_state_4 (by decide) rfl ?_
  refine az_iconst C (v := 0) dL_state_5 (by decide) ?_
  refine az_istore_n C (lv' := [(2, .int 0), (1, .ref ((rN ρ 0 q9).1 100)), (0, .ref (ρ.1 0))]) (j := 2) rfl dL_state_6 (by decide) rfl ?_
  refine az_lv [0, 1, 2] rfl (Lsa0 (ρ := (rN ρ 0 q9)) hG C hcl hsl nr hn h1 hr ha mv hm hmv hc hc2 nb hb hnb hn8 nr (zN m 0) 0 (by omega) hz0 ?_)
  have hz0 : (Lsa0F x nr (zN m 0) 0).2 0 = true := by rw [Lsa0_2]; exact hz0
  refine az_iconst C (v := 0) dL_state_29 (by decide) ?_
  refine az_istore_n C (lv' := [(2, .int 0), (1, .ref ((rN ρ 0 q9).1 100)), (0, .ref (ρ.1 0))]) (j := 2) rfl dL_state_30 (by decide) rfl ?_
  refine az_lv [0, 1, 2] rfl (Lsb0 (ρ := (rN ρ 0 q9)) hG C hcl hsl nr hn h1 hr ha mv hm hmv hc hc2 nb hb hnb hn8 (nr - 1) (Lsa0F x nr (zN m 0) 0) 0 (by omega) hz0 ?_)
  have hz0 : (Lsb0F x (nr - 1) (Lsa0F x nr (zN m 0) 0) 0).2 0 = true := by rw [Lsb0_2]; exact hz0
  refine az_iconst C (v := 0) dL_state_66 (by decide) ?_
  refine az_istore_n C (lv' := [(2, .int 0), (1, .ref ((rN ρ 0 q9).1 100)), (0, .ref (ρ.1 0))]) (j := 2) rfl dL_state_67 (by decide) rfl ?_
  refine az_lv [0, 1, 2] rfl (Lsc0 (ρ := (rN ρ 0 q9)) hG C hcl hsl nr hn h1 hr ha mv hm hmv hc hc2 nb hb hnb hn8 nb (Lsb0F x (nr - 1) (Lsa0F x nr (zN m 0) 0) 0) 0 (by omega) hz0 ?_)
  have hz0 : (Lsc0F x nb (Lsb0F x (nr - 1) (Lsa0F x nr (zN m 0) 0) 0) 0).2 0 = true := by rw [Lsc0_2]; exact hz0
  refine az_aload_n C 1 dL_state_93 rfl ?_
  refine az_bipush C (v := 19) dL_state_94 (by decide) ?_
  refine az_aload_n C 2 dL_state_96 rfl ?_
  refine az_callV C Y_X3_movementCount cX3 0 0 [] [.int 19, .ref ((rN ρ 0 q9).1 100)] wm_L_172 wi_X3_movementCount wse_X3_movementCount dL_state_97 rfl rfl rfl (XmovementCount hG) rfl (Nat.le_of_ble_eq_true rfl) (Nat.le_of_ble_eq_true rfl) (Nat.le_of_ble_eq_true rfl) hcl hsl (az_k1 rfl rfl ?_) (az_k0 rfl)
  refine az_top (nI mv) hm ?_
  refine az_iastN C 2 0 19 dL_state_100 rfl (KZ hz0) (by decide) (by decide) (az_to rfl (K' := (KK G (rN ρ 0 q9) x (zI (Lsc0F x nb (Lsb0F x (nr - 1) (Lsa0F x nr (zN m 0) 0) 0) 0) 0 19 (nI mv)) ou)) (KK_Z hz0) ?_)
  refine az_aload_n C 1 dL_state_101 rfl ?_
  refine az_bipush C (v := 20) dL_state_102 (by decide) ?_
  refine az_aload_n C 2 dL_state_104 rfl ?_
  refine az_callV C Y_X3_seaTotal cX3 0 0 [] [.int 20, .ref ((rN ρ 0 q9).1 100)] wm_L_175 wi_X3_seaTotal wse_X3_seaTotal dL_state_105 rfl rfl rfl (XseaTotal hG) rfl (Nat.le_of_ble_eq_true rfl) (Nat.le_of_ble_eq_true rfl) (Nat.le_of_ble_eq_true rfl) hcl hsl (az_k1 rfl rfl ?_) (az_k0 rfl)
  refine az_iastN C 2 0 20 dL_state_108 rfl (KZ hz0) (by decide) (by decide) (az_to rfl (K' := (KK G (rN ρ 0 q9) x (zI (zI (Lsc0F x nb (Lsb0F x (nr - 1) (Lsa0F x nr (zN m 0) 0) 0) 0) 0 19 (nI mv)) 0 20 (x.1 4 1)) ou)) (KK_Z hz0) ?_)
  refine az_aload_n C 1 dL_state_109 rfl ?_
  exact az_aret C (.array .int) rfl (Or.inr ⟨_, rfl⟩) (Or.inr ⟨_, rfl⟩) dL_state_110 hcl hsl ⟨q9, rfl, rfl, by rw [st_m0]⟩

def Lsa1Fm (x : Xs) (m : Mz) (k : Nat) : Mz := (zI m 1 k (x.1 4 (k + 3)))
def Lsa1F (x : Xs) : Nat → Mz → Nat → Mz
  | 0, m, _ => m
  | n + 1, m, k => Lsa1F x n (Lsa1Fm x m k) (k + 1)
set_option maxHeartbeats 4000000 in
set_option maxRecDepth 100000 in
theorem Lsa1 (hG : az_okS l G) {p : Program} {e : Env} {s : State} {mm : MethodId} {args : Array Value} {below : List Frame} {meth : Method} {c : Code} (C : az_C l G p s mm args meth c cL_state yL_state.cls 3 (Option.some (FieldType.array FieldType.int)) []) {Qx : State → Prop} {k9 n9 mc ms : Nat} (hk9 : k9 ≤ mc) (hn9 : n9 ≤ ms) (nr : Nat) (hn : nr ≤ 6) (h1 : 1 ≤ nr) (hr : x.1 1 8 = nI nr) (ha : ∀ k, k < nr → ¬ x.1 2 k < 1) (mv : Nat) (hm : x.1 8 3 = nI mv) (hmv : mv < 100000) (hc : mv ≤ ρ.2.2.2.1) (hc2 : ρ.2.2.2.1 < 2 ^ 31) (nb : Nat) (hb : x.1 0 7 = nI nb) (hnb : nb = ρ.2.2.2.2.2) (hn8 : nb ≤ 8) : ∀ (n : Nat) (m : Mz) (k : Nat) (hk : k + n = nr) (hz1 : m.2 1 = true), az_W l G 3 Qx p e (az_rm 11 mc ms) s mm args below meth c (AD ρ) (KK G ρ x (Lsa1F x n m k) ou) k9 n9 29 [(2, .int (nI nr)), (1, .ref (ρ.1 101)), (0, .ref (ρ.1 0))] [] → az_W l G 3 Qx p e (az_rm 11 mc ms) s mm args below meth c (AD ρ) (KK G ρ x m ou) k9 n9 7 [(2, .int (nI k)), (1, .ref (ρ.1 101)), (0, .ref (ρ.1 0))] [] := by
  intro n
  induction n with
  | zero =>
    intro m k hk hz1 hx
    have hkk : k = nr := by omega
    rw [hkk]
    refine az_iload_n C 0 dL_state_7 rfl ?_
    refine az_aload_n C 2 dL_state_8 rfl ?_
    refine az_callV C Y_X3_reachCount cX3 0 0 [] [.int (nI nr)] wm_L_157 wi_X3_reachCount wse_X3_reachCount dL_state_9 rfl rfl rfl (XreachCount hG) rfl (Nat.le_of_ble_eq_true rfl) (Nat.le_of_ble_eq_true rfl) (Nat.le_of_ble_eq_true rfl) hk9 hn9 (az_k1 rfl rfl ?_) (az_k0 rfl)
    refine az_top (nI nr) hr ?_
    refine az_icmp_ge C 29 dL_state_12 (by decide) (fun _ => ?_) (fun q => absurd (Int32.le_refl _) q)
    exact az_lv [0, 1, 2] rfl hx
  | succ n ih =>
    intro m k hk hz1 hx
    refine az_iload_n C 0 dL_state_7 rfl ?_
    refine az_aload_n C 2 dL_state_8 rfl ?_
    refine az_callV C Y_X3_reachCount cX3 0 0 [] [.int (nI k)] wm_L_157 wi_X3_reachCount wse_X3_reachCount dL_state_9 rfl rfl rfl (XreachCount hG) rfl (Nat.le_of_ble_eq_true rfl) (Nat.le_of_ble_eq_true rfl) (Nat.le_of_ble_eq_true rfl) hk9 hn9 (az_k1 rfl rfl ?_) (az_k0 rfl)
    refine az_top (nI nr) hr ?_
    refine az_icmp_ge C 29 dL_state_12 (by decide) (fun q => absurd q (nlt_nle (show k < nr by omega) (by omega))) (fun _ => ?_)
    refine az_aload_n C 1 dL_state_15 rfl ?_
    refine az_iload_n C 0 dL_state_16 rfl ?_
    refine az_aload_n C 2 dL_state_17 rfl ?_
    refine az_iload_n C 0 dL_state_18 rfl ?_
    refine az_callH C Y_L_volumeOf [.ref (ρ.1 0), .int (nI k)] [.int (nI k), .ref (ρ.1 101)] wm_L_160 wst_L_volumeOf dL_state_19 rfl (H_volumeOf (ρ := ρ) (x := x) (m := m) (ou := ou) hG (nI k) (by decide) (XvolumeOf1 hG nr k hr hn (by omega)) hq_v (fun _ _ _ h => hq_x h)) rfl (Nat.le_of_ble_eq_true rfl) (Nat.le_of_ble_eq_true rfl) (Nat.le_of_ble_eq_true rfl) hk9 hn9 (az_k1 rfl rfl ?_) (az_k0 rfl)
    refine az_iastN C 2 1 k dL_state_22 rfl (KZ hz1) (by omega) (by decide) (az_to rfl (K' := (KK G ρ x (zI m 1 k (x.1 4 (k + 3))) ou)) (KK_Z hz1) ?_)
    refine az_iinc C 0 (v := nI (k + 1)) (lv' := [(2, .int (nI (k + 1))), (1, .ref (ρ.1 101)), (0, .ref (ρ.1 0))]) dL_state_23 rfl (nI_1 k) (by decide) rfl ?_
    refine az_goto C 7 dL_state_26 (by decide) ?_
    exact az_lv [0, 1, 2] rfl (ih (Lsa1Fm x m k) (k + 1) (by omega) hz1 hx)

def Lsb1Fm (x : Xs) (m : Mz) (k : Nat) : Mz := (zI m 1 ((6 + k)) ((fuX x k + (2 * x.1 5 k))))
def Lsb1F (x : Xs) : Nat → Mz → Nat → Mz
  | 0, m, _ => m
  | n + 1, m, k => Lsb1F x n (Lsb1Fm x m k) (k + 1)
set_option maxHeartbeats 4000000 in
set_option maxRecDepth 100000 in
theorem Lsb1 (hG : az_okS l G) {p : Program} {e : Env} {s : State} {mm : MethodId} {args : Array Value} {below : List Frame} {meth : Method} {c : Code} (C : az_C l G p s mm args meth c cL_state yL_state.cls 3 (Option.some (FieldType.array FieldType.int)) []) {Qx : State → Prop} {k9 n9 mc ms : Nat} (hk9 : k9 ≤ mc) (hn9 : n9 ≤ ms) (nr : Nat) (hn : nr ≤ 6) (h1 : 1 ≤ nr) (hr : x.1 1 8 = nI nr) (ha : ∀ k, k < nr → ¬ x.1 2 k < 1) (mv : Nat) (hm : x.1 8 3 = nI mv) (hmv : mv < 100000) (hc : mv ≤ ρ.2.2.2.1) (hc2 : ρ.2.2.2.1 < 2 ^ 31) (nb : Nat) (hb : x.1 0 7 = nI nb) (hnb : nb = ρ.2.2.2.2.2) (hn8 : nb ≤ 8) : ∀ (n : Nat) (m : Mz) (k : Nat) (hk : k + n = (nr - 1)) (hz1 : m.2 1 = true), az_W l G 3 Qx p e (az_rm 11 mc ms) s mm args below meth c (AD ρ) (KK G ρ x (Lsb1F x n m k) ou) k9 n9 66 [(2, .int (nI ((nr - 1)))), (1, .ref (ρ.1 101)), (0, .ref (ρ.1 0))] [] → az_W l G 3 Qx p e (az_rm 11 mc ms) s mm args below meth c (AD ρ) (KK G ρ x m ou) k9 n9 31 [(2, .int (nI k)), (1, .ref (ρ.1 101)), (0, .ref (ρ.1 0))] [] := by
  intro n
  induction n with
  | zero =>
    intro m k hk hz1 hx
    have hkk : k = (nr - 1) := by omega
    rw [hkk]
    refine az_iload_n C 0 dL_state_31 rfl ?_
    refine az_aload_n C 2 dL_state_32 rfl ?_
    refine az_callV C Y_X3_reachCount cX3 0 0 [] [.int (nI ((nr - 1)))] wm_L_157 wi_X3_reachCount wse_X3_reachCount dL_state_33 rfl rfl rfl (XreachCount hG) rfl (Nat.le_of_ble_eq_true rfl) (Nat.le_of_ble_eq_true rfl) (Nat.le_of_ble_eq_true rfl) hk9 hn9 (az_k1 rfl rfl ?_) (az_k0 rfl)
    refine az_top (nI nr) hr ?_
    refine az_iconst C (v := 1) dL_state_36 (by decide) ?_
    refine az_isub C dL_state_37 ?_
    refine az_top (nI (nr - 1)) (show nI nr - 1 = nI (nr - 1) from pk_sub (b := 1) (by omega)) ?_
    refine az_icmp_ge C 66 dL_state_38 (by decide) (fun _ => ?_) (fun q => absurd (Int32.le_refl _) q)
    exact az_lv [0, 1, 2] rfl hx
  | succ n ih =>
    intro m k hk hz1 hx
    refine az_iload_n C 0 dL_state_31 rfl ?_
    refine az_aload_n C 2 dL_state_32 rfl ?_
    refine az_callV C Y_X3_reachCount cX3 0 0 [] [.int (nI k)] wm_L_157 wi_X3_reachCount wse_X3_reachCount dL_state_33 rfl rfl rfl (XreachCount hG) rfl (Nat.le_of_ble_eq_true rfl) (Nat.le_of_ble_eq_true rfl) (Nat.le_of_ble_eq_true rfl) hk9 hn9 (az_k1 rfl rfl ?_) (az_k0 rfl)
    refine az_top (nI nr) hr ?_
    refine az_iconst C (v := 1) dL_state_36 (by decide) ?_
    refine az_isub C dL_state_37 ?_
    refine az_top (nI (nr - 1)) (show nI nr - 1 = nI (nr - 1) from pk_sub (b := 1) (by omega)) ?_
    refine az_icmp_ge C 66 dL_state_38 (by decide) (fun q => absurd q (nlt_nle (show k < (nr - 1) by omega) (by omega))) (fun _ => ?_)
    refine az_aload_n C 1 dL_state_41 rfl ?_
    refine az_bipush C (v := 6) dL_state_42 (by decide) ?_
    refine az_iload_n C 0 dL_state_44 rfl ?_
    refine az_iadd C dL_state_45 ?_
    refine az_top (nI (6 + k)) (nI_add 6 k) ?_
    refine az_aload_n C 2 dL_state_46 rfl ?_
    refine az_iload_n C 0 dL_state_47 rfl ?_
    refine az_callH C Y_L_isFull [.ref (ρ.1 0), .int (nI k)] [.int (nI (6 + k)), .ref (ρ.1 101)] wm_L_163 wst_L_isFull dL_state_48 rfl (H_isFull (ρ := ρ) (x := x) (m := m) (ou := ou) hG (nI k) (by decide) (XisFull1 hG nr k hr hn (by omega)) (hq_b (fuX_01 (x := x) (k := k))) (fun _ _ _ h => hq_x h)) rfl (Nat.le_of_ble_eq_true rfl) (Nat.le_of_ble_eq_true rfl) (Nat.le_of_ble_eq_true rfl) hk9 hn9 (az_k1 rfl rfl ?_) (az_k0 rfl)
    refine az_iconst C (v := 2) dL_state_51 (by decide) ?_
    refine az_aload_n C 2 dL_state_52 rfl ?_
    refine az_iload_n C 0 dL_state_53 rfl ?_
    refine az_callH C Y_L_waterThrough [.ref (ρ.1 0), .int (nI k)] [.int 2, .int (fuX x k), .int (nI (6 + k)), .ref (ρ.1 101)] wm_L_165 wst_L_waterThrough dL_state_54 rfl (H_waterThrough (ρ := ρ) (x := x) (m := m) (ou := ou) hG (nI k) (by decide) (XwaterThrough1 hG nr k hr hn (by omega)) hq_v (fun _ _ _ h => hq_x h)) rfl (Nat.le_of_ble_eq_true rfl) (Nat.le_of_ble_eq_true rfl) (Nat.le_of_ble_eq_true rfl) hk9 hn9 (az_k1 rfl rfl ?_) (az_k0 rfl)
    refine az_imul C dL_state_57 ?_
    refine az_iadd C dL_state_58 ?_
    refine az_iastN C 2 1 ((6 + k)) dL_state_59 rfl (KZ hz1) (by omega) (by decide) (az_to rfl (K' := (KK G ρ x (zI m 1 ((6 + k)) ((fuX x k + (2 * x.1 5 k)))) ou)) (KK_Z hz1) ?_)
    refine az_iinc C 0 (v := nI (k + 1)) (lv' := [(2, .int (nI (k + 1))), (1, .ref (ρ.1 101)), (0, .ref (ρ.1 0))]) dL_state_60 rfl (nI_1 k) (by decide) rfl ?_
    refine az_goto C 31 dL_state_63 (by decide) ?_
    exact az_lv [0, 1, 2] rfl (ih (Lsb1Fm x m k) (k + 1) (by omega) hz1 hx)

def Lsc1Fm (x : Xs) (m : Mz) (k : Nat) : Mz := (zI m 1 ((11 + k)) (x.2.1 k 4))
def Lsc1F (x : Xs) : Nat → Mz → Nat → Mz
  | 0, m, _ => m
  | n + 1, m, k => Lsc1F x n (Lsc1Fm x m k) (k + 1)
set_option maxHeartbeats 4000000 in
set_option maxRecDepth 100000 in
theorem Lsc1 (hG : az_okS l G) {p : Program} {e : Env} {s : State} {mm : MethodId} {args : Array Value} {below : List Frame} {meth : Method} {c : Code} (C : az_C l G p s mm args meth c cL_state yL_state.cls 3 (Option.some (FieldType.array FieldType.int)) []) {Qx : State → Prop} {k9 n9 mc ms : Nat} (hk9 : k9 ≤ mc) (hn9 : n9 ≤ ms) (nr : Nat) (hn : nr ≤ 6) (h1 : 1 ≤ nr) (hr : x.1 1 8 = nI nr) (ha : ∀ k, k < nr → ¬ x.1 2 k < 1) (mv : Nat) (hm : x.1 8 3 = nI mv) (hmv : mv < 100000) (hc : mv ≤ ρ.2.2.2.1) (hc2 : ρ.2.2.2.1 < 2 ^ 31) (nb : Nat) (hb : x.1 0 7 = nI nb) (hnb : nb = ρ.2.2.2.2.2) (hn8 : nb ≤ 8) : ∀ (n : Nat) (m : Mz) (k : Nat) (hk : k + n = nb) (hz1 : m.2 1 = true), az_W l G 3 Qx p e (az_rm 11 mc ms) s mm args below meth c (AD ρ) (KK G ρ x (Lsc1F x n m k) ou) k9 n9 93 [(2, .int (nI nb)), (1, .ref (ρ.1 101)), (0, .ref (ρ.1 0))] [] → az_W l G 3 Qx p e (az_rm 11 mc ms) s mm args below meth c (AD ρ) (KK G ρ x m ou) k9 n9 68 [(2, .int (nI k)), (1, .ref (ρ.1 101)), (0, .ref (ρ.1 0))] [] := by
  intro n
  induction n with
  | zero =>
    intro m k hk hz1 hx
    have hkk : k = nb := by omega
    rw [hkk]
    refine az_iload_n C 0 dL_state_68 rfl ?_
    refine az_aload_n C 2 dL_state_69 rfl ?_
    refine az_callV C Y_X3_bargeCount cX3 0 0 [] [.int (nI nb)] wm_L_167 wi_X3_bargeCount wse_X3_bargeCount dL_state_70 rfl rfl rfl (XbargeCount hG) rfl (Nat.le_of_ble_eq_true rfl) (Nat.le_of_ble_eq_true rfl) (Nat.le_of_ble_eq_true rfl) hk9 hn9 (az_k1 rfl rfl ?_) (az_k0 rfl)
    refine az_top (nI nb) hb ?_
    refine az_icmp_ge C 93 dL_state_73 (by decide) (fun _ => ?_) (fun q => absurd (Int32.le_refl _) q)
    exact az_lv [0, 1, 2] rfl hx
  | succ n ih =>
    intro m k hk hz1 hx
    refine az_iload_n C 0 dL_state_68 rfl ?_
    refine az_aload_n C 2 dL_state_69 rfl ?_
    refine az_callV C Y_X3_bargeCount cX3 0 0 [] [.int (nI k)] wm_L_167 wi_X3_bargeCount wse_X3_bargeCount dL_state_70 rfl rfl rfl (XbargeCount hG) rfl (Nat.le_of_ble_eq_true rfl) (Nat.le_of_ble_eq_true rfl) (Nat.le_of_ble_eq_true rfl) hk9 hn9 (az_k1 rfl rfl ?_) (az_k0 rfl)
    refine az_top (nI nb) hb ?_
    refine az_icmp_ge C 93 dL_state_73 (by decide) (fun q => absurd q (nlt_nle (show k < nb by omega) (by omega))) (fun _ => ?_)
    refine az_aload_n C 1 dL_state_76 rfl ?_
    refine az_bipush C (v := 11) dL_state_77 (by decide) ?_
    refine az_iload_n C 0 dL_state_79 rfl ?_
    refine az_iadd C dL_state_80 ?_
    refine az_top (nI (11 + k)) (nI_add 11 k) ?_
    refine az_aload_n C 2 dL_state_81 rfl ?_
    refine az_iload_n C 0 dL_state_82 rfl ?_
    refine az_callH C Y_L_reachOf [.ref (ρ.1 0), .int (nI k)] [.int (nI (11 + k)), .ref (ρ.1 101)] wm_L_170 wst_L_reachOf dL_state_83 rfl (H_reachOf (ρ := ρ) (x := x) (m := m) (ou := ou) hG (nI k) (by decide) (XreachOf1 hG nb k hb hnb hn8 (by omega)) hq_v (fun _ _ _ h => hq_x h)) rfl (Nat.le_of_ble_eq_true rfl) (Nat.le_of_ble_eq_true rfl) (Nat.le_of_ble_eq_true rfl) hk9 hn9 (az_k1 rfl rfl ?_) (az_k0 rfl)
    refine az_iastN C 2 1 ((11 + k)) dL_state_86 rfl (KZ hz1) (by omega) (by decide) (az_to rfl (K' := (KK G ρ x (zI m 1 ((11 + k)) (x.2.1 k 4)) ou)) (KK_Z hz1) ?_)
    refine az_iinc C 0 (v := nI (k + 1)) (lv' := [(2, .int (nI (k + 1))), (1, .ref (ρ.1 101)), (0, .ref (ρ.1 0))]) dL_state_87 rfl (nI_1 k) (by decide) rfl ?_
    refine az_goto C 68 dL_state_90 (by decide) ?_
    exact az_lv [0, 1, 2] rfl (ih (Lsc1Fm x m k) (k + 1) (by omega) hz1 hx)

theorem Lsa1_2 : ∀ (c : Nat) (m : Mz) (k : Nat), (Lsa1F x c m k).2 = m.2
  | 0, _, _ => rfl
  | c + 1, m, k => by
    show (Lsa1F x c (Lsa1Fm x m k) (k + 1)).2 = m.2
    rw [Lsa1_2 c _ (k + 1)]
    rfl
theorem Lsa1_z : ∀ (c : Nat) (f : Nat → Int32) (k : Nat), Lsa1F x c (zP m 1 f) k = zP m 1 (upL (fun k => x.1 4 (k + 3)) 0 c f k)
  | 0, _, _ => rfl
  | c + 1, f, k => by
    show Lsa1F x c (zI (zP m 1 f) 1 k (((fun k => x.1 4 (k + 3)) : Nat → Int32) k)) (k + 1) = zP m 1 (upL (fun k => x.1 4 (k + 3)) 0 c (upd f (0 + k) (((fun k => x.1 4 (k + 3)) : Nat → Int32) k)) (k + 1))
    rw [zI_zP, Lsa1_z c _ (k + 1), Nat.zero_add]
theorem Lsb1_2 : ∀ (c : Nat) (m : Mz) (k : Nat), (Lsb1F x c m k).2 = m.2
  | 0, _, _ => rfl
  | c + 1, m, k => by
    show (Lsb1F x c (Lsb1Fm x m k) (k + 1)).2 = m.2
    rw [Lsb1_2 c _ (k + 1)]
    rfl
theorem Lsb1_z : ∀ (c : Nat) (f : Nat → Int32) (k : Nat), Lsb1F x c (zP m 1 f) k = zP m 1 (upL (fun k => fuX x k + 2 * x.1 5 k) 6 c f k)
  | 0, _, _ => rfl
  | c + 1, f, k => by
    show Lsb1F x c (zI (zP m 1 f) 1 (6 + k) (((fun k => fuX x k + 2 * x.1 5 k) : Nat → Int32) k)) (k + 1) = zP m 1 (upL (fun k => fuX x k + 2 * x.1 5 k) 6 c (upd f (6 + k) (((fun k => fuX x k + 2 * x.1 5 k) : Nat → Int32) k)) (k + 1))
    rw [zI_zP, Lsb1_z c _ (k + 1)]
theorem Lsc1_2 : ∀ (c : Nat) (m : Mz) (k : Nat), (Lsc1F x c m k).2 = m.2
  | 0, _, _ => rfl
  | c + 1, m, k => by
    show (Lsc1F x c (Lsc1Fm x m k) (k + 1)).2 = m.2
    rw [Lsc1_2 c _ (k + 1)]
    rfl
theorem Lsc1_z : ∀ (c : Nat) (f : Nat → Int32) (k : Nat), Lsc1F x c (zP m 1 f) k = zP m 1 (upL (fun k => x.2.1 k 4) 11 c f k)
  | 0, _, _ => rfl
  | c + 1, f, k => by
    show Lsc1F x c (zI (zP m 1 f) 1 (11 + k) (((fun k => x.2.1 k 4) : Nat → Int32) k)) (k + 1) = zP m 1 (upL (fun k => x.2.1 k 4) 11 c (upd f (11 + k) (((fun k => x.2.1 k 4) : Nat → Int32) k)) (k + 1))
    rw [zI_zP, Lsc1_z c _ (k + 1)]
theorem st_m1 {nr nb mv : Nat} : zI (zI (Lsc1F x nb (Lsb1F x (nr - 1) (Lsa1F x nr (zN m 1) 0) 0) 0) 1 19 (nI mv)) 1 20 (x.1 4 1) = zP m 1 (stA x nr nb mv) := by
  rw [zN_zP, Lsa1_z, Lsb1_z, Lsc1_z, zI_zP, zI_zP]
  rfl
set_option maxHeartbeats 4000000 in
set_option maxRecDepth 100000 in
theorem Xstate1 (hG : az_okS l G) (nr : Nat) (hn : nr ≤ 6) (h1 : 1 ≤ nr) (hr : x.1 1 8 = nI nr) (ha : ∀ k, k < nr → ¬ x.1 2 k < 1) (mv : Nat) (hm : x.1 8 3 = nI mv) (hmv : mv < 100000) (hc : mv ≤ ρ.2.2.2.1) (hc2 : ρ.2.2.2.1 < 2 ^ 31) (nb : Nat) (hb : x.1 0 7 = nI nb) (hnb : nb = ρ.2.2.2.2.2) (hn8 : nb ≤ 8) : az_M l G yL_state (az_ws yL_state cL_state 3 (Option.some (FieldType.array FieldType.int))) 11 [.ref (ρ.1 0)] (AD ρ) (KK G ρ x m ou) 1 24 (fun o ad' K' => ∃ q : Nat, o = .inl (some (.ref ((rN ρ 1 q).1 101))) ∧ ad' = AD (rN ρ 1 q) ∧ K' = KK G (rN ρ 1 q) x (zP m 1 (stA x nr nb mv)) ou) := by
  refine az_start hG.1 (by decide +kernel) (Nat.le_of_ble_eq_true rfl) ?_
  intro p e s mm args below meth c C hnm
  show az_W l G 3 _ p e _ s mm args below meth c _ _ 0 0 0 [(0, .ref (ρ.1 0))] []
  have hcl : 0 + 1 ≤ 1 := Nat.le_refl 1
  have hsl : 0 + 24 ≤ 24 := Nat.le_refl 24
  refine az_bipush C (v := 24) dL_state_0 (by decide) ?_
  refine az_newa C 0 .int rfl rfl (fun U cA h => va_nm_int h) 2 1 24 (24, (.inl (fun _ => 0))) (fun cA => rfl) wa_int (by decide) (by decide) (by decide) (Nat.le_of_ble_eq_true rfl) (Nat.le_of_ble_eq_true rfl) dL_state_2 (fun q9 => ?_)
  refine az_to (ad' := AD (rN ρ 1 q9)) (K' := KK G (rN ρ 1 q9) x (zN m 1) ou) AD_N (KK_N (by decide)) ?_
  refine az_st [.ref ((rN ρ 1 q9).1 101)] (by rw [show (rN ρ 1 q9).1 101 = q9 from rN_q (i := 1)]) ?_
  have hz1 : (zN m 1).2 1 = true := up1_s (f := m.2) (p := 1) (v := true)
  refine az_astore_n C (lv' := [(1, .ref ((rN ρ 1 q9).1 101)), (0, .ref (ρ.1 0))]) (j := 1) rfl dL_state_4 (by decide) rfl ?_
  refine az_iconst C (v := 0) dL_state_5 (by decide) ?_
  refine az_istore_n C (lv' := [(2, .int 0), (1, .ref ((rN ρ 1 q9).1 101)), (0, .ref (ρ.1 0))]) (j := 2) rfl dL_state_6 (by decide) rfl ?_
  refine az_lv [0, 1, 2] rfl (Lsa1 (ρ := (rN ρ 1 q9)) hG C hcl hsl nr hn h1 hr ha mv hm hmv hc hc2 nb hb hnb hn8 nr (zN m 1) 0 (by omega) hz1 ?_)
  have hz1 : (Lsa1F x nr (zN m 1) 0).2 1 = true := by rw [Lsa1_2]; exact hz1
  refine az_iconst C (v := 0) dL_state_29 (by decide) ?_
  refine az_istore_n C (lv' := [(2, .int 0), (1, .ref ((rN ρ 1 q9).1 101)), (0, .ref (ρ.1 0))]) (j := 2) rfl dL_state_30 (by decide) rfl ?_
  refine az_lv [0, 1, 2] rfl (Lsb1 (ρ := (rN ρ 1 q9)) hG C hcl hsl nr hn h1 hr ha mv hm hmv hc hc2 nb hb hnb hn8 (nr - 1) (Lsa1F x nr (zN m 1) 0) 0 (by omega) hz1 ?_)
  have hz1 : (Lsb1F x (nr - 1) (Lsa1F x nr (zN m 1) 0) 0).2 1 = true := by rw [Lsb1_2]; exact hz1
  refine az_iconst C (v := 0) dL_state_66 (by decide) ?_
  refine az_istore_n C (lv' := [(2, .int 0), (1, .ref ((rN ρ 1 q9).1 101)), (0, .ref (ρ.1 0))]) (j := 2) rfl dL_state_67 (by decide) rfl ?_
  refine az_lv [0, 1, 2] rfl (Lsc1 (ρ := (rN ρ 1 q9)) hG C hcl hsl nr hn h1 hr ha mv hm hmv hc hc2 nb hb hnb hn8 nb (Lsb1F x (nr - 1) (Lsa1F x nr (zN m 1) 0) 0) 0 (by omega) hz1 ?_)
  have hz1 : (Lsc1F x nb (Lsb1F x (nr - 1) (Lsa1F x nr (zN m 1) 0) 0) 0).2 1 = true := by rw [Lsc1_2]; exact hz1
  refine az_aload_n C 1 dL_state_93 rfl ?_
  refine az_bipush C (v := 19) dL_state_94 (by decide) ?_
  refine az_aload_n C 2 dL_state_96 rfl ?_
  refine az_callV C Y_X3_movementCount cX3 0 0 [] [.int 19, .ref ((rN ρ 1 q9).1 101)] wm_L_172 wi_X3_movementCount wse_X3_movementCount dL_state_97 rfl rfl rfl (XmovementCount hG) rfl (Nat.le_of_ble_eq_true rfl) (Nat.le_of_ble_eq_true rfl) (Nat.le_of_ble_eq_true rfl) hcl hsl (az_k1 rfl rfl ?_) (az_k0 rfl)
  refine az_top (nI mv) hm ?_
  refine az_iastN C 2 1 19 dL_state_100 rfl (KZ hz1) (by decide) (by decide) (az_to rfl (K' := (KK G (rN ρ 1 q9) x (zI (Lsc1F x nb (Lsb1F x (nr - 1) (Lsa1F x nr (zN m 1) 0) 0) 0) 1 19 (nI mv)) ou)) (KK_Z hz1) ?_)
  refine az_aload_n C 1 dL_state_101 rfl ?_
  refine az_bipush C (v := 20) dL_state_102 (by decide) ?_
  refine az_aload_n C 2 dL_state_104 rfl ?_
  refine az_callV C Y_X3_seaTotal cX3 0 0 [] [.int 20, .ref ((rN ρ 1 q9).1 101)] wm_L_175 wi_X3_seaTotal wse_X3_seaTotal dL_state_105 rfl rfl rfl (XseaTotal hG) rfl (Nat.le_of_ble_eq_true rfl) (Nat.le_of_ble_eq_true rfl) (Nat.le_of_ble_eq_true rfl) hcl hsl (az_k1 rfl rfl ?_) (az_k0 rfl)
  refine az_iastN C 2 1 20 dL_state_108 rfl (KZ hz1) (by decide) (by decide) (az_to rfl (K' := (KK G (rN ρ 1 q9) x (zI (zI (Lsc1F x nb (Lsb1F x (nr - 1) (Lsa1F x nr (zN m 1) 0) 0) 0) 1 19 (nI mv)) 1 20 (x.1 4 1)) ou)) (KK_Z hz1) ?_)
  refine az_aload_n C 1 dL_state_109 rfl ?_
  exact az_aret C (.array .int) rfl (Or.inr ⟨_, rfl⟩) (Or.inr ⟨_, rfl⟩) dL_state_110 hcl hsl ⟨q9, rfl, rfl, by rw [st_m1]⟩

def LsmFu9 (m : Mz) (u9 : Int32) (k : Nat) : Int32 := (u9 &&& (if ¬ m.1 0 k = m.1 1 k then 0 else 1))
def LsmF : Nat → Mz → Int32 → Nat → Int32
  | 0, m, u9, _ => u9
  | n + 1, m, u9, k => LsmF n m (LsmFu9 m u9 k) (k + 1)
set_option maxHeartbeats 4000000 in
set_option maxRecDepth 100000 in
theorem Lsm (hG : az_okS l G) {p : Program} {e : Env} {s : State} {mm : MethodId} {args : Array Value} {below : List Frame} {meth : Method} {c : Code} (C : az_C l G p s mm args meth c cL_same yL_same.cls 4 (Option.some FieldType.boolean) []) {Qx : State → Prop}  : ∀ (n : Nat) (m : Mz) (u9 : Int32) (k : Nat) (hk : k + n = 24) (hz0 : m.2 0 = true) (hz1 : m.2 1 = true), az_W l G 4 Qx p e (az_rm 1 0 0) s mm args below meth c (AD ρ) (KK G ρ x m ou) 0 0 33 [(3, .int (nI 24)), (2, .int ((LsmF n m u9 k))), (1, .ref (ρ.1 101)), (0, .ref (ρ.1 100))] [] → az_W l G 4 Qx p e (az_rm 1 0 0) s mm args below meth c (AD ρ) (KK G ρ x m ou) 0 0 4 [(3, .int (nI k)), (2, .int u9), (1, .ref (ρ.1 101)), (0, .ref (ρ.1 100))] [] := by
  intro n
  induction n with
  | zero =>
    intro m u9 k hk hz0 hz1 hx
    have hkk : k = 24 := by omega
    rw [hkk]
    refine az_iload_n C 0 dL_same_4 rfl ?_
    refine az_aload_n C 3 dL_same_5 rfl ?_
    refine az_alen C 2 0 (z := 0) (cy := (G.2.2.1 0, .int)) dL_same_6 rfl (KZ hz0) rfl ?_
    refine az_icmp_ge C 33 dL_same_7 (by decide) (fun _ => ?_) (fun q => absurd (Int32.le_refl _) q)
    exact az_lv [0, 1, 2, 3] rfl hx
  | succ n ih =>
    intro m u9 k hk hz0 hz1 hx
    refine az_iload_n C 0 dL_same_4 rfl ?_
    refine az_aload_n C 3 dL_same_5 rfl ?_
    refine az_alen C 2 0 (z := 0) (cy := (G.2.2.1 0, .int)) dL_same_6 rfl (KZ hz0) rfl ?_
    refine az_icmp_ge C 33 dL_same_7 (by decide) (fun q => absurd q (nlt_nle (show k < 24 by omega) (by omega))) (fun _ => ?_)
    refine az_iload_n C 1 dL_same_10 rfl ?_
    refine az_aload_n C 3 dL_same_11 rfl ?_
    refine az_iload_n C 0 dL_same_12 rfl ?_
    refine az_ialdN C 2 0 k (v := m.1 0 k) dL_same_13 rfl (KZ hz0) (by omega) (by decide) rfl ?_
    refine az_aload_n C 2 dL_same_14 rfl ?_
    refine az_iload_n C 0 dL_same_15 rfl ?_
    refine az_ialdN C 2 1 k (v := m.1 1 k) dL_same_16 rfl (KZ hz1) (by omega) (by decide) rfl ?_
    suffices J1 : az_W l G 4 _ p e _ s mm args below meth c (AD ρ) (KK G ρ x m ou) _ _ 25 [(3, .int (nI k)), (2, .int u9), (1, .ref (ρ.1 101)), (0, .ref (ρ.1 100))] [.int ((if ¬ m.1 0 k = m.1 1 k then 0 else 1)), .int u9] by
      refine az_icmp_ne C 24 dL_same_17 (by decide) (fun c2 => ?_) (fun c2 => ?_)
      · refine az_iconst C (v := 0) dL_same_24 (by decide) ?_
        first | rw [if_pos (show ¬ m.1 0 k = m.1 1 k from c2)] at J1 ⊢ | rw [if_pos (show ¬ m.1 0 k = m.1 1 k from c2)] at J1
        exact az_lv [0, 1, 2, 3] rfl J1
      · refine az_iconst C (v := 1) dL_same_20 (by decide) ?_
        refine az_goto C 25 dL_same_21 (by decide) ?_
        first | rw [if_neg (show ¬ (¬ m.1 0 k = m.1 1 k) from fun z => z c2)] at J1 ⊢ | rw [if_neg (show ¬ (¬ m.1 0 k = m.1 1 k) from fun z => z c2)] at J1
        exact az_lv [0, 1, 2, 3] rfl J1
    refine az_iand C dL_same_25 ?_
    refine az_istore_n C (lv' := [(2, .int ((u9 &&& (if ¬ m.1 0 k = m.1 1 k then 0 else 1)))), (3, .int (nI k)), (1, .ref (ρ.1 101)), (0, .ref (ρ.1 100))]) (j := 2) rfl dL_same_26 (by decide) rfl ?_
    refine az_iinc C 1 (v := nI (k + 1)) (lv' := [(3, .int (nI (k + 1))), (2, .int ((u9 &&& (if ¬ m.1 0 k = m.1 1 k then 0 else 1)))), (1, .ref (ρ.1 101)), (0, .ref (ρ.1 100))]) dL_same_27 rfl (nI_1 k) (by decide) rfl ?_
    refine az_goto C 4 dL_same_30 (by decide) ?_
    exact az_lv [0, 1, 2, 3] rfl (ih m (LsmFu9 m u9 k) (k + 1) (by omega) hz0 hz1 hx)

theorem lsm_1 (hs : ∀ j, j < 24 → m.1 0 j = m.1 1 j) : ∀ (f k : Nat), k + f = 24 → LsmF f m 1 k = 1
  | 0, _, _ => rfl
  | f + 1, k, h => by
    show LsmF f m (LsmFu9 m 1 k) (k + 1) = 1
    have e : LsmFu9 m 1 k = 1 := by
      unfold LsmFu9
      rw [if_neg (fun z => z (hs k (by omega)))]
      decide
    rw [e]
    exact lsm_1 hs f (k + 1) (by omega)
set_option maxHeartbeats 4000000 in
set_option maxRecDepth 100000 in
theorem Xsame (hG : az_okS l G) (hz0 : m.2 0 = true) (hz1 : m.2 1 = true) (hs : ∀ j, j < 24 → m.1 0 j = m.1 1 j) : az_M l G yL_same (az_ws yL_same cL_same 4 (Option.some FieldType.boolean)) 1 [.ref (ρ.1 100), .ref (ρ.1 101)] (AD ρ) (KK G ρ x m ou) 0 0 (az_r (some (.int 1)) (AD ρ) (KK G ρ x m ou)) := by
  refine az_start hG.1 (by decide +kernel) (Nat.le_of_ble_eq_true rfl) ?_
  intro p e s mm args below meth c C hnm
  show az_W l G 4 _ p e _ s mm args below meth c _ _ 0 0 0 [(0, .ref (ρ.1 100)), (1, .ref (ρ.1 101))] []
  refine az_iconst C (v := 1) dL_same_0 (by decide) ?_
  refine az_istore_n C (lv' := [(2, .int 1), (0, .ref (ρ.1 100)), (1, .ref (ρ.1 101))]) (j := 2) rfl dL_same_1 (by decide) rfl ?_
  refine az_iconst C (v := 0) dL_same_2 (by decide) ?_
  refine az_istore_n C (lv' := [(3, .int 0), (2, .int 1), (0, .ref (ρ.1 100)), (1, .ref (ρ.1 101))]) (j := 3) rfl dL_same_3 (by decide) rfl ?_
  refine az_lv [0, 1, 3, 2] rfl (Lsm hG C  24 m 1 0 (by omega) hz0 hz1 ?_)
  refine az_iload_n C 1 dL_same_33 rfl ?_
  refine az_top (1) (lsm_1 hs 24 0 (by omega)) ?_
  exact az_zret C .boolean rfl rfl dL_same_34 (Nat.le_of_ble_eq_true rfl) (Nat.le_of_ble_eq_true rfl) ⟨rfl, rfl, rfl⟩

end
