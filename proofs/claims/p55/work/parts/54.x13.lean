section
variable {l : Launch} {G : az_G} {ρ : Rp} {x : Xs} {m : Mz} {ou : Nat → Int64}
/-- one movement of water -/
def sdX (x : Xs) (n : Nat) (u : Int32) (a : Nat) (v : Int32) (b : Nat) (w : Int32) : Xs := addX (xI (xI x 4 a (x.1 4 a - w)) 4 b ((xI x 4 a (x.1 4 a - w)).1 4 b + w)) n u v w
theorem RowZ_w {x' : Xs} (h : RowZ ρ x) (h0 : ∀ j, x'.1 20 j = x.1 20 j) (h1 : ∀ j, x'.1 21 j = x.1 21 j) (h2 : ∀ j, x'.1 22 j = x.1 22 j) : RowZ ρ x' := fun j hj => ⟨(h0 j).trans (h j hj).1, (h1 j).trans (h j hj).2.1, (h2 j).trans (h j hj).2.2⟩
theorem RowZ_add {n : Nat} {u v w : Int32} {a : Nat → Nat} (h : RowZ ρ x) (hn : n ≤ ρ.2.2.2.1) (h0 : 0 < ρ.2.2.2.1) : RowZ (gR ρ a (capT ρ.2.2.2.1 (n + 1))) (addX x n u v w) := by
  intro j hj
  have hj' : capT ρ.2.2.2.1 (n + 1) ≤ j := hj
  have h1 : n + 1 ≤ capT ρ.2.2.2.1 (n + 1) := capT_n (by omega)
  have h2 : ρ.2.2.2.1 ≤ capT ρ.2.2.2.1 (n + 1) := capT_ge
  have hne : j ≠ n := by omega
  have hz := h j (by omega)
  refine ⟨?_, ?_, ?_⟩
  · simp only [addX, xI]
    rw [up2_p (by decide), up2_p (by decide), up2_p (by decide), up2_k hne]; exact hz.1
  · simp only [addX, xI]
    rw [up2_p (by decide), up2_p (by decide), up2_k hne, up2_p (by decide)]; exact hz.2.1
  · simp only [addX, xI]
    rw [up2_p (by decide), up2_k hne, up2_p (by decide), up2_p (by decide)]; exact hz.2.2
set_option maxHeartbeats 4000000 in
set_option maxRecDepth 100000 in
theorem Xst_r1 (hG : az_okS l G) {p : Program} {e : Env} {s : State} {mm : MethodId} {args : Array Value} {below : List Frame} {meth : Method} {c : Code} (C : az_C l G p s mm args meth c cX2_send yX2_send.cls 8 (Option.none : Option FieldType) []) {Qx : State → Prop} {k9 n9 mc ms : Nat} (s9 : Nat) (hs : s9 ≤ 6) (n : Nat) (hm : x.1 8 3 = nI n) (hn : n < 65536) (hc : n ≤ ρ.2.2.2.1) (h256 : 256 ≤ ρ.2.2.2.1) (hc2 : ρ.2.2.2.1 < 2 ^ 20) (hz : RowZ ρ x) (u : Int32) (a : Nat) (hu : u - (-3) = nI a) (ha : a < 18) (nr : Nat) (hr : x.1 1 8 = nI nr) (hn6 : nr ≤ 6) (k : Nat) (hk : k + 1 < nr) (w : Int32) (hw : 0 < w) (hcl : k9 + ((capT ρ.2.2.2.1 (n + 1)) - ρ.2.2.2.1) ≤ mc) (hsl : n9 + 6 * ((capT ρ.2.2.2.1 (n + 1)) - ρ.2.2.2.1) ≤ ms) (hx : ∀ a9 : Nat → Nat, a9 23 = ρ.2.1 23 → az_W l G 8 Qx p e (az_rm 4 mc ms) s mm args below meth c (AD (gR ρ a9 (capT ρ.2.2.2.1 (n + 1)))) (KK G (gR ρ a9 (capT ρ.2.2.2.1 (n + 1))) (sdX x n u a (nI k) (k + 3) w) m ou) (k9 + ((capT ρ.2.2.2.1 (n + 1)) - ρ.2.2.2.1)) (n9 + 6 * ((capT ρ.2.2.2.1 (n + 1)) - ρ.2.2.2.1)) 12 [(7, .int (nI (s9 + 1))), (6, .int ((sdX x n u a (nI k) (k + 3) w).1 4 (k + 3) - 60 * (sdX x n u a (nI k) (k + 3) w).1 2 k)), (5, .int (nI (k + 1))), (4, .int (nI k)), (0, .ref (ρ.1 1))] []) : az_W l G 8 Qx p e (az_rm 4 mc ms) s mm args below meth c (AD ρ) (KK G ρ x m ou) k9 n9 12 [(7, .int (nI s9)), (6, .int w), (5, .int (nI k)), (4, .int u), (0, .ref (ρ.1 1))] [] := by
  refine az_iload C 0 dX2_send_12 rfl ?_
  refine az_bipush C (v := 6) dX2_send_14 (by decide) ?_
  refine az_icmp_gt C 107 dX2_send_16 (by decide) (fun q => absurd q (Int32.not_lt.mpr (show nI s9 ≤ 6 from nI_leT hs (by decide)))) (fun _ => ?_)
  refine az_iload C 1 dX2_send_19 rfl ?_
  refine az_if_le C 107 dX2_send_21 (by decide) (fun q => absurd q (Int32.not_le.mpr hw)) (fun _ => ?_)
  refine az_aload_n C 4 dX2_send_24 rfl ?_
  refine az_get C cX2 0 1 2 (v := .ref (ρ.1 4)) wl_X2_18 dX2_send_25 rfl rfl rfl (by decide) ?_
  refine az_iload C 3 dX2_send_28 rfl ?_
  refine az_bipush C (v := (-3)) dX2_send_30 (by decide) ?_
  refine az_isub C dX2_send_32 ?_
  refine az_top (nI a) hu ?_
  refine az_dup2 C dX2_send_33 rfl rfl ?_
  refine az_ialdN C 0 4 a (v := x.1 4 a) dX2_send_34 rfl rfl ha (by decide) rfl ?_
  refine az_iload C 1 dX2_send_35 rfl ?_
  refine az_isub C dX2_send_37 ?_
  refine az_iastN C 0 4 a dX2_send_38 rfl rfl ha (by decide) (az_to rfl (K' := (KK G ρ (xI x 4 a ((x.1 4 a - w))) m ou)) (KK_X rfl) ?_)
  refine az_aload_n C 4 dX2_send_39 rfl ?_
  refine az_get C cX2 0 1 2 (v := .ref (ρ.1 4)) wl_X2_18 dX2_send_40 rfl rfl rfl (by decide) ?_
  refine az_iload C 2 dX2_send_43 rfl ?_
  refine az_bipush C (v := (-3)) dX2_send_45 (by decide) ?_
  refine az_isub C dX2_send_47 ?_
  refine az_top (nI (k + 3)) (nI_m3 k) ?_
  refine az_dup2 C dX2_send_48 rfl rfl ?_
  refine az_ialdN C 0 4 ((k + 3)) (v := ((xI x 4 a ((x.1 4 a - w)))).1 4 (k + 3)) dX2_send_49 rfl rfl (show k + 3 < 18 by omega) (by decide) rfl ?_
  refine az_iload C 1 dX2_send_50 rfl ?_
  refine az_iadd C dX2_send_52 ?_
  refine az_iastN C 0 4 ((k + 3)) dX2_send_53 rfl rfl (show k + 3 < 18 by omega) (by decide) (az_to rfl (K' := (KK G ρ (xI (xI x 4 a ((x.1 4 a - w))) 4 ((k + 3)) ((((xI x 4 a ((x.1 4 a - w)))).1 4 (k + 3) + w))) m ou)) (KK_X rfl) ?_)
  refine az_aload_n C 4 dX2_send_54 rfl ?_
  refine az_get C cX2 0 1 6 (v := .ref (ρ.1 8)) wl_X2_33 dX2_send_55 rfl rfl rfl (by decide) ?_
  refine az_iload C 3 dX2_send_58 rfl ?_
  refine az_iload C 2 dX2_send_60 rfl ?_
  refine az_iload C 1 dX2_send_62 rfl ?_
  refine az_callV C Y_X1_add cX1 0 8 [.int u, .int (nI k), .int w] [] wm_X2_49 wi_X1_add wse_X1_add dX2_send_64 rfl rfl rfl (Xadd (x := (xI (xI x 4 a ((x.1 4 a - w))) 4 ((k + 3)) ((((xI x 4 a ((x.1 4 a - w)))).1 4 (k + 3) + w)))) hG n hm hn hc h256 hc2 (RowZ_w hz (fun _ => rfl) (fun _ => rfl) (fun _ => rfl)) u (nI k) w) rfl (Nat.le_of_ble_eq_true rfl) (Nat.le_of_ble_eq_true rfl) (Nat.le_of_ble_eq_true rfl) hcl hsl ?_ (by rintro E ad9 K9 ⟨q9, -, h9, -⟩; cases h9)
  rintro v9 ad9 K9 ⟨a9, ha9, h9, rfl, rfl⟩
  cases h9
  refine az_aload_n C 4 dX2_send_67 rfl ?_
  refine az_iload C 2 dX2_send_68 rfl ?_
  refine az_callV C Y_X2_excess cX2 0 1 [.int (nI k)] [] wm_X2_52 wi_X2_excess wse_X2_excess dX2_send_70 rfl rfl rfl (Xexc_r (ρ := (gR ρ a9 (capT ρ.2.2.2.1 (n + 1)))) (x := (sdX x n u a (nI k) (k + 3) w)) hG nr k hr hn6 (by omega)) rfl (Nat.le_of_ble_eq_true rfl) (Nat.le_of_ble_eq_true rfl) (Nat.le_of_ble_eq_true rfl) (Nat.le_trans (Nat.le_of_eq (Nat.add_zero _)) hcl) (Nat.le_trans (Nat.le_of_eq (Nat.add_zero _)) hsl) (az_k1 rfl rfl ?_) (az_k0 rfl)
  refine az_istore C (lv' := [(6, .int ((sdX x n u a (nI k) (k + 3) w).1 4 (k + 3) - 60 * (sdX x n u a (nI k) (k + 3) w).1 2 k)), (7, .int (nI s9)), (5, .int (nI k)), (4, .int u), (0, .ref (ρ.1 1))]) dX2_send_73 (by decide) rfl ?_
  refine az_iload C 2 dX2_send_75 rfl ?_
  refine az_istore C (lv' := [(4, .int (nI k)), (6, .int ((sdX x n u a (nI k) (k + 3) w).1 4 (k + 3) - 60 * (sdX x n u a (nI k) (k + 3) w).1 2 k)), (7, .int (nI s9)), (5, .int (nI k)), (0, .ref (ρ.1 1))]) dX2_send_77 (by decide) rfl ?_
  refine az_iload C 3 dX2_send_79 rfl ?_
  refine az_iconst C (v := 1) dX2_send_81 (by decide) ?_
  refine az_iadd C dX2_send_82 ?_
  refine az_top (nI (k + 1)) (nI_1 k) ?_
  refine az_aload_n C 4 dX2_send_83 rfl ?_
  refine az_get C cX2 0 1 8 (v := .int ((sdX x n u a (nI k) (k + 3) w).1 1 8)) wl_X2_37 dX2_send_84 rfl rfl rfl (by decide) ?_
  refine az_top (nI nr) hr ?_
  refine az_icmp_ge C 97 dX2_send_87 (by decide) (fun q => absurd q (nlt_nle (show k + 1 < nr by omega) (by omega))) (fun _ => ?_)
  refine az_iload C 3 dX2_send_90 rfl ?_
  refine az_iconst C (v := 1) dX2_send_92 (by decide) ?_
  refine az_iadd C dX2_send_93 ?_
  refine az_top (nI (k + 1)) (nI_1 k) ?_
  refine az_goto C 99 dX2_send_94 (by decide) ?_
  refine az_istore C (lv' := [(5, .int (nI (k + 1))), (4, .int (nI k)), (6, .int ((sdX x n u a (nI k) (k + 3) w).1 4 (k + 3) - 60 * (sdX x n u a (nI k) (k + 3) w).1 2 k)), (7, .int (nI s9)), (0, .ref (ρ.1 1))]) dX2_send_99 (by decide) rfl ?_
  refine az_iinc C 3 (v := nI (s9 + 1)) (lv' := [(7, .int (nI (s9 + 1))), (5, .int (nI (k + 1))), (4, .int (nI k)), (6, .int ((sdX x n u a (nI k) (k + 3) w).1 4 (k + 3) - 60 * (sdX x n u a (nI k) (k + 3) w).1 2 k)), (0, .ref (ρ.1 1))]) dX2_send_101 rfl (nI_1 s9) (by decide) rfl ?_
  refine az_goto C 12 dX2_send_104 (by decide) ?_
  exact az_lv [0, 3, 1, 2, 4] rfl (hx a9 ha9)

set_option maxHeartbeats 4000000 in
set_option maxRecDepth 100000 in
theorem Xst_r2 (hG : az_okS l G) {p : Program} {e : Env} {s : State} {mm : MethodId} {args : Array Value} {below : List Frame} {meth : Method} {c : Code} (C : az_C l G p s mm args meth c cX2_send yX2_send.cls 8 (Option.none : Option FieldType) []) {Qx : State → Prop} {k9 n9 mc ms : Nat} (s9 : Nat) (hs : s9 ≤ 6) (n : Nat) (hm : x.1 8 3 = nI n) (hn : n < 65536) (hc : n ≤ ρ.2.2.2.1) (h256 : 256 ≤ ρ.2.2.2.1) (hc2 : ρ.2.2.2.1 < 2 ^ 20) (hz : RowZ ρ x) (u : Int32) (a : Nat) (hu : u - (-3) = nI a) (ha : a < 18) (nr : Nat) (hr : x.1 1 8 = nI nr) (hn6 : nr ≤ 6) (k : Nat) (hk : k + 1 = nr) (w : Int32) (hw : 0 < w) (hcl : k9 + ((capT ρ.2.2.2.1 (n + 1)) - ρ.2.2.2.1) ≤ mc) (hsl : n9 + 6 * ((capT ρ.2.2.2.1 (n + 1)) - ρ.2.2.2.1) ≤ ms) (hx : ∀ a9 : Nat → Nat, a9 23 = ρ.2.1 23 → az_W l G 8 Qx p e (az_rm 4 mc ms) s mm args below meth c (AD (gR ρ a9 (capT ρ.2.2.2.1 (n + 1)))) (KK G (gR ρ a9 (capT ρ.2.2.2.1 (n + 1))) (sdX x n u a (nI k) (k + 3) w) m ou) (k9 + ((capT ρ.2.2.2.1 (n + 1)) - ρ.2.2.2.1)) (n9 + 6 * ((capT ρ.2.2.2.1 (n + 1)) - ρ.2.2.2.1)) 12 [(7, .int (nI (s9 + 1))), (6, .int ((sdX x n u a (nI k) (k + 3) w).1 4 (k + 3) - 60 * (sdX x n u a (nI k) (k + 3) w).1 2 k)), (5, .int ((-2))), (4, .int (nI k)), (0, .ref (ρ.1 1))] []) : az_W l G 8 Qx p e (az_rm 4 mc ms) s mm args below meth c (AD ρ) (KK G ρ x m ou) k9 n9 12 [(7, .int (nI s9)), (6, .int w), (5, .int (nI k)), (4, .int u), (0, .ref (ρ.1 1))] [] := by
  refine az_iload C 0 dX2_send_12 rfl ?_
  refine az_bipush C (v := 6) dX2_send_14 (by decide) ?_
  refine az_icmp_gt C 107 dX2_send_16 (by decide) (fun q => absurd q (Int32.not_lt.mpr (show nI s9 ≤ 6 from nI_leT hs (by decide)))) (fun _ => ?_)
  refine az_iload C 1 dX2_send_19 rfl ?_
  refine az_if_le C 107 dX2_send_21 (by decide) (fun q => absurd q (Int32.not_le.mpr hw)) (fun _ => ?_)
  refine az_aload_n C 4 dX2_send_24 rfl ?_
  refine az_get C cX2 0 1 2 (v := .ref (ρ.1 4)) wl_X2_18 dX2_send_25 rfl rfl rfl (by decide) ?_
  refine az_iload C 3 dX2_send_28 rfl ?_
  refine az_bipush C (v := (-3)) dX2_send_30 (by decide) ?_
  refine az_isub C dX2_send_32 ?_
  refine az_top (nI a) hu ?_
  refine az_dup2 C dX2_send_33 rfl rfl ?_
  refine az_ialdN C 0 4 a (v := x.1 4 a) dX2_send_34 rfl rfl ha (by decide) rfl ?_
  refine az_iload C 1 dX2_send_35 rfl ?_
  refine az_isub C dX2_send_37 ?_
  refine az_iastN C 0 4 a dX2_send_38 rfl rfl ha (by decide) (az_to rfl (K' := (KK G ρ (xI x 4 a ((x.1 4 a - w))) m ou)) (KK_X rfl) ?_)
  refine az_aload_n C 4 dX2_send_39 rfl ?_
  refine az_get C cX2 0 1 2 (v := .ref (ρ.1 4)) wl_X2_18 dX2_send_40 rfl rfl rfl (by decide) ?_
  refine az_iload C 2 dX2_send_43 rfl ?_
  refine az_bipush C (v := (-3)) dX2_send_45 (by decide) ?_
  refine az_isub C dX2_send_47 ?_
  refine az_top (nI (k + 3)) (nI_m3 k) ?_
  refine az_dup2 C dX2_send_48 rfl rfl ?_
  refine az_ialdN C 0 4 ((k + 3)) (v := ((xI x 4 a ((x.1 4 a - w)))).1 4 (k + 3)) dX2_send_49 rfl rfl (show k + 3 < 18 by omega) (by decide) rfl ?_
  refine az_iload C 1 dX2_send_50 rfl ?_
  refine az_iadd C dX2_send_52 ?_
  refine az_iastN C 0 4 ((k + 3)) dX2_send_53 rfl rfl (show k + 3 < 18 by omega) (by decide) (az_to rfl (K' := (KK G ρ (xI (xI x 4 a ((x.1 4 a - w))) 4 ((k + 3)) ((((xI x 4 a ((x.1 4 a - w)))).1 4 (k + 3) + w))) m ou)) (KK_X rfl) ?_)
  refine az_aload_n C 4 dX2_send_54 rfl ?_
  refine az_get C cX2 0 1 6 (v := .ref (ρ.1 8)) wl_X2_33 dX2_send_55 rfl rfl rfl (by decide) ?_
  refine az_iload C 3 dX2_send_58 rfl ?_
  refine az_iload C 2 dX2_send_60 rfl ?_
  refine az_iload C 1 dX2_send_62 rfl ?_
  refine az_callV C Y_X1_add cX1 0 8 [.int u, .int (nI k), .int w] [] wm_X2_49 wi_X1_add wse_X1_add dX2_send_64 rfl rfl rfl (Xadd (x := (xI (xI x 4 a ((x.1 4 a - w))) 4 ((k + 3)) ((((xI x 4 a ((x.1 4 a - w)))).1 4 (k + 3) + w)))) hG n hm hn hc h256 hc2 (RowZ_w hz (fun _ => rfl) (fun _ => rfl) (fun _ => rfl)) u (nI k) w) rfl (Nat.le_of_ble_eq_true rfl) (Nat.le_of_ble_eq_true rfl) (Nat.le_of_ble_eq_true rfl) hcl hsl ?_ (by rintro E ad9 K9 ⟨q9, -, h9, -⟩; cases h9)
  rintro v9 ad9 K9 ⟨a9, ha9, h9, rfl, rfl⟩
  cases h9
  refine az_aload_n C 4 dX2_send_67 rfl ?_
  refine az_iload C 2 dX2_send_68 rfl ?_
  refine az_callV C Y_X2_excess cX2 0 1 [.int (nI k)] [] wm_X2_52 wi_X2_excess wse_X2_excess dX2_send_70 rfl rfl rfl (Xexc_r (ρ := (gR ρ a9 (capT ρ.2.2.2.1 (n + 1)))) (x := (sdX x n u a (nI k) (k + 3) w)) hG nr k hr hn6 (by omega)) rfl (Nat.le_of_ble_eq_true rfl) (Nat.le_of_ble_eq_true rfl) (Nat.le_of_ble_eq_true rfl) (Nat.le_trans (Nat.le_of_eq (Nat.add_zero _)) hcl) (Nat.le_trans (Nat.le_of_eq (Nat.add_zero _)) hsl) (az_k1 rfl rfl ?_) (az_k0 rfl)
  refine az_istore C (lv' := [(6, .int ((sdX x n u a (nI k) (k + 3) w).1 4 (k + 3) - 60 * (sdX x n u a (nI k) (k + 3) w).1 2 k)), (7, .int (nI s9)), (5, .int (nI k)), (4, .int u), (0, .ref (ρ.1 1))]) dX2_send_73 (by decide) rfl ?_
  refine az_iload C 2 dX2_send_75 rfl ?_
  refine az_istore C (lv' := [(4, .int (nI k)), (6, .int ((sdX x n u a (nI k) (k + 3) w).1 4 (k + 3) - 60 * (sdX x n u a (nI k) (k + 3) w).1 2 k)), (7, .int (nI s9)), (5, .int (nI k)), (0, .ref (ρ.1 1))]) dX2_send_77 (by decide) rfl ?_
  refine az_iload C 3 dX2_send_79 rfl ?_
  refine az_iconst C (v := 1) dX2_send_81 (by decide) ?_
  refine az_iadd C dX2_send_82 ?_
  refine az_top (nI (k + 1)) (nI_1 k) ?_
  refine az_aload_n C 4 dX2_send_83 rfl ?_
  refine az_get C cX2 0 1 8 (v := .int ((sdX x n u a (nI k) (k + 3) w).1 1 8)) wl_X2_37 dX2_send_84 rfl rfl rfl (by decide) ?_
  refine az_top (nI nr) hr ?_
  refine az_icmp_ge C 97 dX2_send_87 (by decide) (fun _ => ?_) (fun q => absurd (nI_leT (show nr ≤ k + 1 by omega) (by omega)) q)
  refine az_bipush C (v := (-2)) dX2_send_97 (by decide) ?_
  refine az_istore C (lv' := [(5, .int ((-2))), (4, .int (nI k)), (6, .int ((sdX x n u a (nI k) (k + 3) w).1 4 (k + 3) - 60 * (sdX x n u a (nI k) (k + 3) w).1 2 k)), (7, .int (nI s9)), (0, .ref (ρ.1 1))]) dX2_send_99 (by decide) rfl ?_
  refine az_iinc C 3 (v := nI (s9 + 1)) (lv' := [(7, .int (nI (s9 + 1))), (5, .int ((-2))), (4, .int (nI k)), (6, .int ((sdX x n u a (nI k) (k + 3) w).1 4 (k + 3) - 60 * (sdX x n u a (nI k) (k + 3) w).1 2 k)), (0, .ref (ρ.1 1))]) dX2_send_101 rfl (nI_1 s9) (by decide) rfl ?_
  refine az_goto C 12 dX2_send_104 (by decide) ?_
  exact az_lv [0, 3, 1, 2, 4] rfl (hx a9 ha9)

set_option maxHeartbeats 4000000 in
set_option maxRecDepth 100000 in
theorem Xst_c (hG : az_okS l G) {p : Program} {e : Env} {s : State} {mm : MethodId} {args : Array Value} {below : List Frame} {meth : Method} {c : Code} (C : az_C l G p s mm args meth c cX2_send yX2_send.cls 8 (Option.none : Option FieldType) []) {Qx : State → Prop} {k9 n9 mc ms : Nat} (s9 : Nat) (hs : s9 ≤ 6) (n : Nat) (hm : x.1 8 3 = nI n) (hn : n < 65536) (hc : n ≤ ρ.2.2.2.1) (h256 : 256 ≤ ρ.2.2.2.1) (hc2 : ρ.2.2.2.1 < 2 ^ 20) (hz : RowZ ρ x) (u : Int32) (a : Nat) (hu : u - (-3) = nI a) (ha : a < 18) (nr : Nat) (hr : x.1 1 8 = nI nr) (hn6 : nr ≤ 6) (k : Nat) (hk : k < 5) (w : Int32) (hw : 0 < w) (hcl : k9 + ((capT ρ.2.2.2.1 (n + 1)) - ρ.2.2.2.1) ≤ mc) (hsl : n9 + 6 * ((capT ρ.2.2.2.1 (n + 1)) - ρ.2.2.2.1) ≤ ms) (hx : ∀ a9 : Nat → Nat, a9 23 = ρ.2.1 23 → az_W l G 8 Qx p e (az_rm 4 mc ms) s mm args below meth c (AD (gR ρ a9 (capT ρ.2.2.2.1 (n + 1)))) (KK G (gR ρ a9 (capT ρ.2.2.2.1 (n + 1))) (sdX x n u a (10 + nI k) (k + 13) w) m ou) (k9 + ((capT ρ.2.2.2.1 (n + 1)) - ρ.2.2.2.1)) (n9 + 6 * ((capT ρ.2.2.2.1 (n + 1)) - ρ.2.2.2.1)) 12 [(7, .int (nI (s9 + 1))), (6, .int 0), (5, .int ((-2))), (4, .int (10 + nI k)), (0, .ref (ρ.1 1))] []) : az_W l G 8 Qx p e (az_rm 4 mc ms) s mm args below meth c (AD ρ) (KK G ρ x m ou) k9 n9 12 [(7, .int (nI s9)), (6, .int w), (5, .int (10 + nI k)), (4, .int u), (0, .ref (ρ.1 1))] [] := by
  have e10 : (10 : Int32) + nI k = nI (10 + k) := nI_add 10 k
  have h10 : ¬ (10 : Int32) + nI k < 0 := by rw [e10]; exact Int32.not_lt.mpr (nI_pos' (by omega))
  have h11 : nI nr ≤ (10 : Int32) + nI k := by rw [e10]; exact nI_leT (by omega) (by omega)
  have h12 : (10 : Int32) + nI k + 1 = nI (10 + k + 1) := by rw [e10]; exact nI_1 _
  refine az_iload C 0 dX2_send_12 rfl ?_
  refine az_bipush C (v := 6) dX2_send_14 (by decide) ?_
  refine az_icmp_gt C 107 dX2_send_16 (by decide) (fun q => absurd q (Int32.not_lt.mpr (show nI s9 ≤ 6 from nI_leT hs (by decide)))) (fun _ => ?_)
  refine az_iload C 1 dX2_send_19 rfl ?_
  refine az_if_le C 107 dX2_send_21 (by decide) (fun q => absurd q (Int32.not_le.mpr hw)) (fun _ => ?_)
  refine az_aload_n C 4 dX2_send_24 rfl ?_
  refine az_get C cX2 0 1 2 (v := .ref (ρ.1 4)) wl_X2_18 dX2_send_25 rfl rfl rfl (by decide) ?_
  refine az_iload C 3 dX2_send_28 rfl ?_
  refine az_bipush C (v := (-3)) dX2_send_30 (by decide) ?_
  refine az_isub C dX2_send_32 ?_
  refine az_top (nI a) hu ?_
  refine az_dup2 C dX2_send_33 rfl rfl ?_
  refine az_ialdN C 0 4 a (v := x.1 4 a) dX2_send_34 rfl rfl ha (by decide) rfl ?_
  refine az_iload C 1 dX2_send_35 rfl ?_
  refine az_isub C dX2_send_37 ?_
  refine az_iastN C 0 4 a dX2_send_38 rfl rfl ha (by decide) (az_to rfl (K' := (KK G ρ (xI x 4 a ((x.1 4 a - w))) m ou)) (KK_X rfl) ?_)
  refine az_aload_n C 4 dX2_send_39 rfl ?_
  refine az_get C cX2 0 1 2 (v := .ref (ρ.1 4)) wl_X2_18 dX2_send_40 rfl rfl rfl (by decide) ?_
  refine az_iload C 2 dX2_send_43 rfl ?_
  refine az_bipush C (v := (-3)) dX2_send_45 (by decide) ?_
  refine az_isub C dX2_send_47 ?_
  refine az_top (nI (k + 13)) (nI_c k) ?_
  refine az_dup2 C dX2_send_48 rfl rfl ?_
  refine az_ialdN C 0 4 ((k + 13)) (v := ((xI x 4 a ((x.1 4 a - w)))).1 4 (k + 13)) dX2_send_49 rfl rfl (show k + 13 < 18 by omega) (by decide) rfl ?_
  refine az_iload C 1 dX2_send_50 rfl ?_
  refine az_iadd C dX2_send_52 ?_
  refine az_iastN C 0 4 ((k + 13)) dX2_send_53 rfl rfl (show k + 13 < 18 by omega) (by decide) (az_to rfl (K' := (KK G ρ (xI (xI x 4 a ((x.1 4 a - w))) 4 ((k + 13)) ((((xI x 4 a ((x.1 4 a - w)))).1 4 (k + 13) + w))) m ou)) (KK_X rfl) ?_)
  refine az_aload_n C 4 dX2_send_54 rfl ?_
  refine az_get C cX2 0 1 6 (v := .ref (ρ.1 8)) wl_X2_33 dX2_send_55 rfl rfl rfl (by decide) ?_
  refine az_iload C 3 dX2_send_58 rfl ?_
  refine az_iload C 2 dX2_send_60 rfl ?_
  refine az_iload C 1 dX2_send_62 rfl ?_
  refine az_callV C Y_X1_add cX1 0 8 [.int u, .int (10 + nI k), .int w] [] wm_X2_49 wi_X1_add wse_X1_add dX2_send_64 rfl rfl rfl (Xadd (x := (xI (xI x 4 a ((x.1 4 a - w))) 4 ((k + 13)) ((((xI x 4 a ((x.1 4 a - w)))).1 4 (k + 13) + w)))) hG n hm hn hc h256 hc2 (RowZ_w hz (fun _ => rfl) (fun _ => rfl) (fun _ => rfl)) u (10 + nI k) w) rfl (Nat.le_of_ble_eq_true rfl) (Nat.le_of_ble_eq_true rfl) (Nat.le_of_ble_eq_true rfl) hcl hsl ?_ (by rintro E ad9 K9 ⟨q9, -, h9, -⟩; cases h9)
  rintro v9 ad9 K9 ⟨a9, ha9, h9, rfl, rfl⟩
  cases h9
  refine az_aload_n C 4 dX2_send_67 rfl ?_
  refine az_iload C 2 dX2_send_68 rfl ?_
  refine az_callV C Y_X2_excess cX2 0 1 [.int (10 + nI k)] [] wm_X2_52 wi_X2_excess wse_X2_excess dX2_send_70 rfl rfl rfl (Xexc_c (ρ := (gR ρ a9 (capT ρ.2.2.2.1 (n + 1)))) (x := (sdX x n u a (10 + nI k) (k + 13) w)) hG nr (10 + nI k) hr h10 h11) rfl (Nat.le_of_ble_eq_true rfl) (Nat.le_of_ble_eq_true rfl) (Nat.le_of_ble_eq_true rfl) (Nat.le_trans (Nat.le_of_eq (Nat.add_zero _)) hcl) (Nat.le_trans (Nat.le_of_eq (Nat.add_zero _)) hsl) (az_k1 rfl rfl ?_) (az_k0 rfl)
  refine az_istore C (lv' := [(6, .int 0), (7, .int (nI s9)), (5, .int (10 + nI k)), (4, .int u), (0, .ref (ρ.1 1))]) dX2_send_73 (by decide) rfl ?_
  refine az_iload C 2 dX2_send_75 rfl ?_
  refine az_istore C (lv' := [(4, .int (10 + nI k)), (6, .int 0), (7, .int (nI s9)), (5, .int (10 + nI k)), (0, .ref (ρ.1 1))]) dX2_send_77 (by decide) rfl ?_
  refine az_iload C 3 dX2_send_79 rfl ?_
  refine az_iconst C (v := 1) dX2_send_81 (by decide) ?_
  refine az_iadd C dX2_send_82 ?_
  refine az_top (nI (10 + k + 1)) h12 ?_
  refine az_aload_n C 4 dX2_send_83 rfl ?_
  refine az_get C cX2 0 1 8 (v := .int ((sdX x n u a (10 + nI k) (k + 13) w).1 1 8)) wl_X2_37 dX2_send_84 rfl rfl rfl (by decide) ?_
  refine az_top (nI nr) hr ?_
  refine az_icmp_ge C 97 dX2_send_87 (by decide) (fun _ => ?_) (fun q => absurd (nI_leT (show nr ≤ 10 + k + 1 by omega) (by omega)) q)
  refine az_bipush C (v := (-2)) dX2_send_97 (by decide) ?_
  refine az_istore C (lv' := [(5, .int ((-2))), (4, .int (10 + nI k)), (6, .int 0), (7, .int (nI s9)), (0, .ref (ρ.1 1))]) dX2_send_99 (by decide) rfl ?_
  refine az_iinc C 3 (v := nI (s9 + 1)) (lv' := [(7, .int (nI (s9 + 1))), (5, .int ((-2))), (4, .int (10 + nI k)), (6, .int 0), (0, .ref (ρ.1 1))]) dX2_send_101 rfl (nI_1 s9) (by decide) rfl ?_
  refine az_goto C 12 dX2_send_104 (by decide) ?_
  exact az_lv [0, 3, 1, 2, 4] rfl (hx a9 ha9)

set_option maxHeartbeats 4000000 in
set_option maxRecDepth 100000 in
theorem Xst_a (hG : az_okS l G) {p : Program} {e : Env} {s : State} {mm : MethodId} {args : Array Value} {below : List Frame} {meth : Method} {c : Code} (C : az_C l G p s mm args meth c cX2_send yX2_send.cls 8 (Option.none : Option FieldType) []) {Qx : State → Prop} {k9 n9 mc ms : Nat} (s9 : Nat) (hs : s9 ≤ 6) (n : Nat) (hm : x.1 8 3 = nI n) (hn : n < 65536) (hc : n ≤ ρ.2.2.2.1) (h256 : 256 ≤ ρ.2.2.2.1) (hc2 : ρ.2.2.2.1 < 2 ^ 20) (hz : RowZ ρ x) (u : Int32) (a : Nat) (hu : u - (-3) = nI a) (ha : a < 18) (nr : Nat) (hr : x.1 1 8 = nI nr) (hn6 : nr ≤ 6)  (w : Int32) (hw : 0 < w) (hcl : k9 + ((capT ρ.2.2.2.1 (n + 1)) - ρ.2.2.2.1) ≤ mc) (hsl : n9 + 6 * ((capT ρ.2.2.2.1 (n + 1)) - ρ.2.2.2.1) ≤ ms) (hx : ∀ a9 : Nat → Nat, a9 23 = ρ.2.1 23 → az_W l G 8 Qx p e (az_rm 4 mc ms) s mm args below meth c (AD (gR ρ a9 (capT ρ.2.2.2.1 (n + 1)))) (KK G (gR ρ a9 (capT ρ.2.2.2.1 (n + 1))) (sdX x n u a ((-3)) 0 w) m ou) (k9 + ((capT ρ.2.2.2.1 (n + 1)) - ρ.2.2.2.1)) (n9 + 6 * ((capT ρ.2.2.2.1 (n + 1)) - ρ.2.2.2.1)) 12 [(7, .int (nI (s9 + 1))), (6, .int 0), (5, .int ((-2))), (4, .int ((-3))), (0, .ref (ρ.1 1))] []) : az_W l G 8 Qx p e (az_rm 4 mc ms) s mm args below meth c (AD ρ) (KK G ρ x m ou) k9 n9 12 [(7, .int (nI s9)), (6, .int w), (5, .int ((-3))), (4, .int u), (0, .ref (ρ.1 1))] [] := by
  refine az_iload C 0 dX2_send_12 rfl ?_
  refine az_bipush C (v := 6) dX2_send_14 (by decide) ?_
  refine az_icmp_gt C 107 dX2_send_16 (by decide) (fun q => absurd q (Int32.not_lt.mpr (show nI s9 ≤ 6 from nI_leT hs (by decide)))) (fun _ => ?_)
  refine az_iload C 1 dX2_send_19 rfl ?_
  refine az_if_le C 107 dX2_send_21 (by decide) (fun q => absurd q (Int32.not_le.mpr hw)) (fun _ => ?_)
  refine az_aload_n C 4 dX2_send_24 rfl ?_
  refine az_get C cX2 0 1 2 (v := .ref (ρ.1 4)) wl_X2_18 dX2_send_25 rfl rfl rfl (by decide) ?_
  refine az_iload C 3 dX2_send_28 rfl ?_
  refine az_bipush C (v := (-3)) dX2_send_30 (by decide) ?_
  refine az_isub C dX2_send_32 ?_
  refine az_top (nI a) hu ?_
  refine az_dup2 C dX2_send_33 rfl rfl ?_
  refine az_ialdN C 0 4 a (v := x.1 4 a) dX2_send_34 rfl rfl ha (by decide) rfl ?_
  refine az_iload C 1 dX2_send_35 rfl ?_
  refine az_isub C dX2_send_37 ?_
  refine az_iastN C 0 4 a dX2_send_38 rfl rfl ha (by decide) (az_to rfl (K' := (KK G ρ (xI x 4 a ((x.1 4 a - w))) m ou)) (KK_X rfl) ?_)
  refine az_aload_n C 4 dX2_send_39 rfl ?_
  refine az_get C cX2 0 1 2 (v := .ref (ρ.1 4)) wl_X2_18 dX2_send_40 rfl rfl rfl (by decide) ?_
  refine az_iload C 2 dX2_send_43 rfl ?_
  refine az_bipush C (v := (-3)) dX2_send_45 (by decide) ?_
  refine az_isub C dX2_send_47 ?_
  refine az_top (nI 0) (by decide) ?_
  refine az_dup2 C dX2_send_48 rfl rfl ?_
  refine az_ialdN C 0 4 0 (v := ((xI x 4 a ((x.1 4 a - w)))).1 4 0) dX2_send_49 rfl rfl (by decide) (by decide) rfl ?_
  refine az_iload C 1 dX2_send_50 rfl ?_
  refine az_iadd C dX2_send_52 ?_
  refine az_iastN C 0 4 0 dX2_send_53 rfl rfl (by decide) (by decide) (az_to rfl (K' := (KK G ρ (xI (xI x 4 a ((x.1 4 a - w))) 4 0 ((((xI x 4 a ((x.1 4 a - w)))).1 4 0 + w))) m ou)) (KK_X rfl) ?_)
  refine az_aload_n C 4 dX2_send_54 rfl ?_
  refine az_get C cX2 0 1 6 (v := .ref (ρ.1 8)) wl_X2_33 dX2_send_55 rfl rfl rfl (by decide) ?_
  refine az_iload C 3 dX2_send_58 rfl ?_
  refine az_iload C 2 dX2_send_60 rfl ?_
  refine az_iload C 1 dX2_send_62 rfl ?_
  refine az_callV C Y_X1_add cX1 0 8 [.int u, .int ((-3)), .int w] [] wm_X2_49 wi_X1_add wse_X1_add dX2_send_64 rfl rfl rfl (Xadd (x := (xI (xI x 4 a ((x.1 4 a - w))) 4 0 ((((xI x 4 a ((x.1 4 a - w)))).1 4 0 + w)))) hG n hm hn hc h256 hc2 (RowZ_w hz (fun _ => rfl) (fun _ => rfl) (fun _ => rfl)) u ((-3)) w) rfl (Nat.le_of_ble_eq_true rfl) (Nat.le_of_ble_eq_true rfl) (Nat.le_of_ble_eq_true rfl) hcl hsl ?_ (by rintro E ad9 K9 ⟨q9, -, h9, -⟩; cases h9)
  rintro v9 ad9 K9 ⟨a9, ha9, h9, rfl, rfl⟩
  cases h9
  refine az_aload_n C 4 dX2_send_67 rfl ?_
  refine az_iload C 2 dX2_send_68 rfl ?_
  refine az_callV C Y_X2_excess cX2 0 1 [.int ((-3))] [] wm_X2_52 wi_X2_excess wse_X2_excess dX2_send_70 rfl rfl rfl (Xexc_n (ρ := (gR ρ a9 (capT ρ.2.2.2.1 (n + 1)))) (x := (sdX x n u a ((-3)) 0 w)) hG (-3) (by decide)) rfl (Nat.le_of_ble_eq_true rfl) (Nat.le_of_ble_eq_true rfl) (Nat.le_of_ble_eq_true rfl) (Nat.le_trans (Nat.le_of_eq (Nat.add_zero _)) hcl) (Nat.le_trans (Nat.le_of_eq (Nat.add_zero _)) hsl) (az_k1 rfl rfl ?_) (az_k0 rfl)
  refine az_istore C (lv' := [(6, .int 0), (7, .int (nI s9)), (5, .int ((-3))), (4, .int u), (0, .ref (ρ.1 1))]) dX2_send_73 (by decide) rfl ?_
  refine az_iload C 2 dX2_send_75 rfl ?_
  refine az_istore C (lv' := [(4, .int ((-3))), (6, .int 0), (7, .int (nI s9)), (5, .int ((-3))), (0, .ref (ρ.1 1))]) dX2_send_77 (by decide) rfl ?_
  refine az_iload C 3 dX2_send_79 rfl ?_
  refine az_iconst C (v := 1) dX2_send_81 (by decide) ?_
  refine az_iadd C dX2_send_82 ?_
  refine az_top ((-2)) (by decide) ?_
  refine az_aload_n C 4 dX2_send_83 rfl ?_
  refine az_get C cX2 0 1 8 (v := .int ((sdX x n u a ((-3)) 0 w).1 1 8)) wl_X2_37 dX2_send_84 rfl rfl rfl (by decide) ?_
  refine az_top (nI nr) hr ?_
  refine az_icmp_ge C 97 dX2_send_87 (by decide) (fun q => absurd q (fun z => absurd z (Int32.not_le.mpr (Int32.lt_of_lt_of_le (by decide) (nI_pos' (show nr < 2 ^ 31 by omega)))))) (fun _ => ?_)
  refine az_iload C 3 dX2_send_90 rfl ?_
  refine az_iconst C (v := 1) dX2_send_92 (by decide) ?_
  refine az_iadd C dX2_send_93 ?_
  refine az_top ((-2)) (by decide) ?_
  refine az_goto C 99 dX2_send_94 (by decide) ?_
  refine az_istore C (lv' := [(5, .int ((-2))), (4, .int ((-3))), (6, .int 0), (7, .int (nI s9)), (0, .ref (ρ.1 1))]) dX2_send_99 (by decide) rfl ?_
  refine az_iinc C 3 (v := nI (s9 + 1)) (lv' := [(7, .int (nI (s9 + 1))), (5, .int ((-2))), (4, .int ((-3))), (6, .int 0), (0, .ref (ρ.1 1))]) dX2_send_101 rfl (nI_1 s9) (by decide) rfl ?_
  refine az_goto C 12 dX2_send_104 (by decide) ?_
  exact az_lv [0, 3, 1, 2, 4] rfl (hx a9 ha9)

set_option maxHeartbeats 4000000 in
set_option maxRecDepth 100000 in
theorem Xst_s (hG : az_okS l G) {p : Program} {e : Env} {s : State} {mm : MethodId} {args : Array Value} {below : List Frame} {meth : Method} {c : Code} (C : az_C l G p s mm args meth c cX2_send yX2_send.cls 8 (Option.none : Option FieldType) []) {Qx : State → Prop} {k9 n9 mc ms : Nat} (s9 : Nat) (hs : s9 ≤ 6) (n : Nat) (hm : x.1 8 3 = nI n) (hn : n < 65536) (hc : n ≤ ρ.2.2.2.1) (h256 : 256 ≤ ρ.2.2.2.1) (hc2 : ρ.2.2.2.1 < 2 ^ 20) (hz : RowZ ρ x) (u : Int32) (a : Nat) (hu : u - (-3) = nI a) (ha : a < 18) (nr : Nat) (hr : x.1 1 8 = nI nr) (hn6 : nr ≤ 6)  (w : Int32) (hw : 0 < w) (hcl : k9 + ((capT ρ.2.2.2.1 (n + 1)) - ρ.2.2.2.1) ≤ mc) (hsl : n9 + 6 * ((capT ρ.2.2.2.1 (n + 1)) - ρ.2.2.2.1) ≤ ms) (hx : ∀ a9 : Nat → Nat, a9 23 = ρ.2.1 23 → az_W l G 8 Qx p e (az_rm 4 mc ms) s mm args below meth c (AD (gR ρ a9 (capT ρ.2.2.2.1 (n + 1)))) (KK G (gR ρ a9 (capT ρ.2.2.2.1 (n + 1))) (sdX x n u a ((-2)) 1 w) m ou) (k9 + ((capT ρ.2.2.2.1 (n + 1)) - ρ.2.2.2.1)) (n9 + 6 * ((capT ρ.2.2.2.1 (n + 1)) - ρ.2.2.2.1)) 12 [(7, .int (nI (s9 + 1))), (6, .int 0), (5, .int ((-1))), (4, .int ((-2))), (0, .ref (ρ.1 1))] []) : az_W l G 8 Qx p e (az_rm 4 mc ms) s mm args below meth c (AD ρ) (KK G ρ x m ou) k9 n9 12 [(7, .int (nI s9)), (6, .int w), (5, .int ((-2))), (4, .int u), (0, .ref (ρ.1 1))] [] := by
  refine az_iload C 0 dX2_send_12 rfl ?_
  refine az_bipush C (v := 6) dX2_send_14 (by decide) ?_
  refine az_icmp_gt C 107 dX2_send_16 (by decide) (fun q => absurd q (Int32.not_lt.mpr (show nI s9 ≤ 6 from nI_leT hs (by decide)))) (fun _ => ?_)
  refine az_iload C 1 dX2_send_19 rfl ?_
  refine az_if_le C 107 dX2_send_21 (by decide) (fun q => absurd q (Int32.not_le.mpr hw)) (fun _ => ?_)
  refine az_aload_n C 4 dX2_send_24 rfl ?_
  refine az_get C cX2 0 1 2 (v := .ref (ρ.1 4)) wl_X2_18 dX2_send_25 rfl rfl rfl (by decide) ?_
  refine az_iload C 3 dX2_send_28 rfl ?_
  refine az_bipush C (v := (-3)) dX2_send_30 (by decide) ?_
  refine az_isub C dX2_send_32 ?_
  refine az_top (nI a) hu ?_
  refine az_dup2 C dX2_send_33 rfl rfl ?_
  refine az_ialdN C 0 4 a (v := x.1 4 a) dX2_send_34 rfl rfl ha (by decide) rfl ?_
  refine az_iload C 1 dX2_send_35 rfl ?_
  refine az_isub C dX2_send_37 ?_
  refine az_iastN C 0 4 a dX2_send_38 rfl rfl ha (by decide) (az_to rfl (K' := (KK G ρ (xI x 4 a ((x.1 4 a - w))) m ou)) (KK_X rfl) ?_)
  refine az_aload_n C 4 dX2_send_39 rfl ?_
  refine az_get C cX2 0 1 2 (v := .ref (ρ.1 4)) wl_X2_18 dX2_send_40 rfl rfl rfl (by decide) ?_
  refine az_iload C 2 dX2_send_43 rfl ?_
  refine az_bipush C (v := (-3)) dX2_send_45 (by decide) ?_
  refine az_isub C dX2_send_47 ?_
  refine az_top (nI 1) (by decide) ?_
  refine az_dup2 C dX2_send_48 rfl rfl ?_
  refine az_ialdN C 0 4 1 (v := ((xI x 4 a ((x.1 4 a - w)))).1 4 1) dX2_send_49 rfl rfl (by decide) (by decide) rfl ?_
  refine az_iload C 1 dX2_send_50 rfl ?_
  refine az_iadd C dX2_send_52 ?_
  refine az_iastN C 0 4 1 dX2_send_53 rfl rfl (by decide) (by decide) (az_to rfl (K' := (KK G ρ (xI (xI x 4 a ((x.1 4 a - w))) 4 1 ((((xI x 4 a ((x.1 4 a - w)))).1 4 1 + w))) m ou)) (KK_X rfl) ?_)
  refine az_aload_n C 4 dX2_send_54 rfl ?_
  refine az_get C cX2 0 1 6 (v := .ref (ρ.1 8)) wl_X2_33 dX2_send_55 rfl rfl rfl (by decide) ?_
  refine az_iload C 3 dX2_send_58 rfl ?_
  refine az_iload C 2 dX2_send_60 rfl ?_
  refine az_iload C 1 dX2_send_62 rfl ?_
  refine az_callV C Y_X1_add cX1 0 8 [.int u, .int ((-2)), .int w] [] wm_X2_49 wi_X1_add wse_X1_add dX2_send_64 rfl rfl rfl (Xadd (x := (xI (xI x 4 a ((x.1 4 a - w))) 4 1 ((((xI x 4 a ((x.1 4 a - w)))).1 4 1 + w)))) hG n hm hn hc h256 hc2 (RowZ_w hz (fun _ => rfl) (fun _ => rfl) (fun _ => rfl)) u ((-2)) w) rfl (Nat.le_of_ble_eq_true rfl) (Nat.le_of_ble_eq_true rfl) (Nat.le_of_ble_eq_true rfl) hcl hsl ?_ (by rintro E ad9 K9 ⟨q9, -, h9, -⟩; cases h9)
  rintro v9 ad9 K9 ⟨a9, ha9, h9, rfl, rfl⟩
  cases h9
  refine az_aload_n C 4 dX2_send_67 rfl ?_
  refine az_iload C 2 dX2_send_68 rfl ?_
  refine az_callV C Y_X2_excess cX2 0 1 [.int ((-2))] [] wm_X2_52 wi_X2_excess wse_X2_excess dX2_send_70 rfl rfl rfl (Xexc_n (ρ := (gR ρ a9 (capT ρ.2.2.2.1 (n + 1)))) (x := (sdX x n u a ((-2)) 1 w)) hG (-2) (by decide)) rfl (Nat.le_of_ble_eq_true rfl) (Nat.le_of_ble_eq_true rfl) (Nat.le_of_ble_eq_true rfl) (Nat.le_trans (Nat.le_of_eq (Nat.add_zero _)) hcl) (Nat.le_trans (Nat.le_of_eq (Nat.add_zero _)) hsl) (az_k1 rfl rfl ?_) (az_k0 rfl)
  refine az_istore C (lv' := [(6, .int 0), (7, .int (nI s9)), (5, .int ((-2))), (4, .int u), (0, .ref (ρ.1 1))]) dX2_send_73 (by decide) rfl ?_
  refine az_iload C 2 dX2_send_75 rfl ?_
  refine az_istore C (lv' := [(4, .int ((-2))), (6, .int 0), (7, .int (nI s9)), (5, .int ((-2))), (0, .ref (ρ.1 1))]) dX2_send_77 (by decide) rfl ?_
  refine az_iload C 3 dX2_send_79 rfl ?_
  refine az_iconst C (v := 1) dX2_send_81 (by decide) ?_
  refine az_iadd C dX2_send_82 ?_
  refine az_top ((-1)) (by decide) ?_
  refine az_aload_n C 4 dX2_send_83 rfl ?_
  refine az_get C cX2 0 1 8 (v := .int ((sdX x n u a ((-2)) 1 w).1 1 8)) wl_X2_37 dX2_send_84 rfl rfl rfl (by decide) ?_
  refine az_top (nI nr) hr ?_
  refine az_icmp_ge C 97 dX2_send_87 (by decide) (fun q => absurd q (fun z => absurd z (Int32.not_le.mpr (Int32.lt_of_lt_of_le (by decide) (nI_pos' (show nr < 2 ^ 31 by omega)))))) (fun _ => ?_)
  refine az_iload C 3 dX2_send_90 rfl ?_
  refine az_iconst C (v := 1) dX2_send_92 (by decide) ?_
  refine az_iadd C dX2_send_93 ?_
  refine az_top ((-1)) (by decide) ?_
  refine az_goto C 99 dX2_send_94 (by decide) ?_
  refine az_istore C (lv' := [(5, .int ((-1))), (4, .int ((-2))), (6, .int 0), (7, .int (nI s9)), (0, .ref (ρ.1 1))]) dX2_send_99 (by decide) rfl ?_
  refine az_iinc C 3 (v := nI (s9 + 1)) (lv' := [(7, .int (nI (s9 + 1))), (5, .int ((-1))), (4, .int ((-2))), (6, .int 0), (0, .ref (ρ.1 1))]) dX2_send_101 rfl (nI_1 s9) (by decide) rfl ?_
  refine az_goto C 12 dX2_send_104 (by decide) ?_
  exact az_lv [0, 3, 1, 2, 4] rfl (hx a9 ha9)

end
