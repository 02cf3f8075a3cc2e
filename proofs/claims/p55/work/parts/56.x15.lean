section
variable {l : Launch} {G : az_G} {ρ : Rp} {x : Xs} {m : Mz} {ou : Nat → Int64}
/-- water into a place that is no reach -/
def sendO (x : Xs) (n : Nat) (u : Int32) (a : Nat) (v : Int32) (b : Nat) (w : Int32) : Xs × Nat := if w ≤ 0 then (x, n) else (sdX x n u a v b w, n + 1)
/-- what a call that moves water needs: n movements stand there, t more at most come -/
def MvX (ρ : Rp) (x : Xs) (n t : Nat) : Prop := x.1 8 3 = nI n ∧ n + t < 65536 ∧ n ≤ ρ.2.2.2.1 ∧ n + t ≤ 2 * ρ.2.2.2.1 ∧ 256 ≤ ρ.2.2.2.1 ∧ ρ.2.2.2.1 ≤ 131072 ∧ RowZ ρ x
theorem capT_20 {c N : Nat} (h : c ≤ 131072) : capT c N < 2 ^ 20 := by unfold capT; split <;> omega
set_option maxHeartbeats 4000000 in
set_option maxRecDepth 100000 in
theorem Xsend_r (hG : az_okS l G) (nr k : Nat) (hn6 : nr ≤ 6) (hk : k < nr) (hr : x.1 1 8 = nI nr) (n : Nat) (hv : MvX ρ x n (nr + 1)) (u : Int32) (a : Nat) (hu : u - (-3) = nI a) (ha : a < 18) (w : Int32) : az_M l G yX2_send (az_ws yX2_send cX2_send 8 (Option.none : Option FieldType)) 4 [.ref (ρ.1 1), .int u, .int (nI k), .int w] (AD ρ) (KK G ρ x m ou) (capT ρ.2.2.2.1 (sendR nr (nr - k) x n u a k w).2 - ρ.2.2.2.1) (6 * (capT ρ.2.2.2.1 (sendR nr (nr - k) x n u a k w).2 - ρ.2.2.2.1)) (az_g G none ρ (capT ρ.2.2.2.1 (sendR nr (nr - k) x n u a k w).2) (sendR nr (nr - k) x n u a k w).1 m ou) := by
  refine az_start hG.1 (by decide +kernel) (Nat.le_of_ble_eq_true rfl) ?_
  intro p e s mm args below meth c C hnm
  show az_W l G 8 _ p e _ s mm args below meth c _ _ 0 0 0 [(0, .ref (ρ.1 1)), (1, .int u), (2, .int (nI k)), (3, .int w)] []
  refine az_iload_n C 1 dX2_send_0 rfl ?_
  refine az_istore C (lv' := [(4, .int u), (0, .ref (ρ.1 1)), (1, .int u), (2, .int (nI k)), (3, .int w)]) dX2_send_1 (by decide) rfl ?_
  refine az_iload_n C 3 dX2_send_3 rfl ?_
  refine az_istore C (lv' := [(5, .int (nI k)), (4, .int u), (0, .ref (ρ.1 1)), (1, .int u), (2, .int (nI k)), (3, .int w)]) dX2_send_4 (by decide) rfl ?_
  refine az_iload_n C 5 dX2_send_6 rfl ?_
  refine az_istore C (lv' := [(6, .int w), (5, .int (nI k)), (4, .int u), (0, .ref (ρ.1 1)), (1, .int u), (2, .int (nI k)), (3, .int w)]) dX2_send_7 (by decide) rfl ?_
  refine az_iconst C (v := 0) dX2_send_9 (by decide) ?_
  refine az_istore C (lv' := [(7, .int 0), (6, .int w), (5, .int (nI k)), (4, .int u), (0, .ref (ρ.1 1)), (1, .int u), (2, .int (nI k)), (3, .int w)]) dX2_send_10 (by decide) rfl ?_
  exact az_lv [0, 1, 2, 3, 4] rfl (Xsend_l hG C nr hn6 (nr - k) 0 0 0 n u a k w (by omega) (by omega) (by omega) hv.1 (by have := hv.2.1; omega) hv.2.2.1 (by have := hv.2.2.2.1; omega) (capT_20 hv.2.2.2.2.2.1) hv.2.2.2.2.1 hv.2.2.2.2.2.2 hu ha hr (Nat.le_of_eq (Nat.zero_add _)) (Nat.le_of_eq (Nat.zero_add _)))

set_option maxHeartbeats 4000000 in
set_option maxRecDepth 100000 in
theorem Xsend_c (hG : az_okS l G) (nr : Nat) (hn6 : nr ≤ 6) (k : Nat) (hk : k < 5) (hr : x.1 1 8 = nI nr) (n : Nat) (hv : MvX ρ x n 1) (u : Int32) (a : Nat) (hu : u - (-3) = nI a) (ha : a < 18) (w : Int32) : az_M l G yX2_send (az_ws yX2_send cX2_send 8 (Option.none : Option FieldType)) 4 [.ref (ρ.1 1), .int u, .int (10 + nI k), .int w] (AD ρ) (KK G ρ x m ou) (capT ρ.2.2.2.1 (sendO x n u a (10 + nI k) (k + 13) w).2 - ρ.2.2.2.1) (6 * (capT ρ.2.2.2.1 (sendO x n u a (10 + nI k) (k + 13) w).2 - ρ.2.2.2.1)) (az_g G none ρ (capT ρ.2.2.2.1 (sendO x n u a (10 + nI k) (k + 13) w).2) (sendO x n u a (10 + nI k) (k + 13) w).1 m ou) := by
  refine az_start hG.1 (by decide +kernel) (Nat.le_of_ble_eq_true rfl) ?_
  intro p e s mm args below meth c C hnm
  show az_W l G 8 _ p e _ s mm args below meth c _ _ 0 0 0 [(0, .ref (ρ.1 1)), (1, .int u), (2, .int (10 + nI k)), (3, .int w)] []
  refine az_iload_n C 1 dX2_send_0 rfl ?_
  refine az_istore C (lv' := [(4, .int u), (0, .ref (ρ.1 1)), (1, .int u), (2, .int (10 + nI k)), (3, .int w)]) dX2_send_1 (by decide) rfl ?_
  refine az_iload_n C 3 dX2_send_3 rfl ?_
  refine az_istore C (lv' := [(5, .int (10 + nI k)), (4, .int u), (0, .ref (ρ.1 1)), (1, .int u), (2, .int (10 + nI k)), (3, .int w)]) dX2_send_4 (by decide) rfl ?_
  refine az_iload_n C 5 dX2_send_6 rfl ?_
  refine az_istore C (lv' := [(6, .int w), (5, .int (10 + nI k)), (4, .int u), (0, .ref (ρ.1 1)), (1, .int u), (2, .int (10 + nI k)), (3, .int w)]) dX2_send_7 (by decide) rfl ?_
  refine az_iconst C (v := 0) dX2_send_9 (by decide) ?_
  refine az_istore C (lv' := [(7, .int 0), (6, .int w), (5, .int (10 + nI k)), (4, .int u), (0, .ref (ρ.1 1)), (1, .int u), (2, .int (10 + nI k)), (3, .int w)]) dX2_send_10 (by decide) rfl ?_
  by_cases hw : w ≤ 0
  · have hE : sendO x n u a (10 + nI k) (k + 13) w = (x, n) := if_pos hw
    rw [hE]
    exact az_lv [0, 1, 2, 3, 4] rfl (Xsend_e hG C 0 w (10 + nI k) u hw (Nat.zero_le _) (Nat.zero_le _) ⟨ρ.2.1, rfl, rfl, (by rw [capT_self hv.2.2.1]), (by rw [capT_self hv.2.2.1])⟩)
  · have hE : sendO x n u a (10 + nI k) (k + 13) w = (sdX x n u a (10 + nI k) (k + 13) w, n + 1) := if_neg hw
    rw [hE]
    refine az_lv [0, 1, 2, 3, 4] rfl (Xst_c hG C 0 (by decide) n hv.1 (by have := hv.2.1; omega) hv.2.2.1 hv.2.2.2.2.1 (by have := hv.2.2.2.2.2.1; omega) hv.2.2.2.2.2.2 u a hu ha nr hr hn6 k hk w (Int32.not_le.mp hw) (Nat.le_of_eq (Nat.zero_add _)) (Nat.le_of_eq (Nat.zero_add _)) (fun a9 ha9 => ?_))
    exact Xsend_e hG C 1 _ _ _ (Int32.le_refl _) (Nat.le_of_eq (Nat.zero_add _)) (Nat.le_of_eq (Nat.zero_add _)) ⟨a9, ha9, rfl, rfl, rfl⟩

set_option maxHeartbeats 4000000 in
set_option maxRecDepth 100000 in
theorem Xsend_a (hG : az_okS l G) (nr : Nat) (hn6 : nr ≤ 6)  (hr : x.1 1 8 = nI nr) (n : Nat) (hv : MvX ρ x n 1) (u : Int32) (a : Nat) (hu : u - (-3) = nI a) (ha : a < 18) (w : Int32) : az_M l G yX2_send (az_ws yX2_send cX2_send 8 (Option.none : Option FieldType)) 4 [.ref (ρ.1 1), .int u, .int ((-3)), .int w] (AD ρ) (KK G ρ x m ou) (capT ρ.2.2.2.1 (sendO x n u a ((-3)) 0 w).2 - ρ.2.2.2.1) (6 * (capT ρ.2.2.2.1 (sendO x n u a ((-3)) 0 w).2 - ρ.2.2.2.1)) (az_g G none ρ (capT ρ.2.2.2.1 (sendO x n u a ((-3)) 0 w).2) (sendO x n u a ((-3)) 0 w).1 m ou) := by
  refine az_start hG.1 (by decide +kernel) (Nat.le_of_ble_eq_true rfl) ?_
  intro p e s mm args below meth c C hnm
  show az_W l G 8 _ p e _ s mm args below meth c _ _ 0 0 0 [(0, .ref (ρ.1 1)), (1, .int u), (2, .int ((-3))), (3, .int w)] []
  refine az_iload_n C 1 dX2_send_0 rfl ?_
  refine az_istore C (lv' := [(4, .int u), (0, .ref (ρ.1 1)), (1, .int u), (2, .int ((-3))), (3, .int w)]) dX2_send_1 (by decide) rfl ?_
  refine az_iload_n C 3 dX2_send_3 rfl ?_
  refine az_istore C (lv' := [(5, .int ((-3))), (4, .int u), (0, .ref (ρ.1 1)), (1, .int u), (2, .int ((-3))), (3, .int w)]) dX2_send_4 (by decide) rfl ?_
  refine az_iload_n C 5 dX2_send_6 rfl ?_
  refine az_istore C (lv' := [(6, .int w), (5, .int ((-3))), (4, .int u), (0, .ref (ρ.1 1)), (1, .int u), (2, .int ((-3))), (3, .int w)]) dX2_send_7 (by decide) rfl ?_
  refine az_iconst C (v := 0) dX2_send_9 (by decide) ?_
  refine az_istore C (lv' := [(7, .int 0), (6, .int w), (5, .int ((-3))), (4, .int u), (0, .ref (ρ.1 1)), (1, .int u), (2, .int ((-3))), (3, .int w)]) dX2_send_10 (by decide) rfl ?_
  by_cases hw : w ≤ 0
  · have hE : sendO x n u a ((-3)) 0 w = (x, n) := if_pos hw
    rw [hE]
    exact az_lv [0, 1, 2, 3, 4] rfl (Xsend_e hG C 0 w ((-3)) u hw (Nat.zero_le _) (Nat.zero_le _) ⟨ρ.2.1, rfl, rfl, (by rw [capT_self hv.2.2.1]), (by rw [capT_self hv.2.2.1])⟩)
  · have hE : sendO x n u a ((-3)) 0 w = (sdX x n u a ((-3)) 0 w, n + 1) := if_neg hw
    rw [hE]
    refine az_lv [0, 1, 2, 3, 4] rfl (Xst_a hG C 0 (by decide) n hv.1 (by have := hv.2.1; omega) hv.2.2.1 hv.2.2.2.2.1 (by have := hv.2.2.2.2.2.1; omega) hv.2.2.2.2.2.2 u a hu ha nr hr hn6 w (Int32.not_le.mp hw) (Nat.le_of_eq (Nat.zero_add _)) (Nat.le_of_eq (Nat.zero_add _)) (fun a9 ha9 => ?_))
    exact Xsend_e hG C 1 _ _ _ (Int32.le_refl _) (Nat.le_of_eq (Nat.zero_add _)) (Nat.le_of_eq (Nat.zero_add _)) ⟨a9, ha9, rfl, rfl, rfl⟩

def fillX (x : Xs) (n k : Nat) : Xs × Nat := sendO x n (nI k) (k + 3) (10 + nI k) (k + 13) (x.1 3 k)
set_option maxHeartbeats 4000000 in
set_option maxRecDepth 100000 in
theorem Xfill (hG : az_okS l G) (nr k : Nat) (hn6 : nr ≤ 6) (hk : k < 5) (hr : x.1 1 8 = nI nr) (n : Nat) (hv : MvX ρ x n 1) : az_M l G yX2_fill (az_ws yX2_fill cX2_fill 2 (Option.none : Option FieldType)) 5 [.ref (ρ.1 1), .int (nI k)] (AD ρ) (KK G ρ x m ou) (capT ρ.2.2.2.1 (fillX x n k).2 - ρ.2.2.2.1) (6 * (capT ρ.2.2.2.1 (fillX x n k).2 - ρ.2.2.2.1)) (az_g G none ρ (capT ρ.2.2.2.1 (fillX x n k).2) (fillX x n k).1 m ou) := by
  refine az_start hG.1 (by decide +kernel) (Nat.le_of_ble_eq_true rfl) ?_
  intro p e s mm args below meth c C hnm
  show az_W l G 2 _ p e _ s mm args below meth c _ _ 0 0 0 [(0, .ref (ρ.1 1)), (1, .int (nI k))] []
  refine az_aload_n C 0 dX2_fill_0 rfl ?_
  refine az_iload_n C 1 dX2_fill_1 rfl ?_
  refine az_bipush C (v := 10) dX2_fill_2 (by decide) ?_
  refine az_iload_n C 1 dX2_fill_4 rfl ?_
  refine az_iadd C dX2_fill_5 ?_
  refine az_aload_n C 0 dX2_fill_6 rfl ?_
  refine az_get C cX2 0 1 1 (v := .ref (ρ.1 3)) wl_X2_15 dX2_fill_7 rfl rfl rfl (by decide) ?_
  refine az_iload_n C 1 dX2_fill_10 rfl ?_
  refine az_ialdN C 0 3 k (v := x.1 3 k) dX2_fill_11 rfl rfl (by omega) (by decide) rfl ?_
  refine az_callV C Y_X2_send cX2 0 1 [.int (nI k), .int ((10 + nI k)), .int (x.1 3 k)] [] wm_X2_45 wi_X2_send wse_X2_send dX2_fill_12 rfl rfl rfl (Xsend_c hG nr hn6 k hk hr n hv (nI k) (k + 3) (nI_m3 k) (by omega) (x.1 3 k)) rfl (Nat.le_of_ble_eq_true rfl) (Nat.le_of_ble_eq_true rfl) (Nat.le_of_ble_eq_true rfl) (Nat.le_of_eq (Nat.zero_add _)) (Nat.le_of_eq (Nat.zero_add _)) ?_ (by rintro E ad9 K9 ⟨q9, -, h9, -⟩; cases h9)
  rintro v9 ad9 K9 ⟨a9, ha9, h9, rfl, rfl⟩
  cases h9
  exact az_vret C rfl dX2_fill_15 (Nat.le_of_eq (Nat.zero_add _)) (Nat.le_of_eq (Nat.zero_add _)) ⟨a9, ha9, rfl, rfl, rfl⟩

def emptyX (x : Xs) (n nr k : Nat) : Xs × Nat := sendR nr (nr - (k + 1)) (xI x 5 k (x.1 5 k + x.1 3 k)) n (10 + nI k) (k + 13) (k + 1) ((xI x 5 k (x.1 5 k + x.1 3 k)).1 3 k)
set_option maxHeartbeats 4000000 in
set_option maxRecDepth 100000 in
theorem Xempty (hG : az_okS l G) (nr k : Nat) (hn6 : nr ≤ 6) (hk : k + 2 ≤ nr) (hr : x.1 1 8 = nI nr) (n : Nat) (hv : MvX ρ x n (nr + 1)) : az_M l G yX2_empty (az_ws yX2_empty cX2_empty 2 (Option.none : Option FieldType)) 5 [.ref (ρ.1 1), .int (nI k)] (AD ρ) (KK G ρ x m ou) (capT ρ.2.2.2.1 (emptyX x n nr k).2 - ρ.2.2.2.1) (6 * (capT ρ.2.2.2.1 (emptyX x n nr k).2 - ρ.2.2.2.1)) (az_g G none ρ (capT ρ.2.2.2.1 (emptyX x n nr k).2) (emptyX x n nr k).1 m ou) := by
  refine az_start hG.1 (by decide +kernel) (Nat.le_of_ble_eq_true rfl) ?_
  intro p e s mm args below meth c C hnm
  show az_W l G 2 _ p e _ s mm args below meth c _ _ 0 0 0 [(0, .ref (ρ.1 1)), (1, .int (nI k))] []
  refine az_aload_n C 0 dX2_empty_0 rfl ?_
  refine az_get C cX2 0 1 3 (v := .ref (ρ.1 5)) wl_X2_21 dX2_empty_1 rfl rfl rfl (by decide) ?_
  refine az_iload_n C 1 dX2_empty_4 rfl ?_
  refine az_dup2 C dX2_empty_5 rfl rfl ?_
  refine az_ialdN C 0 5 k (v := x.1 5 k) dX2_empty_6 rfl rfl (by omega) (by decide) rfl ?_
  refine az_aload_n C 0 dX2_empty_7 rfl ?_
  refine az_get C cX2 0 1 1 (v := .ref (ρ.1 3)) wl_X2_15 dX2_empty_8 rfl rfl rfl (by decide) ?_
  refine az_iload_n C 1 dX2_empty_11 rfl ?_
  refine az_ialdN C 0 3 k (v := x.1 3 k) dX2_empty_12 rfl rfl (by omega) (by decide) rfl ?_
  refine az_iadd C dX2_empty_13 ?_
  refine az_iastN C 0 5 k dX2_empty_14 rfl rfl (by omega) (by decide) (az_to rfl (K' := (KK G ρ (xI x 5 k ((x.1 5 k + x.1 3 k))) m ou)) (KK_X rfl) ?_)
  refine az_aload_n C 0 dX2_empty_15 rfl ?_
  refine az_bipush C (v := 10) dX2_empty_16 (by decide) ?_
  refine az_iload_n C 1 dX2_empty_18 rfl ?_
  refine az_iadd C dX2_empty_19 ?_
  refine az_iload_n C 1 dX2_empty_20 rfl ?_
  refine az_iconst C (v := 1) dX2_empty_21 (by decide) ?_
  refine az_iadd C dX2_empty_22 ?_
  refine az_top (nI (k + 1)) (nI_1 k) ?_
  refine az_aload_n C 0 dX2_empty_23 rfl ?_
  refine az_get C cX2 0 1 1 (v := .ref (ρ.1 3)) wl_X2_15 dX2_empty_24 rfl rfl rfl (by decide) ?_
  refine az_iload_n C 1 dX2_empty_27 rfl ?_
  refine az_ialdN C 0 3 k (v := x.1 3 k) dX2_empty_28 rfl rfl (by omega) (by decide) rfl ?_
  refine az_callV C Y_X2_send cX2 0 1 [.int ((10 + nI k)), .int (nI (k + 1)), .int (x.1 3 k)] [] wm_X2_45 wi_X2_send wse_X2_send dX2_empty_29 rfl rfl rfl (Xsend_r (x := (xI x 5 k (x.1 5 k + x.1 3 k))) hG nr (k + 1) hn6 (by omega) hr n hv (10 + nI k) (k + 13) (nI_c k) (by omega) ((xI x 5 k (x.1 5 k + x.1 3 k)).1 3 k)) rfl (Nat.le_of_ble_eq_true rfl) (Nat.le_of_ble_eq_true rfl) (Nat.le_of_ble_eq_true rfl) (Nat.le_of_eq (Nat.zero_add _)) (Nat.le_of_eq (Nat.zero_add _)) ?_ (by rintro E ad9 K9 ⟨q9, -, h9, -⟩; cases h9)
  rintro v9 ad9 K9 ⟨a9, ha9, h9, rfl, rfl⟩
  cases h9
  exact az_vret C rfl dX2_empty_32 (Nat.le_of_eq (Nat.zero_add _)) (Nat.le_of_eq (Nat.zero_add _)) ⟨a9, ha9, rfl, rfl, rfl⟩

end
