section
variable {l : Launch} {G : az_G} {ρ : Rp} {x : Xs} {m : Ms} {ou : Nat → Int64}
theorem hby1 : ∀ j, fits .byte (.int (([58, 32] : List Int32).getD j 0)) = true := fun j => by
  match j with
  | 0 => decide +kernel
  | 1 => decide +kernel
  | j + 2 =>
    show fits .byte (.int 0) = true
    decide +kernel
theorem hbb1 : ([58, 32] : List Int32) = [nI 58, nI 32] := by decide +kernel
theorem hby2 : ∀ j, fits .byte (.int (([100, 109] : List Int32).getD j 0)) = true := fun j => by
  match j with
  | 0 => decide +kernel
  | 1 => decide +kernel
  | j + 2 =>
    show fits .byte (.int 0) = true
    decide +kernel
theorem hbb2 : ([100, 109] : List Int32) = [nI 100, nI 109] := by decide +kernel
theorem rowsT_set {n : Nat} {v : Int32} {ch : Nat → List Nat} : ∀ j i, rowsT (setX x n) v ch j i = rowsT x v ch j i
  | 0, _ => rfl
  | j + 1, i => by
    show rowT (setX x n) v ch i ++ rowsT (setX x n) v ch j (i + 1) = rowT x v ch i ++ rowsT x v ch j (i + 1)
    rw [rowsT_set j (i + 1)]
    unfold rowT
    rw [setX_2]
set_option maxHeartbeats 4000000 in
set_option maxRecDepth 100000 in
theorem XwriteReach1 (hG : az_okS l G) {A : Nat × Nat × Nat × Nat} (hT : az_okT G A) (nr r : Nat) (hr : x.1 1 8 = nI nr) (hn : nr ≤ 6) (hk : r + 1 ≤ nr) (hAr : ¬ x.1 2 r < 1) (L : Nat) (hLL : L < 100) (hLv : x.1 4 (r + 3) / x.1 2 r = nI L) (n : Nat) (h : TxOK ρ x n) (hb : TxB x) (nb : Nat) (hbn : x.1 0 7 = nI nb) (hnb : nb = ρ.2.2.2.2.2) (hn8 : nb ≤ 8) (ch : Nat → List Nat) (hch : ∀ k, k < nb → x.2.1 k 4 = nI r → x.2.2.1 0 k = none → XSuf ρ.2.2.2.2.2 x (k :: ch k)) (hL : 0 + (([48 + r] ++ [58, 32] ++ digT L ++ [100, 109]) ++ rowsT x (nI r) ch nb 0).length ≤ 34) : az_M l G yX3_writeReach (az_ws yX3_writeReach cX3_writeReach 6 (Option.some FieldType.int)) 8 [.ref (ρ.1 0), .int (nI r)] (AD ρ) (KK G ρ x m ou) ((tcT ρ.2.2.2.2.1 (0 + (([48 + r] ++ [58, 32] ++ digT L ++ [100, 109]) ++ rowsT x (nI r) ch nb 0).length)) - ρ.2.2.2.2.1) (2 * ((tcT ρ.2.2.2.2.1 (0 + (([48 + r] ++ [58, 32] ++ digT L ++ [100, 109]) ++ rowsT x (nI r) ch nb 0).length)) - ρ.2.2.2.2.1)) (az_tx G (some (.int (nI (0 + (([48 + r] ++ [58, 32] ++ digT L ++ [100, 109]) ++ rowsT x (nI r) ch nb 0).length)))) ρ (tcT ρ.2.2.2.2.1 (0 + (([48 + r] ++ [58, 32] ++ digT L ++ [100, 109]) ++ rowsT x (nI r) ch nb 0).length)) (txA (setX x n) 0 (([48 + r] ++ [58, 32] ++ digT L ++ [100, 109]) ++ rowsT x (nI r) ch nb 0)) m ou) := by
  refine az_start hG.1 (by decide +kernel) (Nat.le_of_ble_eq_true rfl) ?_
  intro p e s mm args below meth c C hnm
  show az_W l G 6 _ p e _ s mm args below meth c _ _ 0 0 0 [(0, .ref (ρ.1 0)), (1, .int (nI r))] []
  have htc := h.2.2.2.1
  obtain ⟨z9, hz9⟩ : ∃ z9 : Nat, z9 = 0 := ⟨0, rfl⟩
  obtain ⟨c1, hc1⟩ : ∃ c1 : List Nat, c1 = [48 + r] := ⟨_, rfl⟩
  have h0 : TxOK ρ (setX x n) z9 := by rw [hz9]; exact TxOK_set h
  have hb0 : TxB (setX x n) := TxB_set hb
  have eF : ((((c1 ++ [58, 32]) ++ digT L) ++ [100, 109]) ++ rowsT (setX x n) (nI r) ch nb 0) = (([48 + r] ++ [58, 32] ++ digT L ++ [100, 109]) ++ rowsT x (nI r) ch nb 0) := by rw [rowsT_set, hc1]
  have hL0 : z9 + ((((c1 ++ [58, 32]) ++ digT L) ++ [100, 109]) ++ rowsT (setX x n) (nI r) ch nb 0).length ≤ 34 := by rw [eF, hz9]; exact hL
  have hbd := fun es he => az_tbd (ρ := ρ) (k0 := 0) (n0 := 0) (n := z9) (mc := (tcT ρ.2.2.2.2.1 (0 + (([48 + r] ++ [58, 32] ++ digT L ++ [100, 109]) ++ rowsT x (nI r) ch nb 0).length)) - ρ.2.2.2.2.1) (ms := 2 * ((tcT ρ.2.2.2.2.1 (0 + (([48 + r] ++ [58, 32] ++ digT L ++ [100, 109]) ++ rowsT x (nI r) ch nb 0).length)) - ρ.2.2.2.2.1)) (full := ((((c1 ++ [58, 32]) ++ digT L) ++ [100, 109]) ++ rowsT (setX x n) (nI r) ch nb 0)) htc hL0 (by rw [eF, hz9]; omega) (by rw [eF, hz9]; omega) es he
  have hlt1 : ∀ v ∈ c1, v < 128 := fun v hv => by rw [hc1] at hv; simp at hv; omega
  have hlt2 : ∀ v ∈ (c1 ++ [58, 32]), v < 128 := fun v hv => by rcases List.mem_append.mp hv with z | z; exact hlt1 v z; simp at z; omega
  have hlt3 : ∀ v ∈ ((c1 ++ [58, 32]) ++ digT L), v < 128 := fun v hv => by rcases List.mem_append.mp hv with z | z; exact hlt2 v z; exact digT_lt hLL v z
  have hlt4 : ∀ v ∈ (((c1 ++ [58, 32]) ++ digT L) ++ [100, 109]), v < 128 := fun v hv => by rcases List.mem_append.mp hv with z | z; exact hlt3 v z; simp at z; omega
  refine az_aload_n C 0 dX3_writeReach_0 rfl ?_
  refine az_iload_n C 1 dX3_writeReach_1 rfl ?_
  refine az_callV C Y_X3_needReach cX3 0 0 [.int (nI r)] [] wm_X3_78 wi_X3_needReach wse_X3_needReach dX3_writeReach_2 rfl rfl rfl (XneedReach1 hG nr r hr hn hk) rfl (Nat.le_of_ble_eq_true rfl) (Nat.le_of_ble_eq_true rfl) (Nat.le_of_ble_eq_true rfl) (Nat.zero_le _) (Nat.zero_le _) (az_k1 rfl rfl ?_) (az_k0 rfl)
  refine az_aload_n C 0 dX3_writeReach_5 rfl ?_
  refine az_get C cX3 0 0 6 (v := .ref (ρ.1 14)) wl_X3_38 dX3_writeReach_6 rfl rfl rfl (by decide) ?_
  refine az_iconst C (v := 0) dX3_writeReach_9 (by decide) ?_
  refine az_callV C Y_J4_setLength_d00df cJ4 0 14 [.int 0] [] wm_X3_300 wi_J4_setLength_d00df wse_J4_setLength_d00df dX3_writeReach_10 rfl rfl rfl (XTset hG hT n h hb) rfl (Nat.le_of_ble_eq_true rfl) (Nat.le_of_ble_eq_true rfl) (Nat.le_of_ble_eq_true rfl) (by rw [tcT_self (Nat.zero_le _), Nat.sub_self]; exact Nat.zero_le _) (by rw [tcT_self (Nat.zero_le _), Nat.sub_self]; exact Nat.zero_le _) ?_ (az_tk0 rfl)
  rintro v9 ad9 K9 ⟨aN, haN, h9, rfl, rfl⟩
  cases h9
  refine az_to (ad' := AD (tR ρ aN (tcT ρ.2.2.2.2.1 (z9 + ([] : List Nat).length)))) (K' := KK G (tR ρ aN (tcT ρ.2.2.2.2.1 (z9 + ([] : List Nat).length))) (txA (setX x n) z9 ([] : List Nat)) m ou) (by rw [hz9]; rfl) (by rw [txA_nil h0.2.1, hz9]; rfl) ?_
  refine az_kn (0 + ((tcT ρ.2.2.2.2.1 (z9 + ([] : List Nat).length)) - ρ.2.2.2.2.1)) (0 + 2 * ((tcT ρ.2.2.2.2.1 (z9 + ([] : List Nat).length)) - ρ.2.2.2.2.1)) (by show _ ≤ (0 + ((tcT ρ.2.2.2.2.1 (z9 + ([] : List Nat).length)) - ρ.2.2.2.2.1)); rw [tcT_self (c := ρ.2.2.2.2.1) (N := 0) (Nat.zero_le _)]; omega) (by show _ ≤ (0 + 2 * ((tcT ρ.2.2.2.2.1 (z9 + ([] : List Nat).length)) - ρ.2.2.2.2.1)); rw [tcT_self (c := ρ.2.2.2.2.1) (N := 0) (Nat.zero_le _)]; omega) ?_
  refine az_aload_n C 0 dX3_writeReach_13 rfl ?_
  refine az_get C cX3 0 0 6 (v := .ref ((tR ρ aN (tcT ρ.2.2.2.2.1 (z9 + ([] : List Nat).length))).1 14)) wl_X3_38 dX3_writeReach_14 rfl rfl rfl (by decide) ?_
  refine az_iload_n C 1 dX3_writeReach_17 rfl ?_
  have hB0 := hbd c1 ⟨_, by simp only [List.append_assoc]; rfl⟩
  have hB1 := hbd (([] : List Nat) ++ [48 + r]) ⟨_, by show _ = ((((c1 ++ [58, 32]) ++ digT L) ++ [100, 109]) ++ rowsT (setX x n) (nI r) ch nb 0); rw [hc1]; simp only [List.append_assoc, List.nil_append]; rfl⟩
  have hM1 := XTi1 (ρ := (tR ρ aN (tcT ρ.2.2.2.2.1 (z9 + ([] : List Nat).length)))) (x := (txA (setX x n) z9 ([] : List Nat))) (m := m) (ou := ou) hG hT (z9 + ([] : List Nat).length) (TxOK_A h0 (by rw [hz9]; exact Nat.zero_le _)) (TxB_A hb0 (fun _ z => by cases z)) r (by omega) (by have z := hB1.1; simp at z ⊢; omega)
  refine az_callV C Y_J4_append_bf812 cJ4 0 14 [.int (nI r)] [] wm_X3_303 wi_J4_append_bf812 wse_J4_append_bf812 dX3_writeReach_18 rfl rfl rfl hM1 rfl (Nat.le_of_ble_eq_true rfl) (Nat.le_of_ble_eq_true rfl) (Nat.le_of_ble_eq_true rfl) (az_tc1 (k0 := 0) (n := z9) (cs := ([] : List Nat)) (ds := [48 + r]) (ρ := ρ) htc hB1.1 hB1.2.1) (az_tc2 (n0 := 0) (n := z9) (cs := ([] : List Nat)) (ds := [48 + r]) (ρ := ρ) htc hB1.1 hB1.2.2) (az_tk (k0 := 0) (n0 := 0) (st1 := [.ref (ρ.1 14)]) (n := z9) (cs := ([] : List Nat)) (ds := [48 + r]) (ρ := ρ) (x := setX x n) htc haN hB1.1 rfl rfl (fun a1_ ha1_ => ?_)) (az_tk0 rfl)
  have e1 : (([] : List Nat) ++ [48 + r]) = c1 := by rw [hc1]; rfl
  rw [e1] at hB1 ⊢
  refine az_ldcSW C (hT _ _ C.hO).2.2.1.1 dX3_writeReach_21 ?_
  have hB2 := hbd (c1 ++ [58, 32]) ⟨_, by show _ = ((((c1 ++ [58, 32]) ++ digT L) ++ [100, 109]) ++ rowsT (setX x n) (nI r) ch nb 0); simp only [List.append_assoc]; rfl⟩
  have hM2 := XTs (ρ := (tR ρ a1_ (tcT ρ.2.2.2.2.1 (z9 + c1.length)))) (x := (txA (setX x n) z9 c1)) (m := m) (ou := ou) hG hT (fun U H hU => (hT U H hU).2.2.1) hby1 (b9 := 58) (c9 := 32) hbb1 (z9 + c1.length) (TxOK_A h0 hB1.1) (TxB_A hb0 hlt1) (by have z := hB2.1; simp at z ⊢; omega)
  refine az_callV C Y_J4_append_15ec4 cJ4 0 14 [.ref A.1] [] wm_X3_309 wi_J4_append_15ec4 wse_J4_append_15ec4 dX3_writeReach_24 rfl rfl rfl hM2 rfl (Nat.le_of_ble_eq_true rfl) (Nat.le_of_ble_eq_true rfl) (Nat.le_of_ble_eq_true rfl) (az_tc1 (k0 := 0) (n := z9) (cs := c1) (ds := [58, 32]) (ρ := ρ) htc hB2.1 hB2.2.1) (az_tc2 (n0 := 0) (n := z9) (cs := c1) (ds := [58, 32]) (ρ := ρ) htc hB2.1 hB2.2.2) (az_tk (k0 := 0) (n0 := 0) (st1 := [.ref (ρ.1 14)]) (n := z9) (cs := c1) (ds := [58, 32]) (ρ := ρ) (x := setX x n) htc ha1_ hB2.1 rfl rfl (fun a2_ ha2_ => ?_)) (az_tk0 rfl)
  refine az_aload_n C 0 dX3_writeReach_27 rfl ?_
  refine az_get C cX3 0 0 0 (v := .ref ((tR ρ a2_ (tcT ρ.2.2.2.2.1 (z9 + (c1 ++ [58, 32]).length))).1 1)) wl_X3_12 dX3_writeReach_28 rfl rfl rfl (by decide) ?_
  refine az_iload_n C 1 dX3_writeReach_31 rfl ?_
  have eA : ((txA (setX x n) z9 (c1 ++ [58, 32]))).1 2 r = x.1 2 r := (txA_p (x := setX x n) (p := 2) (by decide) (by decide)).trans (setX_p (x := x) (p := 2) (by decide))
  have eB : ((txA (setX x n) z9 (c1 ++ [58, 32]))).1 4 (r + 3) = x.1 4 (r + 3) := (txA_p (x := setX x n) (p := 4) (by decide) (by decide)).trans (setX_p (x := x) (p := 4) (by decide))
  have eC : ((txA (setX x n) z9 (c1 ++ [58, 32]))).1 4 (r + 3) / ((txA (setX x n) z9 (c1 ++ [58, 32]))).1 2 r = nI L := by rw [eA, eB]; exact hLv
  have hA9 : ¬ ((txA (setX x n) z9 (c1 ++ [58, 32]))).1 2 r < 1 := by rw [eA]; exact hAr
  have hM9 := klevel (ρ := (tR ρ a2_ (tcT ρ.2.2.2.2.1 (z9 + (c1 ++ [58, 32]).length)))) (x := (txA (setX x n) z9 (c1 ++ [58, 32]))) (m := m) (ou := ou) hG r (by omega) hA9
  rw [eC] at hM9
  refine az_callV C Y_X2_level cX2 0 1 [.int (nI r)] [.ref (ρ.1 14)] wm_X3_98 wi_X2_level wse_X2_level dX3_writeReach_32 rfl rfl rfl hM9 rfl (Nat.le_of_ble_eq_true rfl) (Nat.le_of_ble_eq_true rfl) (Nat.le_of_ble_eq_true rfl) (Nat.le_trans (Nat.le_of_eq (Nat.add_zero _)) hB2.2.1) (Nat.le_trans (Nat.le_of_eq (Nat.add_zero _)) hB2.2.2) (az_k1 rfl rfl ?_) (az_k0 rfl)
  have hB3 := hbd ((c1 ++ [58, 32]) ++ digT L) ⟨_, by show _ = ((((c1 ++ [58, 32]) ++ digT L) ++ [100, 109]) ++ rowsT (setX x n) (nI r) ch nb 0); simp only [List.append_assoc]; rfl⟩
  have hM3 := XTi (ρ := (tR ρ a2_ (tcT ρ.2.2.2.2.1 (z9 + (c1 ++ [58, 32]).length)))) (x := (txA (setX x n) z9 (c1 ++ [58, 32]))) (m := m) (ou := ou) hG hT (z9 + (c1 ++ [58, 32]).length) (TxOK_A h0 hB2.1) (TxB_A hb0 hlt2) L hLL (by have z := hB3.1; simp at z ⊢; omega)
  refine az_callV C Y_J4_append_bf812 cJ4 0 14 [.int ((nI L))] [] wm_X3_303 wi_J4_append_bf812 wse_J4_append_bf812 dX3_writeReach_35 rfl rfl rfl hM3 rfl (Nat.le_of_ble_eq_true rfl) (Nat.le_of_ble_eq_true rfl) (Nat.le_of_ble_eq_true rfl) (az_tc1 (k0 := 0) (n := z9) (cs := (c1 ++ [58, 32])) (ds := digT L) (ρ := ρ) htc hB3.1 hB3.2.1) (az_tc2 (n0 := 0) (n := z9) (cs := (c1 ++ [58, 32])) (ds := digT L) (ρ := ρ) htc hB3.1 hB3.2.2) (az_tk (k0 := 0) (n0 := 0) (st1 := [.ref (ρ.1 14)]) (n := z9) (cs := (c1 ++ [58, 32])) (ds := digT L) (ρ := ρ) (x := setX x n) htc ha2_ hB3.1 rfl rfl (fun a3_ ha3_ => ?_)) (az_tk0 rfl)
  refine az_ldcSW C (hT _ _ C.hO).2.2.2.1 dX3_writeReach_38 ?_
  have hB4 := hbd (((c1 ++ [58, 32]) ++ digT L) ++ [100, 109]) ⟨_, by show _ = ((((c1 ++ [58, 32]) ++ digT L) ++ [100, 109]) ++ rowsT (setX x n) (nI r) ch nb 0); simp only [List.append_assoc]; rfl⟩
  have hM4 := XTs (ρ := (tR ρ a3_ (tcT ρ.2.2.2.2.1 (z9 + ((c1 ++ [58, 32]) ++ digT L).length)))) (x := (txA (setX x n) z9 ((c1 ++ [58, 32]) ++ digT L))) (m := m) (ou := ou) hG hT (fun U H hU => (hT U H hU).2.2.2) hby2 (b9 := 100) (c9 := 109) hbb2 (z9 + ((c1 ++ [58, 32]) ++ digT L).length) (TxOK_A h0 hB3.1) (TxB_A hb0 hlt3) (by have z := hB4.1; simp at z ⊢; omega)
  refine az_callV C Y_J4_append_15ec4 cJ4 0 14 [.ref A.2.2.1] [] wm_X3_309 wi_J4_append_15ec4 wse_J4_append_15ec4 dX3_writeReach_41 rfl rfl rfl hM4 rfl (Nat.le_of_ble_eq_true rfl) (Nat.le_of_ble_eq_true rfl) (Nat.le_of_ble_eq_true rfl) (az_tc1 (k0 := 0) (n := z9) (cs := ((c1 ++ [58, 32]) ++ digT L)) (ds := [100, 109]) (ρ := ρ) htc hB4.1 hB4.2.1) (az_tc2 (n0 := 0) (n := z9) (cs := ((c1 ++ [58, 32]) ++ digT L)) (ds := [100, 109]) (ρ := ρ) htc hB4.1 hB4.2.2) (az_tk (k0 := 0) (n0 := 0) (st1 := [.ref (ρ.1 14)]) (n := z9) (cs := ((c1 ++ [58, 32]) ++ digT L)) (ds := [100, 109]) (ρ := ρ) (x := setX x n) htc ha3_ hB4.1 rfl rfl (fun a4_ ha4_ => ?_)) (az_tk0 rfl)
  refine az_pop C dX3_writeReach_44 rfl ?_
  refine az_aload_n C 0 dX3_writeReach_45 rfl ?_
  refine az_get C cX3 0 0 5 (v := .ref ((tR ρ a4_ (tcT ρ.2.2.2.2.1 (z9 + (((c1 ++ [58, 32]) ++ digT L) ++ [100, 109]).length))).1 13)) wl_X3_31 dX3_writeReach_46 rfl rfl rfl (by decide) ?_
  refine az_astore_n C (lv' := [(2, .ref ((tR ρ a4_ (tcT ρ.2.2.2.2.1 (z9 + (((c1 ++ [58, 32]) ++ digT L) ++ [100, 109]).length))).1 13)), (0, .ref (ρ.1 0)), (1, .int (nI r))]) (j := 2) rfl dX3_writeReach_49 (by decide) rfl ?_
  refine az_aload_n C 0 dX3_writeReach_50 rfl ?_
  refine az_alen C 0 13 (z := 5) (cy := (G.2.2.1 5, .object az_B)) dX3_writeReach_51 rfl rfl rfl ?_
  refine az_istore_n C (lv' := [(3, .int (nI 8)), (2, .ref ((tR ρ a4_ (tcT ρ.2.2.2.2.1 (z9 + (((c1 ++ [58, 32]) ++ digT L) ++ [100, 109]).length))).1 13)), (0, .ref (ρ.1 0)), (1, .int (nI r))]) (j := 3) rfl dX3_writeReach_52 (by decide) rfl ?_
  refine az_iconst C (v := 0) dX3_writeReach_53 (by decide) ?_
  refine az_istore C (lv' := [(4, .int 0), (3, .int (nI 8)), (2, .ref ((tR ρ a4_ (tcT ρ.2.2.2.2.1 (z9 + (((c1 ++ [58, 32]) ++ digT L) ++ [100, 109]).length))).1 13)), (0, .ref (ρ.1 0)), (1, .int (nI r))]) dX3_writeReach_54 (by decide) rfl ?_
  have hQ : az_tx G (some (.int (nI (0 + (([48 + r] ++ [58, 32] ++ digT L ++ [100, 109]) ++ rowsT x (nI r) ch nb 0).length)))) ρ (tcT ρ.2.2.2.2.1 (0 + (([48 + r] ++ [58, 32] ++ digT L ++ [100, 109]) ++ rowsT x (nI r) ch nb 0).length)) (txA (setX x n) 0 (([48 + r] ++ [58, 32] ++ digT L ++ [100, 109]) ++ rowsT x (nI r) ch nb 0)) m ou = az_tx G (some (.int (nI (z9 + ((((c1 ++ [58, 32]) ++ digT L) ++ [100, 109]) ++ rowsT (setX x n) (nI r) ch nb 0).length)))) ρ (tcT ρ.2.2.2.2.1 (z9 + ((((c1 ++ [58, 32]) ++ digT L) ++ [100, 109]) ++ rowsT (setX x n) (nI r) ch nb 0).length)) (txA (setX x n) z9 ((((c1 ++ [58, 32]) ++ digT L) ++ [100, 109]) ++ rowsT (setX x n) (nI r) ch nb 0)) m ou := by rw [eF, hz9]
  rw [hQ]
  have hU1 : 0 + (tcT ρ.2.2.2.2.1 (z9 + ((((c1 ++ [58, 32]) ++ digT L) ++ [100, 109]) ++ rowsT (setX x n) (nI r) ch nb 0).length) - ρ.2.2.2.2.1) ≤ (tcT ρ.2.2.2.2.1 (0 + (([48 + r] ++ [58, 32] ++ digT L ++ [100, 109]) ++ rowsT x (nI r) ch nb 0).length)) - ρ.2.2.2.2.1 := by rw [eF, hz9, Nat.zero_add (_ - _)]; exact Nat.le_refl _
  have hU2 : 0 + 2 * (tcT ρ.2.2.2.2.1 (z9 + ((((c1 ++ [58, 32]) ++ digT L) ++ [100, 109]) ++ rowsT (setX x n) (nI r) ch nb 0).length) - ρ.2.2.2.2.1) ≤ 2 * ((tcT ρ.2.2.2.2.1 (0 + (([48 + r] ++ [58, 32] ++ digT L ++ [100, 109]) ++ rowsT x (nI r) ch nb 0).length)) - ρ.2.2.2.2.1) := by rw [eF, hz9, Nat.zero_add (2 * _)]; exact Nat.le_refl _
  have hb9 : (setX x n).1 0 7 = nI nb := (setX_p (x := x) (p := 0) (by decide)).trans hbn
  have hc9 : ∀ k, k < nb → (setX x n).2.1 k 4 = nI r → (setX x n).2.2.1 0 k = none → XSuf ρ.2.2.2.2.2 (setX x n) (k :: ch k) := fun k hk9 h4 h5 => XSuf_x (x := x) setX_2 (hch k hk9 (by rw [← setX_2 (x := x) (n := n)]; exact h4) (by rw [← setX_2 (x := x) (n := n)]; exact h5))
  exact az_lv [0, 1, 2, 4, 3] rfl (Xwr_l (x := setX x n) hG hT C z9 h0 hb0 r nb hb9 hnb hn8 ch hc9 nb (((c1 ++ [58, 32]) ++ digT L) ++ [100, 109]) a4_ 0 (by omega) ha4_ hlt4 hL0 hU1 hU2)

set_option maxHeartbeats 4000000 in
set_option maxRecDepth 100000 in
theorem XwriteReach0 (hG : az_okS l G) (nr : Nat) (v : Int32) (hr : x.1 1 8 = nI nr) (hn : nr ≤ 6) (hv : oo nr v) : az_M l G yX3_writeReach (az_ws yX3_writeReach cX3_writeReach 6 (Option.some FieldType.int)) 8 [.ref (ρ.1 0), .int v] (AD ρ) (KK G ρ x m ou) 1 6 (az_x "java/lang/IndexOutOfBoundsException" (AD ρ) (KK G ρ x m ou)) := by
  refine az_start hG.1 (by decide +kernel) (Nat.le_of_ble_eq_true rfl) ?_
  intro p e s mm args below meth c C hnm
  show az_W l G 6 _ p e _ s mm args below meth c _ _ 0 0 0 [(0, .ref (ρ.1 0)), (1, .int v)] []
  refine az_aload_n C 0 dX3_writeReach_0 rfl ?_
  refine az_iload_n C 1 dX3_writeReach_1 rfl ?_
  refine az_callV C Y_X3_needReach cX3 0 0 [.int v] [] wm_X3_78 wi_X3_needReach wse_X3_needReach dX3_writeReach_2 rfl rfl rfl (XneedReach0 hG nr v hr hn hv) rfl (Nat.le_of_ble_eq_true rfl) (Nat.le_of_ble_eq_true rfl) (Nat.le_of_ble_eq_true rfl) (Nat.le_of_ble_eq_true rfl) (Nat.le_of_ble_eq_true rfl) (az_x0 rfl) (az_x1 rfl ?_)
  exact az_out C (fun _ h => by cases h) (Nat.le_of_ble_eq_true rfl) (Nat.le_of_ble_eq_true rfl) ⟨rfl, rfl, rfl⟩

set_option maxHeartbeats 4000000 in
set_option maxRecDepth 100000 in
theorem XlineAt1 (hG : az_okS l G) {A : Nat × Nat × Nat × Nat} (hT : az_okT G A) (n : Nat) (h : TxOK ρ x n) (i : Nat) (hi : i < n) : az_M l G yX3_lineAt (az_ws yX3_lineAt cX3_lineAt 2 (Option.some FieldType.char)) 5 [.ref (ρ.1 0), .int (nI i)] (AD ρ) (KK G ρ x m ou) 0 0 (az_r (some (.int (((x.1 23 i &&& 255).toUInt32 % 65536).toInt32))) (AD ρ) (KK G ρ x m ou)) := by
  refine az_start hG.1 (by decide +kernel) (Nat.le_of_ble_eq_true rfl) ?_
  intro p e s mm args below meth c C hnm
  show az_W l G 2 _ p e _ s mm args below meth c _ _ 0 0 0 [(0, .ref (ρ.1 0)), (1, .int (nI i))] []
  have h4 := h.2.2.2.1
  have h3 := h.2.2.1
  refine az_iload_n C 1 dX3_lineAt_0 rfl ?_
  refine az_if_lt C 15 dX3_lineAt_1 (by decide) (fun q => absurd q (Int32.not_lt.mpr (nI_pos' (by omega)))) (fun _ => ?_)
  refine az_iload_n C 1 dX3_lineAt_4 rfl ?_
  refine az_aload_n C 0 dX3_lineAt_5 rfl ?_
  refine az_get C cX3 0 0 6 (v := .ref (ρ.1 14)) wl_X3_38 dX3_lineAt_6 rfl rfl rfl (by decide) ?_
  refine az_callV C Y_J4_length_8abf5 cJ4 0 14 [] [.int (nI i)] wm_X3_321 wi_J4_length_8abf5 wse_J4_length_8abf5 dX3_lineAt_9 rfl rfl rfl (XTlen hG hT) rfl (Nat.le_of_ble_eq_true rfl) (Nat.le_of_ble_eq_true rfl) (Nat.le_of_ble_eq_true rfl) (Nat.le_of_ble_eq_true rfl) (Nat.le_of_ble_eq_true rfl) (az_k1 rfl rfl ?_) (az_k0 rfl)
  refine az_top (nI n) h.2.1 ?_
  refine az_icmp_lt C 26 dX3_lineAt_12 (by decide) (fun _ => ?_) (fun q => absurd (Int32.not_le.mp (nlt_nle hi (by omega))) q)
  refine az_aload_n C 0 dX3_lineAt_26 rfl ?_
  refine az_get C cX3 0 0 6 (v := .ref (ρ.1 14)) wl_X3_38 dX3_lineAt_27 rfl rfl rfl (by decide) ?_
  refine az_iload_n C 1 dX3_lineAt_30 rfl ?_
  refine az_callV C Y_J4_charAt_5068e cJ4 0 14 [.int (nI i)] [] wm_X3_329 wi_J4_charAt_5068e wse_J4_charAt_5068e dX3_lineAt_31 rfl rfl rfl (XTchAt hG hT n h i hi) rfl (Nat.le_of_ble_eq_true rfl) (Nat.le_of_ble_eq_true rfl) (Nat.le_of_ble_eq_true rfl) (Nat.le_of_ble_eq_true rfl) (Nat.le_of_ble_eq_true rfl) (az_k1 rfl rfl ?_) (az_k0 rfl)
  exact az_zret C .char rfl (pk_nc _) dX3_lineAt_34 (Nat.le_of_ble_eq_true rfl) (Nat.le_of_ble_eq_true rfl) ⟨rfl, rfl, rfl⟩

set_option maxHeartbeats 4000000 in
set_option maxRecDepth 100000 in
theorem XlineAt0 (hG : az_okS l G) {A : Nat × Nat × Nat × Nat} (hT : az_okT G A) (n : Nat) (h : TxOK ρ x n) (v : Int32) (hv : oo n v) : az_M l G yX3_lineAt (az_ws yX3_lineAt cX3_lineAt 2 (Option.some FieldType.char)) 6 [.ref (ρ.1 0), .int v] (AD ρ) (KK G ρ x m ou) 1 6 (az_x "java/lang/IndexOutOfBoundsException" (AD ρ) (KK G ρ x m ou)) := by
  refine az_start hG.1 (by decide +kernel) (Nat.le_of_ble_eq_true rfl) ?_
  intro p e s mm args below meth c C hnm
  show az_W l G 2 _ p e _ s mm args below meth c _ _ 0 0 0 [(0, .ref (ρ.1 0)), (1, .int v)] []
  have h4 := h.2.2.2.1
  have h3 := h.2.2.1
  refine az_iload_n C 1 dX3_lineAt_0 rfl ?_
  refine az_if_lt C 15 dX3_lineAt_1 (by decide) (fun c1 => ?_) (fun c1 => ?_)
  · exact az_thrSW_IOB C hG (List.mem_of_getElem? (i := 28) rfl) dX3_lineAt_15 dX3_lineAt_18 dX3_lineAt_19 dX3_lineAt_22 dX3_lineAt_25 (Nat.le_of_ble_eq_true rfl) (Nat.le_of_ble_eq_true rfl) (Nat.le_of_ble_eq_true rfl) (Nat.le_of_ble_eq_true rfl) (Nat.le_of_ble_eq_true rfl) (Nat.le_of_ble_eq_true rfl) ⟨rfl, rfl, rfl⟩
  · refine az_iload_n C 1 dX3_lineAt_4 rfl ?_
    refine az_aload_n C 0 dX3_lineAt_5 rfl ?_
    refine az_get C cX3 0 0 6 (v := .ref (ρ.1 14)) wl_X3_38 dX3_lineAt_6 rfl rfl rfl (by decide) ?_
    refine az_callV C Y_J4_length_8abf5 cJ4 0 14 [] [.int v] wm_X3_321 wi_J4_length_8abf5 wse_J4_length_8abf5 dX3_lineAt_9 rfl rfl rfl (XTlen hG hT) rfl (Nat.le_of_ble_eq_true rfl) (Nat.le_of_ble_eq_true rfl) (Nat.le_of_ble_eq_true rfl) (Nat.le_of_ble_eq_true rfl) (Nat.le_of_ble_eq_true rfl) (az_k1 rfl rfl ?_) (az_k0 rfl)
    refine az_top (nI n) h.2.1 ?_
    refine az_icmp_lt C 26 dX3_lineAt_12 (by decide) (fun q => absurd q (Int32.not_lt.mpr (hv.resolve_left c1))) (fun _ => ?_)
    exact az_thrSW_IOB C hG (List.mem_of_getElem? (i := 28) rfl) dX3_lineAt_15 dX3_lineAt_18 dX3_lineAt_19 dX3_lineAt_22 dX3_lineAt_25 (Nat.le_of_ble_eq_true rfl) (Nat.le_of_ble_eq_true rfl) (Nat.le_of_ble_eq_true rfl) (Nat.le_of_ble_eq_true rfl) (Nat.le_of_ble_eq_true rfl) (Nat.le_of_ble_eq_true rfl) ⟨rfl, rfl, rfl⟩

end
