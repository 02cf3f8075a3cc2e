section
variable {l : Launch} {G : az_G} {ρ : Rp} {x : Xs} {m : Ms} {ou : Nat → Int64}
set_option maxHeartbeats 4000000 in
set_option maxRecDepth 100000 in
theorem Xscod (hG : az_okS l G) {kx : Nat} {tx : String} {byt : List Int32} {a v : Nat} (hs : ∀ (U : State) (H : Heap), G.2.2.2 U H → az_sAt G.1 kx tx byt a v U H)  : az_M l G yJ0_coder_7d493 (az_ws yJ0_coder_7d493 cJ0_coder_7d493 1 (Option.some FieldType.byte)) 1 [.ref a] (AD ρ) (KK G ρ x m ou) 0 0 (az_r (some (.int 0)) (AD ρ) (KK G ρ x m ou)) := by
  refine az_start hG.1 (by decide +kernel) (Nat.le_of_ble_eq_true rfl) ?_
  intro p e s mm args below meth c C hnm
  show az_W l G 1 _ p e _ s mm args below meth c _ _ 0 0 0 [(0, .ref a)] []
  obtain ⟨s1, s2, s3, s4, s5⟩ := hs _ _ C.hO
  refine az_gets C (hG.2 _ _ C.hO).2.2.2.2.2.2.1 wl_J0_38 dJ0_coder_7d493_0 ?_
  refine az_if_eq C 13 dJ0_coder_7d493_3 (by decide) (fun q => absurd q (by decide)) (fun _ => ?_)
  refine az_aload_n C 0 dJ0_coder_7d493_6 rfl ?_
  refine az_sgetf C s3 wl_J0_15 dJ0_coder_7d493_7 ?_
  refine az_goto C 14 dJ0_coder_7d493_10 (by decide) ?_
  exact az_zret C .byte rfl rfl dJ0_coder_7d493_14 (Nat.le_of_ble_eq_true rfl) (Nat.le_of_ble_eq_true rfl) ⟨rfl, rfl, rfl⟩

set_option maxHeartbeats 4000000 in
set_option maxRecDepth 100000 in
theorem Xslen (hG : az_okS l G) {kx : Nat} {tx : String} {byt : List Int32} {a v : Nat} (hs : ∀ (U : State) (H : Heap), G.2.2.2 U H → az_sAt G.1 kx tx byt a v U H)  : az_M l G yJ0_length_8abf5 (az_ws yJ0_length_8abf5 cJ0_length_8abf5 1 (Option.some FieldType.int)) 2 [.ref a] (AD ρ) (KK G ρ x m ou) 0 0 (az_r (some (.int (nI 2))) (AD ρ) (KK G ρ x m ou)) := by
  refine az_start hG.1 (by decide +kernel) (Nat.le_of_ble_eq_true rfl) ?_
  intro p e s mm args below meth c C hnm
  show az_W l G 1 _ p e _ s mm args below meth c _ _ 0 0 0 [(0, .ref a)] []
  obtain ⟨s1, s2, s3, s4, s5⟩ := hs _ _ C.hO
  refine az_aload_n C 0 dJ0_length_8abf5_0 rfl ?_
  refine az_sgetf C s4 wl_J0_9 dJ0_length_8abf5_1 ?_
  refine az_tlen C s5 dJ0_length_8abf5_4 ?_
  refine az_aload_n C 0 dJ0_length_8abf5_5 rfl ?_
  refine az_callVO C Y_J0_coder_7d493 s2 [] [.int (nI 2)] wm_J0_335 wi_J0_coder_7d493 wse_J0_coder_7d493 dJ0_length_8abf5_6 rfl (Xscod (ρ := ρ) (x := x) hG hs) rfl (Nat.le_of_ble_eq_true rfl) (Nat.le_of_ble_eq_true rfl) (Nat.le_of_ble_eq_true rfl) (Nat.le_of_ble_eq_true rfl) (Nat.le_of_ble_eq_true rfl) (az_k1 rfl rfl ?_) (az_k0 rfl)
  refine az_ishr C dJ0_length_8abf5_9 ?_
  refine az_top (nI 2) (sb_shr0 _) ?_
  exact az_iret C rfl dJ0_length_8abf5_10 (Nat.le_of_ble_eq_true rfl) (Nat.le_of_ble_eq_true rfl) ⟨rfl, rfl, rfl⟩

set_option maxHeartbeats 4000000 in
set_option maxRecDepth 100000 in
theorem XgetB (hG : az_okS l G) {kx : Nat} {tx : String} {byt : List Int32} {a v : Nat} (hs : ∀ (U : State) (H : Heap), G.2.2.2 U H → az_sAt G.1 kx tx byt a v U H) (hby : ∀ j, fits .byte (.int (byt.getD j 0)) = true) (n : Nat) (hn : n + 2 ≤ ρ.2.2.2.2.1) (h34 : ρ.2.2.2.2.1 ≤ 34) : az_M l G yJ0_getBytes_840e7 (az_ws yJ0_getBytes_840e7 cJ0_getBytes_840e7 4 (Option.none : Option FieldType)) 2 [.ref a, .ref (ρ.2.1 23), .int (nI n), .int 0] (AD ρ) (KK G ρ x m ou) 0 0 (az_r none (AD ρ) (KK G ρ (xR x 23 (va_cpy (fun j => byt.getD j 0) (x.1 23) (0 : Int32).toNatClampNeg (nI n).toNatClampNeg (nI 2).toNatClampNeg)) m ou)) := by
  refine az_start hG.1 (by decide +kernel) (Nat.le_of_ble_eq_true rfl) ?_
  intro p e s mm args below meth c C hnm
  show az_W l G 4 _ p e _ s mm args below meth c _ _ 0 0 0 [(0, .ref a), (1, .ref (ρ.2.1 23)), (2, .int (nI n)), (3, .int 0)] []
  obtain ⟨s1, s2, s3, s4, s5⟩ := hs _ _ C.hO
  refine az_aload_n C 0 dJ0_getBytes_840e7_0 rfl ?_
  refine az_callVO C Y_J0_coder_7d493 s2 [] [] wm_J0_335 wi_J0_coder_7d493 wse_J0_coder_7d493 dJ0_getBytes_840e7_1 rfl (Xscod (ρ := ρ) (x := x) hG hs) rfl (Nat.le_of_ble_eq_true rfl) (Nat.le_of_ble_eq_true rfl) (Nat.le_of_ble_eq_true rfl) (Nat.le_of_ble_eq_true rfl) (Nat.le_of_ble_eq_true rfl) (az_k1 rfl rfl ?_) (az_k0 rfl)
  refine az_iload_n C 3 dJ0_getBytes_840e7_4 rfl ?_
  refine az_icmp_ne C 28 dJ0_getBytes_840e7_5 (by decide) (fun q => absurd (by decide) q) (fun _ => ?_)
  refine az_aload_n C 0 dJ0_getBytes_840e7_8 rfl ?_
  refine az_sgetf C s4 wl_J0_9 dJ0_getBytes_840e7_9 ?_
  refine az_iconst C (v := 0) dJ0_getBytes_840e7_12 (by decide) ?_
  refine az_aload_n C 1 dJ0_getBytes_840e7_13 rfl ?_
  refine az_iload_n C 2 dJ0_getBytes_840e7_14 rfl ?_
  refine az_iload_n C 3 dJ0_getBytes_840e7_15 rfl ?_
  refine az_ishl C dJ0_getBytes_840e7_16 ?_
  refine az_top (nI n) (sb_shl0 _) ?_
  refine az_aload_n C 0 dJ0_getBytes_840e7_17 rfl ?_
  refine az_sgetf C s4 wl_J0_9 dJ0_getBytes_840e7_18 ?_
  refine az_tlen C s5 dJ0_getBytes_840e7_21 ?_
  refine az_copyT C (f := fun j => byt.getD j 0) (g := x.1 23) (n1 := ρ.2.2.2.2.1) s5 0 23 wm_J0_212 wnat_copy wst_copy wini_System dJ0_getBytes_840e7_22 rfl rfl (by decide) (Int32.not_lt.mpr (nI_pos' (by omega))) (by decide) (by show 0 + 2 ≤ 2; omega) (by rw [nI_clamp (by omega)]; show n + 2 ≤ ρ.2.2.2.2.1; omega) (fun j hj => by rw [show (0 : Int32).toNatClampNeg + j = j from Nat.zero_add j]; exact hby j) (Nat.le_of_ble_eq_true rfl) (Nat.le_of_ble_eq_true rfl) (az_to rfl (K' := KK G ρ (xR x 23 (va_cpy (fun j => byt.getD j 0) (x.1 23) (0 : Int32).toNatClampNeg (nI n).toNatClampNeg (nI 2).toNatClampNeg)) m ou) (KK_R rfl) ?_)
  refine az_goto C 43 dJ0_getBytes_840e7_25 (by decide) ?_
  exact az_vret C rfl dJ0_getBytes_840e7_43 (Nat.le_of_ble_eq_true rfl) (Nat.le_of_ble_eq_true rfl) ⟨rfl, rfl, rfl⟩

set_option maxHeartbeats 4000000 in
set_option maxRecDepth 100000 in
theorem Xinfl (hG : az_okS l G) {kx : Nat} {tx : String} {byt : List Int32} {a v : Nat} (hs : ∀ (U : State) (H : Heap), G.2.2.2 U H → az_sAt G.1 kx tx byt a v U H) (h : x.1 14 1 = 0) : az_M l G yJ5_inflateIfNeededFor_a7421 (az_ws yJ5_inflateIfNeededFor_a7421 cJ5_inflateIfNeededFor_a7421 2 (Option.none : Option FieldType)) 2 [.ref (ρ.1 14), .ref a] (AD ρ) (KK G ρ x m ou) 0 0 (az_r none (AD ρ) (KK G ρ x m ou)) := by
  refine az_start hG.1 (by decide +kernel) (Nat.le_of_ble_eq_true rfl) ?_
  intro p e s mm args below meth c C hnm
  show az_W l G 2 _ p e _ s mm args below meth c _ _ 0 0 0 [(0, .ref (ρ.1 14)), (1, .ref a)] []
  obtain ⟨s1, s2, s3, s4, s5⟩ := hs _ _ C.hO
  refine az_gets C (hG.2 _ _ C.hO).2.2.2.2.2.2.1 wl_J5_18 dJ5_inflateIfNeededFor_a7421_0 ?_
  refine az_if_eq C 21 dJ5_inflateIfNeededFor_a7421_3 (by decide) (fun q => absurd q (by decide)) (fun _ => ?_)
  refine az_aload_n C 0 dJ5_inflateIfNeededFor_a7421_6 rfl ?_
  refine az_get C cJ4 0 14 1 (v := .int (x.1 14 1)) wl_J5_22 dJ5_inflateIfNeededFor_a7421_7 rfl rfl rfl (by decide) ?_
  refine az_top (0) h ?_
  refine az_aload_n C 1 dJ5_inflateIfNeededFor_a7421_10 rfl ?_
  refine az_callVO C Y_J0_coder_7d493 s2 [] [.int 0] wm_J5_40 wi_J0_coder_7d493 wse_J0_coder_7d493 dJ5_inflateIfNeededFor_a7421_11 rfl (Xscod (ρ := ρ) (x := x) hG hs) rfl (Nat.le_of_ble_eq_true rfl) (Nat.le_of_ble_eq_true rfl) (Nat.le_of_ble_eq_true rfl) (Nat.le_of_ble_eq_true rfl) (Nat.le_of_ble_eq_true rfl) (az_k1 rfl rfl ?_) (az_k0 rfl)
  refine az_icmp_eq C 21 dJ5_inflateIfNeededFor_a7421_14 (by decide) (fun _ => ?_) (fun q => absurd rfl q)
  exact az_vret C rfl dJ5_inflateIfNeededFor_a7421_21 (Nat.le_of_ble_eq_true rfl) (Nat.le_of_ble_eq_true rfl) ⟨rfl, rfl, rfl⟩

set_option maxHeartbeats 4000000 in
set_option maxRecDepth 100000 in
theorem XputS (hG : az_okS l G) {A : Nat × Nat × Nat × Nat} (hT : az_okT G A) {kx : Nat} {tx : String} {byt : List Int32} {a v : Nat} (hs : ∀ (U : State) (H : Heap), G.2.2.2 U H → az_sAt G.1 kx tx byt a v U H) (hby : ∀ j, fits .byte (.int (byt.getD j 0)) = true) (n : Nat) (h : TxOK ρ x n) (hn : n + 2 ≤ ρ.2.2.2.2.1) : az_M l G yJ5_putStringAt_47b60 (az_ws yJ5_putStringAt_47b60 cJ5_putStringAt_47b60 3 (Option.none : Option FieldType)) 3 [.ref (ρ.1 14), .int (nI n), .ref a] (AD ρ) (KK G ρ x m ou) 0 0 (az_r none (AD ρ) (KK G ρ (xR x 23 (va_cpy (fun j => byt.getD j 0) (x.1 23) (0 : Int32).toNatClampNeg (nI n).toNatClampNeg (nI 2).toNatClampNeg)) m ou)) := by
  refine az_start hG.1 (by decide +kernel) (Nat.le_of_ble_eq_true rfl) ?_
  intro p e s mm args below meth c C hnm
  show az_W l G 3 _ p e _ s mm args below meth c _ _ 0 0 0 [(0, .ref (ρ.1 14)), (1, .int (nI n)), (2, .ref a)] []
  obtain ⟨s1, s2, s3, s4, s5⟩ := hs _ _ C.hO
  have h4 := h.2.2.2.1
  refine az_aload_n C 0 dJ5_putStringAt_47b60_0 rfl ?_
  refine az_aload_n C 2 dJ5_putStringAt_47b60_1 rfl ?_
  refine az_callVP C Y_J5_inflateIfNeededFor_a7421 cJ4 0 14 [.ref a] [] wm_J5_397 wi_J5_inflateIfNeededFor_a7421 (az_sl C hT 3 rfl rfl) dJ5_putStringAt_47b60_2 rfl rfl rfl (Xinfl hG hs h.1) rfl (Nat.le_of_ble_eq_true rfl) (Nat.le_of_ble_eq_true rfl) (Nat.le_of_ble_eq_true rfl) (Nat.le_of_ble_eq_true rfl) (Nat.le_of_ble_eq_true rfl) (az_k1 rfl rfl ?_) (az_k0 rfl)
  refine az_aload_n C 2 dJ5_putStringAt_47b60_5 rfl ?_
  refine az_aload_n C 0 dJ5_putStringAt_47b60_6 rfl ?_
  refine az_get C cJ4 0 14 0 (v := .ref (ρ.2.1 23)) wl_J5_15 dJ5_putStringAt_47b60_7 rfl rfl rfl (by decide) ?_
  refine az_iload_n C 1 dJ5_putStringAt_47b60_10 rfl ?_
  refine az_aload_n C 0 dJ5_putStringAt_47b60_11 rfl ?_
  refine az_get C cJ4 0 14 1 (v := .int (x.1 14 1)) wl_J5_22 dJ5_putStringAt_47b60_12 rfl rfl rfl (by decide) ?_
  refine az_top (0) h.1 ?_
  refine az_callVO C Y_J0_getBytes_840e7 s2 [.ref (ρ.2.1 23), .int (nI n), .int 0] [] wm_J5_399 wi_J0_getBytes_840e7 wse_J0_getBytes_840e7 dJ5_putStringAt_47b60_15 rfl (XgetB hG hs hby n hn (by omega)) rfl (Nat.le_of_ble_eq_true rfl) (Nat.le_of_ble_eq_true rfl) (Nat.le_of_ble_eq_true rfl) (Nat.le_of_ble_eq_true rfl) (Nat.le_of_ble_eq_true rfl) (az_k1 rfl rfl ?_) (az_k0 rfl)
  exact az_vret C rfl dJ5_putStringAt_47b60_18 (Nat.le_of_ble_eq_true rfl) (Nat.le_of_ble_eq_true rfl) ⟨rfl, rfl, rfl⟩

theorem cp_2 {byt : List Int32} {f : Nat → Int32} {n b c : Nat} (hb : byt = [nI b, nI c]) (hn : n < 2 ^ 20) (k : Nat) : va_cpy (fun j => byt.getD j 0) f (0 : Int32).toNatClampNeg (nI n).toNatClampNeg (nI 2).toNatClampNeg k = if k = n then nI b else if k = n + 1 then nI c else f k := by
  rw [nI_clamp (by omega)]
  show (if n ≤ k ∧ k < n + 2 then byt.getD (0 + (k - n)) 0 else f k) = _
  subst hb
  by_cases h1 : k = n
  · subst h1; rw [if_pos (by omega), if_pos rfl, Nat.sub_self]; rfl
  · by_cases h2 : k = n + 1
    · subst h2; rw [if_pos (by omega), if_neg (by omega), if_pos rfl, Nat.add_sub_cancel_left]; rfl
    · rw [if_neg (by omega), if_neg h1, if_neg h2]
set_option maxHeartbeats 4000000 in
set_option maxRecDepth 100000 in
theorem XapS (hG : az_okS l G) {A : Nat × Nat × Nat × Nat} (hT : az_okT G A) {kx : Nat} {tx : String} {byt : List Int32} {a v : Nat} (hs : ∀ (U : State) (H : Heap), G.2.2.2 U H → az_sAt G.1 kx tx byt a v U H) (hby : ∀ j, fits .byte (.int (byt.getD j 0)) = true) {b9 c9 : Nat} (hbb : byt = [nI b9, nI c9]) (n : Nat) (h : TxOK ρ x n) (hb : TxB x) (hl : n + 2 ≤ 34) : az_M l G yJ5_append_cf1ce (az_ws yJ5_append_cf1ce cJ5_append_cf1ce 3 (Option.some (FieldType.object "java/lang/AbstractStringBuilder"))) 5 [.ref (ρ.1 14), .ref a] (AD ρ) (KK G ρ x m ou) ((tcT ρ.2.2.2.2.1 (n + 2)) - ρ.2.2.2.2.1) (2 * ((tcT ρ.2.2.2.2.1 (n + 2)) - ρ.2.2.2.2.1)) (az_tx G (some (.ref (ρ.1 14))) ρ (tcT ρ.2.2.2.2.1 (n + 2)) (txA x n [b9, c9]) m ou) := by
  refine az_start hG.1 (by decide +kernel) (Nat.le_of_ble_eq_true rfl) ?_
  intro p e s mm args below meth c C hnm
  show az_W l G 3 _ p e _ s mm args below meth c _ _ 0 0 0 [(0, .ref (ρ.1 14)), (1, .ref a)] []
  obtain ⟨s1, s2, s3, s4, s5⟩ := hs _ _ C.hO
  have h4 := h.2.2.2.1
  have hlt : n + 2 ≤ (tcT ρ.2.2.2.2.1 (n + 2)) := tcT_n hl
  have ho : (tcT ρ.2.2.2.2.1 (n + 2)) = 16 ∨ (tcT ρ.2.2.2.2.1 (n + 2)) = 34 := tcT_o h4
  refine az_aload_n C 1 dJ5_append_cf1ce_0 rfl ?_
  refine az_ifnonnull C 9 dJ5_append_cf1ce_1 (by decide) ?_
  refine az_aload_n C 1 dJ5_append_cf1ce_9 rfl ?_
  refine az_callVO C Y_J0_length_8abf5 s2 [] [] wm_J5_32 wi_J0_length_8abf5 wse_J0_length_8abf5 dJ5_append_cf1ce_10 rfl (Xslen hG hs) rfl (Nat.le_of_ble_eq_true rfl) (Nat.le_of_ble_eq_true rfl) (Nat.le_of_ble_eq_true rfl) (by show _ ≤ (tcT ρ.2.2.2.2.1 (n + 2)) - ρ.2.2.2.2.1; omega) (by show _ ≤ 2 * ((tcT ρ.2.2.2.2.1 (n + 2)) - ρ.2.2.2.2.1); omega) (az_k1 rfl rfl ?_) (az_k0 rfl)
  refine az_istore_n C (lv' := [(2, .int (nI 2)), (0, .ref (ρ.1 14)), (1, .ref a)]) (j := 2) rfl dJ5_append_cf1ce_13 (by decide) rfl ?_
  refine az_aload_n C 1 dJ5_append_cf1ce_14 rfl ?_
  refine az_aload_n C 1 dJ5_append_cf1ce_15 rfl ?_
  refine az_get C cJ4 0 14 3 (v := .int (x.1 14 3)) wl_J5_79 dJ5_append_cf1ce_16 rfl rfl rfl (by decide) ?_
  refine az_top (nI n) h.2.1 ?_
  refine az_iload_n C 0 dJ5_append_cf1ce_19 rfl ?_
  refine az_iadd C dJ5_append_cf1ce_20 ?_
  refine az_top (nI (n + 2)) (nI_add n 2) ?_
  have h2 : ∀ aN : Nat → Nat, TxOK (tR ρ aN (tcT ρ.2.2.2.2.1 (n + 2))) x n := fun aN => ⟨h.1, h.2.1, by show n ≤ (tcT ρ.2.2.2.2.1 (n + 2)); omega, tcT_o h4, fun j hj => h.2.2.2.2 j (Nat.le_trans (tcT_ge h4) hj)⟩
  refine az_callVP C Y_J5_ensureCapacityInternal_d00df cJ4 0 14 [.int (nI (n + 2))] [] wm_J5_100 wi_J5_ensureCapacityInternal_d00df (az_sl C hT 0 rfl rfl) dJ5_append_cf1ce_21 rfl rfl rfl (Xens hG hT n (n + 2) h (by omega) hb) rfl (Nat.le_of_ble_eq_true rfl) (Nat.le_of_ble_eq_true rfl) (Nat.le_of_ble_eq_true rfl) (by show _ ≤ (tcT ρ.2.2.2.2.1 (n + 2)) - ρ.2.2.2.2.1; omega) (by show _ ≤ 2 * ((tcT ρ.2.2.2.2.1 (n + 2)) - ρ.2.2.2.2.1); omega) ?_ (by rintro E ad9 K9 ⟨q9, -, h9, -⟩; cases h9)
  rintro v9 ad9 K9 ⟨aN, haN, h9, rfl, rfl⟩
  cases h9
  refine az_aload_n C 1 dJ5_append_cf1ce_24 rfl ?_
  refine az_aload_n C 1 dJ5_append_cf1ce_25 rfl ?_
  refine az_get C cJ4 0 14 3 (v := .int (x.1 14 3)) wl_J5_79 dJ5_append_cf1ce_26 rfl rfl rfl (by decide) ?_
  refine az_top (nI n) h.2.1 ?_
  refine az_aload_n C 2 dJ5_append_cf1ce_29 rfl ?_
  refine az_callVP C Y_J5_putStringAt_47b60 cJ4 0 14 [.int (nI n), .ref a] [] wm_J5_208 wi_J5_putStringAt_47b60 (az_sl C hT 2 rfl rfl) dJ5_append_cf1ce_30 rfl rfl rfl (XputS (ρ := (tR ρ aN (tcT ρ.2.2.2.2.1 (n + 2)))) hG hT hs hby n (h2 aN) (by show n + 2 ≤ (tcT ρ.2.2.2.2.1 (n + 2)); omega)) rfl (Nat.le_of_ble_eq_true rfl) (Nat.le_of_ble_eq_true rfl) (Nat.le_of_ble_eq_true rfl) (by show _ ≤ (tcT ρ.2.2.2.2.1 (n + 2)) - ρ.2.2.2.2.1; omega) (by show _ ≤ 2 * ((tcT ρ.2.2.2.2.1 (n + 2)) - ρ.2.2.2.2.1); omega) (az_k1 rfl rfl ?_) (az_k0 rfl)
  refine az_aload_n C 1 dJ5_append_cf1ce_33 rfl ?_
  refine az_dup C dJ5_append_cf1ce_34 rfl ?_
  refine az_get C cJ4 0 14 3 (v := .int ((xR x 23 (va_cpy (fun j => byt.getD j 0) (x.1 23) (0 : Int32).toNatClampNeg (nI n).toNatClampNeg (nI 2).toNatClampNeg)).1 14 3)) wl_J5_79 dJ5_append_cf1ce_35 rfl rfl rfl (by decide) ?_
  refine az_top (nI n) h.2.1 ?_
  refine az_iload_n C 0 dJ5_append_cf1ce_38 rfl ?_
  refine az_iadd C dJ5_append_cf1ce_39 ?_
  refine az_top (nI (n + 2)) (nI_add n 2) ?_
  refine az_put C cJ4 0 14 3 wl_J5_79 dJ5_append_cf1ce_40 rfl rfl (by decide) (Nat.le_of_ble_eq_true rfl) rfl rfl rfl (az_to rfl (K' := (KK G (tR ρ aN (tcT ρ.2.2.2.2.1 (n + 2))) (xI (xR x 23 (va_cpy (fun j => byt.getD j 0) (x.1 23) (0 : Int32).toNatClampNeg (nI n).toNatClampNeg (nI 2).toNatClampNeg)) 14 3 (nI (n + 2))) m ou)) (KK_X rfl) ?_)
  refine az_aload_n C 1 dJ5_append_cf1ce_43 rfl ?_
  exact az_aret C (.object "java/lang/AbstractStringBuilder") rfl (Or.inl ⟨_, rfl⟩) (Or.inr ⟨_, rfl⟩) dJ5_append_cf1ce_44 (by show _ ≤ (tcT ρ.2.2.2.2.1 (n + 2)) - ρ.2.2.2.2.1; omega) (by show _ ≤ 2 * ((tcT ρ.2.2.2.2.1 (n + 2)) - ρ.2.2.2.2.1); omega) ⟨aN, haN, rfl, rfl, by rw [tx_2l (cp_2 hbb (by omega))]⟩

set_option maxHeartbeats 4000000 in
set_option maxRecDepth 100000 in
theorem Xtlen (hG : az_okS l G)  : az_M l G yJ5_length_8abf5 (az_ws yJ5_length_8abf5 cJ5_length_8abf5 1 (Option.some FieldType.int)) 1 [.ref (ρ.1 14)] (AD ρ) (KK G ρ x m ou) 0 0 (az_r (some (.int (x.1 14 3))) (AD ρ) (KK G ρ x m ou)) := by
  refine az_start hG.1 (by decide +kernel) (Nat.le_of_ble_eq_true rfl) ?_
  intro p e s mm args below meth c C hnm
  show az_W l G 1 _ p e _ s mm args below meth c _ _ 0 0 0 [(0, .ref (ρ.1 14))] []
  refine az_aload_n C 0 dJ5_length_8abf5_0 rfl ?_
  refine az_get C cJ4 0 14 3 (v := .int (x.1 14 3)) wl_J5_79 dJ5_length_8abf5_1 rfl rfl rfl (by decide) ?_
  exact az_iret C rfl dJ5_length_8abf5_4 (Nat.le_of_ble_eq_true rfl) (Nat.le_of_ble_eq_true rfl) ⟨rfl, rfl, rfl⟩

set_option maxHeartbeats 4000000 in
set_option maxRecDepth 100000 in
theorem XTlen (hG : az_okS l G) {A : Nat × Nat × Nat × Nat} (hT : az_okT G A)  : az_M l G yJ4_length_8abf5 (az_ws yJ4_length_8abf5 cJ4_length_8abf5 1 (Option.some FieldType.int)) 2 [.ref (ρ.1 14)] (AD ρ) (KK G ρ x m ou) 0 0 (az_r (some (.int (x.1 14 3))) (AD ρ) (KK G ρ x m ou)) := by
  refine az_start hG.1 (by decide +kernel) (Nat.le_of_ble_eq_true rfl) ?_
  intro p e s mm args below meth c C hnm
  show az_W l G 1 _ p e _ s mm args below meth c _ _ 0 0 0 [(0, .ref (ρ.1 14))] []
  refine az_aload_n C 0 dJ4_length_8abf5_0 rfl ?_
  refine az_callSU C Y_J5_length_8abf5 cJ4 0 14 [] [] wm_J4_343 wi_J5_length_8abf5 wsm_J5_length_8abf5 (az_sl C hT 4 rfl rfl) (by decide) dJ4_length_8abf5_1 rfl rfl rfl (Xtlen hG) rfl (Nat.le_of_ble_eq_true rfl) (Nat.le_of_ble_eq_true rfl) (Nat.le_of_ble_eq_true rfl) (Nat.le_of_ble_eq_true rfl) (Nat.le_of_ble_eq_true rfl) (az_k1 rfl rfl ?_) (az_k0 rfl)
  exact az_iret C rfl dJ4_length_8abf5_4 (Nat.le_of_ble_eq_true rfl) (Nat.le_of_ble_eq_true rfl) ⟨rfl, rfl, rfl⟩

def setX (x : Xs) (n : Nat) : Xs := if n = 0 then xI x 14 3 0 else xI (xI x 14 2 1) 14 3 0
set_option maxHeartbeats 4000000 in
set_option maxRecDepth 100000 in
theorem Xset0 (hG : az_okS l G) {A : Nat × Nat × Nat × Nat} (hT : az_okT G A) (n : Nat) (h : TxOK ρ x n) (hb : TxB x) (hz : n = 0) : az_M l G yJ5_setLength_d00df (az_ws yJ5_setLength_d00df cJ5_setLength_d00df 2 (Option.none : Option FieldType)) 5 [.ref (ρ.1 14), .int 0] (AD ρ) (KK G ρ x m ou) ((tcT ρ.2.2.2.2.1 0) - ρ.2.2.2.2.1) (2 * ((tcT ρ.2.2.2.2.1 0) - ρ.2.2.2.2.1)) (az_tx G none ρ (tcT ρ.2.2.2.2.1 0) (setX x n) m ou) := by
  refine az_start hG.1 (by decide +kernel) (Nat.le_of_ble_eq_true rfl) ?_
  intro p e s mm args below meth c C hnm
  show az_W l G 2 _ p e _ s mm args below meth c _ _ 0 0 0 [(0, .ref (ρ.1 14)), (1, .int 0)] []
  have h4 := h.2.2.2.1
  have h3 := h.2.2.1
  refine az_iload_n C 1 dJ5_setLength_d00df_0 rfl ?_
  refine az_if_ge C 13 dJ5_setLength_d00df_1 (by decide) (fun _ => ?_) (fun q => absurd (by decide) q)
  refine az_aload_n C 0 dJ5_setLength_d00df_13 rfl ?_
  refine az_iload_n C 1 dJ5_setLength_d00df_14 rfl ?_
  refine az_top (nI 0) rfl ?_
  refine az_callVP C Y_J5_ensureCapacityInternal_d00df cJ4 0 14 [.int (nI 0)] [] wm_J5_100 wi_J5_ensureCapacityInternal_d00df (az_sl C hT 0 rfl rfl) dJ5_setLength_d00df_15 rfl rfl rfl (Xens hG hT n 0 h (by omega) hb) rfl (Nat.le_of_ble_eq_true rfl) (Nat.le_of_ble_eq_true rfl) (Nat.le_of_ble_eq_true rfl) (by show _ ≤ (tcT ρ.2.2.2.2.1 0) - ρ.2.2.2.2.1; omega) (by show _ ≤ 2 * ((tcT ρ.2.2.2.2.1 0) - ρ.2.2.2.2.1); omega) ?_ (by rintro E ad9 K9 ⟨q9, -, h9, -⟩; cases h9)
  rintro v9 ad9 K9 ⟨aN, haN, h9, rfl, rfl⟩
  cases h9
  refine az_aload_n C 0 dJ5_setLength_d00df_18 rfl ?_
  refine az_get C cJ4 0 14 3 (v := .int (x.1 14 3)) wl_J5_79 dJ5_setLength_d00df_19 rfl rfl rfl (by decide) ?_
  refine az_top (nI n) h.2.1 ?_
  refine az_iload_n C 1 dJ5_setLength_d00df_22 rfl ?_
  refine az_icmp_ge C 63 dJ5_setLength_d00df_23 (by decide) (fun _ => ?_) (fun q => absurd (nI_pos' (by omega)) q)
  refine az_aload_n C 0 dJ5_setLength_d00df_63 rfl ?_
  refine az_get C cJ4 0 14 3 (v := .int (x.1 14 3)) wl_J5_79 dJ5_setLength_d00df_64 rfl rfl rfl (by decide) ?_
  refine az_top (nI n) h.2.1 ?_
  refine az_iload_n C 1 dJ5_setLength_d00df_67 rfl ?_
  refine az_icmp_le C 76 dJ5_setLength_d00df_68 (by decide) (fun _ => ?_) (fun q => absurd (by rw [hz]; decide) q)
  refine az_aload_n C 0 dJ5_setLength_d00df_76 rfl ?_
  refine az_iload_n C 1 dJ5_setLength_d00df_77 rfl ?_
  refine az_put C cJ4 0 14 3 wl_J5_79 dJ5_setLength_d00df_78 rfl rfl (by decide) (Nat.le_of_ble_eq_true rfl) rfl rfl rfl (az_to rfl (K' := (KK G (tR ρ aN (tcT ρ.2.2.2.2.1 0)) (xI x 14 3 0) m ou)) (KK_X rfl) ?_)
  exact az_vret C rfl dJ5_setLength_d00df_81 (by show _ ≤ (tcT ρ.2.2.2.2.1 0) - ρ.2.2.2.2.1; omega) (by show _ ≤ 2 * ((tcT ρ.2.2.2.2.1 0) - ρ.2.2.2.2.1); omega) ⟨aN, haN, rfl, rfl, by rw [show setX x n = (xI x 14 3 0) from if_pos hz]⟩

set_option maxHeartbeats 4000000 in
set_option maxRecDepth 100000 in
theorem Xset1 (hG : az_okS l G) {A : Nat × Nat × Nat × Nat} (hT : az_okT G A) (n : Nat) (h : TxOK ρ x n) (hb : TxB x) (hz : ¬ n = 0) : az_M l G yJ5_setLength_d00df (az_ws yJ5_setLength_d00df cJ5_setLength_d00df 2 (Option.none : Option FieldType)) 5 [.ref (ρ.1 14), .int 0] (AD ρ) (KK G ρ x m ou) ((tcT ρ.2.2.2.2.1 0) - ρ.2.2.2.2.1) (2 * ((tcT ρ.2.2.2.2.1 0) - ρ.2.2.2.2.1)) (az_tx G none ρ (tcT ρ.2.2.2.2.1 0) (setX x n) m ou) := by
  refine az_start hG.1 (by decide +kernel) (Nat.le_of_ble_eq_true rfl) ?_
  intro p e s mm args below meth c C hnm
  show az_W l G 2 _ p e _ s mm args below meth c _ _ 0 0 0 [(0, .ref (ρ.1 14)), (1, .int 0)] []
  have h4 := h.2.2.2.1
  have h3 := h.2.2.1
  refine az_iload_n C 1 dJ5_setLength_d00df_0 rfl ?_
  refine az_if_ge C 13 dJ5_setLength_d00df_1 (by decide) (fun _ => ?_) (fun q => absurd (by decide) q)
  refine az_aload_n C 0 dJ5_setLength_d00df_13 rfl ?_
  refine az_iload_n C 1 dJ5_setLength_d00df_14 rfl ?_
  refine az_top (nI 0) rfl ?_
  refine az_callVP C Y_J5_ensureCapacityInternal_d00df cJ4 0 14 [.int (nI 0)] [] wm_J5_100 wi_J5_ensureCapacityInternal_d00df (az_sl C hT 0 rfl rfl) dJ5_setLength_d00df_15 rfl rfl rfl (Xens hG hT n 0 h (by omega) hb) rfl (Nat.le_of_ble_eq_true rfl) (Nat.le_of_ble_eq_true rfl) (Nat.le_of_ble_eq_true rfl) (by show _ ≤ (tcT ρ.2.2.2.2.1 0) - ρ.2.2.2.2.1; omega) (by show _ ≤ 2 * ((tcT ρ.2.2.2.2.1 0) - ρ.2.2.2.2.1); omega) ?_ (by rintro E ad9 K9 ⟨q9, -, h9, -⟩; cases h9)
  rintro v9 ad9 K9 ⟨aN, haN, h9, rfl, rfl⟩
  cases h9
  refine az_aload_n C 0 dJ5_setLength_d00df_18 rfl ?_
  refine az_get C cJ4 0 14 3 (v := .int (x.1 14 3)) wl_J5_79 dJ5_setLength_d00df_19 rfl rfl rfl (by decide) ?_
  refine az_top (nI n) h.2.1 ?_
  refine az_iload_n C 1 dJ5_setLength_d00df_22 rfl ?_
  refine az_icmp_ge C 63 dJ5_setLength_d00df_23 (by decide) (fun _ => ?_) (fun q => absurd (nI_pos' (by omega)) q)
  refine az_aload_n C 0 dJ5_setLength_d00df_63 rfl ?_
  refine az_get C cJ4 0 14 3 (v := .int (x.1 14 3)) wl_J5_79 dJ5_setLength_d00df_64 rfl rfl rfl (by decide) ?_
  refine az_top (nI n) h.2.1 ?_
  refine az_iload_n C 1 dJ5_setLength_d00df_67 rfl ?_
  refine az_icmp_le C 76 dJ5_setLength_d00df_68 (by decide) (fun q => absurd q (nlt_nle (a := 0) (by omega) (by omega))) (fun _ => ?_)
  refine az_aload_n C 0 dJ5_setLength_d00df_71 rfl ?_
  refine az_iconst C (v := 1) dJ5_setLength_d00df_72 (by decide) ?_
  refine az_put C cJ4 0 14 2 wl_J5_73 dJ5_setLength_d00df_73 rfl rfl (by decide) (Nat.le_of_ble_eq_true rfl) rfl rfl rfl (az_to rfl (K' := (KK G (tR ρ aN (tcT ρ.2.2.2.2.1 0)) (xI x 14 2 1) m ou)) (KK_X rfl) ?_)
  refine az_aload_n C 0 dJ5_setLength_d00df_76 rfl ?_
  refine az_iload_n C 1 dJ5_setLength_d00df_77 rfl ?_
  refine az_put C cJ4 0 14 3 wl_J5_79 dJ5_setLength_d00df_78 rfl rfl (by decide) (Nat.le_of_ble_eq_true rfl) rfl rfl rfl (az_to rfl (K' := (KK G (tR ρ aN (tcT ρ.2.2.2.2.1 0)) (xI (xI x 14 2 1) 14 3 0) m ou)) (KK_X rfl) ?_)
  exact az_vret C rfl dJ5_setLength_d00df_81 (by show _ ≤ (tcT ρ.2.2.2.2.1 0) - ρ.2.2.2.2.1; omega) (by show _ ≤ 2 * ((tcT ρ.2.2.2.2.1 0) - ρ.2.2.2.2.1); omega) ⟨aN, haN, rfl, rfl, by rw [show setX x n = (xI (xI x 14 2 1) 14 3 0) from if_neg hz]⟩

theorem Xset (hG : az_okS l G) {A : Nat × Nat × Nat × Nat} (hT : az_okT G A) (n : Nat) (h : TxOK ρ x n) (hb : TxB x) : az_M l G yJ5_setLength_d00df (az_ws yJ5_setLength_d00df cJ5_setLength_d00df 2 (Option.none : Option FieldType)) 5 [.ref (ρ.1 14), .int 0] (AD ρ) (KK G ρ x m ou) ((tcT ρ.2.2.2.2.1 0) - ρ.2.2.2.2.1) (2 * ((tcT ρ.2.2.2.2.1 0) - ρ.2.2.2.2.1)) (az_tx G none ρ (tcT ρ.2.2.2.2.1 0) (setX x n) m ou) := by
  by_cases hz : n = 0
  · exact Xset0 hG hT n h hb hz
  · exact Xset1 hG hT n h hb hz
set_option maxHeartbeats 4000000 in
set_option maxRecDepth 100000 in
theorem XTset (hG : az_okS l G) {A : Nat × Nat × Nat × Nat} (hT : az_okT G A) (n : Nat) (h : TxOK ρ x n) (hb : TxB x)  : az_M l G yJ4_setLength_d00df (az_ws yJ4_setLength_d00df cJ4_setLength_d00df 2 (Option.none : Option FieldType)) 6 [.ref (ρ.1 14), .int 0] (AD ρ) (KK G ρ x m ou) ((tcT ρ.2.2.2.2.1 0) - ρ.2.2.2.2.1) (2 * ((tcT ρ.2.2.2.2.1 0) - ρ.2.2.2.2.1)) (az_tx G none ρ (tcT ρ.2.2.2.2.1 0) (setX x n) m ou) := by
  refine az_start hG.1 (by decide +kernel) (Nat.le_of_ble_eq_true rfl) ?_
  intro p e s mm args below meth c C hnm
  show az_W l G 2 _ p e _ s mm args below meth c _ _ 0 0 0 [(0, .ref (ρ.1 14)), (1, .int 0)] []
  refine az_aload_n C 0 dJ4_setLength_d00df_0 rfl ?_
  refine az_iload_n C 1 dJ4_setLength_d00df_1 rfl ?_
  refine az_callSU C Y_J5_setLength_d00df cJ4 0 14 [.int 0] [] wm_J4_333 wi_J5_setLength_d00df wsm_J5_setLength_d00df (az_sl C hT 4 rfl rfl) (by decide) dJ4_setLength_d00df_2 rfl rfl rfl (Xset hG hT n h hb) rfl (Nat.le_of_ble_eq_true rfl) (Nat.le_of_ble_eq_true rfl) (Nat.le_of_ble_eq_true rfl) (by show _ ≤ (tcT ρ.2.2.2.2.1 0) - ρ.2.2.2.2.1; omega) (by show _ ≤ 2 * ((tcT ρ.2.2.2.2.1 0) - ρ.2.2.2.2.1); omega) ?_ (by rintro E ad9 K9 ⟨q9, -, h9, -⟩; cases h9)
  rintro v9 ad9 K9 ⟨aN, haN, h9, rfl, rfl⟩
  cases h9
  exact az_vret C rfl dJ4_setLength_d00df_5 (by show _ ≤ (tcT ρ.2.2.2.2.1 0) - ρ.2.2.2.2.1; omega) (by show _ ≤ 2 * ((tcT ρ.2.2.2.2.1 0) - ρ.2.2.2.2.1); omega) ⟨aN, haN, rfl, rfl, rfl⟩

set_option maxHeartbeats 4000000 in
set_option maxRecDepth 100000 in
theorem XTc (hG : az_okS l G) {A : Nat × Nat × Nat × Nat} (hT : az_okT G A) (n : Nat) (h : TxOK ρ x n) (hb : TxB x) (cv : Nat) (hc : cv < 128) (hl : n + 1 ≤ 34) : az_M l G yJ4_append_cf468 (az_ws yJ4_append_cf468 cJ4_append_cf468 2 (Option.some (FieldType.object "java/lang/StringBuilder"))) 6 [.ref (ρ.1 14), .int (nI cv)] (AD ρ) (KK G ρ x m ou) ((tcT ρ.2.2.2.2.1 (n + 1)) - ρ.2.2.2.2.1) (2 * ((tcT ρ.2.2.2.2.1 (n + 1)) - ρ.2.2.2.2.1)) (az_tx G (some (.ref (ρ.1 14))) ρ (tcT ρ.2.2.2.2.1 (n + 1)) (txA x n [cv]) m ou) := by
  refine az_start hG.1 (by decide +kernel) (Nat.le_of_ble_eq_true rfl) ?_
  intro p e s mm args below meth c C hnm
  show az_W l G 2 _ p e _ s mm args below meth c _ _ 0 0 0 [(0, .ref (ρ.1 14)), (1, .int (nI cv))] []
  refine az_aload_n C 0 dJ4_append_cf468_0 rfl ?_
  refine az_iload_n C 1 dJ4_append_cf468_1 rfl ?_
  refine az_callSU C Y_J5_append_3fe6f cJ4 0 14 [.int (nI cv)] [] wm_J4_50 wi_J5_append_3fe6f wsm_J5_append_3fe6f (az_sl C hT 4 rfl rfl) (by decide) dJ4_append_cf468_2 rfl rfl rfl (XapC hG hT n h hb cv hc hl) rfl (Nat.le_of_ble_eq_true rfl) (Nat.le_of_ble_eq_true rfl) (Nat.le_of_ble_eq_true rfl) (by show _ ≤ (tcT ρ.2.2.2.2.1 (n + 1)) - ρ.2.2.2.2.1; omega) (by show _ ≤ 2 * ((tcT ρ.2.2.2.2.1 (n + 1)) - ρ.2.2.2.2.1); omega) ?_ (by rintro E ad9 K9 ⟨q9, -, h9, -⟩; cases h9)
  rintro v9 ad9 K9 ⟨aN, haN, h9, rfl, rfl⟩
  cases h9
  refine az_pop C dJ4_append_cf468_5 rfl ?_
  refine az_aload_n C 0 dJ4_append_cf468_6 rfl ?_
  exact az_aret C (.object "java/lang/StringBuilder") rfl (Or.inl ⟨_, rfl⟩) (Or.inr ⟨_, rfl⟩) dJ4_append_cf468_7 (by show _ ≤ (tcT ρ.2.2.2.2.1 (n + 1)) - ρ.2.2.2.2.1; omega) (by show _ ≤ 2 * ((tcT ρ.2.2.2.2.1 (n + 1)) - ρ.2.2.2.2.1); omega) ⟨aN, haN, rfl, rfl, rfl⟩

set_option maxHeartbeats 4000000 in
set_option maxRecDepth 100000 in
theorem XTi1 (hG : az_okS l G) {A : Nat × Nat × Nat × Nat} (hT : az_okT G A) (n : Nat) (h : TxOK ρ x n) (hb : TxB x) (d : Nat) (hd : d < 10) (hl : n + 1 ≤ 34) : az_M l G yJ4_append_bf812 (az_ws yJ4_append_bf812 cJ4_append_bf812 2 (Option.some (FieldType.object "java/lang/StringBuilder"))) 6 [.ref (ρ.1 14), .int (nI d)] (AD ρ) (KK G ρ x m ou) ((tcT ρ.2.2.2.2.1 (n + 1)) - ρ.2.2.2.2.1) (2 * ((tcT ρ.2.2.2.2.1 (n + 1)) - ρ.2.2.2.2.1)) (az_tx G (some (.ref (ρ.1 14))) ρ (tcT ρ.2.2.2.2.1 (n + 1)) (txA x n [48 + d]) m ou) := by
  refine az_start hG.1 (by decide +kernel) (Nat.le_of_ble_eq_true rfl) ?_
  intro p e s mm args below meth c C hnm
  show az_W l G 2 _ p e _ s mm args below meth c _ _ 0 0 0 [(0, .ref (ρ.1 14)), (1, .int (nI d))] []
  refine az_aload_n C 0 dJ4_append_bf812_0 rfl ?_
  refine az_iload_n C 1 dJ4_append_bf812_1 rfl ?_
  refine az_callSU C Y_J5_append_c97b9 cJ4 0 14 [.int (nI d)] [] wm_J4_53 wi_J5_append_c97b9 wsm_J5_append_c97b9 (az_sl C hT 4 rfl rfl) (by decide) dJ4_append_bf812_2 rfl rfl rfl (XapI1 hG hT n h hb d hd hl) rfl (Nat.le_of_ble_eq_true rfl) (Nat.le_of_ble_eq_true rfl) (Nat.le_of_ble_eq_true rfl) (by show _ ≤ (tcT ρ.2.2.2.2.1 (n + 1)) - ρ.2.2.2.2.1; omega) (by show _ ≤ 2 * ((tcT ρ.2.2.2.2.1 (n + 1)) - ρ.2.2.2.2.1); omega) ?_ (by rintro E ad9 K9 ⟨q9, -, h9, -⟩; cases h9)
  rintro v9 ad9 K9 ⟨aN, haN, h9, rfl, rfl⟩
  cases h9
  refine az_pop C dJ4_append_bf812_5 rfl ?_
  refine az_aload_n C 0 dJ4_append_bf812_6 rfl ?_
  exact az_aret C (.object "java/lang/StringBuilder") rfl (Or.inl ⟨_, rfl⟩) (Or.inr ⟨_, rfl⟩) dJ4_append_bf812_7 (by show _ ≤ (tcT ρ.2.2.2.2.1 (n + 1)) - ρ.2.2.2.2.1; omega) (by show _ ≤ 2 * ((tcT ρ.2.2.2.2.1 (n + 1)) - ρ.2.2.2.2.1); omega) ⟨aN, haN, rfl, rfl, rfl⟩

set_option maxHeartbeats 4000000 in
set_option maxRecDepth 100000 in
theorem XTi2 (hG : az_okS l G) {A : Nat × Nat × Nat × Nat} (hT : az_okT G A) (n : Nat) (h : TxOK ρ x n) (hb : TxB x) (d : Nat) (hd : d < 100) (h10 : 10 ≤ d) (hl : n + 2 ≤ 34) : az_M l G yJ4_append_bf812 (az_ws yJ4_append_bf812 cJ4_append_bf812 2 (Option.some (FieldType.object "java/lang/StringBuilder"))) 6 [.ref (ρ.1 14), .int (nI d)] (AD ρ) (KK G ρ x m ou) ((tcT ρ.2.2.2.2.1 (n + 2)) - ρ.2.2.2.2.1) (2 * ((tcT ρ.2.2.2.2.1 (n + 2)) - ρ.2.2.2.2.1)) (az_tx G (some (.ref (ρ.1 14))) ρ (tcT ρ.2.2.2.2.1 (n + 2)) (txA x n [48 + d / 10, 48 + d % 10]) m ou) := by
  refine az_start hG.1 (by decide +kernel) (Nat.le_of_ble_eq_true rfl) ?_
  intro p e s mm args below meth c C hnm
  show az_W l G 2 _ p e _ s mm args below meth c _ _ 0 0 0 [(0, .ref (ρ.1 14)), (1, .int (nI d))] []
  refine az_aload_n C 0 dJ4_append_bf812_0 rfl ?_
  refine az_iload_n C 1 dJ4_append_bf812_1 rfl ?_
  refine az_callSU C Y_J5_append_c97b9 cJ4 0 14 [.int (nI d)] [] wm_J4_53 wi_J5_append_c97b9 wsm_J5_append_c97b9 (az_sl C hT 4 rfl rfl) (by decide) dJ4_append_bf812_2 rfl rfl rfl (XapI2 hG hT n h hb d hd h10 hl) rfl (Nat.le_of_ble_eq_true rfl) (Nat.le_of_ble_eq_true rfl) (Nat.le_of_ble_eq_true rfl) (by show _ ≤ (tcT ρ.2.2.2.2.1 (n + 2)) - ρ.2.2.2.2.1; omega) (by show _ ≤ 2 * ((tcT ρ.2.2.2.2.1 (n + 2)) - ρ.2.2.2.2.1); omega) ?_ (by rintro E ad9 K9 ⟨q9, -, h9, -⟩; cases h9)
  rintro v9 ad9 K9 ⟨aN, haN, h9, rfl, rfl⟩
  cases h9
  refine az_pop C dJ4_append_bf812_5 rfl ?_
  refine az_aload_n C 0 dJ4_append_bf812_6 rfl ?_
  exact az_aret C (.object "java/lang/StringBuilder") rfl (Or.inl ⟨_, rfl⟩) (Or.inr ⟨_, rfl⟩) dJ4_append_bf812_7 (by show _ ≤ (tcT ρ.2.2.2.2.1 (n + 2)) - ρ.2.2.2.2.1; omega) (by show _ ≤ 2 * ((tcT ρ.2.2.2.2.1 (n + 2)) - ρ.2.2.2.2.1); omega) ⟨aN, haN, rfl, rfl, rfl⟩

set_option maxHeartbeats 4000000 in
set_option maxRecDepth 100000 in
theorem XTs (hG : az_okS l G) {A : Nat × Nat × Nat × Nat} (hT : az_okT G A) {kx : Nat} {tx : String} {byt : List Int32} {a v : Nat} (hs : ∀ (U : State) (H : Heap), G.2.2.2 U H → az_sAt G.1 kx tx byt a v U H) (hby : ∀ j, fits .byte (.int (byt.getD j 0)) = true) {b9 c9 : Nat} (hbb : byt = [nI b9, nI c9]) (n : Nat) (h : TxOK ρ x n) (hb : TxB x) (hl : n + 2 ≤ 34) : az_M l G yJ4_append_15ec4 (az_ws yJ4_append_15ec4 cJ4_append_15ec4 2 (Option.some (FieldType.object "java/lang/StringBuilder"))) 6 [.ref (ρ.1 14), .ref a] (AD ρ) (KK G ρ x m ou) ((tcT ρ.2.2.2.2.1 (n + 2)) - ρ.2.2.2.2.1) (2 * ((tcT ρ.2.2.2.2.1 (n + 2)) - ρ.2.2.2.2.1)) (az_tx G (some (.ref (ρ.1 14))) ρ (tcT ρ.2.2.2.2.1 (n + 2)) (txA x n [b9, c9]) m ou) := by
  refine az_start hG.1 (by decide +kernel) (Nat.le_of_ble_eq_true rfl) ?_
  intro p e s mm args below meth c C hnm
  show az_W l G 2 _ p e _ s mm args below meth c _ _ 0 0 0 [(0, .ref (ρ.1 14)), (1, .ref a)] []
  refine az_aload_n C 0 dJ4_append_15ec4_0 rfl ?_
  refine az_aload_n C 1 dJ4_append_15ec4_1 rfl ?_
  refine az_callSU C Y_J5_append_cf1ce cJ4 0 14 [.ref a] [] wm_J4_29 wi_J5_append_cf1ce wsm_J5_append_cf1ce (az_sl C hT 4 rfl rfl) (by decide) dJ4_append_15ec4_2 rfl rfl rfl (XapS hG hT hs hby hbb n h hb hl) rfl (Nat.le_of_ble_eq_true rfl) (Nat.le_of_ble_eq_true rfl) (Nat.le_of_ble_eq_true rfl) (by show _ ≤ (tcT ρ.2.2.2.2.1 (n + 2)) - ρ.2.2.2.2.1; omega) (by show _ ≤ 2 * ((tcT ρ.2.2.2.2.1 (n + 2)) - ρ.2.2.2.2.1); omega) ?_ (by rintro E ad9 K9 ⟨q9, -, h9, -⟩; cases h9)
  rintro v9 ad9 K9 ⟨aN, haN, h9, rfl, rfl⟩
  cases h9
  refine az_pop C dJ4_append_15ec4_5 rfl ?_
  refine az_aload_n C 0 dJ4_append_15ec4_6 rfl ?_
  exact az_aret C (.object "java/lang/StringBuilder") rfl (Or.inl ⟨_, rfl⟩) (Or.inr ⟨_, rfl⟩) dJ4_append_15ec4_7 (by show _ ≤ (tcT ρ.2.2.2.2.1 (n + 2)) - ρ.2.2.2.2.1; omega) (by show _ ≤ 2 * ((tcT ρ.2.2.2.2.1 (n + 2)) - ρ.2.2.2.2.1); omega) ⟨aN, haN, rfl, rfl, rfl⟩

set_option maxHeartbeats 4000000 in
set_option maxRecDepth 100000 in
theorem Xchk3n (hG : az_okS l G) (i n : Nat) (hi : i < n) (hn : n < 2 ^ 30) : az_M l G yJ3_checkIndex_8e157 (az_ws yJ3_checkIndex_8e157 cJ3_checkIndex_8e157 3 (Option.some FieldType.int)) 1 [.int (nI i), .int (nI n), .null] (AD ρ) (KK G ρ x m ou) 0 0 (az_r (some (.int (nI i))) (AD ρ) (KK G ρ x m ou)) := by
  refine az_start hG.1 (by decide +kernel) (Nat.le_of_ble_eq_true rfl) ?_
  intro p e s mm args below meth c C hnm
  show az_W l G 3 _ p e _ s mm args below meth c _ _ 0 0 0 [(0, .int (nI i)), (1, .int (nI n)), (2, .null)] []
  refine az_iload_n C 0 dJ3_checkIndex_8e157_0 rfl ?_
  refine az_if_lt C 9 dJ3_checkIndex_8e157_1 (by decide) (fun q => absurd q (Int32.not_lt.mpr (nI_pos' (by omega)))) (fun _ => ?_)
  refine az_iload_n C 0 dJ3_checkIndex_8e157_4 rfl ?_
  refine az_iload_n C 1 dJ3_checkIndex_8e157_5 rfl ?_
  refine az_icmp_lt C 16 dJ3_checkIndex_8e157_6 (by decide) (fun _ => ?_) (fun q => absurd (Int32.not_le.mp (nlt_nle hi (by omega))) q)
  refine az_iload_n C 0 dJ3_checkIndex_8e157_16 rfl ?_
  exact az_iret C rfl dJ3_checkIndex_8e157_17 (Nat.le_of_ble_eq_true rfl) (Nat.le_of_ble_eq_true rfl) ⟨rfl, rfl, rfl⟩

set_option maxHeartbeats 4000000 in
set_option maxRecDepth 100000 in
theorem Xchk3r (hG : az_okS l G) (i n : Nat) (hi : i < n) (hn : n < 2 ^ 30) (t9 : Nat) : az_M l G yJ3_checkIndex_8e157 (az_ws yJ3_checkIndex_8e157 cJ3_checkIndex_8e157 3 (Option.some FieldType.int)) 1 [.int (nI i), .int (nI n), .ref t9] (AD ρ) (KK G ρ x m ou) 0 0 (az_r (some (.int (nI i))) (AD ρ) (KK G ρ x m ou)) := by
  refine az_start hG.1 (by decide +kernel) (Nat.le_of_ble_eq_true rfl) ?_
  intro p e s mm args below meth c C hnm
  show az_W l G 3 _ p e _ s mm args below meth c _ _ 0 0 0 [(0, .int (nI i)), (1, .int (nI n)), (2, .ref t9)] []
  refine az_iload_n C 0 dJ3_checkIndex_8e157_0 rfl ?_
  refine az_if_lt C 9 dJ3_checkIndex_8e157_1 (by decide) (fun q => absurd q (Int32.not_lt.mpr (nI_pos' (by omega)))) (fun _ => ?_)
  refine az_iload_n C 0 dJ3_checkIndex_8e157_4 rfl ?_
  refine az_iload_n C 1 dJ3_checkIndex_8e157_5 rfl ?_
  refine az_icmp_lt C 16 dJ3_checkIndex_8e157_6 (by decide) (fun _ => ?_) (fun q => absurd (Int32.not_le.mp (nlt_nle hi (by omega))) q)
  refine az_iload_n C 0 dJ3_checkIndex_8e157_16 rfl ?_
  exact az_iret C rfl dJ3_checkIndex_8e157_17 (Nat.le_of_ble_eq_true rfl) (Nat.le_of_ble_eq_true rfl) ⟨rfl, rfl, rfl⟩

set_option maxHeartbeats 4000000 in
set_option maxRecDepth 100000 in
theorem Xchk0 (hG : az_okS l G) {A : Nat × Nat × Nat × Nat} (hT : az_okT G A) (i n : Nat) (hi : i < n) (hn : n < 2 ^ 30) : az_M l G yJ0_checkIndex_df160 (az_ws yJ0_checkIndex_df160 cJ0_checkIndex_df160 2 (Option.none : Option FieldType)) 2 [.int (nI i), .int (nI n)] (AD ρ) (KK G ρ x m ou) 0 0 (az_r none (AD ρ) (KK G ρ x m ou)) := by
  refine az_start hG.1 (by decide +kernel) (Nat.le_of_ble_eq_true rfl) ?_
  intro p e s mm args below meth c C hnm
  show az_W l G 2 _ p e _ s mm args below meth c _ _ 0 0 0 [(0, .int (nI i)), (1, .int (nI n))] []
  rcases (hT _ _ C.hO).2.1 with hf | ⟨t9, hf⟩
  ·
    refine az_iload_n C 0 dJ0_checkIndex_df160_0 rfl ?_
    refine az_iload_n C 1 dJ0_checkIndex_df160_1 rfl ?_
    refine az_gets C hf wl_J0_1053 dJ0_checkIndex_df160_2 ?_
    refine az_callS C Y_J3_checkIndex_8e157 [.int (nI i), .int (nI n), .null] [] wm_J0_1059 wst_J3_checkIndex_8e157 dJ0_checkIndex_df160_5 rfl (Xchk3n hG i n hi hn) rfl (Nat.le_of_ble_eq_true rfl) (Nat.le_of_ble_eq_true rfl) (Nat.le_of_ble_eq_true rfl) (Nat.le_of_ble_eq_true rfl) (Nat.le_of_ble_eq_true rfl) (az_k1 rfl rfl ?_) (az_k0 rfl)
    refine az_pop C dJ0_checkIndex_df160_8 rfl ?_
    exact az_vret C rfl dJ0_checkIndex_df160_9 (Nat.le_of_ble_eq_true rfl) (Nat.le_of_ble_eq_true rfl) ⟨rfl, rfl, rfl⟩
  ·
    refine az_iload_n C 0 dJ0_checkIndex_df160_0 rfl ?_
    refine az_iload_n C 1 dJ0_checkIndex_df160_1 rfl ?_
    refine az_gets C hf wl_J0_1053 dJ0_checkIndex_df160_2 ?_
    refine az_callS C Y_J3_checkIndex_8e157 [.int (nI i), .int (nI n), .ref t9] [] wm_J0_1059 wst_J3_checkIndex_8e157 dJ0_checkIndex_df160_5 rfl (Xchk3r hG i n hi hn t9) rfl (Nat.le_of_ble_eq_true rfl) (Nat.le_of_ble_eq_true rfl) (Nat.le_of_ble_eq_true rfl) (Nat.le_of_ble_eq_true rfl) (Nat.le_of_ble_eq_true rfl) (az_k1 rfl rfl ?_) (az_k0 rfl)
    refine az_pop C dJ0_checkIndex_df160_8 rfl ?_
    exact az_vret C rfl dJ0_checkIndex_df160_9 (Nat.le_of_ble_eq_true rfl) (Nat.le_of_ble_eq_true rfl) ⟨rfl, rfl, rfl⟩
theorem ch_min {n c : Nat} (h : n ≤ c) (hc : c < 2 ^ 30) : (if nI c < nI n then nI c else nI n) = nI n := if_neg (Int32.not_lt.mpr (nI_leT h hc))
set_option maxHeartbeats 4000000 in
set_option maxRecDepth 100000 in
theorem XchAt (hG : az_okS l G) {A : Nat × Nat × Nat × Nat} (hT : az_okT G A) (n : Nat) (h : TxOK ρ x n) (i : Nat) (hi : i < n) : az_M l G yJ5_charAt_5068e (az_ws yJ5_charAt_5068e cJ5_charAt_5068e 5 (Option.some FieldType.char)) 3 [.ref (ρ.1 14), .int (nI i)] (AD ρ) (KK G ρ x m ou) 0 0 (az_r (some (.int (((x.1 23 i &&& 255).toUInt32 % 65536).toInt32))) (AD ρ) (KK G ρ x m ou)) := by
  refine az_start hG.1 (by decide +kernel) (Nat.le_of_ble_eq_true rfl) ?_
  intro p e s mm args below meth c C hnm
  show az_W l G 5 _ p e _ s mm args below meth c _ _ 0 0 0 [(0, .ref (ρ.1 14)), (1, .int (nI i))] []
  have h4 := h.2.2.2.1
  have h3 := h.2.2.1
  refine az_aload_n C 0 dJ5_charAt_5068e_0 rfl ?_
  refine az_get C cJ4 0 14 1 (v := .int (x.1 14 1)) wl_J5_22 dJ5_charAt_5068e_1 rfl rfl rfl (by decide) ?_
  refine az_top (0) h.1 ?_
  refine az_istore_n C (lv' := [(2, .int 0), (0, .ref (ρ.1 14)), (1, .int (nI i))]) (j := 2) rfl dJ5_charAt_5068e_4 (by decide) rfl ?_
  refine az_aload_n C 1 dJ5_charAt_5068e_5 rfl ?_
  refine az_get C cJ4 0 14 0 (v := .ref (ρ.2.1 23)) wl_J5_15 dJ5_charAt_5068e_6 rfl rfl rfl (by decide) ?_
  refine az_astore_n C (lv' := [(3, .ref (ρ.2.1 23)), (2, .int 0), (0, .ref (ρ.1 14)), (1, .int (nI i))]) (j := 3) rfl dJ5_charAt_5068e_9 (by decide) rfl ?_
  refine az_aload_n C 2 dJ5_charAt_5068e_10 rfl ?_
  refine az_get C cJ4 0 14 3 (v := .int (x.1 14 3)) wl_J5_79 dJ5_charAt_5068e_11 rfl rfl rfl (by decide) ?_
  refine az_top (nI n) h.2.1 ?_
  refine az_aload_n C 0 dJ5_charAt_5068e_14 rfl ?_
  refine az_alen C 0 23 (z := 3) (cy := (G.2.2.1 3, .byte)) dJ5_charAt_5068e_15 rfl rfl rfl ?_
  refine az_iload_n C 1 dJ5_charAt_5068e_16 rfl ?_
  refine az_ishr C dJ5_charAt_5068e_17 ?_
  refine az_top (nI ρ.2.2.2.2.1) (sb_shr0 _) ?_
  refine az_mmin C wm_J5_138 wst_min wini_Math wc_min (Nat.le_of_ble_eq_true rfl) (Nat.le_of_ble_eq_true rfl) (Nat.le_of_ble_eq_true rfl) (Nat.le_of_ble_eq_true rfl) dJ5_charAt_5068e_18 ?_
  refine az_top (nI n) (ch_min (by omega) (by omega)) ?_
  refine az_istore C (lv' := [(4, .int (nI n)), (3, .ref (ρ.2.1 23)), (2, .int 0), (0, .ref (ρ.1 14)), (1, .int (nI i))]) dJ5_charAt_5068e_21 (by decide) rfl ?_
  refine az_iload_n C 4 dJ5_charAt_5068e_23 rfl ?_
  refine az_iload C 0 dJ5_charAt_5068e_24 rfl ?_
  refine az_callS C Y_J0_checkIndex_df160 [.int (nI i), .int (nI n)] [] wm_J5_144 wst_J0_checkIndex_df160 dJ5_charAt_5068e_26 rfl (Xchk0 hG hT i n hi (by omega)) rfl (Nat.le_of_ble_eq_true rfl) (Nat.le_of_ble_eq_true rfl) (Nat.le_of_ble_eq_true rfl) (Nat.le_of_ble_eq_true rfl) (Nat.le_of_ble_eq_true rfl) (az_k1 rfl rfl ?_) (az_k0 rfl)
  refine az_iload_n C 2 dJ5_charAt_5068e_29 rfl ?_
  refine az_if_ne C 42 dJ5_charAt_5068e_30 (by decide) (fun q => absurd (by decide) q) (fun _ => ?_)
  refine az_aload_n C 1 dJ5_charAt_5068e_33 rfl ?_
  refine az_iload_n C 4 dJ5_charAt_5068e_34 rfl ?_
  refine az_baldN C 0 23 i (v := x.1 23 i) dJ5_charAt_5068e_35 rfl rfl (show i < ρ.2.2.2.2.1 by omega) (by omega) rfl ?_
  refine az_sipush C (v := 255) dJ5_charAt_5068e_36 (by decide) ?_
  refine az_iand C dJ5_charAt_5068e_39 ?_
  refine az_i2c C dJ5_charAt_5068e_40 ?_
  exact az_zret C .char rfl (pk_nc _) dJ5_charAt_5068e_41 (Nat.le_of_ble_eq_true rfl) (Nat.le_of_ble_eq_true rfl) ⟨rfl, rfl, rfl⟩

set_option maxHeartbeats 4000000 in
set_option maxRecDepth 100000 in
theorem XTchAt (hG : az_okS l G) {A : Nat × Nat × Nat × Nat} (hT : az_okT G A) (n : Nat) (h : TxOK ρ x n) (i : Nat) (hi : i < n) : az_M l G yJ4_charAt_5068e (az_ws yJ4_charAt_5068e cJ4_charAt_5068e 2 (Option.some FieldType.char)) 4 [.ref (ρ.1 14), .int (nI i)] (AD ρ) (KK G ρ x m ou) 0 0 (az_r (some (.int (((x.1 23 i &&& 255).toUInt32 % 65536).toInt32))) (AD ρ) (KK G ρ x m ou)) := by
  refine az_start hG.1 (by decide +kernel) (Nat.le_of_ble_eq_true rfl) ?_
  intro p e s mm args below meth c C hnm
  show az_W l G 2 _ p e _ s mm args below meth c _ _ 0 0 0 [(0, .ref (ρ.1 14)), (1, .int (nI i))] []
  refine az_aload_n C 0 dJ4_charAt_5068e_0 rfl ?_
  refine az_iload_n C 1 dJ4_charAt_5068e_1 rfl ?_
  refine az_callSU C Y_J5_charAt_5068e cJ4 0 14 [.int (nI i)] [] wm_J4_329 wi_J5_charAt_5068e wsm_J5_charAt_5068e (az_sl C hT 4 rfl rfl) (by decide) dJ4_charAt_5068e_2 rfl rfl rfl (XchAt hG hT n h i hi) rfl (Nat.le_of_ble_eq_true rfl) (Nat.le_of_ble_eq_true rfl) (Nat.le_of_ble_eq_true rfl) (Nat.le_of_ble_eq_true rfl) (Nat.le_of_ble_eq_true rfl) (az_k1 rfl rfl ?_) (az_k0 rfl)
  exact az_zret C .char rfl (pk_nc _) dJ4_charAt_5068e_5 (Nat.le_of_ble_eq_true rfl) (Nat.le_of_ble_eq_true rfl) ⟨rfl, rfl, rfl⟩

end
