section
variable {l : Launch} {G : az_G} {ρ : Rp} {x : Xs} {m : Ms} {ou : Nat → Int64}
theorem b_small : ∀ c, c < 128 → (nI c).toInt8.toInt32 = nI c := by decide +kernel
theorem nb_small {c : Nat} (h : c < 128) : vp_nar .byte (nI c) = nI c := by
  have e := pk_vb (nI c)
  rw [b_small c h] at e
  exact e
theorem ch_small : ∀ c, c < 128 → ((nI c &&& 255).toUInt32 % 65536).toInt32 = nI c := by decide +kernel
theorem neg_gt : ∀ d, d < 100 → (-100 : Int32) < -nI d := by decide +kernel
theorem neg_9 : ∀ d, d < 10 → (-9 : Int32) ≤ -nI d := by decide +kernel
theorem neg_9' : ∀ d, d < 100 → 10 ≤ d → ¬ (-9 : Int32) ≤ -nI d := by decide +kernel
theorem neg_10 : ∀ d, d < 10 → ¬ -nI d ≤ (-10 : Int32) := by decide +kernel
theorem neg_10' : ∀ d, d < 100 → 10 ≤ d → -nI d ≤ (-10 : Int32) := by decide +kernel
theorem neg_100 : ∀ d, d < 100 → ¬ -nI d ≤ (-100 : Int32) := by decide +kernel
theorem nI_mm (n : Nat) : nI (n + 1) + (-1) = nI n := by
  rw [← nI_1 n, Int32.add_assoc, show (1 : Int32) + (-1) = 0 from by decide, Int32.add_zero]
abbrev tR (ρ : Rp) (a : Nat → Nat) (C : Nat) : Rp := (ρ.1, a, ρ.2.2.1, ρ.2.2.2.1, C, ρ.2.2.2.2.2)
def tcT (c N : Nat) : Nat := if N ≤ c then c else 34
/-- the text's row: n letters stand there, Latin-1, 16 or 34 places, nothing behind them -/
def TxOK (ρ : Rp) (x : Xs) (n : Nat) : Prop := x.1 14 1 = 0 ∧ x.1 14 3 = nI n ∧ n ≤ ρ.2.2.2.2.1 ∧ (ρ.2.2.2.2.1 = 16 ∨ ρ.2.2.2.2.1 = 34) ∧ ∀ j, ρ.2.2.2.2.1 ≤ j → x.1 23 j = 0
def az_tx (G : az_G) (v : Option Value) (ρ : Rp) (C : Nat) (x : Xs) (m : Ms) (ou : Nat → Int64) : az_O → az_A → az_K → Prop := fun o ad' K' => ∃ a : Nat → Nat, (∀ i, i ≠ 23 → a i = ρ.2.1 i) ∧ o = .inl v ∧ ad' = AD (tR ρ a C) ∧ K' = KK G (tR ρ a C) x m ou
theorem tcT_ge {c N : Nat} (h : c = 16 ∨ c = 34) : c ≤ tcT c N := by unfold tcT; split <;> omega
theorem tcT_n {c N : Nat} (h : N ≤ 34) : N ≤ tcT c N := by unfold tcT; split <;> omega
theorem tcT_c {c N M : Nat} (h : N ≤ M) (h2 : M ≤ 34) : tcT (tcT c N) M = tcT c M := by
  unfold tcT
  by_cases h1 : N ≤ c
  · rw [if_pos h1]
  · rw [if_neg h1, if_pos h2, if_neg (by omega)]
theorem tcT_le {c N M : Nat} (h : N ≤ M) (hc : c = 16 ∨ c = 34) : tcT c N ≤ tcT c M := by
  unfold tcT; split <;> split <;> omega
theorem tcT_o {c N : Nat} (h : c = 16 ∨ c = 34) : tcT c N = 16 ∨ tcT c N = 34 := by
  unfold tcT; split <;> omega
theorem tcT_self {c N : Nat} (h : N ≤ c) : tcT c N = c := if_pos h
set_option maxHeartbeats 4000000 in
set_option maxRecDepth 100000 in
theorem XisLat (hG : az_okS l G) (h : x.1 14 1 = 0) : az_M l G yJ5_isLatin1_aae02 (az_ws yJ5_isLatin1_aae02 cJ5_isLatin1_aae02 1 (Option.some FieldType.boolean)) 1 [.ref (ρ.1 14)] (AD ρ) (KK G ρ x m ou) 0 0 (az_r (some (.int 1)) (AD ρ) (KK G ρ x m ou)) := by
  refine az_start hG.1 (by decide +kernel) (Nat.le_of_ble_eq_true rfl) ?_
  intro p e s mm args below meth c C hnm
  show az_W l G 1 _ p e _ s mm args below meth c _ _ 0 0 0 [(0, .ref (ρ.1 14))] []
  refine az_gets C (hG.2 _ _ C.hO).2.2.2.2.2.2.1 wl_J5_18 dJ5_isLatin1_aae02_0 ?_
  refine az_if_eq C 17 dJ5_isLatin1_aae02_3 (by decide) (fun q => absurd q (by decide)) (fun _ => ?_)
  refine az_aload_n C 0 dJ5_isLatin1_aae02_6 rfl ?_
  refine az_get C cJ4 0 14 1 (v := .int (x.1 14 1)) wl_J5_22 dJ5_isLatin1_aae02_7 rfl rfl rfl (by decide) ?_
  refine az_top (0) h ?_
  refine az_if_ne C 17 dJ5_isLatin1_aae02_10 (by decide) (fun q => absurd (by decide) q) (fun _ => ?_)
  refine az_iconst C (v := 1) dJ5_isLatin1_aae02_13 (by decide) ?_
  refine az_goto C 18 dJ5_isLatin1_aae02_14 (by decide) ?_
  exact az_zret C .boolean rfl rfl dJ5_isLatin1_aae02_18 (Nat.le_of_ble_eq_true rfl) (Nat.le_of_ble_eq_true rfl) ⟨rfl, rfl, rfl⟩

theorem nl_max {q : Nat} (h : q ≤ 18) : (if nI q < nI 18 then nI 18 else nI q) = nI 18 := by
  by_cases h1 : q = 18
  · subst h1; decide
  · rw [if_pos (Int32.not_le.mp (nlt_nle (by omega) (by decide)))]
set_option maxHeartbeats 4000000 in
set_option maxRecDepth 100000 in
theorem XnewLen (hG : az_okS l G) (q : Nat) (hq : q ≤ 18) : az_M l G yJ8_newLength_cabcc (az_ws yJ8_newLength_cabcc cJ8_newLength_cabcc 4 (Option.some FieldType.int)) 2 [.int (nI 16), .int (nI q), .int (nI 18)] (AD ρ) (KK G ρ x m ou) 0 0 (az_r (some (.int (nI 34))) (AD ρ) (KK G ρ x m ou)) := by
  refine az_start hG.1 (by decide +kernel) (Nat.le_of_ble_eq_true rfl) ?_
  intro p e s mm args below meth c C hnm
  show az_W l G 4 _ p e _ s mm args below meth c _ _ 0 0 0 [(0, .int (nI 16)), (1, .int (nI q)), (2, .int (nI 18))] []
  refine az_iload_n C 0 dJ8_newLength_cabcc_0 rfl ?_
  refine az_iload_n C 1 dJ8_newLength_cabcc_1 rfl ?_
  refine az_iload_n C 2 dJ8_newLength_cabcc_2 rfl ?_
  refine az_mmax C wm_J8_194 wst_max wini_Math wc_max (Nat.le_of_ble_eq_true rfl) (Nat.le_of_ble_eq_true rfl) (Nat.le_of_ble_eq_true rfl) (Nat.le_of_ble_eq_true rfl) dJ8_newLength_cabcc_3 ?_
  refine az_top (nI 18) (nl_max hq) ?_
  refine az_iadd C dJ8_newLength_cabcc_6 ?_
  refine az_top (nI 34) (by decide) ?_
  refine az_istore_n C (lv' := [(3, .int (nI 34)), (0, .int (nI 16)), (1, .int (nI q)), (2, .int (nI 18))]) (j := 3) rfl dJ8_newLength_cabcc_7 (by decide) rfl ?_
  refine az_iconst C (v := 0) dJ8_newLength_cabcc_8 (by decide) ?_
  refine az_iload_n C 0 dJ8_newLength_cabcc_9 rfl ?_
  refine az_icmp_ge C 21 dJ8_newLength_cabcc_10 (by decide) (fun q => absurd q (show ¬ (nI 34 ≤ 0) from by decide)) (fun _ => ?_)
  refine az_iload_n C 0 dJ8_newLength_cabcc_13 rfl ?_
  refine az_ldc C (v := 2147483639) wn_J8_200 dJ8_newLength_cabcc_14 ?_
  refine az_icmp_gt C 21 dJ8_newLength_cabcc_16 (by decide) (fun q => absurd q (show ¬ (2147483647 - 8 < nI 34) from by decide)) (fun _ => ?_)
  refine az_iload_n C 0 dJ8_newLength_cabcc_19 rfl ?_
  exact az_iret C rfl dJ8_newLength_cabcc_20 (Nat.le_of_ble_eq_true rfl) (Nat.le_of_ble_eq_true rfl) ⟨rfl, rfl, rfl⟩

set_option maxHeartbeats 4000000 in
set_option maxRecDepth 100000 in
theorem XnewCap (hG : az_okS l G) (q : Nat) (hq : 16 < q) (hq2 : q ≤ 34) (h : x.1 14 1 = 0) (ht : ρ.2.2.2.2.1 = 16) : az_M l G yJ5_newCapacity_0f7a4 (az_ws yJ5_newCapacity_0f7a4 cJ5_newCapacity_0f7a4 6 (Option.some FieldType.int)) 3 [.ref (ρ.1 14), .int (nI q)] (AD ρ) (KK G ρ x m ou) 0 0 (az_r (some (.int (nI 34))) (AD ρ) (KK G ρ x m ou)) := by
  refine az_start hG.1 (by decide +kernel) (Nat.le_of_ble_eq_true rfl) ?_
  intro p e s mm args below meth c C hnm
  show az_W l G 6 _ p e _ s mm args below meth c _ _ 0 0 0 [(0, .ref (ρ.1 14)), (1, .int (nI q))] []
  refine az_aload_n C 0 dJ5_newCapacity_0f7a4_0 rfl ?_
  refine az_get C cJ4 0 14 0 (v := .ref (ρ.2.1 23)) wl_J5_15 dJ5_newCapacity_0f7a4_1 rfl rfl rfl (by decide) ?_
  refine az_alen C 0 23 (z := 3) (cy := (G.2.2.1 3, .byte)) dJ5_newCapacity_0f7a4_4 rfl rfl rfl ?_
  refine az_top (nI 16) (by rw [ht]; rfl) ?_
  refine az_istore_n C (lv' := [(2, .int (nI 16)), (0, .ref (ρ.1 14)), (1, .int (nI q))]) (j := 2) rfl dJ5_newCapacity_0f7a4_5 (by decide) rfl ?_
  refine az_iload_n C 2 dJ5_newCapacity_0f7a4_6 rfl ?_
  refine az_aload_n C 1 dJ5_newCapacity_0f7a4_7 rfl ?_
  refine az_get C cJ4 0 14 1 (v := .int (x.1 14 1)) wl_J5_22 dJ5_newCapacity_0f7a4_8 rfl rfl rfl (by decide) ?_
  refine az_top (0) h ?_
  refine az_ishl C dJ5_newCapacity_0f7a4_11 ?_
  refine az_top (nI q) (sb_shl0 _) ?_
  refine az_istore_n C (lv' := [(3, .int (nI q)), (2, .int (nI 16)), (0, .ref (ρ.1 14)), (1, .int (nI q))]) (j := 3) rfl dJ5_newCapacity_0f7a4_12 (by decide) rfl ?_
  refine az_iload_n C 0 dJ5_newCapacity_0f7a4_13 rfl ?_
  refine az_iload_n C 1 dJ5_newCapacity_0f7a4_14 rfl ?_
  refine az_isub C dJ5_newCapacity_0f7a4_15 ?_
  refine az_top (nI (q - 16)) (pk_sub (by omega)) ?_
  refine az_istore C (lv' := [(4, .int (nI (q - 16))), (3, .int (nI q)), (2, .int (nI 16)), (0, .ref (ρ.1 14)), (1, .int (nI q))]) dJ5_newCapacity_0f7a4_16 (by decide) rfl ?_
  refine az_iload_n C 2 dJ5_newCapacity_0f7a4_18 rfl ?_
  refine az_iload C 0 dJ5_newCapacity_0f7a4_19 rfl ?_
  refine az_iload_n C 2 dJ5_newCapacity_0f7a4_21 rfl ?_
  refine az_iconst C (v := 2) dJ5_newCapacity_0f7a4_22 (by decide) ?_
  refine az_aload_n C 3 dJ5_newCapacity_0f7a4_23 rfl ?_
  refine az_get C cJ4 0 14 1 (v := .int (x.1 14 1)) wl_J5_22 dJ5_newCapacity_0f7a4_24 rfl rfl rfl (by decide) ?_
  refine az_top (0) h ?_
  refine az_ishl C dJ5_newCapacity_0f7a4_27 ?_
  refine az_iadd C dJ5_newCapacity_0f7a4_28 ?_
  refine az_top (nI 18) (by decide) ?_
  refine az_callS C Y_J8_newLength_cabcc [.int (nI 16), .int (nI (q - 16)), .int (nI 18)] [] wm_J5_114 wst_J8_newLength_cabcc dJ5_newCapacity_0f7a4_29 rfl (XnewLen hG (q - 16) (by omega)) rfl (Nat.le_of_ble_eq_true rfl) (Nat.le_of_ble_eq_true rfl) (Nat.le_of_ble_eq_true rfl) (Nat.le_of_ble_eq_true rfl) (Nat.le_of_ble_eq_true rfl) (az_k1 rfl rfl ?_) (az_k0 rfl)
  refine az_istore C (lv' := [(5, .int (nI 34)), (4, .int (nI (q - 16))), (3, .int (nI q)), (2, .int (nI 16)), (0, .ref (ρ.1 14)), (1, .int (nI q))]) dJ5_newCapacity_0f7a4_32 (by decide) rfl ?_
  refine az_iload C 0 dJ5_newCapacity_0f7a4_34 rfl ?_
  refine az_ldc C (v := 2147483647) wn_J5_39 dJ5_newCapacity_0f7a4_36 ?_
  refine az_icmp_ne C 51 dJ5_newCapacity_0f7a4_38 (by decide) (fun _ => ?_) (fun q => absurd q (show ¬ nI 34 = 2147483647 from by decide))
  refine az_iload C 0 dJ5_newCapacity_0f7a4_51 rfl ?_
  refine az_aload_n C 4 dJ5_newCapacity_0f7a4_53 rfl ?_
  refine az_get C cJ4 0 14 1 (v := .int (x.1 14 1)) wl_J5_22 dJ5_newCapacity_0f7a4_54 rfl rfl rfl (by decide) ?_
  refine az_top (0) h ?_
  refine az_ishr C dJ5_newCapacity_0f7a4_57 ?_
  refine az_top (nI 34) (by decide) ?_
  exact az_iret C rfl dJ5_newCapacity_0f7a4_58 (Nat.le_of_ble_eq_true rfl) (Nat.le_of_ble_eq_true rfl) ⟨rfl, rfl, rfl⟩

set_option maxHeartbeats 4000000 in
set_option maxRecDepth 100000 in
theorem XcopyB (hG : az_okS l G) {ad : az_A} {K : az_K} (i t : Nat) {a0 N N2 : Nat} {f : Nat → Int32} (ha : ad 0 i = a0) (hk : K 0 i = some (.inl (G.2.2.1 3, N, .inl f))) (hfit : ∀ j, fits .byte (.int (f j)) = true) (hN : N < N2) (h2 : N2 < 2 ^ 20) : az_M l G yJ7_copyOf_9075b (az_ws yJ7_copyOf_9075b cJ7_copyOf_9075b 3 (Option.some (FieldType.array FieldType.byte))) 2 [.ref a0, .int (nI N2)] ad K 1 N2 (fun o ad' K' => ∃ q : Nat, o = .inl (some (.ref q)) ∧ ad' = az_ua ad 9 t q ∧ K' = az_u K 9 t (.inl (G.2.2.1 3, N2, .inl (fun j => if j < N then f j else 0)))) := by
  refine az_start hG.1 (by decide +kernel) (Nat.le_of_ble_eq_true rfl) ?_
  intro p e s mm args below meth c C hnm
  show az_W l G 3 _ p e _ s mm args below meth c _ _ 0 0 0 [(0, .ref a0), (1, .int (nI N2))] []
  refine az_iload_n C 1 dJ7_copyOf_9075b_0 rfl ?_
  refine az_aload_n C 0 dJ7_copyOf_9075b_1 rfl ?_
  refine az_alen C 0 i (z := 3) (cy := (G.2.2.1 3, .byte)) dJ7_copyOf_9075b_2 ha hk rfl ?_
  refine az_icmp_ne C 14 dJ7_copyOf_9075b_3 (by decide) (fun _ => ?_) (fun q => absurd q (fun z => ?_))
  · refine az_iload_n C 1 dJ7_copyOf_9075b_14 rfl ?_
    refine az_newa C 3 .byte rfl rfl (fun U cA h => va_nm_byte h) 9 t N2 (N2, .inl (fun _ => 0)) (fun cA => rfl) wa_byte (Int32.not_lt.mpr (nI_pos' (by omega))) (nI_clamp (by omega)) (by show N2 * 1 ≤ _; omega) (by show 0 + 1 ≤ 1; omega) (by show 0 + N2 ≤ N2; omega) dJ7_copyOf_9075b_15 (fun q => ?_)
    refine az_astore_n C (lv' := [(2, .ref q), (0, .ref a0), (1, .int (nI N2))]) (j := 2) rfl dJ7_copyOf_9075b_17 (by decide) rfl ?_
    refine az_aload_n C 1 dJ7_copyOf_9075b_18 rfl ?_
    refine az_iconst C (v := 0) dJ7_copyOf_9075b_19 (by decide) ?_
    refine az_aload_n C 0 dJ7_copyOf_9075b_20 rfl ?_
    refine az_iconst C (v := 0) dJ7_copyOf_9075b_21 (by decide) ?_
    refine az_aload_n C 1 dJ7_copyOf_9075b_22 rfl ?_
    refine az_alen C 0 i (z := 3) (cy := (G.2.2.1 3, .byte)) dJ7_copyOf_9075b_23 (show az_ua ad 9 t q 0 i = a0 from ha) (show az_u K 9 t (.inl (G.2.2.1 3, N2, .inl (fun _ => 0))) 0 i = _ from hk) rfl ?_
    refine az_iload_n C 2 dJ7_copyOf_9075b_24 rfl ?_
    refine az_mmin C wm_J7_304 wst_min wini_Math wc_min (Nat.le_of_ble_eq_true rfl) (Nat.le_of_ble_eq_true rfl) (Nat.le_refl _) (Nat.le_of_eq (Nat.zero_add N2)) dJ7_copyOf_9075b_25 ?_
    refine az_top (nI N) (if_neg (fun z => by rw [Int32.lt_iff_toInt_lt, nI_toInt (by omega), show Int32.ofNat N = nI N from rfl, nI_toInt (by omega)] at z; omega)) ?_
    have hcl : (nI N).toNatClampNeg = N := nI_clamp (by omega)
    refine az_copy C (f := f) (g := fun _ => 0) (n0 := N) (n1 := N2) 0 i 9 t 3 .byte rfl rfl wm_J7_150 wnat_copy wst_copy wini_System dJ7_copyOf_9075b_28 (show az_ua ad 9 t q 0 i = a0 from ha) (show az_u K 9 t (.inl (G.2.2.1 3, N2, .inl (fun _ => 0))) 0 i = _ from hk) (show az_ua ad 9 t q 9 t = q from if_pos ⟨rfl, rfl⟩) az_u_s (by decide) (by decide) (Int32.not_lt.mpr (nI_pos' (by omega))) (by rw [hcl]; show 0 + N ≤ N; omega) (by rw [hcl]; show 0 + N ≤ N2; omega) (fun j hj => hfit _) (Nat.le_of_ble_eq_true rfl) (Nat.le_of_ble_eq_true rfl) ?_
    refine az_aload_n C 0 dJ7_copyOf_9075b_31 rfl ?_
    refine az_aret C (.array .byte) rfl (Or.inr ⟨_, rfl⟩) (Or.inr ⟨_, rfl⟩) dJ7_copyOf_9075b_32 (by show 0 + 1 ≤ 1; omega) (by show 0 + N2 ≤ N2; omega) ⟨q, rfl, rfl, ?_⟩
    rw [hcl, cpy0]
    funext r9 i9
    by_cases h : r9 = 9 ∧ i9 = t
    · obtain ⟨rfl, rfl⟩ := h
      rw [az_u_s, az_u_s]
    · rw [az_u_n h, az_u_n h, az_u_n h]
  · rw [show Int32.ofNat N = nI N from rfl, nI_eq (by omega) (by omega)] at z
    omega
def tmF (r i : Nat) : Nat × Nat := if r = 0 ∧ i = 23 then (9, 0) else (r, i)
theorem tmF_inj {r i r' i' : Nat} (h9 : r ≠ 9) (h9' : r' ≠ 9) (h : tmF r i = tmF r' i') : r = r' ∧ i = i' := by
  unfold tmF at h
  split at h <;> split at h
  · rename_i a b; exact ⟨a.1.trans b.1.symm, a.2.trans b.2.symm⟩
  · exact absurd (congrArg Prod.fst h).symm h9'
  · exact absurd (congrArg Prod.fst h) h9
  · exact ⟨congrArg Prod.fst h, congrArg Prod.snd h⟩
def tK1 (G : az_G) (ρ : Rp) (x : Xs) (m : Ms) (ou : Nat → Int64) : az_K := az_u (KK G ρ x m ou) 9 0 (.inl (G.2.2.1 3, 34, .inl (gro (x.1 23) ρ.2.2.2.2.1)))
def tK2 (G : az_G) (ρ : Rp) (x : Xs) (m : Ms) (ou : Nat → Int64) (q0 : Nat) : az_K := az_u (tK1 G ρ x m ou) 0 14 (.inr (1, [.ref q0, .int (x.1 14 1), .int (x.1 14 2), .int (x.1 14 3)]))
theorem tx_1 {q0 : Nat} (hz : ∀ j, ρ.2.2.2.2.1 ≤ j → x.1 23 j = 0) : ∀ (r i : Nat) (e : va_E), KK G (tR ρ (up1 ρ.2.1 23 q0) 34) x m ou r i = some e → tK2 G ρ x m ou q0 (tmF r i).1 (tmF r i).2 = some e ∧ AD (tR ρ (up1 ρ.2.1 23 q0) 34) r i = az_ua (AD ρ) 9 0 q0 (tmF r i).1 (tmF r i).2 := by
  intro r i e h
  have other : ∀ {r i : Nat} {e : va_E}, ¬ (r = 0 ∧ i = 23) → ¬ (r = 0 ∧ i = 14) → r ≠ 9 → KK G (tR ρ (up1 ρ.2.1 23 q0) 34) x m ou r i = some e → KK G ρ x m ou r i = KK G (tR ρ (up1 ρ.2.1 23 q0) 34) x m ou r i → AD (tR ρ (up1 ρ.2.1 23 q0) 34) r i = AD ρ r i → tK2 G ρ x m ou q0 (tmF r i).1 (tmF r i).2 = some e ∧ AD (tR ρ (up1 ρ.2.1 23 q0) 34) r i = az_ua (AD ρ) 9 0 q0 (tmF r i).1 (tmF r i).2 := by
    intro r i e h1 h2 h9 hk he ha
    have hm : tmF r i = (r, i) := if_neg h1
    rw [hm]
    refine ⟨?_, ?_⟩
    · show tK2 G ρ x m ou q0 r i = some e
      unfold tK2 tK1
      rw [az_u_n h2, az_u_n (fun z => h9 z.1), he, hk]
    · show AD (tR ρ (up1 ρ.2.1 23 q0) 34) r i = az_ua (AD ρ) 9 0 q0 r i
      rw [ha]
      exact (if_neg (fun z => h9 z.1)).symm
  match r, i, h with
  | 0, 14, h => exact ⟨h, rfl⟩
  | 0, 23, h => exact ⟨Eq.trans (by show some (Sum.inl (G.2.2.1 3, 34, Sum.inl (gro (x.1 23) ρ.2.2.2.2.1))) = _; rw [gro_z hz]; rfl) h, rfl⟩
  | 0, 0, h => exact other (by omega) (by omega) (by decide) h rfl rfl
  | 0, 1, h => exact other (by omega) (by omega) (by decide) h rfl rfl
  | 0, 2, h => exact other (by omega) (by omega) (by decide) h rfl rfl
  | 0, 3, h => exact other (by omega) (by omega) (by decide) h rfl rfl
  | 0, 4, h => exact other (by omega) (by omega) (by decide) h rfl rfl
  | 0, 5, h => exact other (by omega) (by omega) (by decide) h rfl rfl
  | 0, 6, h => exact other (by omega) (by omega) (by decide) h rfl rfl
  | 0, 7, h => exact other (by omega) (by omega) (by decide) h rfl rfl
  | 0, 8, h => exact other (by omega) (by omega) (by decide) h rfl rfl
  | 0, 9, h => exact other (by omega) (by omega) (by decide) h rfl rfl
  | 0, 10, h => exact other (by omega) (by omega) (by decide) h rfl rfl
  | 0, 11, h => exact other (by omega) (by omega) (by decide) h rfl rfl
  | 0, 12, h => exact other (by omega) (by omega) (by decide) h rfl rfl
  | 0, 13, h => exact other (by omega) (by omega) (by decide) h rfl rfl
  | 0, 20, h => exact other (by omega) (by omega) (by decide) h rfl rfl
  | 0, 21, h => exact other (by omega) (by omega) (by decide) h rfl rfl
  | 0, 22, h => exact other (by omega) (by omega) (by decide) h rfl rfl
  | 0, 15, h => cases h
  | 0, 16, h => cases h
  | 0, 17, h => cases h
  | 0, 18, h => cases h
  | 0, 19, h => cases h
  | 0, n + 24, h => cases h
  | 1, i, h => exact other (by omega) (by omega) (by decide) h rfl rfl
  | 2, i, h => exact other (by omega) (by omega) (by decide) h rfl rfl
  | 3, i, h => exact other (by omega) (by omega) (by decide) h rfl rfl
  | n + 4, i, h => cases h
theorem tx_2 {q0 : Nat} : ∀ (r i r' i' : Nat) (e e' : va_E), KK G (tR ρ (up1 ρ.2.1 23 q0) 34) x m ou r i = some e → KK G (tR ρ (up1 ρ.2.1 23 q0) 34) x m ou r' i' = some e' → tmF r i = tmF r' i' → r = r' ∧ i = i' := by
  intro r i r' i' e e' h h' hh
  refine tmF_inj (fun z => ?_) (fun z => ?_) hh
  · subst z; cases h
  · subst z; cases h'
theorem en_le {q c : Nat} (h : q ≤ c) (hc : c < 2 ^ 20) : nI q - nI c ≤ 0 := by
  rw [Int32.le_iff_toInt_le, pk_sub_toInt (by omega) (by omega)]
  show (q : Int) - c ≤ 0
  omega
theorem en_gt {q c : Nat} (h : c < q) (hc : q < 2 ^ 20) : ¬ nI q - nI c ≤ 0 := by
  rw [Int32.le_iff_toInt_le, pk_sub_toInt (by omega) (by omega)]
  show ¬ (q : Int) - c ≤ 0
  omega
set_option maxHeartbeats 4000000 in
set_option maxRecDepth 100000 in
theorem Xens0 (hG : az_okS l G) (n q : Nat) (h : TxOK ρ x n) (hq : q ≤ 34) (hle : q ≤ ρ.2.2.2.2.1) : az_M l G yJ5_ensureCapacityInternal_d00df (az_ws yJ5_ensureCapacityInternal_d00df cJ5_ensureCapacityInternal_d00df 3 (Option.none : Option FieldType)) 4 [.ref (ρ.1 14), .int (nI q)] (AD ρ) (KK G ρ x m ou) ((tcT ρ.2.2.2.2.1 q) - ρ.2.2.2.2.1) (2 * ((tcT ρ.2.2.2.2.1 q) - ρ.2.2.2.2.1)) (az_tx G none ρ (tcT ρ.2.2.2.2.1 q) x m ou) := by
  refine az_start hG.1 (by decide +kernel) (Nat.le_of_ble_eq_true rfl) ?_
  intro p e s mm args below meth c C hnm
  show az_W l G 3 _ p e _ s mm args below meth c _ _ 0 0 0 [(0, .ref (ρ.1 14)), (1, .int (nI q))] []
  have ht := h.2.2.2.1
  have hC : tcT ρ.2.2.2.2.1 q = ρ.2.2.2.2.1 := if_pos hle
  refine az_aload_n C 0 dJ5_ensureCapacityInternal_d00df_0 rfl ?_
  refine az_get C cJ4 0 14 0 (v := .ref (ρ.2.1 23)) wl_J5_15 dJ5_ensureCapacityInternal_d00df_1 rfl rfl rfl (by decide) ?_
  refine az_alen C 0 23 (z := 3) (cy := (G.2.2.1 3, .byte)) dJ5_ensureCapacityInternal_d00df_4 rfl rfl rfl ?_
  refine az_aload_n C 0 dJ5_ensureCapacityInternal_d00df_5 rfl ?_
  refine az_get C cJ4 0 14 1 (v := .int (x.1 14 1)) wl_J5_22 dJ5_ensureCapacityInternal_d00df_6 rfl rfl rfl (by decide) ?_
  refine az_top (0) h.1 ?_
  refine az_ishr C dJ5_ensureCapacityInternal_d00df_9 ?_
  refine az_top (nI ρ.2.2.2.2.1) (sb_shr0 _) ?_
  refine az_istore_n C (lv' := [(2, .int (nI ρ.2.2.2.2.1)), (0, .ref (ρ.1 14)), (1, .int (nI q))]) (j := 2) rfl dJ5_ensureCapacityInternal_d00df_10 (by decide) rfl ?_
  refine az_iload_n C 2 dJ5_ensureCapacityInternal_d00df_11 rfl ?_
  refine az_iload_n C 0 dJ5_ensureCapacityInternal_d00df_12 rfl ?_
  refine az_isub C dJ5_ensureCapacityInternal_d00df_13 ?_
  refine az_if_le C 38 dJ5_ensureCapacityInternal_d00df_14 (by decide) (fun _ => ?_) (fun q => absurd (en_le hle (by omega)) q)
  exact az_vret C rfl dJ5_ensureCapacityInternal_d00df_38 (Nat.zero_le _) (Nat.zero_le _) ⟨ρ.2.1, fun _ _ => rfl, rfl, by rw [hC], by rw [hC]⟩

set_option maxHeartbeats 4000000 in
set_option maxRecDepth 100000 in
theorem Xens1 (hG : az_okS l G) {A : Nat × Nat × Nat × Nat} (hT : az_okT G A) (n q : Nat) (h : TxOK ρ x n) (hq : q ≤ 34) (hle : ¬ q ≤ ρ.2.2.2.2.1) (hfit : ∀ j, fits .byte (.int (x.1 23 j)) = true) : az_M l G yJ5_ensureCapacityInternal_d00df (az_ws yJ5_ensureCapacityInternal_d00df cJ5_ensureCapacityInternal_d00df 3 (Option.none : Option FieldType)) 4 [.ref (ρ.1 14), .int (nI q)] (AD ρ) (KK G ρ x m ou) ((tcT ρ.2.2.2.2.1 q) - ρ.2.2.2.2.1) (2 * ((tcT ρ.2.2.2.2.1 q) - ρ.2.2.2.2.1)) (az_tx G none ρ (tcT ρ.2.2.2.2.1 q) x m ou) := by
  refine az_start hG.1 (by decide +kernel) (Nat.le_of_ble_eq_true rfl) ?_
  intro p e s mm args below meth c C hnm
  show az_W l G 3 _ p e _ s mm args below meth c _ _ 0 0 0 [(0, .ref (ρ.1 14)), (1, .int (nI q))] []
  have ht := h.2.2.2.1
  have hC : tcT ρ.2.2.2.2.1 q = 34 := if_neg hle
  have ht16 : ρ.2.2.2.2.1 = 16 := by omega
  refine az_aload_n C 0 dJ5_ensureCapacityInternal_d00df_0 rfl ?_
  refine az_get C cJ4 0 14 0 (v := .ref (ρ.2.1 23)) wl_J5_15 dJ5_ensureCapacityInternal_d00df_1 rfl rfl rfl (by decide) ?_
  refine az_alen C 0 23 (z := 3) (cy := (G.2.2.1 3, .byte)) dJ5_ensureCapacityInternal_d00df_4 rfl rfl rfl ?_
  refine az_aload_n C 0 dJ5_ensureCapacityInternal_d00df_5 rfl ?_
  refine az_get C cJ4 0 14 1 (v := .int (x.1 14 1)) wl_J5_22 dJ5_ensureCapacityInternal_d00df_6 rfl rfl rfl (by decide) ?_
  refine az_top (0) h.1 ?_
  refine az_ishr C dJ5_ensureCapacityInternal_d00df_9 ?_
  refine az_top (nI ρ.2.2.2.2.1) (sb_shr0 _) ?_
  refine az_istore_n C (lv' := [(2, .int (nI ρ.2.2.2.2.1)), (0, .ref (ρ.1 14)), (1, .int (nI q))]) (j := 2) rfl dJ5_ensureCapacityInternal_d00df_10 (by decide) rfl ?_
  refine az_iload_n C 2 dJ5_ensureCapacityInternal_d00df_11 rfl ?_
  refine az_iload_n C 0 dJ5_ensureCapacityInternal_d00df_12 rfl ?_
  refine az_isub C dJ5_ensureCapacityInternal_d00df_13 ?_
  refine az_if_le C 38 dJ5_ensureCapacityInternal_d00df_14 (by decide) (fun q => absurd q (en_gt (by omega) (by omega))) (fun _ => ?_)
  refine az_aload_n C 1 dJ5_ensureCapacityInternal_d00df_17 rfl ?_
  refine az_aload_n C 1 dJ5_ensureCapacityInternal_d00df_18 rfl ?_
  refine az_get C cJ4 0 14 0 (v := .ref (ρ.2.1 23)) wl_J5_15 dJ5_ensureCapacityInternal_d00df_19 rfl rfl rfl (by decide) ?_
  refine az_aload_n C 1 dJ5_ensureCapacityInternal_d00df_22 rfl ?_
  refine az_iload_n C 2 dJ5_ensureCapacityInternal_d00df_23 rfl ?_
  refine az_callVP C Y_J5_newCapacity_0f7a4 cJ4 0 14 [.int (nI q)] [.ref (ρ.2.1 23), .ref (ρ.1 14)] wm_J5_104 wi_J5_newCapacity_0f7a4 (az_sl C hT 1 rfl rfl) dJ5_ensureCapacityInternal_d00df_24 rfl rfl rfl (XnewCap hG q (by omega) hq h.1 ht16) rfl (Nat.le_of_ble_eq_true rfl) (Nat.le_of_ble_eq_true rfl) (Nat.le_of_ble_eq_true rfl) (Nat.zero_le _) (Nat.zero_le _) (az_k1 rfl rfl ?_) (az_k0 rfl)
  refine az_aload_n C 1 dJ5_ensureCapacityInternal_d00df_27 rfl ?_
  refine az_get C cJ4 0 14 1 (v := .int (x.1 14 1)) wl_J5_22 dJ5_ensureCapacityInternal_d00df_28 rfl rfl rfl (by decide) ?_
  refine az_top (0) h.1 ?_
  refine az_ishl C dJ5_ensureCapacityInternal_d00df_31 ?_
  refine az_top (nI 34) (sb_shl0 _) ?_
  refine az_callS C Y_J7_copyOf_9075b [.ref (ρ.2.1 23), .int (nI 34)] [.ref (ρ.1 14)] wm_J5_108 wst_J7_copyOf_9075b dJ5_ensureCapacityInternal_d00df_32 rfl (XcopyB (ad := AD ρ) (K := KK G ρ x m ou) hG 23 0 (N := ρ.2.2.2.2.1) (f := x.1 23) rfl rfl hfit (by omega) (by omega)) rfl (Nat.le_of_ble_eq_true rfl) (Nat.le_of_ble_eq_true rfl) (Nat.le_of_ble_eq_true rfl) (by show 0 + 0 + 1 ≤ (tcT ρ.2.2.2.2.1 q) - ρ.2.2.2.2.1; omega) (by show 0 + 0 + 34 ≤ 2 * ((tcT ρ.2.2.2.2.1 q) - ρ.2.2.2.2.1); omega) ?_ (by rintro E ad9 K9 ⟨q9, h9, -⟩; cases h9)
  rintro v9 ad9 K9 ⟨q0, h9, rfl, rfl⟩
  cases h9
  refine az_to (ad' := az_ua (AD ρ) 9 0 q0) (K' := tK1 G ρ x m ou) rfl rfl ?_
  refine az_put C cJ4 0 14 0 wl_J5_15 dJ5_ensureCapacityInternal_d00df_35 rfl rfl (by decide) (Nat.le_of_ble_eq_true rfl) rfl rfl rfl (az_to rfl (K' := tK2 G ρ x m ou q0) rfl ?_)
  refine az_mv (ad' := AD (tR ρ (up1 ρ.2.1 23 q0) 34)) (K' := KK G (tR ρ (up1 ρ.2.1 23 q0) 34) x m ou) tmF (tx_1 h.2.2.2.2) tx_2 ?_
  exact az_vret C rfl dJ5_ensureCapacityInternal_d00df_38 (by show 0 + 0 + 1 ≤ (tcT ρ.2.2.2.2.1 q) - ρ.2.2.2.2.1; omega) (by show 0 + 0 + 34 ≤ 2 * ((tcT ρ.2.2.2.2.1 q) - ρ.2.2.2.2.1); omega) ⟨up1 ρ.2.1 23 q0, fun i hi => up1_n hi, rfl, by rw [hC], by rw [hC]⟩

theorem Xens (hG : az_okS l G) {A : Nat × Nat × Nat × Nat} (hT : az_okT G A) (n q : Nat) (h : TxOK ρ x n) (hq : q ≤ 34) (hfit : ∀ j, fits .byte (.int (x.1 23 j)) = true) : az_M l G yJ5_ensureCapacityInternal_d00df (az_ws yJ5_ensureCapacityInternal_d00df cJ5_ensureCapacityInternal_d00df 3 (Option.none : Option FieldType)) 4 [.ref (ρ.1 14), .int (nI q)] (AD ρ) (KK G ρ x m ou) ((tcT ρ.2.2.2.2.1 q) - ρ.2.2.2.2.1) (2 * ((tcT ρ.2.2.2.2.1 q) - ρ.2.2.2.2.1)) (az_tx G none ρ (tcT ρ.2.2.2.2.1 q) x m ou) := by
  by_cases hle : q ≤ ρ.2.2.2.2.1
  · exact Xens0 hG n q h hq hle
  · exact Xens1 hG hT n q h hq hle hfit
end
