section
variable {l : Launch} {G : az_G}
theorem cpy0 {f : Nat → Int32} {N : Nat} : va_cpy f (fun _ => 0) (0 : Int32).toNatClampNeg (0 : Int32).toNatClampNeg N = fun j => if j < N then f j else 0 := by
  funext j
  show (if 0 ≤ j ∧ j < 0 + N then f (0 + (j - 0)) else 0) = if j < N then f j else 0
  rw [Nat.zero_add]
  by_cases h : j < N
  · rw [if_pos ⟨Nat.zero_le _, h⟩, if_pos h, Nat.sub_zero, Nat.zero_add]
  · rw [if_neg (fun z => h z.2), if_neg h]
set_option maxHeartbeats 4000000 in
set_option maxRecDepth 100000 in
theorem XcopyOf (hG : az_okS l G) {ad : az_A} {K : az_K} (i t : Nat) {a0 N N2 : Nat} {f : Nat → Int32} (ha : ad 0 i = a0) (hk : K 0 i = some (.inl (G.2.2.1 0, N, .inl f))) (hN : N < N2) (h2 : N2 < 2 ^ 20) : az_M l G yJ7_copyOf_59c91 (az_ws yJ7_copyOf_59c91 cJ7_copyOf_59c91 3 (Option.some (FieldType.array FieldType.int))) 2 [.ref a0, .int (nI N2)] ad K 1 N2 (fun o ad' K' => ∃ q : Nat, o = .inl (some (.ref q)) ∧ ad' = az_ua ad 9 t q ∧ K' = az_u K 9 t (.inl (G.2.2.1 0, N2, .inl (fun j => if j < N then f j else 0)))) := by
  refine az_start hG.1 (by decide +kernel) (Nat.le_of_ble_eq_true rfl) ?_
  intro p e s mm args below meth c C hnm
  show az_W l G 3 _ p e _ s mm args below meth c _ _ 0 0 0 [(0, .ref a0), (1, .int (nI N2))] []
  refine az_iload_n C 1 dJ7_copyOf_59c91_0 rfl ?_
  refine az_aload_n C 0 dJ7_copyOf_59c91_1 rfl ?_
  refine az_alen C 0 i (z := 0) (cy := (G.2.2.1 0, .int)) dJ7_copyOf_59c91_2 ha hk rfl ?_
  refine az_icmp_ne C 14 dJ7_copyOf_59c91_3 (by decide) (fun _ => ?_) (fun q => absurd q (fun z => ?_))
  · refine az_iload_n C 1 dJ7_copyOf_59c91_14 rfl ?_
    refine az_newa C 0 .int rfl rfl (fun U cA h => va_nm_int h) 9 t N2 (N2, .inl (fun _ => 0)) (fun cA => rfl) wa_int (Int32.not_lt.mpr (nI_pos' (by omega))) (nI_clamp (by omega)) (by show N2 * 4 ≤ _; omega) (by show 0 + 1 ≤ 1; omega) (by show 0 + N2 ≤ N2; omega) dJ7_copyOf_59c91_15 (fun q => ?_)
    refine az_astore_n C (lv' := [(2, .ref q), (0, .ref a0), (1, .int (nI N2))]) (j := 2) rfl dJ7_copyOf_59c91_17 (by decide) rfl ?_
    refine az_aload_n C 1 dJ7_copyOf_59c91_18 rfl ?_
    refine az_iconst C (v := 0) dJ7_copyOf_59c91_19 (by decide) ?_
    refine az_aload_n C 0 dJ7_copyOf_59c91_20 rfl ?_
    refine az_iconst C (v := 0) dJ7_copyOf_59c91_21 (by decide) ?_
    refine az_aload_n C 1 dJ7_copyOf_59c91_22 rfl ?_
    refine az_alen C 0 i (z := 0) (cy := (G.2.2.1 0, .int)) dJ7_copyOf_59c91_23 (show az_ua ad 9 t q 0 i = a0 from ha) (show az_u K 9 t (.inl (G.2.2.1 0, N2, .inl (fun _ => 0))) 0 i = _ from hk) rfl ?_
    refine az_iload_n C 2 dJ7_copyOf_59c91_24 rfl ?_
    refine az_mmin C wm_J7_304 wst_min wini_Math wc_min (Nat.le_of_ble_eq_true rfl) (Nat.le_of_ble_eq_true rfl) (Nat.le_refl _) (Nat.le_of_eq (Nat.zero_add N2)) dJ7_copyOf_59c91_25 ?_
    refine az_top (nI N) (if_neg (fun z => by rw [Int32.lt_iff_toInt_lt, nI_toInt (by omega), show Int32.ofNat N = nI N from rfl, nI_toInt (by omega)] at z; omega)) ?_
    have hcl : (nI N).toNatClampNeg = N := nI_clamp (by omega)
    refine az_copy C (f := f) (g := fun _ => 0) (n0 := N) (n1 := N2) 0 i 9 t 0 .int rfl rfl wm_J7_150 wnat_copy wst_copy wini_System dJ7_copyOf_59c91_28 (show az_ua ad 9 t q 0 i = a0 from ha) (show az_u K 9 t (.inl (G.2.2.1 0, N2, .inl (fun _ => 0))) 0 i = _ from hk) (show az_ua ad 9 t q 9 t = q from if_pos ⟨rfl, rfl⟩) az_u_s (by decide) (by decide) (Int32.not_lt.mpr (nI_pos' (by omega))) (by rw [hcl]; show 0 + N ≤ N; omega) (by rw [hcl]; show 0 + N ≤ N2; omega) (fun j hj => rfl) (Nat.le_of_ble_eq_true rfl) (Nat.le_of_ble_eq_true rfl) ?_
    refine az_aload_n C 0 dJ7_copyOf_59c91_31 rfl ?_
    refine az_aret C (.array .int) rfl (Or.inr ⟨_, rfl⟩) (Or.inr ⟨_, rfl⟩) dJ7_copyOf_59c91_32 (by show 0 + 1 ≤ 1; omega) (by show 0 + N2 ≤ N2; omega) ⟨q, rfl, rfl, ?_⟩
    rw [hcl, cpy0]
    funext r9 i9
    by_cases h : r9 = 9 ∧ i9 = t
    · obtain ⟨rfl, rfl⟩ := h
      rw [az_u_s, az_u_s]
    · rw [az_u_n h, az_u_n h, az_u_n h]
  · rw [show Int32.ofNat N = nI N from rfl, nI_eq (by omega) (by omega)] at z
    omega
end
