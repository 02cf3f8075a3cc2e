section
variable {l : Launch} {G : az_G} {ad : az_A} {K : az_K}
theorem df9 : ∀ j, j < 9 → defaultValue (tyX2 j) = vp_V [.null, .null, .null, .null, .null, .null, .null, .int 0, .int 0] j := fun j hj => by
  match j, hj with
  | 0, _ => rfl
  | 1, _ => rfl
  | 2, _ => rfl
  | 3, _ => rfl
  | 4, _ => rfl
  | 5, _ => rfl
  | 6, _ => rfl
  | 7, _ => rfl
  | 8, _ => rfl
theorem dfJ : ∀ j, j < 4 → defaultValue (tyJ4 j) = vp_V [.null, .int 0, .int 0, .int 0] j := fun j hj => by
  match j, hj with
  | 0, _ => rfl
  | 1, _ => rfl
  | 2, _ => rfl
  | 3, _ => rfl
theorem K9_1 {ρ : Rp} {x : Xs} {m : Mz} {ou : Nat → Int64} (h0 : ρ.2.2.2.2.2 = 0) {i : Nat} {e : va_E} : ¬ KK G ρ x m ou 1 i = some e := by
  intro h
  have h2 : (if i < ρ.2.2.2.2.2 then some (bc ρ i (x.2.1 i) x.2.2.1) else none) = some e := h
  rw [h0, if_neg (Nat.not_lt_zero i)] at h2
  cases h2
/-- the class as it starts, before its first reach -/
def x0X : Xs := (fun _ _ => 0, fun _ _ => 0, fun _ _ => none, 10000)
def x1X : Xs × Nat := openX x0X 0 0 20 30
theorem x1X_le : x1X.2 ≤ 2 := sendR_le _ _ _ _ _ _ _
def m3P (G : az_G) (q : Nat) : az_A → az_K → Prop := fun ad' K' => ∃ ρ : Rp, ρ.1 0 = q ∧ ρ.2.2.2.1 = 256 ∧ ρ.2.2.2.2.1 = 16 ∧ ρ.2.2.2.2.2 = 0 ∧ ad' = AD ρ ∧ K' = KK G ρ x1X.1 (fun _ _ => 0, fun _ => false) (fun _ => 0)
set_option maxHeartbeats 4000000 in
set_option maxRecDepth 100000 in
theorem X3init (hG : az_okS l G) {q : Nat} (ha : ad 0 0 = q) (hk : K 0 0 = some (.inr (4, [.null, .null, .null, .null, .null, .null, .null, .int 0, .int 0, .long 0, .int 0, .int 0, .int 0, .int 0]))) : az_M l G yX3_init (az_ws yX3_init cX3_init 1 (Option.none : Option FieldType)) 6 [.ref q] ad K 20 920 (fun o ad' K' => o = .inl none ∧ m3P G q ad' K') := by
  refine az_start hG.1 (by decide +kernel) (Nat.le_of_ble_eq_true rfl) ?_
  intro p e s mm args below meth c C hnm
  show az_W l G 1 _ p e _ s mm args below meth c _ _ 0 0 0 [(0, .ref q)] []
  refine az_aload_n C 0 dX3_init_0 rfl ?_
  refine az_obj C wm_X3_3 wi_obj wc_obj dX3_init_1 (Nat.le_of_ble_eq_true rfl) (Nat.le_of_ble_eq_true rfl) ?_
  refine az_aload_n C 0 dX3_init_4 rfl ?_
  refine az_new C cX2 0 1 [.null, .null, .null, .null, .null, .null, .null, .int 0, .int 0] wk_X3_9 wins_X2 wini_X2 df9 (Nat.le_of_ble_eq_true rfl) (Nat.le_of_ble_eq_true rfl) dX3_init_5 (fun qw => ?_)
  refine az_dup C dX3_init_8 rfl ?_
  refine az_callIN C Y_X2_init (a := qw) [] [.ref qw, .ref q] rfl (az_bw C hG nx_X3_11 rfl) wi_X2_init dX3_init_9 rfl (X2init hG rfl rfl) rfl (Nat.le_of_ble_eq_true rfl) (Nat.le_of_ble_eq_true rfl) (Nat.le_of_ble_eq_true rfl) (Nat.le_of_ble_eq_true rfl) (Nat.le_of_ble_eq_true rfl) (az_c1 (fun _ _ _ h => h) ?_) (az_c0 (fun _ _ _ h => h))
  rintro ad' K' ⟨a0, a1, a2, a3, a4, a5, a6, r0, r1, r2, rfl, rfl⟩
  refine az_putF C cX3 0 0 0 hnm (fs := [.null, .null, .null, .null, .null, .null, .null, .int 0, .int 0, .long 0, .int 0, .int 0, .int 0, .int 0]) wl_X3_12 dX3_init_12 ha hk (by decide) (Nat.le_of_ble_eq_true rfl) rfl rfl rfl rfl ?_
  refine az_aload_n C 0 dX3_init_15 rfl ?_
  refine az_iconst C (v := 5) dX3_init_16 (by decide) ?_
  refine az_newa C 0 .int rfl rfl (fun U cA h => va_nm_int h) 0 9 5 (5, (.inl (fun _ => 0))) (fun cA => rfl) wa_int (by decide) (by decide) (by decide) (Nat.le_of_ble_eq_true rfl) (Nat.le_of_ble_eq_true rfl) dX3_init_17 (fun q0 => ?_)
  refine az_putF C cX3 0 0 1 hnm (fs := [.ref qw, .null, .null, .null, .null, .null, .null, .int 0, .int 0, .long 0, .int 0, .int 0, .int 0, .int 0]) wl_X3_16 dX3_init_19 ha rfl (by decide) (Nat.le_of_ble_eq_true rfl) rfl rfl rfl rfl ?_
  refine az_to rfl (az_u3 (by decide)) ?_
  refine az_aload_n C 0 dX3_init_22 rfl ?_
  refine az_iconst C (v := 5) dX3_init_23 (by decide) ?_
  refine az_newa C 0 .int rfl rfl (fun U cA h => va_nm_int h) 0 10 5 (5, (.inl (fun _ => 0))) (fun cA => rfl) wa_int (by decide) (by decide) (by decide) (Nat.le_of_ble_eq_true rfl) (Nat.le_of_ble_eq_true rfl) dX3_init_24 (fun q1 => ?_)
  refine az_putF C cX3 0 0 2 hnm (fs := [.ref qw, .ref q0, .null, .null, .null, .null, .null, .int 0, .int 0, .long 0, .int 0, .int 0, .int 0, .int 0]) wl_X3_20 dX3_init_26 ha rfl (by decide) (Nat.le_of_ble_eq_true rfl) rfl rfl rfl rfl ?_
  refine az_to rfl (az_u3 (by decide)) ?_
  refine az_aload_n C 0 dX3_init_29 rfl ?_
  refine az_bipush C (v := 6) dX3_init_30 (by decide) ?_
  refine az_newa C 0 .int rfl rfl (fun U cA h => va_nm_int h) 0 11 6 (6, (.inl (fun _ => 0))) (fun cA => rfl) wa_int (by decide) (by decide) (by decide) (Nat.le_of_ble_eq_true rfl) (Nat.le_of_ble_eq_true rfl) dX3_init_32 (fun q2 => ?_)
  refine az_putF C cX3 0 0 3 hnm (fs := [.ref qw, .ref q0, .ref q1, .null, .null, .null, .null, .int 0, .int 0, .long 0, .int 0, .int 0, .int 0, .int 0]) wl_X3_23 dX3_init_34 ha rfl (by decide) (Nat.le_of_ble_eq_true rfl) rfl rfl rfl rfl ?_
  refine az_to rfl (az_u3 (by decide)) ?_
  refine az_aload_n C 0 dX3_init_37 rfl ?_
  refine az_bipush C (v := 6) dX3_init_38 (by decide) ?_
  refine az_newa C 0 .int rfl rfl (fun U cA h => va_nm_int h) 0 12 6 (6, (.inl (fun _ => 0))) (fun cA => rfl) wa_int (by decide) (by decide) (by decide) (Nat.le_of_ble_eq_true rfl) (Nat.le_of_ble_eq_true rfl) dX3_init_40 (fun q3 => ?_)
  refine az_putF C cX3 0 0 4 hnm (fs := [.ref qw, .ref q0, .ref q1, .ref q2, .null, .null, .null, .int 0, .int 0, .long 0, .int 0, .int 0, .int 0, .int 0]) wl_X3_26 dX3_init_42 ha rfl (by decide) (Nat.le_of_ble_eq_true rfl) rfl rfl rfl rfl ?_
  refine az_to rfl (az_u3 (by decide)) ?_
  refine az_aload_n C 0 dX3_init_45 rfl ?_
  refine az_bipush C (v := 8) dX3_init_46 (by decide) ?_
  refine az_newq C (hG.2 _ _ C.hO).2.2.2.2.2.1 0 13 8 wk_X3_29 (by decide) (by decide) (by decide) (Nat.le_of_ble_eq_true rfl) (Nat.le_of_ble_eq_true rfl) dX3_init_48 (fun qb => ?_)
  refine az_putF C cX3 0 0 5 hnm (fs := [.ref qw, .ref q0, .ref q1, .ref q2, .ref q3, .null, .null, .int 0, .int 0, .long 0, .int 0, .int 0, .int 0, .int 0]) wl_X3_31 dX3_init_51 ha rfl (by decide) (Nat.le_of_ble_eq_true rfl) rfl rfl rfl rfl ?_
  refine az_to rfl (az_u3 (by decide)) ?_
  refine az_aload_n C 0 dX3_init_54 rfl ?_
  refine az_new C cJ4 0 14 [.null, .int 0, .int 0, .int 0] wk_X3_35 wins_J4 wini_J4 dfJ (Nat.le_of_ble_eq_true rfl) (Nat.le_of_ble_eq_true rfl) dX3_init_55 (fun qj => ?_)
  refine az_dup C dX3_init_58 rfl ?_
  refine az_callI C Y_J4_init_da8c8 (a := qj) [] [.ref qj, .ref q] rfl wm_X3_37 wi_J4_init_da8c8 dX3_init_59 rfl (J4init hG rfl rfl) rfl (Nat.le_of_ble_eq_true rfl) (Nat.le_of_ble_eq_true rfl) (Nat.le_of_ble_eq_true rfl) (Nat.le_of_ble_eq_true rfl) (Nat.le_of_ble_eq_true rfl) (az_c1 (fun _ _ _ h => h) ?_) (az_c0 (fun _ _ _ h => h))
  rintro ad' K' ⟨qt, rfl, rfl⟩
  refine az_putF C cX3 0 0 6 hnm (fs := [.ref qw, .ref q0, .ref q1, .ref q2, .ref q3, .ref qb, .null, .int 0, .int 0, .long 0, .int 0, .int 0, .int 0, .int 0]) wl_X3_38 dX3_init_62 ha rfl (by decide) (Nat.le_of_ble_eq_true rfl) rfl rfl rfl rfl ?_
  refine az_aload_n C 0 dX3_init_65 rfl ?_
  refine az_ldc2 C (v := 10000) wn_X3_42 dX3_init_66 ?_
  refine az_put C cX3 0 0 9 (fs := [.ref qw, .ref q0, .ref q1, .ref q2, .ref q3, .ref qb, .ref qj, .int 0, .int 0, .long 0, .int 0, .int 0, .int 0, .int 0]) wl_X3_44 dX3_init_69 ha rfl (by decide) (Nat.le_of_ble_eq_true rfl) rfl rfl rfl ?_
  refine az_to rfl az_uu ?_
  refine az_aload_n C 0 dX3_init_72 rfl ?_
  refine az_iconst C (v := 0) dX3_init_73 (by decide) ?_
  refine az_put C cX3 0 0 12 (fs := [.ref qw, .ref q0, .ref q1, .ref q2, .ref q3, .ref qb, .ref qj, .int 0, .int 0, .long 10000, .int 0, .int 0, .int 0, .int 0]) wl_X3_48 dX3_init_74 ha rfl (by decide) (Nat.le_of_ble_eq_true rfl) rfl rfl rfl ?_
  refine az_to rfl az_uu ?_
  obtain ⟨ρ, hρ⟩ : ∃ ρ : Rp, ρ = ((fun i => match i with | 0 => q | 1 => qw | 2 => a0 | 3 => a1 | 4 => a2 | 5 => a3 | 6 => a4 | 7 => a5 | 8 => a6 | 9 => q0 | 10 => q1 | 11 => q2 | 12 => q3 | 13 => qb | 14 => qj | _ => 0), (fun i => match i with | 20 => r0 | 21 => r1 | 22 => r2 | 23 => qt | _ => 0), fun _ => 0, 256, 16, 0) := ⟨_, rfl⟩
  refine az_mv (ad' := AD ρ) (K' := KK G ρ x0X (fun _ _ => 0, fun _ => false) (fun _ => 0)) (fun r i => (r, i)) (fun r i e h => ?_) (fun r i r' i' e e' _ _ h => by cases h; exact ⟨rfl, rfl⟩) ?_
  · subst hρ
    match r, i, h with
    | 0, 0, h => exact ⟨h, ha.symm⟩
    | 0, 1, h => exact ⟨h, rfl⟩
    | 0, 2, h => exact ⟨h, rfl⟩
    | 0, 3, h => exact ⟨h, rfl⟩
    | 0, 4, h => exact ⟨h, rfl⟩
    | 0, 5, h => exact ⟨h, rfl⟩
    | 0, 6, h => exact ⟨h, rfl⟩
    | 0, 7, h => exact ⟨h, rfl⟩
    | 0, 8, h => exact ⟨h, rfl⟩
    | 0, 9, h => exact ⟨h, rfl⟩
    | 0, 10, h => exact ⟨h, rfl⟩
    | 0, 11, h => exact ⟨h, rfl⟩
    | 0, 12, h => exact ⟨h, rfl⟩
    | 0, 13, h => exact ⟨h, rfl⟩
    | 0, 14, h => exact ⟨h, rfl⟩
    | 0, 20, h => exact ⟨h, rfl⟩
    | 0, 21, h => exact ⟨h, rfl⟩
    | 0, 22, h => exact ⟨h, rfl⟩
    | 0, 23, h => exact ⟨h, rfl⟩
    | 0, 15, h => cases h
    | 0, 16, h => cases h
    | 0, 17, h => cases h
    | 0, 18, h => cases h
    | 0, 19, h => cases h
    | 0, n + 24, h => cases h
    | 1, i, h => exact absurd h (K9_1 rfl)
    | 2, i, h => cases h
    | n + 3, i, h => cases h
  have e0 : ρ.1 0 = q := by subst hρ; rfl
  have e1 : ρ.2.2.2.1 = 256 := by rw [hρ]
  have e2 : ρ.2.2.2.2.1 = 16 := by rw [hρ]
  have e3 : ρ.2.2.2.2.2 = 0 := by rw [hρ]
  clear hρ
  subst e0
  have hv : MvX ρ x0X 0 (0 + 2) := ⟨rfl, by decide, Nat.zero_le _, by omega, by omega, by omega, fun _ _ => ⟨rfl, rfl, rfl⟩⟩
  have hC : capT ρ.2.2.2.1 (openX x0X 0 0 20 30).2 = 256 := by have h := x1X_le; unfold capT; rw [e1]; exact if_pos (Nat.le_trans h (by decide))
  refine az_aload_n C 0 dX3_init_77 rfl ?_
  refine az_bipush C (v := 20) dX3_init_78 (by decide) ?_
  refine az_bipush C (v := 30) dX3_init_80 (by decide) ?_
  refine az_callV C Y_X3_openReach cX3 0 0 [.int 20, .int 30] [] wm_X3_52 wi_X3_openReach wse_X3_openReach dX3_init_82 rfl rfl rfl (Xopen hG 0 rfl (by decide) 20 30 0 hv) rfl (Nat.le_of_ble_eq_true rfl) (Nat.le_of_ble_eq_true rfl) (Nat.le_of_ble_eq_true rfl) (by rw [hC, e1]; exact Nat.le_of_ble_eq_true rfl) (by rw [hC, e1]; exact Nat.le_of_ble_eq_true rfl) ?_ (by rintro _ _ _ ⟨_, _, h, _⟩; cases h)
  rintro v9 ad9 K9 ⟨a9, ha9, h9, rfl, rfl⟩
  cases h9
  refine az_pop C dX3_init_85 rfl ?_
  exact az_vret C rfl dX3_init_86 (by rw [hC, e1]; exact Nat.le_of_ble_eq_true rfl) (by rw [hC, e1]; exact Nat.le_of_ble_eq_true rfl) ⟨rfl, gR ρ a9 (capT ρ.2.2.2.1 (openX x0X 0 0 20 30).2), rfl, hC, e2, e3, rfl, rfl⟩
end
