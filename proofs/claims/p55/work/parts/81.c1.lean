section
variable {l : Launch} {G : az_G} {ad : az_A} {K : az_K}
theorem az_u3 {K : az_K} {r i r' i' : Nat} {e a e' : va_E} (h : ¬ (r' = r ∧ i' = i)) : az_u (az_u (az_u K r i e) r' i' a) r i e' = az_u (az_u K r' i' a) r i e' := by
  funext x y
  unfold az_u
  by_cases h1 : x = r ∧ y = i
  · rw [if_pos h1, if_pos h1]
  · rw [if_neg h1, if_neg h1]
    by_cases h2 : x = r' ∧ y = i'
    · rw [if_pos h2, if_neg h1]
    · rw [if_neg h2, if_neg h1]
def m1K (G : az_G) (K : az_K) (q0 q1 q2 : Nat) : az_K := az_u (az_u (az_u (az_u K 0 20 (.inl (G.2.2.1 0, 256, .inl (fun _ => 0)))) 0 21 (.inl (G.2.2.1 0, 256, .inl (fun _ => 0)))) 0 22 (.inl (G.2.2.1 0, 256, .inl (fun _ => 0)))) 0 8 (.inr (2, [.ref q0, .ref q1, .ref q2, .int 0]))
def m1A (ad : az_A) (q0 q1 q2 : Nat) : az_A := az_ua (az_ua (az_ua ad 0 20 q0) 0 21 q1) 0 22 q2
set_option maxHeartbeats 4000000 in
set_option maxRecDepth 100000 in
theorem X1init (hG : az_okS l G) {q : Nat} (ha : ad 0 8 = q) (hk : K 0 8 = some (.inr (2, [.null, .null, .null, .int 0]))) : az_M l G yX1_init (az_ws yX1_init cX1_init 1 (Option.none : Option FieldType)) 1 [.ref q] ad K 3 768 (fun o ad' K' => ∃ q0 q1 q2 : Nat, o = .inl none ∧ ad' = m1A ad q0 q1 q2 ∧ K' = m1K G K q0 q1 q2) := by
  refine az_start hG.1 (by decide +kernel) (Nat.le_of_ble_eq_true rfl) ?_
  intro p e s mm args below meth c C hnm
  show az_W l G 1 _ p e _ s mm args below meth c _ _ 0 0 0 [(0, .ref q)] []
  refine az_aload_n C 0 dX1_init_0 rfl ?_
  refine az_obj C wm_X1_1 wi_obj wc_obj dX1_init_1 (Nat.le_of_ble_eq_true rfl) (Nat.le_of_ble_eq_true rfl) ?_
  refine az_aload_n C 0 dX1_init_4 rfl ?_
  refine az_sipush C (v := 256) dX1_init_5 (by decide) ?_
  refine az_newa C 0 .int rfl rfl (fun U cA h => va_nm_int h) 0 20 256 (256, (.inl (fun _ => 0))) (fun cA => rfl) wa_int (by decide) (by decide) (by decide) (Nat.le_of_ble_eq_true rfl) (Nat.le_of_ble_eq_true rfl) dX1_init_8 (fun q0 => ?_)
  refine az_put C cX1 0 8 0 (fs := [.null, .null, .null, .int 0]) wl_X1_9 dX1_init_10 ha hk (by decide) (Nat.le_of_ble_eq_true rfl) rfl rfl rfl ?_
  refine az_aload_n C 0 dX1_init_13 rfl ?_
  refine az_sipush C (v := 256) dX1_init_14 (by decide) ?_
  refine az_newa C 0 .int rfl rfl (fun U cA h => va_nm_int h) 0 21 256 (256, (.inl (fun _ => 0))) (fun cA => rfl) wa_int (by decide) (by decide) (by decide) (Nat.le_of_ble_eq_true rfl) (Nat.le_of_ble_eq_true rfl) dX1_init_17 (fun q1 => ?_)
  refine az_put C cX1 0 8 1 (fs := [.ref q0, .null, .null, .int 0]) wl_X1_13 dX1_init_19 ha rfl (by decide) (Nat.le_of_ble_eq_true rfl) rfl rfl rfl ?_
  refine az_to rfl (az_u3 (by decide)) ?_
  refine az_aload_n C 0 dX1_init_22 rfl ?_
  refine az_sipush C (v := 256) dX1_init_23 (by decide) ?_
  refine az_newa C 0 .int rfl rfl (fun U cA h => va_nm_int h) 0 22 256 (256, (.inl (fun _ => 0))) (fun cA => rfl) wa_int (by decide) (by decide) (by decide) (Nat.le_of_ble_eq_true rfl) (Nat.le_of_ble_eq_true rfl) dX1_init_26 (fun q2 => ?_)
  refine az_put C cX1 0 8 2 (fs := [.ref q0, .ref q1, .null, .int 0]) wl_X1_16 dX1_init_28 ha rfl (by decide) (Nat.le_of_ble_eq_true rfl) rfl rfl rfl ?_
  refine az_to rfl (az_u3 (by decide)) ?_
  exact az_vret C rfl dX1_init_31 (Nat.le_of_ble_eq_true rfl) (Nat.le_of_ble_eq_true rfl) ⟨q0, q1, q2, rfl, rfl, rfl⟩
end
