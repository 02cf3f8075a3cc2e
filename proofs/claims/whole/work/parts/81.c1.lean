section
variable {l : Launch} {G : az_G} {ad : az_A} {K : az_K}
theorem az_u3 {K : az_K} {r i r' i' : Nat} {e a e' : va_E} (h : ¬ (r' = r ∧ i' = i)) : az_u (az_u (az_u K r i e) r' i' a) r i e' = az_u (az_u K r' i' a) r i e' := by
  funext x y
  unfold az_u
  by_cases h1 : x = r ∧ y = i
  · rw [if_pos h1, if_pos h1]
  · rw [if_neg h1, if_neg h1]
    by_cases h2 : x = r' ∧ y = i'
    · rw [if_pos h2, if_neg h1]
    · rw [if_neg h2, if_neg h1]
def m1K (G : az_G) (K : az_K) (q0 q1 q2 : Nat) : az_K := az_u (az_u (az_u (az_u K 0 20 (.inl (G.2.2.1 0, 256, .inl (fun _ => 0)))) 0 21 (.inl (G.2.2.1 0, 256, .inl (fun _ => 0)))) 0 22 (.inl (G.2.2.1 0, 256, .inl (fun _ => 0)))) 0 8 (.inr (5, [.ref q0, .ref q1, .ref q2, .int 0]))
def m1A (ad : az_A) (q0 q1 q2 : Nat) : az_A := az_ua (az_ua (az_ua ad 0 20 q0) 0 21 q1) 0 22 q2
set_option maxHeartbeats 4000000 in
set_option maxRecDepth 100000 in
theorem X1init (hG : az_okS l G) {q : Nat} (ha : ad 0 8 = q) (hk : K 0 8 = some (.inr (5, [.null, .null, .null, .int 0]))) : az_M l G yX1_init (az_ws yX1_init cX1_init 1 (Option.none : Option FieldType)) 1 [.ref q] ad K 3 768 (fun o ad' K' => ∃ q0 q1 q2 : Nat, o = .inl none ∧ ad' = m1A ad q0 q1 q2 ∧ K' = m1K G K q0 q1 q2) := by
  refine az_start hG.1 (by decide +kernel) (Nat.le_of_ble_eq_true rfl) ?_
  intro p e s mm args below meth c C hnm
  show az_W l G 1 _ p e _ s mm args below meth c _ _ 0 0 0 [(0, .ref q)] []
  refine az_aload_n C 0 dX1_init_0 rfl ?_
  refine az_obj C wm_X1_1 wi_obj wc_obj dX1_init_1 (Nat.le_of_ble_eq_true rfl) (Nat.le_of_ble_eq_true rfl) ?_
  refine az_aload_n C 0 dX1_init_4 rfl ?_
  refine az_sipush C (v := 256) dX1_init_5 (by decide) ?_
  refine az_newa C 0 .int rfl rfl (fun U cA h => va_nm_int h) 0 20 256 (256, (.inl (fun _ => 0))) (fun cA => rfl) wa_int (by decide) (by decide) (by decide) (Nat.le_of_ble_eq_true rfl) (Nat.le_of_ble_eq_true rfl) dX1_init_8 (fun q0 => ?_)
  refine az_put C cX1 0 8 0 (fs := [.null, .null, .null, .int 0]) wl_X1_9 dX1_init_10 ha hk (by decide) (Nat.le_of_ble_eq_true rfl) rfl rfl rfl ?_
  refine az_aload_n C 0 dX1_init_13 rfl ?_
  refine az_sipush C (v := 256) dX1_init_14 (by decide) ?_
  refine az_newa C 0 .int rfl rfl (fun U cA h => va_nm_int h) 0 21 256 (256, (.inl (fun _ => 0))) (fun cA => rfl) wa_int (by decide) (by decide) (by decide) (Nat.le_of_ble_eq_true rfl) (Nat.le_of_ble_eq_true rfl) dX1_init_17 (fun q1 => ?_)
  refine az_put C cX1 0 8 1 (fs := [.ref q0, .null, .null, .int 0]) wl_X1_13 dX1_init_19 ha rfl (by decide) (Nat.le_of_ble_eq_true rfl) rfl rfl rfl ?_
  refine az_to rfl (az_u3 (by decide)) ?_
  refine az_aload_n C 0 dX1_init_22 rfl ?_
  refine az_sipush C (v := 256) dX1_init_23 (by decide) ?_
  refine az_newa C 0 .int rfl rfl (fun U cA h => va_nm_int h) 0 22 256 (256, (.inl (fun _ => 0))) (fun cA => rfl) wa_int (by decide) (by decide) (by decide) (Nat.le_of_ble_eq_true rfl) (Nat.le_of_ble_eq_true rfl) dX1_init_26 (fun q2 => ?_)
  refine az_put C cX1 0 8 2 (fs := [.ref q0, .ref q1, .null, .int 0]) wl_X1_16 dX1_init_28 ha rfl (by decide) (Nat.le_of_ble_eq_true rfl) rfl rfl rfl ?_
  refine az_to rfl (az_u3 (by decide)) ?_
  exact az_vret C rfl dX1_init_31 (Nat.le_of_ble_eq_true rfl) (Nat.le_of_ble_eq_true rfl) ⟨q0, q1, q2, rfl, rfl, rfl⟩
/-- the reference as it starts -/
def m0X : Ms := (fun p => match p with
  | 0 => fun k => match k with
    | 1 => 1
    | 21 => 600
    | 24 => 1
    | _ => 0
  | 3 => ((upd (upd (upd (upd (upd (upd (fun _ => 0) 0 20) 1 0) 2 0) 3 0) 4 0) 5 0))
  | 4 => ((upd (upd (upd (upd (upd (upd (fun _ => 0) 0 600) 1 0) 2 0) 3 0) 4 0) 5 0))
  | 5 => ((upd (upd (upd (upd (upd (upd (fun _ => 0) 0 30) 1 0) 2 0) 3 0) 4 0) 5 0))
  | 6 => ((upd (upd (upd (upd (upd (upd (fun _ => 0) 0 100) 1 0) 2 0) 3 0) 4 0) 5 0))
  | 25 => upd (fun _ => 0) 0 (-1)
  | 27 => upd (fun _ => 0) 0 600
  | _ => fun _ => 0, 10000)
def mdK (G : az_G) (K : az_K) (f : Nat → Nat) : az_K := fun r i => match r with
  | 2 => mcl G (fun i => f (i - 100), fun _ => 0, fun _ => 0, 0, 0, 0) m0X.2 i (m0X.1 i)
  | r => K r i
def mdA (ad : az_A) (f : Nat → Nat) : az_A := fun r i => match r with
  | 2 => f i
  | r => ad r i
set_option maxHeartbeats 4000000 in
set_option maxRecDepth 100000 in
theorem X4init (hG : az_okS l G) {q : Nat} (ha : ad 2 0 = q) (hk : K 2 0 = some (.inr (8, [.int 0, .int 0, .int 0, .null, .null, .null, .null, .null, .null, .null, .null, .null, .int 0, .null, .null, .null, .null, .null, .null, .null, .long 0, .int 0, .int 0, .int 0, .int 0, .null, .null, .null, .int 0, .int 0, .int 0, .int 0, .null, .null, .null, .null, .int 0, .int 0, .null, .int 0]))) : az_M l G yX4_init (az_ws yX4_init cX4_init 1 (Option.none : Option FieldType)) 1 [.ref q] ad K 24 300200 (fun o ad' K' => ∃ f : Nat → Nat, o = .inl none ∧ f 0 = q ∧ ad' = mdA ad f ∧ K' = mdK G K f) := by
  refine az_start hG.1 (by decide +kernel) (Nat.le_of_ble_eq_true rfl) ?_
  intro p e s mm args below meth c C hnm
  show az_W l G 1 _ p e _ s mm args below meth c _ _ 0 0 0 [(0, .ref q)] []
  refine az_aload_n C 0 dX4_init_0 rfl ?_
  refine az_obj C wm_X4_1 wi_obj wc_obj dX4_init_1 (Nat.le_of_ble_eq_true rfl) (Nat.le_of_ble_eq_true rfl) ?_
  refine az_aload_n C 0 dX4_init_4 rfl ?_
  refine az_iconst C (v := 1) dX4_init_5 (by decide) ?_
  refine az_put C cX4 2 0 1 (fs := [.int 0, .int 0, .int 0, .null, .null, .null, .null, .null, .null, .null, .null, .null, .int 0, .null, .null, .null, .null, .null, .null, .null, .long 0, .int 0, .int 0, .int 0, .int 0, .null, .null, .null, .int 0, .int 0, .int 0, .int 0, .null, .null, .null, .null, .int 0, .int 0, .null, .int 0]) wl_X4_7 dX4_init_6 ha hk (by decide) (Nat.le_of_ble_eq_true rfl) rfl rfl rfl ?_
  refine az_aload_n C 0 dX4_init_9 rfl ?_
  refine az_bipush C (v := 6) dX4_init_10 (by decide) ?_
  refine az_newa C 0 .int rfl rfl (fun U cA h => va_nm_int h) 2 3 6 (6, (.inl (fun _ => 0))) (fun cA => rfl) wa_int (by decide) (by decide) (by decide) (Nat.le_of_ble_eq_true rfl) (Nat.le_of_ble_eq_true rfl) dX4_init_12 (fun q0 => ?_)
  refine az_dup C dX4_init_14 rfl ?_
  refine az_iconst C (v := 0) dX4_init_15 (by decide) ?_
  refine az_bipush C (v := 20) dX4_init_16 (by decide) ?_
  refine az_iastN C 2 3 0 dX4_init_18 rfl rfl (by decide) (by decide) ?_
  refine az_to rfl az_uu ?_
  refine az_dup C dX4_init_19 rfl ?_
  refine az_iconst C (v := 1) dX4_init_20 (by decide) ?_
  refine az_iconst C (v := 0) dX4_init_21 (by decide) ?_
  refine az_iastN C 2 3 1 dX4_init_22 rfl rfl (by decide) (by decide) ?_
  refine az_to rfl az_uu ?_
  refine az_dup C dX4_init_23 rfl ?_
  refine az_iconst C (v := 2) dX4_init_24 (by decide) ?_
  refine az_iconst C (v := 0) dX4_init_25 (by decide) ?_
  refine az_iastN C 2 3 2 dX4_init_26 rfl rfl (by decide) (by decide) ?_
  refine az_to rfl az_uu ?_
  refine az_dup C dX4_init_27 rfl ?_
  refine az_iconst C (v := 3) dX4_init_28 (by decide) ?_
  refine az_iconst C (v := 0) dX4_init_29 (by decide) ?_
  refine az_iastN C 2 3 3 dX4_init_30 rfl rfl (by decide) (by decide) ?_
  refine az_to rfl az_uu ?_
  refine az_dup C dX4_init_31 rfl ?_
  refine az_iconst C (v := 4) dX4_init_32 (by decide) ?_
  refine az_iconst C (v := 0) dX4_init_33 (by decide) ?_
  refine az_iastN C 2 3 4 dX4_init_34 rfl rfl (by decide) (by decide) ?_
  refine az_to rfl az_uu ?_
  refine az_dup C dX4_init_35 rfl ?_
  refine az_iconst C (v := 5) dX4_init_36 (by decide) ?_
  refine az_iconst C (v := 0) dX4_init_37 (by decide) ?_
  refine az_iastN C 2 3 5 dX4_init_38 rfl rfl (by decide) (by decide) ?_
  refine az_to rfl az_uu ?_
  refine az_putF C cX4 2 0 3 hnm (fs := [.int 0, .int 1, .int 0, .null, .null, .null, .null, .null, .null, .null, .null, .null, .int 0, .null, .null, .null, .null, .null, .null, .null, .long 0, .int 0, .int 0, .int 0, .int 0, .null, .null, .null, .int 0, .int 0, .int 0, .int 0, .null, .null, .null, .null, .int 0, .int 0, .null, .int 0]) wl_X4_13 dX4_init_39 ha rfl (by decide) (Nat.le_of_ble_eq_true rfl) rfl rfl rfl rfl ?_
  refine az_to rfl (az_u3 (by decide)) ?_
  refine az_aload_n C 0 dX4_init_42 rfl ?_
  refine az_bipush C (v := 6) dX4_init_43 (by decide) ?_
  refine az_newa C 0 .int rfl rfl (fun U cA h => va_nm_int h) 2 4 6 (6, (.inl (fun _ => 0))) (fun cA => rfl) wa_int (by decide) (by decide) (by decide) (Nat.le_of_ble_eq_true rfl) (Nat.le_of_ble_eq_true rfl) dX4_init_45 (fun q1 => ?_)
  refine az_dup C dX4_init_47 rfl ?_
  refine az_iconst C (v := 0) dX4_init_48 (by decide) ?_
  refine az_sipush C (v := 600) dX4_init_49 (by decide) ?_
  refine az_iastN C 2 4 0 dX4_init_52 rfl rfl (by decide) (by decide) ?_
  refine az_to rfl az_uu ?_
  refine az_dup C dX4_init_53 rfl ?_
  refine az_iconst C (v := 1) dX4_init_54 (by decide) ?_
  refine az_iconst C (v := 0) dX4_init_55 (by decide) ?_
  refine az_iastN C 2 4 1 dX4_init_56 rfl rfl (by decide) (by decide) ?_
  refine az_to rfl az_uu ?_
  refine az_dup C dX4_init_57 rfl ?_
  refine az_iconst C (v := 2) dX4_init_58 (by decide) ?_
  refine az_iconst C (v := 0) dX4_init_59 (by decide) ?_
  refine az_iastN C 2 4 2 dX4_init_60 rfl rfl (by decide) (by decide) ?_
  refine az_to rfl az_uu ?_
  refine az_dup C dX4_init_61 rfl ?_
  refine az_iconst C (v := 3) dX4_init_62 (by decide) ?_
  refine az_iconst C (v := 0) dX4_init_63 (by decide) ?_
  refine az_iastN C 2 4 3 dX4_init_64 rfl rfl (by decide) (by decide) ?_
  refine az_to rfl az_uu ?_
  refine az_dup C dX4_init_65 rfl ?_
  refine az_iconst C (v := 4) dX4_init_66 (by decide) ?_
  refine az_iconst C (v := 0) dX4_init_67 (by decide) ?_
  refine az_iastN C 2 4 4 dX4_init_68 rfl rfl (by decide) (by decide) ?_
  refine az_to rfl az_uu ?_
  refine az_dup C dX4_init_69 rfl ?_
  refine az_iconst C (v := 5) dX4_init_70 (by decide) ?_
  refine az_iconst C (v := 0) dX4_init_71 (by decide) ?_
  refine az_iastN C 2 4 5 dX4_init_72 rfl rfl (by decide) (by decide) ?_
  refine az_to rfl az_uu ?_
  refine az_putF C cX4 2 0 4 hnm (fs := [.int 0, .int 1, .int 0, .ref q0, .null, .null, .null, .null, .null, .null, .null, .null, .int 0, .null, .null, .null, .null, .null, .null, .null, .long 0, .int 0, .int 0, .int 0, .int 0, .null, .null, .null, .int 0, .int 0, .int 0, .int 0, .null, .null, .null, .null, .int 0, .int 0, .null, .int 0]) wl_X4_17 dX4_init_73 ha rfl (by decide) (Nat.le_of_ble_eq_true rfl) rfl rfl rfl rfl ?_
  refine az_to rfl (az_u3 (by decide)) ?_
  refine az_aload_n C 0 dX4_init_76 rfl ?_
  refine az_bipush C (v := 6) dX4_init_77 (by decide) ?_
  refine az_newa C 0 .int rfl rfl (fun U cA h => va_nm_int h) 2 5 6 (6, (.inl (fun _ => 0))) (fun cA => rfl) wa_int (by decide) (by decide) (by decide) (Nat.le_of_ble_eq_true rfl) (Nat.le_of_ble_eq_true rfl) dX4_init_79 (fun q2 => ?_)
  refine az_dup C dX4_init_81 rfl ?_
  refine az_iconst C (v := 0) dX4_init_82 (by decide) ?_
  refine az_bipush C (v := 30) dX4_init_83 (by decide) ?_
  refine az_iastN C 2 5 0 dX4_init_85 rfl rfl (by decide) (by decide) ?_
  refine az_to rfl az_uu ?_
  refine az_dup C dX4_init_86 rfl ?_
  refine az_iconst C (v := 1) dX4_init_87 (by decide) ?_
  refine az_iconst C (v := 0) dX4_init_88 (by decide) ?_
  refine az_iastN C 2 5 1 dX4_init_89 rfl rfl (by decide) (by decide) ?_
  refine az_to rfl az_uu ?_
  refine az_dup C dX4_init_90 rfl ?_
  refine az_iconst C (v := 2) dX4_init_91 (by decide) ?_
  refine az_iconst C (v := 0) dX4_init_92 (by decide) ?_
  refine az_iastN C 2 5 2 dX4_init_93 rfl rfl (by decide) (by decide) ?_
  refine az_to rfl az_uu ?_
  refine az_dup C dX4_init_94 rfl ?_
  refine az_iconst C (v := 3) dX4_init_95 (by decide) ?_
  refine az_iconst C (v := 0) dX4_init_96 (by decide) ?_
  refine az_iastN C 2 5 3 dX4_init_97 rfl rfl (by decide) (by decide) ?_
  refine az_to rfl az_uu ?_
  refine az_dup C dX4_init_98 rfl ?_
  refine az_iconst C (v := 4) dX4_init_99 (by decide) ?_
  refine az_iconst C (v := 0) dX4_init_100 (by decide) ?_
  refine az_iastN C 2 5 4 dX4_init_101 rfl rfl (by decide) (by decide) ?_
  refine az_to rfl az_uu ?_
  refine az_dup C dX4_init_102 rfl ?_
  refine az_iconst C (v := 5) dX4_init_103 (by decide) ?_
  refine az_iconst C (v := 0) dX4_init_104 (by decide) ?_
  refine az_iastN C 2 5 5 dX4_init_105 rfl rfl (by decide) (by decide) ?_
  refine az_to rfl az_uu ?_
  refine az_putF C cX4 2 0 5 hnm (fs := [.int 0, .int 1, .int 0, .ref q0, .ref q1, .null, .null, .null, .null, .null, .null, .null, .int 0, .null, .null, .null, .null, .null, .null, .null, .long 0, .int 0, .int 0, .int 0, .int 0, .null, .null, .null, .int 0, .int 0, .int 0, .int 0, .null, .null, .null, .null, .int 0, .int 0, .null, .int 0]) wl_X4_20 dX4_init_106 ha rfl (by decide) (Nat.le_of_ble_eq_true rfl) rfl rfl rfl rfl ?_
  refine az_to rfl (az_u3 (by decide)) ?_
  refine az_aload_n C 0 dX4_init_109 rfl ?_
  refine az_bipush C (v := 6) dX4_init_110 (by decide) ?_
  refine az_newa C 0 .int rfl rfl (fun U cA h => va_nm_int h) 2 6 6 (6, (.inl (fun _ => 0))) (fun cA => rfl) wa_int (by decide) (by decide) (by decide) (Nat.le_of_ble_eq_true rfl) (Nat.le_of_ble_eq_true rfl) dX4_init_112 (fun q3 => ?_)
  refine az_dup C dX4_init_114 rfl ?_
  refine az_iconst C (v := 0) dX4_init_115 (by decide) ?_
  refine az_bipush C (v := 100) dX4_init_116 (by decide) ?_
  refine az_iastN C 2 6 0 dX4_init_118 rfl rfl (by decide) (by decide) ?_
  refine az_to rfl az_uu ?_
  refine az_dup C dX4_init_119 rfl ?_
  refine az_iconst C (v := 1) dX4_init_120 (by decide) ?_
  refine az_iconst C (v := 0) dX4_init_121 (by decide) ?_
  refine az_iastN C 2 6 1 dX4_init_122 rfl rfl (by decide) (by decide) ?_
  refine az_to rfl az_uu ?_
  refine az_dup C dX4_init_123 rfl ?_
  refine az_iconst C (v := 2) dX4_init_124 (by decide) ?_
  refine az_iconst C (v := 0) dX4_init_125 (by decide) ?_
  refine az_iastN C 2 6 2 dX4_init_126 rfl rfl (by decide) (by decide) ?_
  refine az_to rfl az_uu ?_
  refine az_dup C dX4_init_127 rfl ?_
  refine az_iconst C (v := 3) dX4_init_128 (by decide) ?_
  refine az_iconst C (v := 0) dX4_init_129 (by decide) ?_
  refine az_iastN C 2 6 3 dX4_init_130 rfl rfl (by decide) (by decide) ?_
  refine az_to rfl az_uu ?_
  refine az_dup C dX4_init_131 rfl ?_
  refine az_iconst C (v := 4) dX4_init_132 (by decide) ?_
  refine az_iconst C (v := 0) dX4_init_133 (by decide) ?_
  refine az_iastN C 2 6 4 dX4_init_134 rfl rfl (by decide) (by decide) ?_
  refine az_to rfl az_uu ?_
  refine az_dup C dX4_init_135 rfl ?_
  refine az_iconst C (v := 5) dX4_init_136 (by decide) ?_
  refine az_iconst C (v := 0) dX4_init_137 (by decide) ?_
  refine az_iastN C 2 6 5 dX4_init_138 rfl rfl (by decide) (by decide) ?_
  refine az_to rfl az_uu ?_
  refine az_putF C cX4 2 0 6 hnm (fs := [.int 0, .int 1, .int 0, .ref q0, .ref q1, .ref q2, .null, .null, .null, .null, .null, .null, .int 0, .null, .null, .null, .null, .null, .null, .null, .long 0, .int 0, .int 0, .int 0, .int 0, .null, .null, .null, .int 0, .int 0, .int 0, .int 0, .null, .null, .null, .null, .int 0, .int 0, .null, .int 0]) wl_X4_23 dX4_init_139 ha rfl (by decide) (Nat.le_of_ble_eq_true rfl) rfl rfl rfl rfl ?_
  refine az_to rfl (az_u3 (by decide)) ?_
  refine az_aload_n C 0 dX4_init_142 rfl ?_
  refine az_iconst C (v := 5) dX4_init_143 (by decide) ?_
  refine az_newa C 0 .int rfl rfl (fun U cA h => va_nm_int h) 2 7 5 (5, (.inl (fun _ => 0))) (fun cA => rfl) wa_int (by decide) (by decide) (by decide) (Nat.le_of_ble_eq_true rfl) (Nat.le_of_ble_eq_true rfl) dX4_init_144 (fun q4 => ?_)
  refine az_putF C cX4 2 0 7 hnm (fs := [.int 0, .int 1, .int 0, .ref q0, .ref q1, .ref q2, .ref q3, .null, .null, .null, .null, .null, .int 0, .null, .null, .null, .null, .null, .null, .null, .long 0, .int 0, .int 0, .int 0, .int 0, .null, .null, .null, .int 0, .int 0, .int 0, .int 0, .null, .null, .null, .null, .int 0, .int 0, .null, .int 0]) wl_X4_26 dX4_init_146 ha rfl (by decide) (Nat.le_of_ble_eq_true rfl) rfl rfl rfl rfl ?_
  refine az_to rfl (az_u3 (by decide)) ?_
  refine az_aload_n C 0 dX4_init_149 rfl ?_
  refine az_iconst C (v := 5) dX4_init_150 (by decide) ?_
  refine az_newa C 0 .int rfl rfl (fun U cA h => va_nm_int h) 2 8 5 (5, (.inl (fun _ => 0))) (fun cA => rfl) wa_int (by decide) (by decide) (by decide) (Nat.le_of_ble_eq_true rfl) (Nat.le_of_ble_eq_true rfl) dX4_init_151 (fun q5 => ?_)
  refine az_putF C cX4 2 0 8 hnm (fs := [.int 0, .int 1, .int 0, .ref q0, .ref q1, .ref q2, .ref q3, .ref q4, .null, .null, .null, .null, .int 0, .null, .null, .null, .null, .null, .null, .null, .long 0, .int 0, .int 0, .int 0, .int 0, .null, .null, .null, .int 0, .int 0, .int 0, .int 0, .null, .null, .null, .null, .int 0, .int 0, .null, .int 0]) wl_X4_29 dX4_init_153 ha rfl (by decide) (Nat.le_of_ble_eq_true rfl) rfl rfl rfl rfl ?_
  refine az_to rfl (az_u3 (by decide)) ?_
  refine az_aload_n C 0 dX4_init_156 rfl ?_
  refine az_iconst C (v := 5) dX4_init_157 (by decide) ?_
  refine az_newa C 0 .int rfl rfl (fun U cA h => va_nm_int h) 2 9 5 (5, (.inl (fun _ => 0))) (fun cA => rfl) wa_int (by decide) (by decide) (by decide) (Nat.le_of_ble_eq_true rfl) (Nat.le_of_ble_eq_true rfl) dX4_init_158 (fun q6 => ?_)
  refine az_putF C cX4 2 0 9 hnm (fs := [.int 0, .int 1, .int 0, .ref q0, .ref q1, .ref q2, .ref q3, .ref q4, .ref q5, .null, .null, .null, .int 0, .null, .null, .null, .null, .null, .null, .null, .long 0, .int 0, .int 0, .int 0, .int 0, .null, .null, .null, .int 0, .int 0, .int 0, .int 0, .null, .null, .null, .null, .int 0, .int 0, .null, .int 0]) wl_X4_32 dX4_init_160 ha rfl (by decide) (Nat.le_of_ble_eq_true rfl) rfl rfl rfl rfl ?_
  refine az_to rfl (az_u3 (by decide)) ?_
  refine az_aload_n C 0 dX4_init_163 rfl ?_
  refine az_iconst C (v := 5) dX4_init_164 (by decide) ?_
  refine az_newa C 0 .int rfl rfl (fun U cA h => va_nm_int h) 2 10 5 (5, (.inl (fun _ => 0))) (fun cA => rfl) wa_int (by decide) (by decide) (by decide) (Nat.le_of_ble_eq_true rfl) (Nat.le_of_ble_eq_true rfl) dX4_init_165 (fun q7 => ?_)
  refine az_putF C cX4 2 0 10 hnm (fs := [.int 0, .int 1, .int 0, .ref q0, .ref q1, .ref q2, .ref q3, .ref q4, .ref q5, .ref q6, .null, .null, .int 0, .null, .null, .null, .null, .null, .null, .null, .long 0, .int 0, .int 0, .int 0, .int 0, .null, .null, .null, .int 0, .int 0, .int 0, .int 0, .null, .null, .null, .null, .int 0, .int 0, .null, .int 0]) wl_X4_35 dX4_init_167 ha rfl (by decide) (Nat.le_of_ble_eq_true rfl) rfl rfl rfl rfl ?_
  refine az_to rfl (az_u3 (by decide)) ?_
  refine az_aload_n C 0 dX4_init_170 rfl ?_
  refine az_iconst C (v := 5) dX4_init_171 (by decide) ?_
  refine az_newa C 1 .boolean rfl rfl (fun U cA h => va_nm_boolean h) 2 11 5 (5, (.inl (fun _ => 0))) (fun cA => rfl) wa_boolean (by decide) (by decide) (by decide) (Nat.le_of_ble_eq_true rfl) (Nat.le_of_ble_eq_true rfl) dX4_init_172 (fun q8 => ?_)
  refine az_putF C cX4 2 0 11 hnm (fs := [.int 0, .int 1, .int 0, .ref q0, .ref q1, .ref q2, .ref q3, .ref q4, .ref q5, .ref q6, .ref q7, .null, .int 0, .null, .null, .null, .null, .null, .null, .null, .long 0, .int 0, .int 0, .int 0, .int 0, .null, .null, .null, .int 0, .int 0, .int 0, .int 0, .null, .null, .null, .null, .int 0, .int 0, .null, .int 0]) wl_X4_38 dX4_init_174 ha rfl (by decide) (Nat.le_of_ble_eq_true rfl) rfl rfl rfl rfl ?_
  refine az_to rfl (az_u3 (by decide)) ?_
  refine az_aload_n C 0 dX4_init_177 rfl ?_
  refine az_bipush C (v := 8) dX4_init_178 (by decide) ?_
  refine az_newa C 0 .int rfl rfl (fun U cA h => va_nm_int h) 2 13 8 (8, (.inl (fun _ => 0))) (fun cA => rfl) wa_int (by decide) (by decide) (by decide) (Nat.le_of_ble_eq_true rfl) (Nat.le_of_ble_eq_true rfl) dX4_init_180 (fun q9 => ?_)
  refine az_putF C cX4 2 0 13 hnm (fs := [.int 0, .int 1, .int 0, .ref q0, .ref q1, .ref q2, .ref q3, .ref q4, .ref q5, .ref q6, .ref q7, .ref q8, .int 0, .null, .null, .null, .null, .null, .null, .null, .long 0, .int 0, .int 0, .int 0, .int 0, .null, .null, .null, .int 0, .int 0, .int 0, .int 0, .null, .null, .null, .null, .int 0, .int 0, .null, .int 0]) wl_X4_42 dX4_init_182 ha rfl (by decide) (Nat.le_of_ble_eq_true rfl) rfl rfl rfl rfl ?_
  refine az_to rfl (az_u3 (by decide)) ?_
  refine az_aload_n C 0 dX4_init_185 rfl ?_
  refine az_bipush C (v := 8) dX4_init_186 (by decide) ?_
  refine az_newa C 0 .int rfl rfl (fun U cA h => va_nm_int h) 2 14 8 (8, (.inl (fun _ => 0))) (fun cA => rfl) wa_int (by decide) (by decide) (by decide) (Nat.le_of_ble_eq_true rfl) (Nat.le_of_ble_eq_true rfl) dX4_init_188 (fun q10 => ?_)
  refine az_putF C cX4 2 0 14 hnm (fs := [.int 0, .int 1, .int 0, .ref q0, .ref q1, .ref q2, .ref q3, .ref q4, .ref q5, .ref q6, .ref q7, .ref q8, .int 0, .ref q9, .null, .null, .null, .null, .null, .null, .long 0, .int 0, .int 0, .int 0, .int 0, .null, .null, .null, .int 0, .int 0, .int 0, .int 0, .null, .null, .null, .null, .int 0, .int 0, .null, .int 0]) wl_X4_45 dX4_init_190 ha rfl (by decide) (Nat.le_of_ble_eq_true rfl) rfl rfl rfl rfl ?_
  refine az_to rfl (az_u3 (by decide)) ?_
  refine az_aload_n C 0 dX4_init_193 rfl ?_
  refine az_bipush C (v := 8) dX4_init_194 (by decide) ?_
  refine az_newa C 0 .int rfl rfl (fun U cA h => va_nm_int h) 2 15 8 (8, (.inl (fun _ => 0))) (fun cA => rfl) wa_int (by decide) (by decide) (by decide) (Nat.le_of_ble_eq_true rfl) (Nat.le_of_ble_eq_true rfl) dX4_init_196 (fun q11 => ?_)
  refine az_putF C cX4 2 0 15 hnm (fs := [.int 0, .int 1, .int 0, .ref q0, .ref q1, .ref q2, .ref q3, .ref q4, .ref q5, .ref q6, .ref q7, .ref q8, .int 0, .ref q9, .ref q10, .null, .null, .null, .null, .null, .long 0, .int 0, .int 0, .int 0, .int 0, .null, .null, .null, .int 0, .int 0, .int 0, .int 0, .null, .null, .null, .null, .int 0, .int 0, .null, .int 0]) wl_X4_48 dX4_init_198 ha rfl (by decide) (Nat.le_of_ble_eq_true rfl) rfl rfl rfl rfl ?_
  refine az_to rfl (az_u3 (by decide)) ?_
  refine az_aload_n C 0 dX4_init_201 rfl ?_
  refine az_bipush C (v := 8) dX4_init_202 (by decide) ?_
  refine az_newa C 0 .int rfl rfl (fun U cA h => va_nm_int h) 2 16 8 (8, (.inl (fun _ => 0))) (fun cA => rfl) wa_int (by decide) (by decide) (by decide) (Nat.le_of_ble_eq_true rfl) (Nat.le_of_ble_eq_true rfl) dX4_init_204 (fun q12 => ?_)
  refine az_putF C cX4 2 0 16 hnm (fs := [.int 0, .int 1, .int 0, .ref q0, .ref q1, .ref q2, .ref q3, .ref q4, .ref q5, .ref q6, .ref q7, .ref q8, .int 0, .ref q9, .ref q10, .ref q11, .null, .null, .null, .null, .long 0, .int 0, .int 0, .int 0, .int 0, .null, .null, .null, .int 0, .int 0, .int 0, .int 0, .null, .null, .null, .null, .int 0, .int 0, .null, .int 0]) wl_X4_51 dX4_init_206 ha rfl (by decide) (Nat.le_of_ble_eq_true rfl) rfl rfl rfl rfl ?_
  refine az_to rfl (az_u3 (by decide)) ?_
  refine az_aload_n C 0 dX4_init_209 rfl ?_
  refine az_bipush C (v := 8) dX4_init_210 (by decide) ?_
  refine az_newa C 0 .int rfl rfl (fun U cA h => va_nm_int h) 2 17 8 (8, (.inl (fun _ => 0))) (fun cA => rfl) wa_int (by decide) (by decide) (by decide) (Nat.le_of_ble_eq_true rfl) (Nat.le_of_ble_eq_true rfl) dX4_init_212 (fun q13 => ?_)
  refine az_putF C cX4 2 0 17 hnm (fs := [.int 0, .int 1, .int 0, .ref q0, .ref q1, .ref q2, .ref q3, .ref q4, .ref q5, .ref q6, .ref q7, .ref q8, .int 0, .ref q9, .ref q10, .ref q11, .ref q12, .null, .null, .null, .long 0, .int 0, .int 0, .int 0, .int 0, .null, .null, .null, .int 0, .int 0, .int 0, .int 0, .null, .null, .null, .null, .int 0, .int 0, .null, .int 0]) wl_X4_54 dX4_init_214 ha rfl (by decide) (Nat.le_of_ble_eq_true rfl) rfl rfl rfl rfl ?_
  refine az_to rfl (az_u3 (by decide)) ?_
  refine az_aload_n C 0 dX4_init_217 rfl ?_
  refine az_bipush C (v := 8) dX4_init_218 (by decide) ?_
  refine az_newa C 0 .int rfl rfl (fun U cA h => va_nm_int h) 2 18 8 (8, (.inl (fun _ => 0))) (fun cA => rfl) wa_int (by decide) (by decide) (by decide) (Nat.le_of_ble_eq_true rfl) (Nat.le_of_ble_eq_true rfl) dX4_init_220 (fun q14 => ?_)
  refine az_putF C cX4 2 0 18 hnm (fs := [.int 0, .int 1, .int 0, .ref q0, .ref q1, .ref q2, .ref q3, .ref q4, .ref q5, .ref q6, .ref q7, .ref q8, .int 0, .ref q9, .ref q10, .ref q11, .ref q12, .ref q13, .null, .null, .long 0, .int 0, .int 0, .int 0, .int 0, .null, .null, .null, .int 0, .int 0, .int 0, .int 0, .null, .null, .null, .null, .int 0, .int 0, .null, .int 0]) wl_X4_57 dX4_init_222 ha rfl (by decide) (Nat.le_of_ble_eq_true rfl) rfl rfl rfl rfl ?_
  refine az_to rfl (az_u3 (by decide)) ?_
  refine az_aload_n C 0 dX4_init_225 rfl ?_
  refine az_bipush C (v := 8) dX4_init_226 (by decide) ?_
  refine az_newa C 0 .int rfl rfl (fun U cA h => va_nm_int h) 2 19 8 (8, (.inl (fun _ => 0))) (fun cA => rfl) wa_int (by decide) (by decide) (by decide) (Nat.le_of_ble_eq_true rfl) (Nat.le_of_ble_eq_true rfl) dX4_init_228 (fun q15 => ?_)
  refine az_putF C cX4 2 0 19 hnm (fs := [.int 0, .int 1, .int 0, .ref q0, .ref q1, .ref q2, .ref q3, .ref q4, .ref q5, .ref q6, .ref q7, .ref q8, .int 0, .ref q9, .ref q10, .ref q11, .ref q12, .ref q13, .ref q14, .null, .long 0, .int 0, .int 0, .int 0, .int 0, .null, .null, .null, .int 0, .int 0, .int 0, .int 0, .null, .null, .null, .null, .int 0, .int 0, .null, .int 0]) wl_X4_60 dX4_init_230 ha rfl (by decide) (Nat.le_of_ble_eq_true rfl) rfl rfl rfl rfl ?_
  refine az_to rfl (az_u3 (by decide)) ?_
  refine az_aload_n C 0 dX4_init_233 rfl ?_
  refine az_ldc2 C (v := 10000) wn_X4_63 dX4_init_234 ?_
  refine az_put C cX4 2 0 20 (fs := [.int 0, .int 1, .int 0, .ref q0, .ref q1, .ref q2, .ref q3, .ref q4, .ref q5, .ref q6, .ref q7, .ref q8, .int 0, .ref q9, .ref q10, .ref q11, .ref q12, .ref q13, .ref q14, .ref q15, .long 0, .int 0, .int 0, .int 0, .int 0, .null, .null, .null, .int 0, .int 0, .int 0, .int 0, .null, .null, .null, .null, .int 0, .int 0, .null, .int 0]) wl_X4_65 dX4_init_237 ha rfl (by decide) (Nat.le_of_ble_eq_true rfl) rfl rfl rfl ?_
  refine az_to rfl az_uu ?_
  refine az_aload_n C 0 dX4_init_240 rfl ?_
  refine az_sipush C (v := 600) dX4_init_241 (by decide) ?_
  refine az_put C cX4 2 0 21 (fs := [.int 0, .int 1, .int 0, .ref q0, .ref q1, .ref q2, .ref q3, .ref q4, .ref q5, .ref q6, .ref q7, .ref q8, .int 0, .ref q9, .ref q10, .ref q11, .ref q12, .ref q13, .ref q14, .ref q15, .long 10000, .int 0, .int 0, .int 0, .int 0, .null, .null, .null, .int 0, .int 0, .int 0, .int 0, .null, .null, .null, .null, .int 0, .int 0, .null, .int 0]) wl_X4_69 dX4_init_244 ha rfl (by decide) (Nat.le_of_ble_eq_true rfl) rfl rfl rfl ?_
  refine az_to rfl az_uu ?_
  refine az_aload_n C 0 dX4_init_247 rfl ?_
  refine az_iconst C (v := 1) dX4_init_248 (by decide) ?_
  refine az_put C cX4 2 0 24 (fs := [.int 0, .int 1, .int 0, .ref q0, .ref q1, .ref q2, .ref q3, .ref q4, .ref q5, .ref q6, .ref q7, .ref q8, .int 0, .ref q9, .ref q10, .ref q11, .ref q12, .ref q13, .ref q14, .ref q15, .long 10000, .int 600, .int 0, .int 0, .int 0, .null, .null, .null, .int 0, .int 0, .int 0, .int 0, .null, .null, .null, .null, .int 0, .int 0, .null, .int 0]) wl_X4_72 dX4_init_249 ha rfl (by decide) (Nat.le_of_ble_eq_true rfl) rfl rfl rfl ?_
  refine az_to rfl az_uu ?_
  refine az_aload_n C 0 dX4_init_252 rfl ?_
  refine az_ldc C (v := 100000) wn_X4_75 dX4_init_253 ?_
  refine az_newa C 0 .int rfl rfl (fun U cA h => va_nm_int h) 2 25 100000 (100000, (.inl (fun _ => 0))) (fun cA => rfl) wa_int (by decide) (by decide) (by decide) (Nat.le_of_ble_eq_true rfl) (Nat.le_of_ble_eq_true rfl) dX4_init_255 (fun q16 => ?_)
  refine az_putF C cX4 2 0 25 hnm (fs := [.int 0, .int 1, .int 0, .ref q0, .ref q1, .ref q2, .ref q3, .ref q4, .ref q5, .ref q6, .ref q7, .ref q8, .int 0, .ref q9, .ref q10, .ref q11, .ref q12, .ref q13, .ref q14, .ref q15, .long 10000, .int 600, .int 0, .int 0, .int 1, .null, .null, .null, .int 0, .int 0, .int 0, .int 0, .null, .null, .null, .null, .int 0, .int 0, .null, .int 0]) wl_X4_76 dX4_init_257 ha rfl (by decide) (Nat.le_of_ble_eq_true rfl) rfl rfl rfl rfl ?_
  refine az_to rfl (az_u3 (by decide)) ?_
  refine az_aload_n C 0 dX4_init_260 rfl ?_
  refine az_ldc C (v := 100000) wn_X4_75 dX4_init_261 ?_
  refine az_newa C 0 .int rfl rfl (fun U cA h => va_nm_int h) 2 26 100000 (100000, (.inl (fun _ => 0))) (fun cA => rfl) wa_int (by decide) (by decide) (by decide) (Nat.le_of_ble_eq_true rfl) (Nat.le_of_ble_eq_true rfl) dX4_init_263 (fun q17 => ?_)
  refine az_putF C cX4 2 0 26 hnm (fs := [.int 0, .int 1, .int 0, .ref q0, .ref q1, .ref q2, .ref q3, .ref q4, .ref q5, .ref q6, .ref q7, .ref q8, .int 0, .ref q9, .ref q10, .ref q11, .ref q12, .ref q13, .ref q14, .ref q15, .long 10000, .int 600, .int 0, .int 0, .int 1, .ref q16, .null, .null, .int 0, .int 0, .int 0, .int 0, .null, .null, .null, .null, .int 0, .int 0, .null, .int 0]) wl_X4_79 dX4_init_265 ha rfl (by decide) (Nat.le_of_ble_eq_true rfl) rfl rfl rfl rfl ?_
  refine az_to rfl (az_u3 (by decide)) ?_
  refine az_aload_n C 0 dX4_init_268 rfl ?_
  refine az_ldc C (v := 100000) wn_X4_75 dX4_init_269 ?_
  refine az_newa C 0 .int rfl rfl (fun U cA h => va_nm_int h) 2 27 100000 (100000, (.inl (fun _ => 0))) (fun cA => rfl) wa_int (by decide) (by decide) (by decide) (Nat.le_of_ble_eq_true rfl) (Nat.le_of_ble_eq_true rfl) dX4_init_271 (fun q18 => ?_)
  refine az_putF C cX4 2 0 27 hnm (fs := [.int 0, .int 1, .int 0, .ref q0, .ref q1, .ref q2, .ref q3, .ref q4, .ref q5, .ref q6, .ref q7, .ref q8, .int 0, .ref q9, .ref q10, .ref q11, .ref q12, .ref q13, .ref q14, .ref q15, .long 10000, .int 600, .int 0, .int 0, .int 1, .ref q16, .ref q17, .null, .int 0, .int 0, .int 0, .int 0, .null, .null, .null, .null, .int 0, .int 0, .null, .int 0]) wl_X4_82 dX4_init_273 ha rfl (by decide) (Nat.le_of_ble_eq_true rfl) rfl rfl rfl rfl ?_
  refine az_to rfl (az_u3 (by decide)) ?_
  refine az_aload_n C 0 dX4_init_276 rfl ?_
  refine az_bipush C (v := 6) dX4_init_277 (by decide) ?_
  refine az_newa C 0 .int rfl rfl (fun U cA h => va_nm_int h) 2 32 6 (6, (.inl (fun _ => 0))) (fun cA => rfl) wa_int (by decide) (by decide) (by decide) (Nat.le_of_ble_eq_true rfl) (Nat.le_of_ble_eq_true rfl) dX4_init_279 (fun q19 => ?_)
  refine az_putF C cX4 2 0 32 hnm (fs := [.int 0, .int 1, .int 0, .ref q0, .ref q1, .ref q2, .ref q3, .ref q4, .ref q5, .ref q6, .ref q7, .ref q8, .int 0, .ref q9, .ref q10, .ref q11, .ref q12, .ref q13, .ref q14, .ref q15, .long 10000, .int 600, .int 0, .int 0, .int 1, .ref q16, .ref q17, .ref q18, .int 0, .int 0, .int 0, .int 0, .null, .null, .null, .null, .int 0, .int 0, .null, .int 0]) wl_X4_85 dX4_init_281 ha rfl (by decide) (Nat.le_of_ble_eq_true rfl) rfl rfl rfl rfl ?_
  refine az_to rfl (az_u3 (by decide)) ?_
  refine az_aload_n C 0 dX4_init_284 rfl ?_
  refine az_iconst C (v := 5) dX4_init_285 (by decide) ?_
  refine az_newa C 0 .int rfl rfl (fun U cA h => va_nm_int h) 2 33 5 (5, (.inl (fun _ => 0))) (fun cA => rfl) wa_int (by decide) (by decide) (by decide) (Nat.le_of_ble_eq_true rfl) (Nat.le_of_ble_eq_true rfl) dX4_init_286 (fun q20 => ?_)
  refine az_putF C cX4 2 0 33 hnm (fs := [.int 0, .int 1, .int 0, .ref q0, .ref q1, .ref q2, .ref q3, .ref q4, .ref q5, .ref q6, .ref q7, .ref q8, .int 0, .ref q9, .ref q10, .ref q11, .ref q12, .ref q13, .ref q14, .ref q15, .long 10000, .int 600, .int 0, .int 0, .int 1, .ref q16, .ref q17, .ref q18, .int 0, .int 0, .int 0, .int 0, .ref q19, .null, .null, .null, .int 0, .int 0, .null, .int 0]) wl_X4_88 dX4_init_288 ha rfl (by decide) (Nat.le_of_ble_eq_true rfl) rfl rfl rfl rfl ?_
  refine az_to rfl (az_u3 (by decide)) ?_
  refine az_aload_n C 0 dX4_init_291 rfl ?_
  refine az_bipush C (v := 8) dX4_init_292 (by decide) ?_
  refine az_newa C 0 .int rfl rfl (fun U cA h => va_nm_int h) 2 34 8 (8, (.inl (fun _ => 0))) (fun cA => rfl) wa_int (by decide) (by decide) (by decide) (Nat.le_of_ble_eq_true rfl) (Nat.le_of_ble_eq_true rfl) dX4_init_294 (fun q21 => ?_)
  refine az_putF C cX4 2 0 34 hnm (fs := [.int 0, .int 1, .int 0, .ref q0, .ref q1, .ref q2, .ref q3, .ref q4, .ref q5, .ref q6, .ref q7, .ref q8, .int 0, .ref q9, .ref q10, .ref q11, .ref q12, .ref q13, .ref q14, .ref q15, .long 10000, .int 600, .int 0, .int 0, .int 1, .ref q16, .ref q17, .ref q18, .int 0, .int 0, .int 0, .int 0, .ref q19, .ref q20, .null, .null, .int 0, .int 0, .null, .int 0]) wl_X4_91 dX4_init_296 ha rfl (by decide) (Nat.le_of_ble_eq_true rfl) rfl rfl rfl rfl ?_
  refine az_to rfl (az_u3 (by decide)) ?_
  refine az_aload_n C 0 dX4_init_299 rfl ?_
  refine az_iconst C (v := 5) dX4_init_300 (by decide) ?_
  refine az_newa C 1 .boolean rfl rfl (fun U cA h => va_nm_boolean h) 2 35 5 (5, (.inl (fun _ => 0))) (fun cA => rfl) wa_boolean (by decide) (by decide) (by decide) (Nat.le_of_ble_eq_true rfl) (Nat.le_of_ble_eq_true rfl) dX4_init_301 (fun q22 => ?_)
  refine az_putF C cX4 2 0 35 hnm (fs := [.int 0, .int 1, .int 0, .ref q0, .ref q1, .ref q2, .ref q3, .ref q4, .ref q5, .ref q6, .ref q7, .ref q8, .int 0, .ref q9, .ref q10, .ref q11, .ref q12, .ref q13, .ref q14, .ref q15, .long 10000, .int 600, .int 0, .int 0, .int 1, .ref q16, .ref q17, .ref q18, .int 0, .int 0, .int 0, .int 0, .ref q19, .ref q20, .ref q21, .null, .int 0, .int 0, .null, .int 0]) wl_X4_94 dX4_init_303 ha rfl (by decide) (Nat.le_of_ble_eq_true rfl) rfl rfl rfl rfl ?_
  refine az_to rfl (az_u3 (by decide)) ?_
  refine az_aload_n C 0 dX4_init_306 rfl ?_
  refine az_bipush C (v := 40) dX4_init_307 (by decide) ?_
  refine az_newa C 2 .char rfl rfl (fun U cA h => va_nm_char h) 2 38 40 (40, (.inl (fun _ => 0))) (fun cA => rfl) wa_char (by decide) (by decide) (by decide) (Nat.le_of_ble_eq_true rfl) (Nat.le_of_ble_eq_true rfl) dX4_init_309 (fun q23 => ?_)
  refine az_putF C cX4 2 0 38 hnm (fs := [.int 0, .int 1, .int 0, .ref q0, .ref q1, .ref q2, .ref q3, .ref q4, .ref q5, .ref q6, .ref q7, .ref q8, .int 0, .ref q9, .ref q10, .ref q11, .ref q12, .ref q13, .ref q14, .ref q15, .long 10000, .int 600, .int 0, .int 0, .int 1, .ref q16, .ref q17, .ref q18, .int 0, .int 0, .int 0, .int 0, .ref q19, .ref q20, .ref q21, .ref q22, .int 0, .int 0, .null, .int 0]) wl_X4_97 dX4_init_311 ha rfl (by decide) (Nat.le_of_ble_eq_true rfl) rfl rfl rfl rfl ?_
  refine az_to rfl (az_u3 (by decide)) ?_
  refine az_aload_n C 0 dX4_init_314 rfl ?_
  refine az_get C cX4 2 0 25 (v := .ref q16) wl_X4_76 dX4_init_315 ha rfl rfl (by decide) ?_
  refine az_iconst C (v := 0) dX4_init_318 (by decide) ?_
  refine az_iconst C (v := (-1)) dX4_init_319 (by decide) ?_
  refine az_iastN C 2 25 0 dX4_init_320 rfl rfl (by decide) (by decide) ?_
  refine az_aload_n C 0 dX4_init_321 rfl ?_
  refine az_get C cX4 2 0 27 (v := .ref q18) wl_X4_82 dX4_init_322 ha rfl rfl (by decide) ?_
  refine az_iconst C (v := 0) dX4_init_325 (by decide) ?_
  refine az_sipush C (v := 600) dX4_init_326 (by decide) ?_
  refine az_iastN C 2 27 0 dX4_init_329 rfl rfl (by decide) (by decide) ?_
  refine az_mv (ad' := mdA ad (fun i => match i with | 3 => q0 | 4 => q1 | 5 => q2 | 6 => q3 | 7 => q4 | 8 => q5 | 9 => q6 | 10 => q7 | 11 => q8 | 13 => q9 | 14 => q10 | 15 => q11 | 16 => q12 | 17 => q13 | 18 => q14 | 19 => q15 | 25 => q16 | 26 => q17 | 27 => q18 | 32 => q19 | 33 => q20 | 34 => q21 | 35 => q22 | 38 => q23 | _ => q)) (K' := mdK G K (fun i => match i with | 3 => q0 | 4 => q1 | 5 => q2 | 6 => q3 | 7 => q4 | 8 => q5 | 9 => q6 | 10 => q7 | 11 => q8 | 13 => q9 | 14 => q10 | 15 => q11 | 16 => q12 | 17 => q13 | 18 => q14 | 19 => q15 | 25 => q16 | 26 => q17 | 27 => q18 | 32 => q19 | 33 => q20 | 34 => q21 | 35 => q22 | 38 => q23 | _ => q)) (fun r i => (r, i)) (fun r i e h => ?_) (fun r i r' i' e e' _ _ h => by cases h; exact ⟨rfl, rfl⟩) ?_
  · match r, i, h with
    | 0, i, h => exact ⟨h, rfl⟩
    | 1, i, h => exact ⟨h, rfl⟩
    | 2, 0, h => exact ⟨h, ha.symm⟩
    | 2, 1, h => cases h
    | 2, 2, h => cases h
    | 2, 3, h => exact ⟨h, rfl⟩
    | 2, 4, h => exact ⟨h, rfl⟩
    | 2, 5, h => exact ⟨h, rfl⟩
    | 2, 6, h => exact ⟨h, rfl⟩
    | 2, 7, h => exact ⟨h, rfl⟩
    | 2, 8, h => exact ⟨h, rfl⟩
    | 2, 9, h => exact ⟨h, rfl⟩
    | 2, 10, h => exact ⟨h, rfl⟩
    | 2, 11, h => exact ⟨h, rfl⟩
    | 2, 12, h => cases h
    | 2, 13, h => exact ⟨h, rfl⟩
    | 2, 14, h => exact ⟨h, rfl⟩
    | 2, 15, h => exact ⟨h, rfl⟩
    | 2, 16, h => exact ⟨h, rfl⟩
    | 2, 17, h => exact ⟨h, rfl⟩
    | 2, 18, h => exact ⟨h, rfl⟩
    | 2, 19, h => exact ⟨h, rfl⟩
    | 2, 20, h => cases h
    | 2, 21, h => cases h
    | 2, 22, h => cases h
    | 2, 23, h => cases h
    | 2, 24, h => cases h
    | 2, 25, h => exact ⟨h, rfl⟩
    | 2, 26, h => exact ⟨h, rfl⟩
    | 2, 27, h => exact ⟨h, rfl⟩
    | 2, 28, h => cases h
    | 2, 29, h => cases h
    | 2, 30, h => cases h
    | 2, 31, h => cases h
    | 2, 32, h => exact ⟨h, rfl⟩
    | 2, 33, h => exact ⟨h, rfl⟩
    | 2, 34, h => exact ⟨h, rfl⟩
    | 2, 35, h => exact ⟨h, rfl⟩
    | 2, 36, h => cases h
    | 2, 37, h => cases h
    | 2, 38, h => exact ⟨h, rfl⟩
    | 2, 39, h => cases h
    | 2, n + 40, h => cases h
    | n + 3, i, h => exact ⟨h, rfl⟩
  · exact az_vret C rfl dX4_init_330 (Nat.le_of_ble_eq_true rfl) (Nat.le_of_ble_eq_true rfl) ⟨(fun i => match i with | 3 => q0 | 4 => q1 | 5 => q2 | 6 => q3 | 7 => q4 | 8 => q5 | 9 => q6 | 10 => q7 | 11 => q8 | 13 => q9 | 14 => q10 | 15 => q11 | 16 => q12 | 17 => q13 | 18 => q14 | 19 => q15 | 25 => q16 | 26 => q17 | 27 => q18 | 32 => q19 | 33 => q20 | 34 => q21 | 35 => q22 | 38 => q23 | _ => q), rfl, rfl, rfl, rfl⟩
end
