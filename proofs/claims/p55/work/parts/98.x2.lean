section
theorem x1X_e : x1X.1 = xI (xI (sdX (bedX x0X 0 20) 0 (-1) 2 (nI 0) (0 + 3) (20 * 30)) 11 0 100) 12 0 30 := by
  show xI (xI (sendR (0 + 1) (0 + 1) (bedX x0X 0 20) 0 (-1) 2 0 (20 * 30)).1 11 0 100) 12 0 30 = _
  rw [sendR, if_neg (show ¬ ((20 * 30 : Int32) ≤ 0) by decide), if_neg (show ¬ (0 + 1 < 0 + 1) by decide), if_pos (show (sdX (bedX x0X 0 20) 0 (-1) 2 (nI 0) (0 + 3) (20 * 30)).1 4 (0 + 3) - 60 * (sdX (bedX x0X 0 20) 0 (-1) 2 (nI 0) (0 + 3) (20 * 30)).1 2 0 ≤ 0 by decide +kernel)]
theorem x1X_z {j : Nat} (hj : 256 ≤ j) : x1X.1.1 20 j = 0 ∧ x1X.1.1 21 j = 0 ∧ x1X.1.1 22 j = 0 := by
  rw [x1X_e]
  have hne : j ≠ 0 := by omega
  refine ⟨?_, ?_, ?_⟩
  · simp only [sdX, addX, xI]
    rw [up2_p (by decide), up2_p (by decide), up2_p (by decide), up2_p (by decide), up2_p (by decide), up2_k hne]
    rfl
  · simp only [sdX, addX, xI]
    rw [up2_p (by decide), up2_p (by decide), up2_p (by decide), up2_p (by decide), up2_k hne]
    rfl
  · simp only [sdX, addX, xI]
    rw [up2_p (by decide), up2_p (by decide), up2_p (by decide), up2_k hne]
    rfl
theorem x1X_23 {j : Nat} : x1X.1.1 23 j = 0 := by
  rw [x1X_e]
  rfl
theorem df3 : ∀ j, j < 14 → defaultValue (tyX3 j) = vp_V [.null, .null, .null, .null, .null, .null, .null, .int 0, .int 0, .long 0, .int 0, .int 0, .int 0, .int 0] j := fun j hj => by
  match j, hj with
  | 0, _ => rfl
  | 1, _ => rfl
  | 2, _ => rfl
  | 3, _ => rfl
  | 4, _ => rfl
  | 5, _ => rfl
  | 6, _ => rfl
  | 7, _ => rfl
  | 8, _ => rfl
  | 9, _ => rfl
  | 10, _ => rfl
  | 11, _ => rfl
  | 12, _ => rfl
  | 13, _ => rfl
theorem ST_start {ρ : Rp} (h1 : ρ.2.2.2.1 = 256) (h2 : ρ.2.2.2.2.1 = 16) (h3 : ρ.2.2.2.2.2 = 0) : ST 0 ρ x1X.1 m0X 1 1 0 [] :=
  ⟨⟨Tie_start, by omega, ⟨by omega, by omega, by omega, fun j hj => x1X_z (by omega)⟩, ⟨by decide +kernel, by decide +kernel, Nat.zero_le _, Or.inl h2, fun _ _ => x1X_23⟩, h3.symm⟩, Bal_start, by omega⟩
variable {l : Launch} {G : az_G} {Q : State → Prop} {p : Program} {e : Env} {s : State} {mm : MethodId} {args : Array Value} {below : List Frame} {meth : Method} {cd : Code} {tab : List ExceptionTableEntry} {b L : Nat} {xs : Nat → Int32}
set_option maxHeartbeats 4000000 in
set_option maxRecDepth 100000 in
theorem law_start (C : az_C l G p s mm args meth cd cL_law RL 14 (some FieldType.boolean) tab) (hG : az_okS l G) (hS : lwC G b L xs) (hexit : ∀ (ad : az_A) (K : az_K) (k n : Nat) (lv : List (Nat × Value)), k ≤ 600086 → n ≤ 7301442 → az_W l G 14 Q p e room_1 s mm args below meth cd ad K k n 770 lv []) : az_W l G 14 Q p e room_1 s mm args below meth cd (fun _ _ => 0) (fun _ _ => none) 0 0 0 [(0, .ref b)] [] := by
  refine az_new C cX3 0 0 [.null, .null, .null, .null, .null, .null, .null, .int 0, .int 0, .long 0, .int 0, .int 0, .int 0, .int 0] wk_L_15 wins_X3 wini_X3 df3 (Nat.le_of_ble_eq_true rfl) (Nat.le_of_ble_eq_true rfl) dL_law_0 (fun q => ?_)
  refine az_dup C dL_law_3 rfl ?_
  refine az_callI C Y_X3_init (a := q) [] [.ref q] rfl wm_L_269 wi_X3_init dL_law_4 rfl (X3init hG rfl rfl) rfl (Nat.le_of_ble_eq_true rfl) (Nat.le_of_ble_eq_true rfl) (Nat.le_of_ble_eq_true rfl) (Nat.le_of_ble_eq_true rfl) (Nat.le_of_ble_eq_true rfl) (az_c1 (fun _ _ _ h => h) ?_) (az_c0 (fun _ _ _ h => h))
  rintro _ _ ⟨ρ, h0, h1, h2, h3, rfl, rfl⟩
  subst h0
  refine az_astore_n C (lv' := [(1, .ref (ρ.1 0)), (0, .ref b)]) (j := 1) rfl dL_law_7 (by decide) rfl ?_
  refine az_iconst C (v := 2) dL_law_8 (by decide) ?_
  refine az_aload_n C 1 dL_law_9 rfl ?_
  refine az_iconst C (v := 0) dL_law_10 (by decide) ?_
  refine az_iconst C (v := 4) dL_law_11 (by decide) ?_
  refine az_callS C Y_L_pick [.ref b, .int 0, .int 4] [.int 2] wm_L_270 wst_L_pick dL_law_12 rfl (Xpick (ρ := ρ) (x := x1X.1) (m := (fun _ _ => 0, fun _ => false)) (ou := fun _ => 0) hG hS (k := 0) (q := 4) (by omega) (by omega) (by omega)) rfl (Nat.le_of_ble_eq_true rfl) (Nat.le_of_ble_eq_true rfl) (Nat.le_of_ble_eq_true rfl) (Nat.le_of_ble_eq_true rfl) (Nat.le_of_ble_eq_true rfl) ?_ (by rintro E ad9 K9 ⟨v9, -, h9, -⟩; cases h9)
  rintro v9 ad9 K9 ⟨tq, htq, h9, rfl, rfl⟩
  cases h9
  refine az_iadd C dL_law_15 ?_
  refine az_top (nI (2 + tq)) (nI_ad9 2 tq) ?_
  refine az_istore_n C (lv' := [(2, .int (nI (2 + tq))), (1, .ref (ρ.1 0)), (0, .ref b)]) (j := 2) rfl dL_law_16 (by decide) rfl ?_
  refine az_iconst C (v := 1) dL_law_17 (by decide) ?_
  refine az_istore_n C (lv' := [(3, .int 1), (2, .int (nI (2 + tq))), (1, .ref (ρ.1 0)), (0, .ref b)]) (j := 3) rfl dL_law_18 (by decide) rfl ?_
  refine az_kn 100 2000 (Nat.le_of_ble_eq_true rfl) (Nat.le_of_ble_eq_true rfl) ?_
  exact Lar hG C hexit hS (by omega) (by omega) (1 + tq) (by omega) (ST_start h1 h2 h3) 100 2000 (by omega) (by omega) (by omega)
end
