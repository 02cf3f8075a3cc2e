section
theorem mcl1_any {G : az_G} (ρ ρ' : Rp) {i : Nat} {f : Nat → Int32} : mcl1 G ρ i f = mcl1 G ρ' i f := by
  delta mcl1
  rfl
def stR (ρ : Rp) (f : Nat → Nat) (q : Nat) : Rp := (fun i => if i < 90 then ρ.1 i else if i = 90 then q else f (i - 100), ρ.2)
theorem mcl_st {G : az_G} {ρ : Rp} {f : Nat → Nat} {q : Nat} {mo : Int64} {i : Nat} {g : Nat → Int32} : mcl G (stR ρ f q) mo i g = mcl G (fun i => f (i - 100), fun _ => 0, fun _ => 0, 0, 0, 0) mo i g :=
  match i with
  | 0 => rfl
  | _ + 1 => mcl1_any (stR ρ f q) (fun i => f (i - 100), fun _ => 0, fun _ => 0, 0, 0, 0)
theorem xc_st {G : az_G} {ρ : Rp} {f : Nat → Nat} {q : Nat} {pu : Int64} {i : Nat} {g : Nat → Int32} : xc G (stR ρ f q) pu i g = xc G ρ pu i g :=
  match i with
  | 0 => rfl
  | 1 => rfl
  | 2 => rfl
  | 3 => rfl
  | 4 => rfl
  | 5 => rfl
  | 6 => rfl
  | 7 => rfl
  | 8 => rfl
  | 9 => rfl
  | 10 => rfl
  | 11 => rfl
  | 12 => rfl
  | 13 => rfl
  | 14 => rfl
  | 15 => rfl
  | 16 => rfl
  | 17 => rfl
  | 18 => rfl
  | 19 => rfl
  | 20 => rfl
  | 21 => rfl
  | 22 => rfl
  | 23 => rfl
  | _ + 24 => rfl
theorem st_mv {G : az_G} {ρ : Rp} {x : Xs} {f : Nat → Nat} {q2 q3 : Nat} {e0 : va_E} (hb : ρ.2.2.2.2.2 = 0) {r i : Nat} {e : va_E} (h : KK G (stR ρ f q3) x m0X (fun _ => 0) r i = some e) : az_u (mdK G (az_u (KK_9 G ρ x m0X (fun _ => 0)) 2 0 e0) f) 3 0 (.inl (G.2.2.1 4, 1, .inr (.inl (fun _ => 0)))) r i = some e ∧ AD (stR ρ f q3) r i = az_ua (mdA (az_ua (AD ρ) 2 0 q2) f) 3 0 q3 r i := by
  match r, h with
  | 0, h =>
    refine ⟨?_, ?_⟩
    · rw [az_u_n (fun z => absurd z.1 (by decide))]
      show az_u (KK_9 G ρ x m0X (fun _ => 0)) 2 0 e0 0 i = some e
      rw [az_u_n (fun z => absurd z.1 (by decide))]
      show xc G ρ x.2.2.2 i (x.1 i) = some e
      rw [← xc_st (f := f) (q := q3)]
      exact h
    · rw [show az_ua (mdA (az_ua (AD ρ) 2 0 q2) f) 3 0 q3 0 i = mdA (az_ua (AD ρ) 2 0 q2) f 0 i from if_neg (fun z => absurd z.1 (by decide))]
      rw [show mdA (az_ua (AD ρ) 2 0 q2) f 0 i = az_ua (AD ρ) 2 0 q2 0 i from rfl, show az_ua (AD ρ) 2 0 q2 0 i = AD ρ 0 i from if_neg (fun z => absurd z.1 (by decide))]
      show (if i < 20 then (if i < 90 then ρ.1 i else if i = 90 then q3 else f (i - 100)) else ρ.2.1 i) = (if i < 20 then ρ.1 i else ρ.2.1 i)
      by_cases hi : i < 20
      · rw [if_pos hi, if_pos hi, if_pos (by omega)]
      · rw [if_neg hi, if_neg hi]
  | 1, h =>
    have h2 : (if i < ρ.2.2.2.2.2 then some (bc (stR ρ f q3) i (x.2.1 i) x.2.2.1) else none) = some e := h
    rw [hb, if_neg (Nat.not_lt_zero i)] at h2
    cases h2
  | 2, h =>
    refine ⟨?_, ?_⟩
    · rw [az_u_n (fun z => absurd z.1 (by decide))]
      show mcl G (fun i => f (i - 100), fun _ => 0, fun _ => 0, 0, 0, 0) m0X.2 i (m0X.1 i) = some e
      rw [← mcl_st (ρ := ρ) (q := q3)]
      exact h
    · rw [show az_ua (mdA (az_ua (AD ρ) 2 0 q2) f) 3 0 q3 2 i = mdA (az_ua (AD ρ) 2 0 q2) f 2 i from if_neg (fun z => absurd z.1 (by decide))]
      show (if 100 + i < 90 then ρ.1 (100 + i) else if 100 + i = 90 then q3 else f (100 + i - 100)) = f i
      rw [if_neg (by omega), if_neg (by omega), Nat.add_sub_cancel_left]
  | 3, h =>
    have h2 : (if i = 0 then some (.inl (G.2.2.1 4, 1, .inr (.inl (fun _ => 0)))) else none) = some e := h
    by_cases hi : i = 0
    · rw [if_pos hi] at h2
      cases h2
      subst hi
      exact ⟨az_u_s, rfl⟩
    · rw [if_neg hi] at h2
      cases h2
  | _ + 4, h => cases h
theorem x1X_e : x1X.1 = xI (xI (sdX (bedX x0X 0 20) 0 (-1) 2 (nI 0) (0 + 3) (20 * 30)) 11 0 100) 12 0 30 := by
  show xI (xI (sendR (0 + 1) (0 + 1) (bedX x0X 0 20) 0 (-1) 2 0 (20 * 30)).1 11 0 100) 12 0 30 = _
  rw [sendR, if_neg (show ¬ ((20 * 30 : Int32) ≤ 0) by decide), if_neg (show ¬ (0 + 1 < 0 + 1) by decide), if_pos (show (sdX (bedX x0X 0 20) 0 (-1) 2 (nI 0) (0 + 3) (20 * 30)).1 4 (0 + 3) - 60 * (sdX (bedX x0X 0 20) 0 (-1) 2 (nI 0) (0 + 3) (20 * 30)).1 2 0 ≤ 0 by decide +kernel)]
theorem x1X_z {j : Nat} (hj : 256 ≤ j) : x1X.1.1 20 j = 0 ∧ x1X.1.1 21 j = 0 ∧ x1X.1.1 22 j = 0 := by
  rw [x1X_e]
  have hne : j ≠ 0 := by omega
  refine ⟨?_, ?_, ?_⟩
  · simp only [sdX, addX, xI]
    rw [up2_p (by decide), up2_p (by decide), up2_p (by decide), up2_p (by decide), up2_p (by decide), up2_k hne]
    rfl
  · simp only [sdX, addX, xI]
    rw [up2_p (by decide), up2_p (by decide), up2_p (by decide), up2_p (by decide), up2_k hne]
    rfl
  · simp only [sdX, addX, xI]
    rw [up2_p (by decide), up2_p (by decide), up2_p (by decide), up2_k hne]
    rfl
theorem x1X_23 {j : Nat} : x1X.1.1 23 j = 0 := by
  rw [x1X_e]
  rfl
theorem Nx_start {ρ : Rp} (h1 : ρ.2.2.2.1 = 256) (h2 : ρ.2.2.2.2.1 = 16) (h3 : ρ.2.2.2.2.2 = 0) : Nx 0 ρ x1X.1 m0X :=
  ⟨1, 1, 0, 0, [], Tie_start, by omega, ⟨by omega, by omega, by omega, fun j hj => x1X_z (by omega)⟩, ⟨by decide +kernel, by decide +kernel, Nat.zero_le _, Or.inl h2, fun _ _ => x1X_23⟩, h3.symm⟩
theorem df3 : ∀ j, j < 14 → defaultValue (tyX3 j) = vp_V [.null, .null, .null, .null, .null, .null, .null, .int 0, .int 0, .long 0, .int 0, .int 0, .int 0, .int 0] j := fun j hj => by
  match j, hj with
  | 0, _ => rfl
  | 1, _ => rfl
  | 2, _ => rfl
  | 3, _ => rfl
  | 4, _ => rfl
  | 5, _ => rfl
  | 6, _ => rfl
  | 7, _ => rfl
  | 8, _ => rfl
  | 9, _ => rfl
  | 10, _ => rfl
  | 11, _ => rfl
  | 12, _ => rfl
  | 13, _ => rfl
theorem df4 : ∀ j, j < 40 → defaultValue (tyX4 j) = vp_V [.int 0, .int 0, .int 0, .null, .null, .null, .null, .null, .null, .null, .null, .null, .int 0, .null, .null, .null, .null, .null, .null, .null, .long 0, .int 0, .int 0, .int 0, .int 0, .null, .null, .null, .int 0, .int 0, .int 0, .int 0, .null, .null, .null, .null, .int 0, .int 0, .null, .int 0] j := fun j hj => by
  match j, hj with
  | 0, _ => rfl
  | 1, _ => rfl
  | 2, _ => rfl
  | 3, _ => rfl
  | 4, _ => rfl
  | 5, _ => rfl
  | 6, _ => rfl
  | 7, _ => rfl
  | 8, _ => rfl
  | 9, _ => rfl
  | 10, _ => rfl
  | 11, _ => rfl
  | 12, _ => rfl
  | 13, _ => rfl
  | 14, _ => rfl
  | 15, _ => rfl
  | 16, _ => rfl
  | 17, _ => rfl
  | 18, _ => rfl
  | 19, _ => rfl
  | 20, _ => rfl
  | 21, _ => rfl
  | 22, _ => rfl
  | 23, _ => rfl
  | 24, _ => rfl
  | 25, _ => rfl
  | 26, _ => rfl
  | 27, _ => rfl
  | 28, _ => rfl
  | 29, _ => rfl
  | 30, _ => rfl
  | 31, _ => rfl
  | 32, _ => rfl
  | 33, _ => rfl
  | 34, _ => rfl
  | 35, _ => rfl
  | 36, _ => rfl
  | 37, _ => rfl
  | 38, _ => rfl
  | 39, _ => rfl
  | _ + 40, h => exact absurd h (by omega)
variable {l : Launch} {G : az_G} {Q : State → Prop} {p : Program} {e : Env} {s : State} {mm : MethodId} {args : Array Value} {below : List Frame} {meth : Method} {cd : Code} {tab : List ExceptionTableEntry} {b L : Nat} {xs : Nat → Int32}
set_option maxHeartbeats 4000000 in
set_option maxRecDepth 100000 in
theorem law_start (C : az_C l G p s mm args meth cd cL_law RL 9 (some FieldType.boolean) tab) (hG : az_okS l G) {A : Nat × Nat × Nat × Nat} (hT : az_okT G A) (S : lwS G b L xs s) (hexit : ∀ (ad : az_A) (K : az_K) (k n : Nat) (lv : List (Nat × Value)), k ≤ 601024 → n ≤ 7293034 → az_W l G 9 Q p e room_1 s mm args below meth cd ad K k n 2941 lv []) : az_W l G 9 Q p e room_1 s mm args below meth cd (fun _ _ => 0) (fun _ _ => none) 0 0 0 [(0, .ref b)] [] := by
  refine az_new C cX3 0 0 [.null, .null, .null, .null, .null, .null, .null, .int 0, .int 0, .long 0, .int 0, .int 0, .int 0, .int 0] wk_L_8 wins_X3 wini_X3 df3 (Nat.le_of_ble_eq_true rfl) (Nat.le_of_ble_eq_true rfl) dL_law_0 (fun q => ?_)
  refine az_dup C dL_law_3 rfl ?_
  refine az_callI C Y_X3_init (a := q) [] [.ref q] rfl wm_L_149 wi_X3_init dL_law_4 rfl (X3init hG rfl rfl) rfl (Nat.le_of_ble_eq_true rfl) (Nat.le_of_ble_eq_true rfl) (Nat.le_of_ble_eq_true rfl) (Nat.le_of_ble_eq_true rfl) (Nat.le_of_ble_eq_true rfl) (az_c1 (fun _ _ _ h => h) ?_) (az_c0 (fun _ _ _ h => h))
  rintro _ _ ⟨ρ, h0, h1, h2, h3, rfl, rfl⟩
  refine az_astore_n C (lv' := [(1, .ref q), (0, .ref b)]) (j := 1) rfl dL_law_7 (by decide) rfl ?_
  refine az_new C cX4 2 0 [.int 0, .int 0, .int 0, .null, .null, .null, .null, .null, .null, .null, .null, .null, .int 0, .null, .null, .null, .null, .null, .null, .null, .long 0, .int 0, .int 0, .int 0, .int 0, .null, .null, .null, .int 0, .int 0, .int 0, .int 0, .null, .null, .null, .null, .int 0, .int 0, .null, .int 0] wk_L_150 wins_X4 wini_X4 df4 (Nat.le_of_ble_eq_true rfl) (Nat.le_of_ble_eq_true rfl) dL_law_8 (fun q2 => ?_)
  refine az_dup C dL_law_11 rfl ?_
  refine az_callI C Y_X4_init (a := q2) [] [.ref q2] rfl wm_L_152 wi_X4_init dL_law_12 rfl (X4init hG rfl rfl) rfl (Nat.le_of_ble_eq_true rfl) (Nat.le_of_ble_eq_true rfl) (Nat.le_of_ble_eq_true rfl) (Nat.le_of_ble_eq_true rfl) (Nat.le_of_ble_eq_true rfl) (fun v ad9 K9 hp => ?_) (fun E ad9 K9 hp => ?_)
  · obtain ⟨f, h9, hf, rfl, rfl⟩ := hp
    cases h9
    refine az_astore_n C (lv' := [(2, .ref q2), (1, .ref q), (0, .ref b)]) (j := 2) rfl dL_law_15 (by decide) rfl ?_
    refine az_iconst C (v := 1) dL_law_16 (by decide) ?_
    refine az_newa C 4 .long rfl rfl (fun U cA h => va_nm_long h) 3 0 1 (1, .inr (.inl (fun _ => 0))) (fun cA => rfl) wa_long (by decide) (by decide) (by decide) (Nat.le_of_ble_eq_true rfl) (Nat.le_of_ble_eq_true rfl) dL_law_17 (fun q3 => ?_)
    refine az_astore_n C (lv' := [(3, .ref q3), (2, .ref q2), (1, .ref q), (0, .ref b)]) (j := 3) rfl dL_law_19 (by decide) rfl ?_
    refine az_iconst C (v := 0) dL_law_20 (by decide) ?_
    refine az_istore C (lv' := lvL b (6 * 0) q q2 q3) dL_law_21 (by decide) rfl ?_
    refine az_mv (ad' := AD (stR ρ f q3)) (K' := KK G (stR ρ f q3) x1X.1 m0X (fun _ => 0)) (fun r i => (r, i)) (fun r i e9 hk => st_mv h3 hk) (fun r i r' i' e9 e9' _ _ hq => ⟨congrArg Prod.fst hq, congrArg Prod.snd hq⟩) ?_
    refine az_kn (kB 0 (stR ρ f q3)) (nB 0 (stR ρ f q3)) ?_ ?_ ?_
    · show _ ≤ ρ.2.2.2.1 + ρ.2.2.2.2.1 + 2 * 0 + 1000
      omega
    · show _ ≤ 6 * ρ.2.2.2.1 + 2 * ρ.2.2.2.2.1 + 20 * 0 + 400000
      omega
    · exact law_loop C hG hT S hexit 513 0 (stR ρ f q3) x1X.1 m0X (fun _ => 0) rfl h0 hf rfl (Nx_start h1 h2 h3)
  · obtain ⟨f, h9, _⟩ := hp
    cases h9
end
