section
variable {l : Launch} {G : az_G} {Q : State → Prop} {p : Program} {e : Env} {s : State} {mm : MethodId} {args : Array Value} {below : List Frame} {meth : Method} {cd : Code} {tab : List ExceptionTableEntry} {b L qx qm qo : Nat} {xs : Nat → Int32}
theorem Nx.cap {c : Nat} {ρ : Rp} {x : Xs} {m : Ms} (h : Nx c ρ x m) : ρ.2.2.2.1 ≤ 131072 ∧ ρ.2.2.2.2.1 ≤ 34 := by
  obtain ⟨n, nr, nb, N, cs, h⟩ := h
  exact h.cap
theorem Nx.up {c : Nat} {ρ : Rp} {x : Xs} {m : Ms} (h : Nx c ρ x m) : Nx (c + 1) ρ x m := by
  obtain ⟨n, nr, nb, N, cs, h⟩ := h
  exact (h.le (Nat.le_succ c)).nx
set_option maxHeartbeats 8000000 in
set_option maxRecDepth 100000 in
/-- one call of the script -/
theorem law_call (C : az_C l G p s mm args meth cd cL_law RL 9 (some FieldType.boolean) tab) (hG : az_okS l G) {A : Nat × Nat × Nat × Nat} (hT : az_okT G A) (S : lwS G b L xs s) {i : Nat} (hi : i + 6 ≤ L) {c : Nat} (hc : c < 512) {ρ : Rp} {x : Xs} {m : Ms} {ou : Nat → Int64} (h : Nx c ρ x m) (e0 : ρ.1 0 = qx) (e1 : ρ.1 100 = qm) (e2 : ρ.1 90 = qo) (kk : lwN l G Q p e s mm args below meth cd b i qx qm qo c) (t : Nat) (ht : t < 64) : az_W l G 9 Q p e room_1 s mm args below meth cd (AD ρ) (KK G ρ x m ou) (kB c ρ) (nB c ρ) 40 (lvL b i qx qm qo) [.int (nI t)] := by
  match t, ht with
  | 0, _ => exact az_tabIn C 0 264 dL_law_40 (by decide) (by decide) rfl (by decide) (L_addReach C hG S hi hc h e0 e1 e2 kk)
  | 1, _ => exact az_tabIn C 1 368 dL_law_40 (by decide) (by decide) rfl (by decide) (L_reachCount C hG hc h e0 e1 e2 kk)
  | 2, _ => exact az_tabIn C 2 381 dL_law_40 (by decide) (by decide) rfl (by decide) (L_areaOf C hG S hi hc h e0 e1 e2 kk)
  | 3, _ => exact az_tabIn C 3 437 dL_law_40 (by decide) (by decide) rfl (by decide) (L_volumeOf C hG S hi hc h e0 e1 e2 kk)
  | 4, _ => exact az_tabIn C 4 493 dL_law_40 (by decide) (by decide) rfl (by decide) (L_volumeBySteps C hG S hi hc h e0 e1 e2 kk)
  | 5, _ => exact az_tabIn C 5 549 dL_law_40 (by decide) (by decide) rfl (by decide) (L_levelOf C hG S hi hc h e0 e1 e2 kk)
  | 6, _ => exact az_tabIn C 6 605 dL_law_40 (by decide) (by decide) rfl (by decide) (L_lockfulOf C hG S hi hc h e0 e1 e2 kk)
  | 7, _ => exact az_tabIn C 7 661 dL_law_40 (by decide) (by decide) rfl (by decide) (L_lengthOf C hG S hi hc h e0 e1 e2 kk)
  | 8, _ => exact az_tabIn C 8 717 dL_law_40 (by decide) (by decide) rfl (by decide) (L_sillOf C hG S hi hc h e0 e1 e2 kk)
  | 9, _ => exact az_tabIn C 9 773 dL_law_40 (by decide) (by decide) rfl (by decide) (L_isFull C hG S hi hc h e0 e1 e2 kk)
  | 10, _ => exact az_tabIn C 10 836 dL_law_40 (by decide) (by decide) rfl (by decide) (L_turn C hG S hi hc h e0 e1 e2 kk)
  | 11, _ => exact az_tabIn C 11 899 dL_law_40 (by decide) (by decide) rfl (by decide) (L_waterThrough C hG S hi hc h e0 e1 e2 kk)
  | 12, _ => exact az_tabIn C 12 955 dL_law_40 (by decide) (by decide) rfl (by decide) (L_rain C hG S hi hc h e0 e1 e2 kk)
  | 13, _ => exact az_tabIn C 13 1023 dL_law_40 (by decide) (by decide) rfl (by decide) (L_endWeek C hG hc h e0 e1 e2 kk)
  | 14, _ => exact az_tabIn C 14 1036 dL_law_40 (by decide) (by decide) rfl (by decide) (L_weekCount C hG hc h e0 e1 e2 kk)
  | 15, _ => exact az_tabIn C 15 1049 dL_law_40 (by decide) (by decide) rfl (by decide) (L_addBarge C hG S hi hc h e0 e1 e2 kk)
  | 16, _ => exact az_tabIn C 16 1141 dL_law_40 (by decide) (by decide) rfl (by decide) (L_bargeCount C hG hc h e0 e1 e2 kk)
  | 17, _ => exact az_tabIn C 17 1154 dL_law_40 (by decide) (by decide) rfl (by decide) (L_reachOf C hG S hi hc h e0 e1 e2 kk)
  | 18, _ => exact az_tabIn C 18 1210 dL_law_40 (by decide) (by decide) rfl (by decide) (L_cargoOf C hG S hi hc h e0 e1 e2 kk)
  | 19, _ => exact az_tabIn C 19 1266 dL_law_40 (by decide) (by decide) rfl (by decide) (L_draughtOf C hG S hi hc h e0 e1 e2 kk)
  | 20, _ => exact az_tabIn C 20 1322 dL_law_40 (by decide) (by decide) rfl (by decide) (L_isAfloat C hG S hi hc h e0 e1 e2 kk)
  | 21, _ => exact az_tabIn C 21 1385 dL_law_40 (by decide) (by decide) rfl (by decide) (L_couple C hG S hi hc h e0 e1 e2 kk)
  | 22, _ => exact az_tabIn C 22 1453 dL_law_40 (by decide) (by decide) rfl (by decide) (L_uncouple C hG S hi hc h e0 e1 e2 kk)
  | 23, _ => exact az_tabIn C 23 1509 dL_law_40 (by decide) (by decide) rfl (by decide) (L_convoySize C hG S hi hc h e0 e1 e2 kk)
  | 24, _ => exact az_tabIn C 24 1565 dL_law_40 (by decide) (by decide) rfl (by decide) (L_convoyAt C hG S hi hc h e0 e1 e2 kk)
  | 25, _ => exact az_tabIn C 25 1633 dL_law_40 (by decide) (by decide) rfl (by decide) (L_partsFor C hG S hi hc h e0 e1 e2 kk)
  | 26, _ => exact az_tabIn C 26 1701 dL_law_40 (by decide) (by decide) rfl (by decide) (L_pass C hG S hi hc h e0 e1 e2 kk)
  | 27, _ => exact az_tabIn C 27 1785 dL_law_40 (by decide) (by decide) rfl (by decide) (L_voyage C hG S hi hc h e0 e1 e2 kk)
  | 28, _ => exact az_tabIn C 28 1853 dL_law_40 (by decide) (by decide) rfl (by decide) (L_isPossible C hG S hi hc h e0 e1 e2 kk)
  | 29, _ => exact az_tabIn C 29 1928 dL_law_40 (by decide) (by decide) rfl (by decide) (L_waterFor C hG S hi hc h e0 e1 e2 kk)
  | 30, _ => exact az_tabIn C 30 1996 dL_law_40 (by decide) (by decide) rfl (by decide) (L_refusalReason C hG S hi hc h e0 e1 e2 kk)
  | 31, _ => exact az_tabIn C 31 2040 dL_law_40 (by decide) (by decide) rfl (by decide) (L_refusalLock C hG S hi hc h e0 e1 e2 kk)
  | 32, _ => exact az_tabIn C 32 2084 dL_law_40 (by decide) (by decide) rfl (by decide) (L_priceIn C hG S hi hc h e0 e1 e2 kk)
  | 33, _ => exact az_tabIn C 33 2140 dL_law_40 (by decide) (by decide) rfl (by decide) (L_money C hG hc h e0 e1 e2 kk)
  | 34, _ => exact az_tabIn C 34 2154 dL_law_40 (by decide) (by decide) rfl (by decide) (L_buy C hG S hi hc h e0 e1 e2 kk)
  | 35, _ => exact az_tabIn C 35 2221 dL_law_40 (by decide) (by decide) rfl (by decide) (L_sell C hG S hi hc h e0 e1 e2 kk)
  | 36, _ => exact az_tabIn C 36 2288 dL_law_40 (by decide) (by decide) rfl (by decide) (L_sellToDraught C hG S hi hc h e0 e1 e2 kk)
  | 37, _ => exact az_tabIn C 37 2356 dL_law_40 (by decide) (by decide) rfl (by decide) (L_greatestLoad C hG S hi hc h e0 e1 e2 kk)
  | 38, _ => exact az_tabIn C 38 2412 dL_law_40 (by decide) (by decide) rfl (by decide) (L_worthIn C hG S hi hc h e0 e1 e2 kk)
  | 39, _ => exact az_tabIn C 39 2480 dL_law_40 (by decide) (by decide) rfl (by decide) (L_bestReach C hG S hi hc h e0 e1 e2 kk)
  | 40, _ => exact az_tabIn C 40 2536 dL_law_40 (by decide) (by decide) rfl (by decide) (L_cameTotal C hG hc h e0 e1 e2 kk)
  | 41, _ => exact az_tabIn C 41 2549 dL_law_40 (by decide) (by decide) rfl (by decide) (L_seaTotal C hG hc h e0 e1 e2 kk)
  | 42, _ => exact az_tabIn C 42 2562 dL_law_40 (by decide) (by decide) rfl (by decide) (L_airTotal C hG hc h e0 e1 e2 kk)
  | 43, _ => exact az_tabIn C 43 2575 dL_law_40 (by decide) (by decide) rfl (by decide) (L_heldTotal C hG hc h e0 e1 e2 kk)
  | 44, _ => exact az_tabIn C 44 2588 dL_law_40 (by decide) (by decide) rfl (by decide) (L_movementCount C hG hc h e0 e1 e2 kk)
  | 45, _ => exact az_tabIn C 45 2601 dL_law_40 (by decide) (by decide) rfl (by decide) (L_movementFrom C hG S hi hc h e0 e1 e2 kk)
  | 46, _ => exact az_tabIn C 46 2657 dL_law_40 (by decide) (by decide) rfl (by decide) (L_movementTo C hG S hi hc h e0 e1 e2 kk)
  | 47, _ => exact az_tabIn C 47 2713 dL_law_40 (by decide) (by decide) rfl (by decide) (L_movementVolume C hG S hi hc h e0 e1 e2 kk)
  | 48, _ => exact az_tabIn C 48 2769 dL_law_40 (by decide) (by decide) rfl (by decide) (L_meanLevel C hG hc h e0 e1 e2 kk)
  | 49, _ => exact az_tabIn C 49 2810 dL_law_40 (by decide) (by decide) rfl (by decide) (L_isBalanced C hG hc h e0 e1 e2 kk)
  | 50, _ => exact az_tabIn C 50 2823 dL_law_40 (by decide) (by decide) rfl (by decide) (L_writeReach C hG hT S hi hc h e0 e1 e2 kk)
  | 51, _ => exact az_tabIn C 51 2879 dL_law_40 (by decide) (by decide) rfl (by decide) (L_lineAt C hG hT S hi hc h e0 e1 e2 kk)
  | t + 52, ht => exact az_tabOut C (t + 52) 2935 dL_law_40 (by omega) (by omega) (by decide) (az_kn _ _ (by show ρ.2.2.2.1 + ρ.2.2.2.2.1 + 2 * c + 1000 ≤ ρ.2.2.2.1 + ρ.2.2.2.2.1 + 2 * (c + 1) + 1000; omega) (by show 6 * ρ.2.2.2.1 + 2 * ρ.2.2.2.2.1 + 20 * c + 400000 ≤ 6 * ρ.2.2.2.1 + 2 * ρ.2.2.2.2.1 + 20 * (c + 1) + 400000; omega) (kk ρ x m ou e0 e1 e2 h.up))
set_option maxHeartbeats 4000000 in
set_option maxRecDepth 100000 in
theorem law_loop (C : az_C l G p s mm args meth cd cL_law RL 9 (some FieldType.boolean) tab) (hG : az_okS l G) {A : Nat × Nat × Nat × Nat} (hT : az_okT G A) (S : lwS G b L xs s) (hexit : ∀ (ad : az_A) (K : az_K) (k n : Nat) (lv : List (Nat × Value)), k ≤ 601024 → n ≤ 7293034 → az_W l G 9 Q p e room_1 s mm args below meth cd ad K k n 2941 lv []) : ∀ (f c : Nat) (ρ : Rp) (x : Xs) (m : Ms) (ou : Nat → Int64), c + f = 513 → ρ.1 0 = qx → ρ.1 100 = qm → ρ.1 90 = qo → Nx c ρ x m → az_W l G 9 Q p e room_1 s mm args below meth cd (AD ρ) (KK G ρ x m ou) (kB c ρ) (nB c ρ) 23 (lvL b (6 * c) qx qm qo) [] := by
  intro f
  induction f with
  | zero =>
    intro c ρ x m ou hcf e0 e1 e2 h
    have hL := S.2.2.2
    have hcap := h.cap
    refine az_iload C 0 dL_law_23 rfl ?_
    refine az_aload_n C 4 dL_law_25 rfl ?_
    refine az_slen C S dL_law_26 ?_
    refine az_bipush C (v := 6) dL_law_27 (by decide) ?_
    refine az_isub C dL_law_29 ?_
    have eL : (nI L - 6).toInt = (L : Int) - 6 := by
      rw [i_sub (by rw [i_nI (by omega), show (6 : Int32).toInt = 6 from rfl]; omega) (by rw [i_nI (by omega), show (6 : Int32).toInt = 6 from rfl]; omega), i_nI (by omega)]
      rfl
    refine az_icmp_gt C 2941 dL_law_30 (by decide) (fun _ => hexit _ _ _ _ _ (by show ρ.2.2.2.1 + ρ.2.2.2.2.1 + 2 * c + 1000 ≤ 601024; omega) (by show 6 * ρ.2.2.2.1 + 2 * ρ.2.2.2.2.1 + 20 * c + 400000 ≤ 7293034; omega)) (fun q => absurd ?_ q)
    rw [i_lt, eL, i_nI (by omega)]
    omega
  | succ f ih =>
    intro c ρ x m ou hcf e0 e1 e2 h
    have hL := S.2.2.2
    have hcap := h.cap
    refine az_iload C 0 dL_law_23 rfl ?_
    refine az_aload_n C 4 dL_law_25 rfl ?_
    refine az_slen C S dL_law_26 ?_
    refine az_bipush C (v := 6) dL_law_27 (by decide) ?_
    refine az_isub C dL_law_29 ?_
    have eL : (nI L - 6).toInt = (L : Int) - 6 := by
      rw [i_sub (by rw [i_nI (by omega), show (6 : Int32).toInt = 6 from rfl]; omega) (by rw [i_nI (by omega), show (6 : Int32).toInt = 6 from rfl]; omega), i_nI (by omega)]
      rfl
    refine az_icmp_gt C 2941 dL_law_30 (by decide) (fun _ => hexit _ _ _ _ _ (by show ρ.2.2.2.1 + ρ.2.2.2.2.1 + 2 * c + 1000 ≤ 601024; omega) (by show 6 * ρ.2.2.2.1 + 2 * ρ.2.2.2.2.1 + 20 * c + 400000 ≤ 7293034; omega)) (fun q => ?_)
    have hi : 6 * c + 6 ≤ L := by
      rw [i_lt, eL, i_nI (by omega)] at q
      omega
    have kk : lwN l G Q p e s mm args below meth cd b (6 * c) qx qm qo c := by
      intro ρ x m ou e0 e1 e2 h
      refine az_iinc C 0 (v := nI (6 * (c + 1))) (lv' := lvL b (6 * (c + 1)) qx qm qo) dL_law_2935 rfl ?_ (by decide) rfl ?_
      · show nI (6 * c) + nI 6 = nI (6 * (c + 1))
        rw [nI_ad9]
        congr 1
      · refine az_goto C 23 dL_law_2938 (by decide) ?_
        exact ih (c + 1) ρ x m ou (by omega) e0 e1 e2 h
    refine az_aload_n C 4 dL_law_33 rfl ?_
    refine az_iload C 0 dL_law_34 rfl ?_
    refine az_sld C S (vp_in_nI (by omega) (by omega)) dL_law_36 ?_
    refine az_bipush C (v := 63) dL_law_37 (by decide) ?_
    refine az_iand C dL_law_39 ?_
    obtain ⟨t, ht, et⟩ := and63 (xs (nI (6 * c)).toNatClampNeg)
    refine az_top (nI t) et ?_
    exact law_call C hG hT S hi (by omega) h e0 e1 e2 kk t ht
end
