section
variable {l : Launch} {G : az_G} {ρ : Rp} {x : Xs} {m : Mz} {ou : Nat → Int64}
def fltX (x : Xs) (b r : Nat) : Int32 := if x.1 4 (r + 3) / x.1 2 r ≤ deepX x b (x.2.1 b 5) then 0 else 1
theorem flt_eq {b r : Nat} : floatX x b r 0 = fltX x b r := by
  unfold floatX fltX
  rw [Int32.add_zero]
theorem flt_01 {b r : Nat} : fltX x b r = 0 ∨ fltX x b r = 1 := by
  unfold fltX
  split
  · exact Or.inl rfl
  · exact Or.inr rfl
def glX (x : Xs) (k r : Nat) : Int32 := if floatX x k r 0 = 0 then 0 else (((x.1 4 (r + 3) / x.1 2 r - 1) - x.2.1 k 2) * x.2.1 k 3) - x.2.1 k 5
theorem XgLoadB (hG : az_okS l G) (nb k : Nat) (hb : x.1 0 7 = nI nb) (hnb : nb = ρ.2.2.2.2.2) (hn : nb ≤ 8) (hk : k + 1 ≤ nb) (r : Nat) (hr6 : r < 6) (hat : x.2.1 k 4 = nI r) (ha : ¬ x.1 2 r < 1) (ht : ¬ x.2.1 k 3 < 1) : az_M l G yX3_greatestLoad (az_ws yX3_greatestLoad cX3_greatestLoad 3 (Option.some FieldType.int)) 4 [.ref (ρ.1 0), .int (nI k)] (AD ρ) (KK G ρ x m ou) 0 0 (az_r (some (.int (glX x k r))) (AD ρ) (KK G ρ x m ou)) := by
  by_cases hf : floatX x k r 0 = 0
  · rw [show glX x k r = 0 from if_pos hf]
    exact XgLoad2 hG nb k hb hnb hn hk r hr6 hat ha ht hf
  · rw [show glX x k r = (((x.1 4 (r + 3) / x.1 2 r - 1) - x.2.1 k 2) * x.2.1 k 3) - x.2.1 k 5 from if_neg hf]
    refine XgLoad1 hG nb k hb hnb hn hk r hr6 hat ha ht ?_
    rw [flt_eq] at hf ⊢
    rcases flt_01 (x := x) (b := k) (r := r) with z | z
    · exact absurd z hf
    · exact z
def LcaFhh (lb : Nat → Nat) (b : Nat) (m : Mz) (hh : Int32) (k : Nat) : Int32 := (hh ||| (if ¬ nI (lb k) = nI b then 0 else 1))
def LcaF (lb : Nat → Nat) (b : Nat) : Nat → Mz → Int32 → Nat → Int32
  | 0, m, hh, _ => hh
  | n + 1, m, hh, k => LcaF lb b n m (LcaFhh lb b m hh k) (k + 1)
set_option maxHeartbeats 4000000 in
set_option maxRecDepth 100000 in
theorem Lca (hG : az_okS l G) {p : Program} {e : Env} {s : State} {mm : MethodId} {args : Array Value} {below : List Frame} {meth : Method} {c : Code} (C : az_C l G p s mm args meth c cL_convoys yL_convoys.cls 6 (Option.some FieldType.boolean) []) {Qx : State → Prop} (nb : Nat) (hb : x.1 0 7 = nI nb) (hnb : nb = ρ.2.2.2.2.2) (hn8 : nb ≤ 8) (Fv : Nat → Nat) (Tl Rl : Nat → List Nat) (hcv : ∀ d, d < nb → XCv ρ.2.2.2.2.2 x d (Rl d) (Fv d) (Tl d)) (h4 : ∀ d, d < nb → (Tl d).length < 4) (b : Nat) (hbb : b < nb) (h4b : (Tl b).length < 4) (lb : Nat → Nat) (hl : ∀ i, i < (Tl b).length + 1 → lb i < nb ∧ (Fv b :: Tl b)[i]? = some (lb i) ∧ Fv (lb i) = Fv b ∧ Tl (lb i) = Tl b ∧ x.2.1 (lb i) 4 = x.2.1 b 4) : ∀ (n : Nat) (m : Mz) (hh : Int32) (k : Nat) (hk : k + n = ((Tl b).length + 1)), az_W l G 6 Qx p e (az_rm 11 0 0) s mm args below meth c (AD ρ) (KK G ρ x m ou) 0 0 100 [(4, .int (nI (((Tl b).length + 1)))), (3, .int ((LcaF lb b n m hh k))), (2, .int (nI ((Tl b).length + 1))), (1, .int (nI b)), (0, .ref (ρ.1 0))] [] → az_W l G 6 Qx p e (az_rm 11 0 0) s mm args below meth c (AD ρ) (KK G ρ x m ou) 0 0 21 [(4, .int (nI k)), (3, .int hh), (2, .int (nI ((Tl b).length + 1))), (1, .int (nI b)), (0, .ref (ρ.1 0))] [] := by
  intro n
  induction n with
  | zero =>
    intro m hh k hk hx
    have hkk : k = ((Tl b).length + 1) := by omega
    rw [hkk]
    refine az_iload C 0 dL_convoys_21 rfl ?_
    refine az_iload_n C 2 dL_convoys_23 rfl ?_
    refine az_icmp_ge C 100 dL_convoys_24 (by decide) (fun _ => ?_) (fun q => absurd (Int32.le_refl _) q)
    exact az_lv [0, 1, 2, 3, 4] rfl hx
  | succ n ih =>
    intro m hh k hk hx
    refine az_iload C 0 dL_convoys_21 rfl ?_
    refine az_iload_n C 2 dL_convoys_23 rfl ?_
    refine az_icmp_ge C 100 dL_convoys_24 (by decide) (fun q => absurd q (nlt_nle (show k < ((Tl b).length + 1) by omega) (by omega))) (fun _ => ?_)
    refine az_aload_n C 4 dL_convoys_27 rfl ?_
    refine az_iload_n C 3 dL_convoys_28 rfl ?_
    refine az_iload C 0 dL_convoys_29 rfl ?_
    refine az_callH C Y_L_convoyAt [.ref (ρ.1 0), .int (nI b), .int (nI k)] [] wm_L_211 wst_L_convoyAt dL_convoys_31 rfl (H_convoyAt (ρ := ρ) (x := x) (m := m) (ou := ou) hG (nI b) (nI k) (by decide) (XcAt2 hG nb b hb hnb hn8 (by omega) (Rl b) (Fv b) (Tl b) (hcv b hbb) (nI k) k (lb k) rfl (hl k (by omega)).2.1 (by omega)) hq_v (fun _ _ _ h => hq_x h)) rfl (Nat.le_of_ble_eq_true rfl) (Nat.le_of_ble_eq_true rfl) (Nat.le_of_ble_eq_true rfl) (Nat.le_of_ble_eq_true rfl) (Nat.le_of_ble_eq_true rfl) (az_k1 rfl rfl ?_) (az_k0 rfl)
    refine az_istore C (lv' := [(5, .int (nI (lb k))), (4, .int (nI k)), (3, .int hh), (2, .int (nI ((Tl b).length + 1))), (1, .int (nI b)), (0, .ref (ρ.1 0))]) dL_convoys_34 (by decide) rfl ?_
    refine az_iload C 0 dL_convoys_36 rfl ?_
    refine az_if_lt C 78 dL_convoys_38 (by decide) (fun q => absurd q (Int32.not_lt.mpr (nI_pos' (by have := (hl k (by omega)).1; omega)))) (fun _ => ?_)
    refine az_aload_n C 5 dL_convoys_41 rfl ?_
    refine az_iload C 0 dL_convoys_42 rfl ?_
    refine az_callH C Y_L_convoySize [.ref (ρ.1 0), .int (nI (lb k))] [] wm_L_209 wst_L_convoySize dL_convoys_44 rfl (H_convoySize (ρ := ρ) (x := x) (m := m) (ou := ou) hG (nI (lb k)) (by decide) (XconvoySize1 hG nb (lb k) hb hnb hn8 (hl k (by omega)).1 (Rl (lb k)) (Fv (lb k)) (Tl (lb k)) (hcv _ (hl k (by omega)).1)) hq_v (fun _ _ _ h => hq_x h)) rfl (Nat.le_of_ble_eq_true rfl) (Nat.le_of_ble_eq_true rfl) (Nat.le_of_ble_eq_true rfl) (Nat.le_of_ble_eq_true rfl) (Nat.le_of_ble_eq_true rfl) (az_k1 rfl rfl ?_) (az_k0 rfl)
    refine az_iload_n C 3 dL_convoys_47 rfl ?_
    refine az_icmp_ne C 78 dL_convoys_48 (by decide) (fun q => absurd (by rw [(hl k (by omega)).2.2.2.1]) q) (fun _ => ?_)
    refine az_aload_n C 5 dL_convoys_51 rfl ?_
    refine az_iload C 0 dL_convoys_52 rfl ?_
    refine az_iload C 1 dL_convoys_54 rfl ?_
    refine az_callH C Y_L_convoyAt [.ref (ρ.1 0), .int (nI (lb k)), .int (nI k)] [] wm_L_211 wst_L_convoyAt dL_convoys_56 rfl (H_convoyAt (ρ := ρ) (x := x) (m := m) (ou := ou) hG (nI (lb k)) (nI k) (by decide) (XcAt2 hG nb (lb k) hb hnb hn8 (hl k (by omega)).1 (Rl (lb k)) (Fv (lb k)) (Tl (lb k)) (hcv _ (hl k (by omega)).1) (nI k) k (lb k) rfl (by rw [(hl k (by omega)).2.2.1, (hl k (by omega)).2.2.2.1]; exact (hl k (by omega)).2.1) (by have := h4 _ (hl k (by omega)).1; omega)) hq_v (fun _ _ _ h => hq_x h)) rfl (Nat.le_of_ble_eq_true rfl) (Nat.le_of_ble_eq_true rfl) (Nat.le_of_ble_eq_true rfl) (Nat.le_of_ble_eq_true rfl) (Nat.le_of_ble_eq_true rfl) (az_k1 rfl rfl ?_) (az_k0 rfl)
    refine az_iload C 0 dL_convoys_59 rfl ?_
    refine az_icmp_ne C 78 dL_convoys_61 (by decide) (fun q => absurd rfl q) (fun _ => ?_)
    refine az_aload_n C 5 dL_convoys_64 rfl ?_
    refine az_iload C 0 dL_convoys_65 rfl ?_
    refine az_callH C Y_L_reachOf [.ref (ρ.1 0), .int (nI (lb k))] [] wm_L_170 wst_L_reachOf dL_convoys_67 rfl (H_reachOf (ρ := ρ) (x := x) (m := m) (ou := ou) hG (nI (lb k)) (by decide) (XreachOf1 hG nb (lb k) hb hnb hn8 (hl k (by omega)).1) hq_v (fun _ _ _ h => hq_x h)) rfl (Nat.le_of_ble_eq_true rfl) (Nat.le_of_ble_eq_true rfl) (Nat.le_of_ble_eq_true rfl) (Nat.le_of_ble_eq_true rfl) (Nat.le_of_ble_eq_true rfl) (az_k1 rfl rfl ?_) (az_k0 rfl)
    refine az_aload_n C 5 dL_convoys_70 rfl ?_
    refine az_iload_n C 4 dL_convoys_71 rfl ?_
    refine az_callH C Y_L_reachOf [.ref (ρ.1 0), .int (nI b)] [.int (x.2.1 (lb k) 4)] wm_L_170 wst_L_reachOf dL_convoys_72 rfl (H_reachOf (ρ := ρ) (x := x) (m := m) (ou := ou) hG (nI b) (by decide) (XreachOf1 hG nb b hb hnb hn8 (by omega)) hq_v (fun _ _ _ h => hq_x h)) rfl (Nat.le_of_ble_eq_true rfl) (Nat.le_of_ble_eq_true rfl) (Nat.le_of_ble_eq_true rfl) (Nat.le_of_ble_eq_true rfl) (Nat.le_of_ble_eq_true rfl) (az_k1 rfl rfl ?_) (az_k0 rfl)
    refine az_icmp_eq C 80 dL_convoys_75 (by decide) (fun _ => ?_) (fun q => absurd (hl k (by omega)).2.2.2.2 q)
    refine az_iload_n C 2 dL_convoys_80 rfl ?_
    refine az_iload C 0 dL_convoys_81 rfl ?_
    refine az_iload_n C 4 dL_convoys_83 rfl ?_
    suffices J1 : az_W l G 6 _ p e _ s mm args below meth c (AD ρ) (KK G ρ x m ou) _ _ 92 [(5, .int (nI (lb k))), (4, .int (nI k)), (3, .int hh), (2, .int (nI ((Tl b).length + 1))), (1, .int (nI b)), (0, .ref (ρ.1 0))] [.int ((if ¬ nI (lb k) = nI b then 0 else 1)), .int hh] by
      refine az_icmp_ne C 91 dL_convoys_84 (by decide) (fun c2 => ?_) (fun c2 => ?_)
      · refine az_iconst C (v := 0) dL_convoys_91 (by decide) ?_
        first | rw [if_pos (show ¬ nI (lb k) = nI b from c2)] at J1 ⊢ | rw [if_pos (show ¬ nI (lb k) = nI b from c2)] at J1
        exact az_lv [0, 1, 2, 3, 4, 5] rfl J1
      · refine az_iconst C (v := 1) dL_convoys_87 (by decide) ?_
        refine az_goto C 92 dL_convoys_88 (by decide) ?_
        first | rw [if_neg (show ¬ (¬ nI (lb k) = nI b) from fun z => z c2)] at J1 ⊢ | rw [if_neg (show ¬ (¬ nI (lb k) = nI b) from fun z => z c2)] at J1
        exact az_lv [0, 1, 2, 3, 4, 5] rfl J1
    refine az_ior C dL_convoys_92 ?_
    refine az_istore_n C (lv' := [(3, .int ((hh ||| (if ¬ nI (lb k) = nI b then 0 else 1)))), (5, .int (nI (lb k))), (4, .int (nI k)), (2, .int (nI ((Tl b).length + 1))), (1, .int (nI b)), (0, .ref (ρ.1 0))]) (j := 3) rfl dL_convoys_93 (by decide) rfl ?_
    refine az_iinc C 2 (v := nI (k + 1)) (lv' := [(4, .int (nI (k + 1))), (3, .int ((hh ||| (if ¬ nI (lb k) = nI b then 0 else 1)))), (5, .int (nI (lb k))), (2, .int (nI ((Tl b).length + 1))), (1, .int (nI b)), (0, .ref (ρ.1 0))]) dL_convoys_94 rfl (nI_1 k) (by decide) rfl ?_
    refine az_goto C 21 dL_convoys_97 (by decide) ?_
    exact az_lv [0, 1, 3, 4, 5] rfl (ih m (LcaFhh lb b m hh k) (k + 1) (by omega) hx)

set_option maxHeartbeats 4000000 in
set_option maxRecDepth 100000 in
theorem Lca_k (hG : az_okS l G) {p : Program} {e : Env} {s : State} {mm : MethodId} {args : Array Value} {below : List Frame} {meth : Method} {c : Code} (C : az_C l G p s mm args meth c cL_convoys yL_convoys.cls 6 (Option.some FieldType.boolean) []) {Qx : State → Prop} {k9 n9 mc ms : Nat} (hk9 : k9 ≤ mc) (hn9 : n9 ≤ ms) (nb : Nat) (hb : x.1 0 7 = nI nb) (hnb : nb = ρ.2.2.2.2.2) (hn8 : nb ≤ 8) (Fv : Nat → Nat) (Tl Rl : Nat → List Nat) (hcv : ∀ d, d < nb → XCv ρ.2.2.2.2.2 x d (Rl d) (Fv d) (Tl d)) (h4 : ∀ d, d < nb → (Tl d).length < 4) (b : Nat) (hbb : b < nb) (h4b : (Tl b).length < 4) (lb : Nat → Nat) (hl : ∀ i, i < (Tl b).length + 1 → lb i < nb ∧ (Fv b :: Tl b)[i]? = some (lb i) ∧ Fv (lb i) = Fv b ∧ Tl (lb i) = Tl b ∧ x.2.1 (lb i) 4 = x.2.1 b 4) : ∀ (n : Nat) (m : Mz) (hh : Int32) (k : Nat) (hk : k + n = ((Tl b).length + 1)), az_W l G 6 Qx p e (az_rm 11 mc ms) s mm args below meth c (AD ρ) (KK G ρ x m ou) k9 n9 100 [(4, .int (nI (((Tl b).length + 1)))), (3, .int ((LcaF lb b n m hh k))), (2, .int (nI ((Tl b).length + 1))), (1, .int (nI b)), (0, .ref (ρ.1 0))] [] → az_W l G 6 Qx p e (az_rm 11 mc ms) s mm args below meth c (AD ρ) (KK G ρ x m ou) k9 n9 21 [(4, .int (nI k)), (3, .int hh), (2, .int (nI ((Tl b).length + 1))), (1, .int (nI b)), (0, .ref (ρ.1 0))] [] := by
  intro n
  induction n with
  | zero =>
    intro m hh k hk hx
    have hkk : k = ((Tl b).length + 1) := by omega
    rw [hkk]
    refine az_iload C 0 dL_convoys_21 rfl ?_
    refine az_iload_n C 2 dL_convoys_23 rfl ?_
    refine az_icmp_ge C 100 dL_convoys_24 (by decide) (fun _ => ?_) (fun q => absurd (Int32.le_refl _) q)
    exact az_lv [0, 1, 2, 3, 4] rfl hx
  | succ n ih =>
    intro m hh k hk hx
    refine az_iload C 0 dL_convoys_21 rfl ?_
    refine az_iload_n C 2 dL_convoys_23 rfl ?_
    refine az_icmp_ge C 100 dL_convoys_24 (by decide) (fun q => absurd q (nlt_nle (show k < ((Tl b).length + 1) by omega) (by omega))) (fun _ => ?_)
    refine az_aload_n C 4 dL_convoys_27 rfl ?_
    refine az_iload_n C 3 dL_convoys_28 rfl ?_
    refine az_iload C 0 dL_convoys_29 rfl ?_
    refine az_callH C Y_L_convoyAt [.ref (ρ.1 0), .int (nI b), .int (nI k)] [] wm_L_211 wst_L_convoyAt dL_convoys_31 rfl (H_convoyAt (ρ := ρ) (x := x) (m := m) (ou := ou) hG (nI b) (nI k) (by decide) (XcAt2 hG nb b hb hnb hn8 (by omega) (Rl b) (Fv b) (Tl b) (hcv b hbb) (nI k) k (lb k) rfl (hl k (by omega)).2.1 (by omega)) hq_v (fun _ _ _ h => hq_x h)) rfl (Nat.le_of_ble_eq_true rfl) (Nat.le_of_ble_eq_true rfl) (Nat.le_of_ble_eq_true rfl) hk9 hn9 (az_k1 rfl rfl ?_) (az_k0 rfl)
    refine az_istore C (lv' := [(5, .int (nI (lb k))), (4, .int (nI k)), (3, .int hh), (2, .int (nI ((Tl b).length + 1))), (1, .int (nI b)), (0, .ref (ρ.1 0))]) dL_convoys_34 (by decide) rfl ?_
    refine az_iload C 0 dL_convoys_36 rfl ?_
    refine az_if_lt C 78 dL_convoys_38 (by decide) (fun q => absurd q (Int32.not_lt.mpr (nI_pos' (by have := (hl k (by omega)).1; omega)))) (fun _ => ?_)
    refine az_aload_n C 5 dL_convoys_41 rfl ?_
    refine az_iload C 0 dL_convoys_42 rfl ?_
    refine az_callH C Y_L_convoySize [.ref (ρ.1 0), .int (nI (lb k))] [] wm_L_209 wst_L_convoySize dL_convoys_44 rfl (H_convoySize (ρ := ρ) (x := x) (m := m) (ou := ou) hG (nI (lb k)) (by decide) (XconvoySize1 hG nb (lb k) hb hnb hn8 (hl k (by omega)).1 (Rl (lb k)) (Fv (lb k)) (Tl (lb k)) (hcv _ (hl k (by omega)).1)) hq_v (fun _ _ _ h => hq_x h)) rfl (Nat.le_of_ble_eq_true rfl) (Nat.le_of_ble_eq_true rfl) (Nat.le_of_ble_eq_true rfl) hk9 hn9 (az_k1 rfl rfl ?_) (az_k0 rfl)
    refine az_iload_n C 3 dL_convoys_47 rfl ?_
    refine az_icmp_ne C 78 dL_convoys_48 (by decide) (fun q => absurd (by rw [(hl k (by omega)).2.2.2.1]) q) (fun _ => ?_)
    refine az_aload_n C 5 dL_convoys_51 rfl ?_
    refine az_iload C 0 dL_convoys_52 rfl ?_
    refine az_iload C 1 dL_convoys_54 rfl ?_
    refine az_callH C Y_L_convoyAt [.ref (ρ.1 0), .int (nI (lb k)), .int (nI k)] [] wm_L_211 wst_L_convoyAt dL_convoys_56 rfl (H_convoyAt (ρ := ρ) (x := x) (m := m) (ou := ou) hG (nI (lb k)) (nI k) (by decide) (XcAt2 hG nb (lb k) hb hnb hn8 (hl k (by omega)).1 (Rl (lb k)) (Fv (lb k)) (Tl (lb k)) (hcv _ (hl k (by omega)).1) (nI k) k (lb k) rfl (by rw [(hl k (by omega)).2.2.1, (hl k (by omega)).2.2.2.1]; exact (hl k (by omega)).2.1) (by have := h4 _ (hl k (by omega)).1; omega)) hq_v (fun _ _ _ h => hq_x h)) rfl (Nat.le_of_ble_eq_true rfl) (Nat.le_of_ble_eq_true rfl) (Nat.le_of_ble_eq_true rfl) hk9 hn9 (az_k1 rfl rfl ?_) (az_k0 rfl)
    refine az_iload C 0 dL_convoys_59 rfl ?_
    refine az_icmp_ne C 78 dL_convoys_61 (by decide) (fun q => absurd rfl q) (fun _ => ?_)
    refine az_aload_n C 5 dL_convoys_64 rfl ?_
    refine az_iload C 0 dL_convoys_65 rfl ?_
    refine az_callH C Y_L_reachOf [.ref (ρ.1 0), .int (nI (lb k))] [] wm_L_170 wst_L_reachOf dL_convoys_67 rfl (H_reachOf (ρ := ρ) (x := x) (m := m) (ou := ou) hG (nI (lb k)) (by decide) (XreachOf1 hG nb (lb k) hb hnb hn8 (hl k (by omega)).1) hq_v (fun _ _ _ h => hq_x h)) rfl (Nat.le_of_ble_eq_true rfl) (Nat.le_of_ble_eq_true rfl) (Nat.le_of_ble_eq_true rfl) hk9 hn9 (az_k1 rfl rfl ?_) (az_k0 rfl)
    refine az_aload_n C 5 dL_convoys_70 rfl ?_
    refine az_iload_n C 4 dL_convoys_71 rfl ?_
    refine az_callH C Y_L_reachOf [.ref (ρ.1 0), .int (nI b)] [.int (x.2.1 (lb k) 4)] wm_L_170 wst_L_reachOf dL_convoys_72 rfl (H_reachOf (ρ := ρ) (x := x) (m := m) (ou := ou) hG (nI b) (by decide) (XreachOf1 hG nb b hb hnb hn8 (by omega)) hq_v (fun _ _ _ h => hq_x h)) rfl (Nat.le_of_ble_eq_true rfl) (Nat.le_of_ble_eq_true rfl) (Nat.le_of_ble_eq_true rfl) hk9 hn9 (az_k1 rfl rfl ?_) (az_k0 rfl)
    refine az_icmp_eq C 80 dL_convoys_75 (by decide) (fun _ => ?_) (fun q => absurd (hl k (by omega)).2.2.2.2 q)
    refine az_iload_n C 2 dL_convoys_80 rfl ?_
    refine az_iload C 0 dL_convoys_81 rfl ?_
    refine az_iload_n C 4 dL_convoys_83 rfl ?_
    suffices J1 : az_W l G 6 _ p e _ s mm args below meth c (AD ρ) (KK G ρ x m ou) _ _ 92 [(5, .int (nI (lb k))), (4, .int (nI k)), (3, .int hh), (2, .int (nI ((Tl b).length + 1))), (1, .int (nI b)), (0, .ref (ρ.1 0))] [.int ((if ¬ nI (lb k) = nI b then 0 else 1)), .int hh] by
      refine az_icmp_ne C 91 dL_convoys_84 (by decide) (fun c2 => ?_) (fun c2 => ?_)
      · refine az_iconst C (v := 0) dL_convoys_91 (by decide) ?_
        first | rw [if_pos (show ¬ nI (lb k) = nI b from c2)] at J1 ⊢ | rw [if_pos (show ¬ nI (lb k) = nI b from c2)] at J1
        exact az_lv [0, 1, 2, 3, 4, 5] rfl J1
      · refine az_iconst C (v := 1) dL_convoys_87 (by decide) ?_
        refine az_goto C 92 dL_convoys_88 (by decide) ?_
        first | rw [if_neg (show ¬ (¬ nI (lb k) = nI b) from fun z => z c2)] at J1 ⊢ | rw [if_neg (show ¬ (¬ nI (lb k) = nI b) from fun z => z c2)] at J1
        exact az_lv [0, 1, 2, 3, 4, 5] rfl J1
    refine az_ior C dL_convoys_92 ?_
    refine az_istore_n C (lv' := [(3, .int ((hh ||| (if ¬ nI (lb k) = nI b then 0 else 1)))), (5, .int (nI (lb k))), (4, .int (nI k)), (2, .int (nI ((Tl b).length + 1))), (1, .int (nI b)), (0, .ref (ρ.1 0))]) (j := 3) rfl dL_convoys_93 (by decide) rfl ?_
    refine az_iinc C 2 (v := nI (k + 1)) (lv' := [(4, .int (nI (k + 1))), (3, .int ((hh ||| (if ¬ nI (lb k) = nI b then 0 else 1)))), (5, .int (nI (lb k))), (2, .int (nI ((Tl b).length + 1))), (1, .int (nI b)), (0, .ref (ρ.1 0))]) dL_convoys_94 rfl (nI_1 k) (by decide) rfl ?_
    refine az_goto C 21 dL_convoys_97 (by decide) ?_
    exact az_lv [0, 1, 3, 4, 5] rfl (ih m (LcaFhh lb b m hh k) (k + 1) (by omega) hx)

set_option maxHeartbeats 4000000 in
set_option maxRecDepth 100000 in
theorem Lcb (hG : az_okS l G) {p : Program} {e : Env} {s : State} {mm : MethodId} {args : Array Value} {below : List Frame} {meth : Method} {c : Code} (C : az_C l G p s mm args meth c cL_convoys yL_convoys.cls 6 (Option.some FieldType.boolean) []) : ∀ (nr : Nat) (hn : nr ≤ 6) (h1 : 1 ≤ nr) (hr : x.1 1 8 = nI nr) (ha : ∀ k, k < nr → ¬ x.1 2 k < 1) (mv : Nat) (hm : x.1 8 3 = nI mv) (hmv : mv < 100000) (hc : mv ≤ ρ.2.2.2.1) (hc2 : ρ.2.2.2.1 < 2 ^ 31) (nb : Nat) (hb : x.1 0 7 = nI nb) (hnb : nb = ρ.2.2.2.2.2) (hn8 : nb ≤ 8) (ht : ∀ d, d < nb → ¬ x.2.1 d 3 < 1) (rr : Nat → Nat) (hrr : ∀ d, d < nb → rr d < nr ∧ x.2.1 d 4 = nI (rr d)) (Fv : Nat → Nat) (Tl Rl : Nat → List Nat) (hcv : ∀ d, d < nb → XCv ρ.2.2.2.2.2 x d (Rl d) (Fv d) (Tl d)) (h4 : ∀ d, d < nb → (Tl d).length < 4) (lb : Nat → Nat → Nat) (hl : ∀ b, b < nb → ∀ i, i < (Tl b).length + 1 → lb b i < nb ∧ (Fv b :: Tl b)[i]? = some (lb b i) ∧ Fv (lb b i) = Fv b ∧ Tl (lb b i) = Tl b ∧ x.2.1 (lb b i) 4 = x.2.1 b 4) (hF : ∀ (m : Mz) (b : Nat), b < nb → LcaF (lb b) b ((Tl b).length + 1) m 0 0 = 1) (hcg : ∀ d, d < nb → 0 ≤ x.2.1 d 5) (hg0 : ∀ d, d < nb → ¬ glX x d (rr d) < 0) (hg1 : ∀ d, d < nb → fltX x d (rr d) = 0 → glX x d (rr d) = 0) (mc ms f b k9 n9 : Nat) (hbf : b + f = nb) (hk0 : k9 + f ≤ mc) (hn0 : n9 + 6 * f ≤ ms), az_W l G 6 (az_Q G (az_r (some (.int 1)) (AD ρ) (KK G ρ x m ou)) below args s mc ms) p e (az_rm 11 mc ms) s mm args below meth c (AD ρ) (KK G ρ x m ou) k9 n9 2 [(1, .int (nI b)), (0, .ref (ρ.1 0))] [] := by
  intro nr hn h1 hr ha mv hm hmv hc hc2 nb hb hnb hn8 ht rr hrr Fv Tl Rl hcv h4 lb hl hF hcg hg0 hg1 mc ms f
  induction f with
  | zero =>
    intro b k9 n9 hbf hk0 hn0
    have hk1 : k9 ≤ mc := hk0
    have hn1 : n9 ≤ ms := hn0
    obtain rfl : b = nb := by omega
    refine az_iload_n C 0 dL_convoys_2 rfl ?_
    refine az_aload_n C 1 dL_convoys_3 rfl ?_
    refine az_callV C Y_X3_bargeCount cX3 0 0 [] [.int (nI b)] wm_L_167 wi_X3_bargeCount wse_X3_bargeCount dL_convoys_4 rfl rfl rfl (XbargeCount hG) rfl (Nat.le_of_ble_eq_true rfl) (Nat.le_of_ble_eq_true rfl) (Nat.le_of_ble_eq_true rfl) hk1 hn1 (az_k1 rfl rfl ?_) (az_k0 rfl)
    refine az_top (nI b) hb ?_
    refine az_icmp_ge C 203 dL_convoys_7 (by decide) (fun _ => ?_) (fun q => absurd (Int32.le_refl _) q)
    refine az_iconst C (v := 1) dL_convoys_203 (by decide) ?_
    exact az_zret C .boolean rfl rfl dL_convoys_204 hk1 hn1 ⟨rfl, rfl, rfl⟩
  | succ f ih =>
    intro b k9 n9 hbf hk0 hn0
    have hk1 : k9 ≤ mc := by omega
    have hn1 : n9 ≤ ms := by omega
    have hk2 : k9 + 1 ≤ mc := by omega
    have hn2 : n9 + 6 ≤ ms := by omega
    have hbb : b < nb := by omega
    refine az_iload_n C 0 dL_convoys_2 rfl ?_
    refine az_aload_n C 1 dL_convoys_3 rfl ?_
    refine az_callV C Y_X3_bargeCount cX3 0 0 [] [.int (nI b)] wm_L_167 wi_X3_bargeCount wse_X3_bargeCount dL_convoys_4 rfl rfl rfl (XbargeCount hG) rfl (Nat.le_of_ble_eq_true rfl) (Nat.le_of_ble_eq_true rfl) (Nat.le_of_ble_eq_true rfl) hk1 hn1 (az_k1 rfl rfl ?_) (az_k0 rfl)
    refine az_top (nI nb) hb ?_
    refine az_icmp_ge C 203 dL_convoys_7 (by decide) (fun q => absurd q (nlt_nle (show b < nb by omega) (by omega))) (fun _ => ?_)
    refine az_aload_n C 1 dL_convoys_10 rfl ?_
    refine az_iload_n C 0 dL_convoys_11 rfl ?_
    refine az_callH C Y_L_convoySize [.ref (ρ.1 0), .int (nI b)] [] wm_L_209 wst_L_convoySize dL_convoys_12 rfl (H_convoySize (ρ := ρ) (x := x) (m := m) (ou := ou) hG (nI b) (by decide) (XconvoySize1 hG nb b hb hnb hn8 hbb (Rl b) (Fv b) (Tl b) (hcv _ hbb)) hq_v (fun _ _ _ h => hq_x h)) rfl (Nat.le_of_ble_eq_true rfl) (Nat.le_of_ble_eq_true rfl) (Nat.le_of_ble_eq_true rfl) hk1 hn1 (az_k1 rfl rfl ?_) (az_k0 rfl)
    refine az_istore_n C (lv' := [(2, .int (nI ((Tl b).length + 1))), (1, .int (nI b)), (0, .ref (ρ.1 0))]) (j := 2) rfl dL_convoys_15 (by decide) rfl ?_
    refine az_iconst C (v := 0) dL_convoys_16 (by decide) ?_
    refine az_istore_n C (lv' := [(3, .int 0), (2, .int (nI ((Tl b).length + 1))), (1, .int (nI b)), (0, .ref (ρ.1 0))]) (j := 3) rfl dL_convoys_17 (by decide) rfl ?_
    refine az_iconst C (v := 0) dL_convoys_18 (by decide) ?_
    refine az_istore C (lv' := [(4, .int 0), (3, .int 0), (2, .int (nI ((Tl b).length + 1))), (1, .int (nI b)), (0, .ref (ρ.1 0))]) dL_convoys_19 (by decide) rfl ?_
    refine az_lv [0, 1, 2, 3, 4] rfl (Lca_k hG C hk1 hn1 nb hb hnb hn8 Fv Tl Rl hcv h4 b hbb (h4 b hbb) (lb b) (hl b hbb) ((Tl b).length + 1) m 0 0 (by omega) ?_)
    refine az_aload_n C 4 dL_convoys_100 rfl ?_
    refine az_iload_n C 3 dL_convoys_101 rfl ?_
    refine az_callH C Y_L_draughtOf [.ref (ρ.1 0), .int (nI b)] [] wm_L_214 wst_L_draughtOf dL_convoys_102 rfl (H_draughtOf (ρ := ρ) (x := x) (m := m) (ou := ou) hG (nI b) (by decide) (XdraughtOf1 hG nb b hb hnb hn8 hbb (ht b hbb)) hq_v (fun _ _ _ h => hq_x h)) rfl (Nat.le_of_ble_eq_true rfl) (Nat.le_of_ble_eq_true rfl) (Nat.le_of_ble_eq_true rfl) hk1 hn1 (az_k1 rfl rfl ?_) (az_k0 rfl)
    refine az_aload_n C 4 dL_convoys_105 rfl ?_
    refine az_aload_n C 4 dL_convoys_106 rfl ?_
    refine az_iload_n C 3 dL_convoys_107 rfl ?_
    refine az_callH C Y_L_reachOf [.ref (ρ.1 0), .int (nI b)] [.ref (ρ.1 0), .int (deepX x b (x.2.1 b 5))] wm_L_170 wst_L_reachOf dL_convoys_108 rfl (H_reachOf (ρ := ρ) (x := x) (m := m) (ou := ou) hG (nI b) (by decide) (XreachOf1 hG nb b hb hnb hn8 hbb) hq_v (fun _ _ _ h => hq_x h)) rfl (Nat.le_of_ble_eq_true rfl) (Nat.le_of_ble_eq_true rfl) (Nat.le_of_ble_eq_true rfl) hk1 hn1 (az_k1 rfl rfl ?_) (az_k0 rfl)
    refine az_top (nI (rr b)) (hrr b hbb).2 ?_
    refine az_callH C Y_L_levelOf [.ref (ρ.1 0), .int (nI (rr b))] [.int (deepX x b (x.2.1 b 5))] wm_L_182 wst_L_levelOf dL_convoys_111 rfl (H_levelOf (ρ := ρ) (x := x) (m := m) (ou := ou) hG (nI (rr b)) (by decide) (XlevelOf1 hG nr (rr b) hr hn (hrr b hbb).1 (ha _ (hrr b hbb).1)) hq_v (fun _ _ _ h => hq_x h)) rfl (Nat.le_of_ble_eq_true rfl) (Nat.le_of_ble_eq_true rfl) (Nat.le_of_ble_eq_true rfl) hk1 hn1 (az_k1 rfl rfl ?_) (az_k0 rfl)
    suffices J1 : az_W l G 6 _ p e _ s mm args below meth c (AD ρ) (KK G ρ x m ou) _ _ 122 [(4, .int (nI ((Tl b).length + 1))), (3, .int (LcaF (lb b) b ((Tl b).length + 1) m 0 0)), (2, .int (nI ((Tl b).length + 1))), (1, .int (nI b)), (0, .ref (ρ.1 0))] [.int ((if x.1 4 (rr b + 3) / x.1 2 (rr b) ≤ deepX x b (x.2.1 b 5) then 0 else 1))] by
      refine az_icmp_ge C 121 dL_convoys_114 (by decide) (fun c2 => ?_) (fun c2 => ?_)
      · refine az_iconst C (v := 0) dL_convoys_121 (by decide) ?_
        first | rw [if_pos (show x.1 4 (rr b + 3) / x.1 2 (rr b) ≤ deepX x b (x.2.1 b 5) from c2)] at J1 ⊢ | rw [if_pos (show x.1 4 (rr b + 3) / x.1 2 (rr b) ≤ deepX x b (x.2.1 b 5) from c2)] at J1
        exact az_lv [0, 1, 2, 3, 4] rfl J1
      · refine az_iconst C (v := 1) dL_convoys_117 (by decide) ?_
        refine az_goto C 122 dL_convoys_118 (by decide) ?_
        first | rw [if_neg (show ¬ (x.1 4 (rr b + 3) / x.1 2 (rr b) ≤ deepX x b (x.2.1 b 5)) from c2)] at J1 ⊢ | rw [if_neg (show ¬ (x.1 4 (rr b + 3) / x.1 2 (rr b) ≤ deepX x b (x.2.1 b 5)) from c2)] at J1
        exact az_lv [0, 1, 2, 3, 4] rfl J1
    refine az_top (fltX x b (rr b)) rfl ?_
    refine az_istore C (lv' := [(4, .int (fltX x b (rr b))), (3, .int (LcaF (lb b) b ((Tl b).length + 1) m 0 0)), (2, .int (nI ((Tl b).length + 1))), (1, .int (nI b)), (0, .ref (ρ.1 0))]) dL_convoys_122 (by decide) rfl ?_
    refine az_iload_n C 1 dL_convoys_124 rfl ?_
    refine az_top (1) (hF m b hbb) ?_
    refine az_if_eq C 171 dL_convoys_125 (by decide) (fun q => absurd q (by decide)) (fun _ => ?_)
    refine az_iload_n C 2 dL_convoys_128 rfl ?_
    refine az_iconst C (v := 4) dL_convoys_129 (by decide) ?_
    refine az_icmp_gt C 171 dL_convoys_130 (by decide) (fun q => absurd q (Int32.not_lt.mpr (nI_leT (b := 4) (by have := h4 b hbb; omega) (by decide)))) (fun _ => ?_)
    refine az_aload_n C 4 dL_convoys_133 rfl ?_
    refine az_iload_n C 3 dL_convoys_134 rfl ?_
    refine az_iload_n C 2 dL_convoys_135 rfl ?_
    refine az_callH C Y_L_convoyAt [.ref (ρ.1 0), .int (nI b), .int (nI ((Tl b).length + 1))] [] wm_L_211 wst_L_convoyAt dL_convoys_136 rfl (H_convoyAt (ρ := ρ) (x := x) (m := m) (ou := ou) hG (nI b) (nI ((Tl b).length + 1)) (by decide) (XcAt1 hG nb b hb hnb hn8 hbb (Rl b) (Fv b) (Tl b) (hcv b hbb) (nI ((Tl b).length + 1)) (fun i hi z => nI_ne hi (by have := h4 b hbb; omega) z)) (fun _ _ _ h => hx_v h) (fun _ _ _ h => Or.inr (hx_e h))) rfl (Nat.le_of_ble_eq_true rfl) (Nat.le_of_ble_eq_true rfl) (Nat.le_of_ble_eq_true rfl) hk2 hn2 (az_k1 rfl rfl ?_) (az_k0 rfl)
    refine az_sipush C (v := (-1002)) dL_convoys_139 (by decide) ?_
    refine az_icmp_ne C 171 dL_convoys_142 (by decide) (fun q => absurd rfl q) (fun _ => ?_)
    refine az_aload_n C 4 dL_convoys_145 rfl ?_
    refine az_iload_n C 3 dL_convoys_146 rfl ?_
    refine az_callH C Y_L_isAfloat [.ref (ρ.1 0), .int (nI b)] [] wm_L_216 wst_L_isAfloat dL_convoys_147 rfl (H_isAfloat (ρ := ρ) (x := x) (m := m) (ou := ou) hG (nI b) (by decide) (XisAfloat1 hG nb b hb hnb hn8 hbb (rr b) (by have := (hrr b hbb).1; omega) (hrr b hbb).2 (ha _ (hrr b hbb).1) (ht b hbb)) (hq_b (by rw [flt_eq]; exact flt_01)) (fun _ _ _ h => hq_x h)) rfl (Nat.le_of_ble_eq_true rfl) (Nat.le_of_ble_eq_true rfl) (Nat.le_of_ble_eq_true rfl) hk2 hn2 (az_k1 rfl rfl ?_) (az_k0 rfl)
    refine az_top (fltX x b (rr b)) flt_eq ?_
    refine az_iload C 0 dL_convoys_150 rfl ?_
    suffices J3 : az_W l G 6 _ p e _ s mm args below meth c (AD ρ) (KK G ρ x m ou) _ _ 160 [(4, .int (fltX x b (rr b))), (3, .int (LcaF (lb b) b ((Tl b).length + 1) m 0 0)), (2, .int (nI ((Tl b).length + 1))), (1, .int (nI b)), (0, .ref (ρ.1 0))] [.int ((if fltX x b (rr b) = 0 then 0 else 1)), .int (fltX x b (rr b))] by
      refine az_if_eq C 159 dL_convoys_152 (by decide) (fun c4 => ?_) (fun c4 => ?_)
      · refine az_iconst C (v := 0) dL_convoys_159 (by decide) ?_
        first | rw [if_pos (show fltX x b (rr b) = 0 from c4)] at J3 ⊢ | rw [if_pos (show fltX x b (rr b) = 0 from c4)] at J3
        exact az_lv [0, 1, 2, 3, 4] rfl J3
      · refine az_iconst C (v := 1) dL_convoys_155 (by decide) ?_
        refine az_goto C 160 dL_convoys_156 (by decide) ?_
        first | rw [if_neg (show ¬ (fltX x b (rr b) = 0) from c4)] at J3 ⊢ | rw [if_neg (show ¬ (fltX x b (rr b) = 0) from c4)] at J3
        exact az_lv [0, 1, 2, 3, 4] rfl J3
    refine az_icmp_ne C 171 dL_convoys_160 (by decide) (fun q => absurd (by rcases flt_01 (x := x) (b := b) (r := rr b) with z | z <;> rw [z] <;> rfl) q) (fun _ => ?_)
    refine az_aload_n C 4 dL_convoys_163 rfl ?_
    refine az_iload_n C 3 dL_convoys_164 rfl ?_
    refine az_callH C Y_L_cargoOf [.ref (ρ.1 0), .int (nI b)] [] wm_L_218 wst_L_cargoOf dL_convoys_165 rfl (H_cargoOf (ρ := ρ) (x := x) (m := m) (ou := ou) hG (nI b) (by decide) (XcargoOf1 hG nb b hb hnb hn8 hbb) hq_v (fun _ _ _ h => hq_x h)) rfl (Nat.le_of_ble_eq_true rfl) (Nat.le_of_ble_eq_true rfl) (Nat.le_of_ble_eq_true rfl) hk2 hn2 (az_k1 rfl rfl ?_) (az_k0 rfl)
    refine az_if_ge C 173 dL_convoys_168 (by decide) (fun _ => ?_) (fun q => absurd (hcg b hbb) q)
    refine az_aload_n C 4 dL_convoys_173 rfl ?_
    refine az_iload_n C 3 dL_convoys_174 rfl ?_
    refine az_callH C Y_L_greatestLoad [.ref (ρ.1 0), .int (nI b)] [] wm_L_220 wst_L_greatestLoad dL_convoys_175 rfl (H_greatestLoad (ρ := ρ) (x := x) (m := m) (ou := ou) hG (nI b) (by decide) (XgLoadB hG nb b hb hnb hn8 hbb (rr b) (by have := (hrr b hbb).1; omega) (hrr b hbb).2 (ha _ (hrr b hbb).1) (ht b hbb)) hq_v (fun _ _ _ h => hq_x h)) rfl (Nat.le_of_ble_eq_true rfl) (Nat.le_of_ble_eq_true rfl) (Nat.le_of_ble_eq_true rfl) hk2 hn2 (az_k1 rfl rfl ?_) (az_k0 rfl)
    refine az_istore C (lv' := [(5, .int (glX x b (rr b))), (4, .int (fltX x b (rr b))), (3, .int (LcaF (lb b) b ((Tl b).length + 1) m 0 0)), (2, .int (nI ((Tl b).length + 1))), (1, .int (nI b)), (0, .ref (ρ.1 0))]) dL_convoys_178 (by decide) rfl ?_
    refine az_iload C 0 dL_convoys_180 rfl ?_
    refine az_if_lt C 195 dL_convoys_182 (by decide) (fun q => absurd q (hg0 b hbb)) (fun _ => ?_)
    refine az_iload C 1 dL_convoys_185 rfl ?_
    refine az_if_ne C 197 dL_convoys_187 (by decide) (fun c5 => ?_) (fun c5 => ?_)
    · refine az_iinc C 4 (v := nI (b + 1)) (lv' := [(1, .int (nI (b + 1))), (5, .int (glX x b (rr b))), (4, .int (fltX x b (rr b))), (3, .int (LcaF (lb b) b ((Tl b).length + 1) m 0 0)), (2, .int (nI ((Tl b).length + 1))), (0, .ref (ρ.1 0))]) dL_convoys_197 rfl (nI_1 b) (by decide) rfl ?_
      refine az_goto C 2 dL_convoys_200 (by decide) ?_
      exact az_lv [0, 5] rfl (ih (b + 1) (k9 + 1) (n9 + 6) (by omega) (by omega) (by omega))
    · refine az_iload C 0 dL_convoys_190 rfl ?_
      refine az_if_eq C 197 dL_convoys_192 (by decide) (fun _ => ?_) (fun q => absurd (hg1 b hbb c5) q)
      refine az_iinc C 4 (v := nI (b + 1)) (lv' := [(1, .int (nI (b + 1))), (5, .int (glX x b (rr b))), (4, .int (fltX x b (rr b))), (3, .int (LcaF (lb b) b ((Tl b).length + 1) m 0 0)), (2, .int (nI ((Tl b).length + 1))), (0, .ref (ρ.1 0))]) dL_convoys_197 rfl (nI_1 b) (by decide) rfl ?_
      refine az_goto C 2 dL_convoys_200 (by decide) ?_
      exact az_lv [0, 5] rfl (ih (b + 1) (k9 + 1) (n9 + 6) (by omega) (by omega) (by omega))

set_option maxHeartbeats 4000000 in
set_option maxRecDepth 100000 in
theorem Xconvoys (hG : az_okS l G) (nr : Nat) (hn : nr ≤ 6) (h1 : 1 ≤ nr) (hr : x.1 1 8 = nI nr) (ha : ∀ k, k < nr → ¬ x.1 2 k < 1) (mv : Nat) (hm : x.1 8 3 = nI mv) (hmv : mv < 100000) (hc : mv ≤ ρ.2.2.2.1) (hc2 : ρ.2.2.2.1 < 2 ^ 31) (nb : Nat) (hb : x.1 0 7 = nI nb) (hnb : nb = ρ.2.2.2.2.2) (hn8 : nb ≤ 8) (ht : ∀ d, d < nb → ¬ x.2.1 d 3 < 1) (rr : Nat → Nat) (hrr : ∀ d, d < nb → rr d < nr ∧ x.2.1 d 4 = nI (rr d)) (Fv : Nat → Nat) (Tl Rl : Nat → List Nat) (hcv : ∀ d, d < nb → XCv ρ.2.2.2.2.2 x d (Rl d) (Fv d) (Tl d)) (h4 : ∀ d, d < nb → (Tl d).length < 4) (lb : Nat → Nat → Nat) (hl : ∀ b, b < nb → ∀ i, i < (Tl b).length + 1 → lb b i < nb ∧ (Fv b :: Tl b)[i]? = some (lb b i) ∧ Fv (lb b i) = Fv b ∧ Tl (lb b i) = Tl b ∧ x.2.1 (lb b i) 4 = x.2.1 b 4) (hF : ∀ (m : Mz) (b : Nat), b < nb → LcaF (lb b) b ((Tl b).length + 1) m 0 0 = 1) (hcg : ∀ d, d < nb → 0 ≤ x.2.1 d 5) (hg0 : ∀ d, d < nb → ¬ glX x d (rr d) < 0) (hg1 : ∀ d, d < nb → fltX x d (rr d) = 0 → glX x d (rr d) = 0) : az_M l G yL_convoys (az_ws yL_convoys cL_convoys 6 (Option.some FieldType.boolean)) 11 [.ref (ρ.1 0)] (AD ρ) (KK G ρ x m ou) 8 48 (az_r (some (.int 1)) (AD ρ) (KK G ρ x m ou)) := by
  refine az_start hG.1 (by decide +kernel) (Nat.le_of_ble_eq_true rfl) ?_
  intro p e s mm args below meth c C hnm
  show az_W l G 6 _ p e _ s mm args below meth c _ _ 0 0 0 [(0, .ref (ρ.1 0))] []
  refine az_iconst C (v := 0) dL_convoys_0 (by decide) ?_
  refine az_istore_n C (lv' := [(1, .int 0), (0, .ref (ρ.1 0))]) (j := 1) rfl dL_convoys_1 (by decide) rfl ?_
  exact az_lv [0, 1] rfl (Lcb hG C nr hn h1 hr ha mv hm hmv hc hc2 nb hb hnb hn8 ht rr hrr Fv Tl Rl hcv h4 lb hl hF hcg hg0 hg1 8 48 nb 0 0 0 (by omega) (by omega) (by omega))

end
