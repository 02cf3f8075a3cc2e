section
variable {l : Launch} {G : az_G} {ρ : Rp} {x : Xs} {m : Ms} {ou : Nat → Int64}
/-- 1 if a value is from a to b, else 0 -/
def inI (v a b : Int32) : Int32 := if v < a then 0 else if b < v then 0 else 1
theorem inI_1 {v a b : Int32} (h1 : a ≤ v) (h2 : v ≤ b) : inI v a b = 1 := by unfold inI; rw [if_neg (Int32.not_lt.mpr h1), if_neg (Int32.not_lt.mpr h2)]
theorem inI_n {v a b : Int32} (h : ¬ inI v a b = 0) : a ≤ v ∧ v ≤ b := by
  unfold inI at h
  split at h
  · exact absurd rfl h
  · rename_i h1
    split at h
    · exact absurd rfl h
    · rename_i h2
      exact ⟨Int32.not_lt.mp h1, Int32.not_lt.mp h2⟩
theorem inI_0 {v a b : Int32} (h : inI v a b = 0) : ¬ (a ≤ v ∧ v ≤ b) := fun z => by
  rw [inI_1 z.1 z.2] at h
  exact absurd h (by decide)
set_option maxHeartbeats 4000000 in
set_option maxRecDepth 100000 in
theorem Min (hG : az_okS l G) (v a b : Int32) : az_M l G yX4_in (az_ws yX4_in cX4_in 3 (Option.some FieldType.boolean)) 1 [.int v, .int a, .int b] (AD ρ) (KK G ρ x m ou) 0 0 (az_r (some (.int (inI v a b))) (AD ρ) (KK G ρ x m ou)) := by
  refine az_start hG.1 (by decide +kernel) (Nat.le_of_ble_eq_true rfl) ?_
  intro p e s mm args below meth c C hnm
  show az_W l G 3 _ p e _ s mm args below meth c _ _ 0 0 0 [(0, .int v), (1, .int a), (2, .int b)] []
  refine az_iload_n C 0 dX4_in_0 rfl ?_
  refine az_iload_n C 1 dX4_in_1 rfl ?_
  refine az_icmp_lt C 14 dX4_in_2 (by decide) (fun c1 => ?_) (fun c1 => ?_)
  · refine az_iconst C (v := 0) dX4_in_14 (by decide) ?_
    exact az_zret C .boolean rfl rfl dX4_in_15 (Nat.le_of_ble_eq_true rfl) (Nat.le_of_ble_eq_true rfl) ⟨(by unfold inI; simp only [c1, if_true, if_false]), rfl, rfl⟩
  · refine az_iload_n C 0 dX4_in_5 rfl ?_
    refine az_iload_n C 2 dX4_in_6 rfl ?_
    refine az_icmp_gt C 14 dX4_in_7 (by decide) (fun c2 => ?_) (fun c2 => ?_)
    · refine az_iconst C (v := 0) dX4_in_14 (by decide) ?_
      exact az_zret C .boolean rfl rfl dX4_in_15 (Nat.le_of_ble_eq_true rfl) (Nat.le_of_ble_eq_true rfl) ⟨(by unfold inI; simp only [c1, c2, if_true, if_false]), rfl, rfl⟩
    · refine az_iconst C (v := 1) dX4_in_10 (by decide) ?_
      refine az_goto C 15 dX4_in_11 (by decide) ?_
      exact az_zret C .boolean rfl rfl dX4_in_15 (Nat.le_of_ble_eq_true rfl) (Nat.le_of_ble_eq_true rfl) ⟨(by unfold inI; simp only [c1, c2, if_true, if_false]), rfl, rfl⟩

set_option maxHeartbeats 4000000 in
set_option maxRecDepth 100000 in
theorem McAt_l (hG : az_okS l G) {p : Program} {e : Env} {s : State} {mm : MethodId} {args : Array Value} {below : List Frame} {meth : Method} {c : Code} (C : az_C l G p s mm args meth c cX4_convoyAt yX4_convoyAt.cls 5 (Option.some FieldType.int) []) : ∀ (v : Int32) (d : Nat) (s9 : List Nat) (n9 i : Nat) (hs : MSuf m s9) (hl : n9 + s9.length ≤ 1000) (hv : v = nI (n9 + i)) (hi : s9[i]? = some d), az_W l G 5 (az_Q G (az_r (some (.int (nI d))) (AD ρ) (KK G ρ x (mI m 0 0 0) ou)) below args s 0 0) p e (az_rm 3 0 0) s mm args below meth c (AD ρ) (KK G ρ x m ou) 0 0 23 [(4, .int (hdI s9)), (3, .int (nI n9)), (2, .int v), (0, .ref (ρ.1 100))] [] := by
  intro v d s9
  induction s9 with
  | nil =>
    intro n9 i hs hl hv hi
    simp at hi
  | cons b s9 ih =>
    intro n9 i hs hl hv hi
    have hb := hs.1
    rw [List.length_cons] at hl
    cases i with
    | zero =>
      obtain rfl : b = d := Option.some.inj hi
      refine az_iload C 0 dX4_convoyAt_23 rfl ?_
      refine az_iconst C (v := (-1)) dX4_convoyAt_25 (by decide) ?_
      refine az_icmp_eq C 56 dX4_convoyAt_26 (by decide) (fun q => absurd q (nI_m1 hb)) (fun _ => ?_)
      refine az_iload_n C 1 dX4_convoyAt_29 rfl ?_
      refine az_iload_n C 2 dX4_convoyAt_30 rfl ?_
      refine az_icmp_ne C 41 dX4_convoyAt_31 (by decide) (fun q => absurd (show nI n9 = v from by rw [hv, Nat.add_zero]) q) (fun _ => ?_)
      refine az_aload_n C 3 dX4_convoyAt_34 rfl ?_
      refine az_iload C 0 dX4_convoyAt_35 rfl ?_
      refine az_callV C Y_X4_tells cX4 2 0 [.int (nI b)] [] wm_X4_125 wi_X4_tells wse_X4_tells dX4_convoyAt_37 rfl rfl rfl (Mtells hG (nI b)) rfl (Nat.le_of_ble_eq_true rfl) (Nat.le_of_ble_eq_true rfl) (Nat.le_of_ble_eq_true rfl) (Nat.le_of_ble_eq_true rfl) (Nat.le_of_ble_eq_true rfl) (az_k1 rfl rfl ?_) (az_k0 rfl)
      exact az_iret C rfl dX4_convoyAt_40 (Nat.le_of_ble_eq_true rfl) (Nat.le_of_ble_eq_true rfl) ⟨rfl, rfl, rfl⟩
    | succ i =>
      have hi9 : i < s9.length := by have z := (List.getElem?_eq_some_iff.mp hi).1; rw [List.length_cons] at z; omega
      refine az_iload C 0 dX4_convoyAt_23 rfl ?_
      refine az_iconst C (v := (-1)) dX4_convoyAt_25 (by decide) ?_
      refine az_icmp_eq C 56 dX4_convoyAt_26 (by decide) (fun q => absurd q (nI_m1 hb)) (fun _ => ?_)
      refine az_iload_n C 1 dX4_convoyAt_29 rfl ?_
      refine az_iload_n C 2 dX4_convoyAt_30 rfl ?_
      refine az_icmp_ne C 41 dX4_convoyAt_31 (by decide) (fun _ => ?_) (fun q => absurd q (show ¬ nI n9 = v from fun z => by rw [hv, nI_eq (by omega) (by omega)] at z; omega))
      refine az_iinc C 1 (v := nI (n9 + 1)) (lv' := [(3, .int (nI (n9 + 1))), (4, .int (nI b)), (2, .int v), (0, .ref (ρ.1 100))]) dX4_convoyAt_41 rfl (nI_1 n9) (by decide) rfl ?_
      refine az_aload_n C 3 dX4_convoyAt_44 rfl ?_
      refine az_get C cX4 2 0 19 (v := .ref (ρ.1 119)) wl_X4_60 dX4_convoyAt_45 rfl rfl rfl (by decide) ?_
      refine az_iload C 1 dX4_convoyAt_48 rfl ?_
      refine az_ialdN C 2 19 b (v := m.1 19 b) dX4_convoyAt_50 rfl rfl (by omega) (by decide) rfl ?_
      refine az_top (hdI s9) hs.2.1 ?_
      refine az_istore C (lv' := [(4, .int (hdI s9)), (3, .int (nI (n9 + 1))), (2, .int v), (0, .ref (ρ.1 100))]) dX4_convoyAt_51 (by decide) rfl ?_
      refine az_goto C 23 dX4_convoyAt_53 (by decide) ?_
      exact az_lv [0, 1, 2, 3] rfl (ih (n9 + 1) i hs.2.2 (by omega) (by rw [hv]; congr 1; omega) hi)

set_option maxHeartbeats 4000000 in
set_option maxRecDepth 100000 in
theorem McAt_o (hG : az_okS l G) {p : Program} {e : Env} {s : State} {mm : MethodId} {args : Array Value} {below : List Frame} {meth : Method} {c : Code} (C : az_C l G p s mm args meth c cX4_convoyAt yX4_convoyAt.cls 5 (Option.some FieldType.int) []) : ∀ (v : Int32) (s9 : List Nat) (n9 : Nat) (hs : MSuf m s9) (hv : ∀ i, i < s9.length → ¬ nI (n9 + i) = v), az_W l G 5 (az_Q G (az_r (some (.int 0)) (AD ρ) (KK G ρ x (mI m 0 0 2) ou)) below args s 0 0) p e (az_rm 3 0 0) s mm args below meth c (AD ρ) (KK G ρ x m ou) 0 0 23 [(4, .int (hdI s9)), (3, .int (nI n9)), (2, .int v), (0, .ref (ρ.1 100))] [] := by
  intro v s9
  induction s9 with
  | nil =>
    intro n9 hs hv
    refine az_iload C 0 dX4_convoyAt_23 rfl ?_
    refine az_iconst C (v := (-1)) dX4_convoyAt_25 (by decide) ?_
    refine az_icmp_eq C 56 dX4_convoyAt_26 (by decide) (fun _ => ?_) (fun q => absurd (by decide) q)
    refine az_aload_n C 3 dX4_convoyAt_56 rfl ?_
    refine az_iconst C (v := 2) dX4_convoyAt_57 (by decide) ?_
    refine az_callV C Y_X4_fails cX4 2 0 [.int 2] [] wm_X4_121 wi_X4_fails wse_X4_fails dX4_convoyAt_58 rfl rfl rfl (Mfails hG (2)) rfl (Nat.le_of_ble_eq_true rfl) (Nat.le_of_ble_eq_true rfl) (Nat.le_of_ble_eq_true rfl) (Nat.le_of_ble_eq_true rfl) (Nat.le_of_ble_eq_true rfl) (az_k1 rfl rfl ?_) (az_k0 rfl)
    exact az_iret C rfl dX4_convoyAt_61 (Nat.le_of_ble_eq_true rfl) (Nat.le_of_ble_eq_true rfl) ⟨rfl, rfl, rfl⟩
  | cons b s9 ih =>
    intro n9 hs hv
    have hb := hs.1
    refine az_iload C 0 dX4_convoyAt_23 rfl ?_
    refine az_iconst C (v := (-1)) dX4_convoyAt_25 (by decide) ?_
    refine az_icmp_eq C 56 dX4_convoyAt_26 (by decide) (fun q => absurd q (nI_m1 hb)) (fun _ => ?_)
    refine az_iload_n C 1 dX4_convoyAt_29 rfl ?_
    refine az_iload_n C 2 dX4_convoyAt_30 rfl ?_
    refine az_icmp_ne C 41 dX4_convoyAt_31 (by decide) (fun _ => ?_) (fun q => absurd q (show ¬ nI n9 = v from hv 0 (by rw [List.length_cons]; omega)))
    refine az_iinc C 1 (v := nI (n9 + 1)) (lv' := [(3, .int (nI (n9 + 1))), (4, .int (nI b)), (2, .int v), (0, .ref (ρ.1 100))]) dX4_convoyAt_41 rfl (nI_1 n9) (by decide) rfl ?_
    refine az_aload_n C 3 dX4_convoyAt_44 rfl ?_
    refine az_get C cX4 2 0 19 (v := .ref (ρ.1 119)) wl_X4_60 dX4_convoyAt_45 rfl rfl rfl (by decide) ?_
    refine az_iload C 1 dX4_convoyAt_48 rfl ?_
    refine az_ialdN C 2 19 b (v := m.1 19 b) dX4_convoyAt_50 rfl rfl (by omega) (by decide) rfl ?_
    refine az_top (hdI s9) hs.2.1 ?_
    refine az_istore C (lv' := [(4, .int (hdI s9)), (3, .int (nI (n9 + 1))), (2, .int v), (0, .ref (ρ.1 100))]) dX4_convoyAt_51 (by decide) rfl ?_
    refine az_goto C 23 dX4_convoyAt_53 (by decide) ?_
    exact az_lv [0, 1, 2, 3] rfl (ih (n9 + 1) hs.2.2 (fun i hi z => hv (i + 1) (by rw [List.length_cons]; omega) (by rw [← z]; congr 1; omega)))

set_option maxHeartbeats 4000000 in
set_option maxRecDepth 100000 in
theorem McAt2 (hG : az_okS l G) (nb b : Nat) (hb : m.1 0 12 = nI nb) (hn : nb ≤ 8) (hk : b + 1 ≤ nb) (v : Int32) (r : List Nat) (f : Nat) (t : List Nat) (hc : MCv m b r f t) (i d : Nat) (hv : v = nI i) (hi : (f :: t)[i]? = some d) (hl : t.length < 999) : az_M l G yX4_convoyAt (az_ws yX4_convoyAt cX4_convoyAt 5 (Option.some FieldType.int)) 3 [.ref (ρ.1 100), .int (nI b), .int v] (AD ρ) (KK G ρ x m ou) 0 0 (az_r (some (.int (nI d))) (AD ρ) (KK G ρ x (mI m 0 0 0) ou)) := by
  refine az_start hG.1 (by decide +kernel) (Nat.le_of_ble_eq_true rfl) ?_
  intro p e s mm args below meth c C hnm
  show az_W l G 5 _ p e _ s mm args below meth c _ _ 0 0 0 [(0, .ref (ρ.1 100)), (1, .int (nI b)), (2, .int v)] []
  refine az_aload_n C 0 dX4_convoyAt_0 rfl ?_
  refine az_iload_n C 1 dX4_convoyAt_1 rfl ?_
  refine az_callV C Y_X4_isBarge cX4 2 0 [.int (nI b)] [] wm_X4_161 wi_X4_isBarge wse_X4_isBarge dX4_convoyAt_2 rfl rfl rfl (Mb1 hG nb b hb hn hk) rfl (Nat.le_of_ble_eq_true rfl) (Nat.le_of_ble_eq_true rfl) (Nat.le_of_ble_eq_true rfl) (Nat.le_of_ble_eq_true rfl) (Nat.le_of_ble_eq_true rfl) (az_k1 rfl rfl ?_) (az_k0 rfl)
  refine az_if_ne C 14 dX4_convoyAt_5 (by decide) (fun _ => ?_) (fun q => absurd q (by decide))
  refine az_iconst C (v := 0) dX4_convoyAt_14 (by decide) ?_
  refine az_istore_n C (lv' := [(3, .int 0), (0, .ref (ρ.1 100)), (1, .int (nI b)), (2, .int v)]) (j := 3) rfl dX4_convoyAt_15 (by decide) rfl ?_
  refine az_aload_n C 1 dX4_convoyAt_16 rfl ?_
  refine az_iload_n C 2 dX4_convoyAt_17 rfl ?_
  refine az_callV C Y_X4_first cX4 2 0 [.int (nI b)] [] wm_X4_167 wi_X4_first wse_X4_first dX4_convoyAt_18 rfl rfl rfl (Mfirst2 hG b _ f _ hc) rfl (Nat.le_of_ble_eq_true rfl) (Nat.le_of_ble_eq_true rfl) (Nat.le_of_ble_eq_true rfl) (Nat.le_of_ble_eq_true rfl) (Nat.le_of_ble_eq_true rfl) (az_k1 rfl rfl ?_) (az_k0 rfl)
  refine az_istore C (lv' := [(4, .int (nI f)), (3, .int 0), (0, .ref (ρ.1 100)), (1, .int (nI b)), (2, .int v)]) dX4_convoyAt_21 (by decide) rfl ?_
  exact az_lv [0, 1, 4, 2] rfl (McAt_l hG C v d (f :: t) 0 i hc.2.2 (by rw [List.length_cons]; omega) (by rw [hv, Nat.zero_add]) hi)

set_option maxHeartbeats 4000000 in
set_option maxRecDepth 100000 in
theorem McAt1 (hG : az_okS l G) (nb b : Nat) (hb : m.1 0 12 = nI nb) (hn : nb ≤ 8) (hk : b + 1 ≤ nb) (v : Int32) (r : List Nat) (f : Nat) (t : List Nat) (hc : MCv m b r f t) (hv : ∀ i, i < t.length + 1 → ¬ nI i = v) : az_M l G yX4_convoyAt (az_ws yX4_convoyAt cX4_convoyAt 5 (Option.some FieldType.int)) 3 [.ref (ρ.1 100), .int (nI b), .int v] (AD ρ) (KK G ρ x m ou) 0 0 (az_r (some (.int 0)) (AD ρ) (KK G ρ x (mI m 0 0 2) ou)) := by
  refine az_start hG.1 (by decide +kernel) (Nat.le_of_ble_eq_true rfl) ?_
  intro p e s mm args below meth c C hnm
  show az_W l G 5 _ p e _ s mm args below meth c _ _ 0 0 0 [(0, .ref (ρ.1 100)), (1, .int (nI b)), (2, .int v)] []
  refine az_aload_n C 0 dX4_convoyAt_0 rfl ?_
  refine az_iload_n C 1 dX4_convoyAt_1 rfl ?_
  refine az_callV C Y_X4_isBarge cX4 2 0 [.int (nI b)] [] wm_X4_161 wi_X4_isBarge wse_X4_isBarge dX4_convoyAt_2 rfl rfl rfl (Mb1 hG nb b hb hn hk) rfl (Nat.le_of_ble_eq_true rfl) (Nat.le_of_ble_eq_true rfl) (Nat.le_of_ble_eq_true rfl) (Nat.le_of_ble_eq_true rfl) (Nat.le_of_ble_eq_true rfl) (az_k1 rfl rfl ?_) (az_k0 rfl)
  refine az_if_ne C 14 dX4_convoyAt_5 (by decide) (fun _ => ?_) (fun q => absurd q (by decide))
  refine az_iconst C (v := 0) dX4_convoyAt_14 (by decide) ?_
  refine az_istore_n C (lv' := [(3, .int 0), (0, .ref (ρ.1 100)), (1, .int (nI b)), (2, .int v)]) (j := 3) rfl dX4_convoyAt_15 (by decide) rfl ?_
  refine az_aload_n C 1 dX4_convoyAt_16 rfl ?_
  refine az_iload_n C 2 dX4_convoyAt_17 rfl ?_
  refine az_callV C Y_X4_first cX4 2 0 [.int (nI b)] [] wm_X4_167 wi_X4_first wse_X4_first dX4_convoyAt_18 rfl rfl rfl (Mfirst2 hG b _ f _ hc) rfl (Nat.le_of_ble_eq_true rfl) (Nat.le_of_ble_eq_true rfl) (Nat.le_of_ble_eq_true rfl) (Nat.le_of_ble_eq_true rfl) (Nat.le_of_ble_eq_true rfl) (az_k1 rfl rfl ?_) (az_k0 rfl)
  refine az_istore C (lv' := [(4, .int (nI f)), (3, .int 0), (0, .ref (ρ.1 100)), (1, .int (nI b)), (2, .int v)]) dX4_convoyAt_21 (by decide) rfl ?_
  exact az_lv [0, 1, 4, 2] rfl (McAt_o hG C v (f :: t) 0 hc.2.2 (fun i hi z => hv i hi (by rw [← z, Nat.zero_add])))

set_option maxHeartbeats 4000000 in
set_option maxRecDepth 100000 in
theorem McAt0 (hG : az_okS l G) (nb : Nat) (v u : Int32) (hb : m.1 0 12 = nI nb) (hn : nb ≤ 8) (hv : oo nb v) : az_M l G yX4_convoyAt (az_ws yX4_convoyAt cX4_convoyAt 5 (Option.some FieldType.int)) 3 [.ref (ρ.1 100), .int v, .int u] (AD ρ) (KK G ρ x m ou) 0 0 (az_r (some (.int 0)) (AD ρ) (KK G ρ x (mI m 0 0 1) ou)) := by
  refine az_start hG.1 (by decide +kernel) (Nat.le_of_ble_eq_true rfl) ?_
  intro p e s mm args below meth c C hnm
  show az_W l G 5 _ p e _ s mm args below meth c _ _ 0 0 0 [(0, .ref (ρ.1 100)), (1, .int v), (2, .int u)] []
  refine az_aload_n C 0 dX4_convoyAt_0 rfl ?_
  refine az_iload_n C 1 dX4_convoyAt_1 rfl ?_
  refine az_callV C Y_X4_isBarge cX4 2 0 [.int v] [] wm_X4_161 wi_X4_isBarge wse_X4_isBarge dX4_convoyAt_2 rfl rfl rfl (Mb0 hG nb v hb hn (by omega) hv) rfl (Nat.le_of_ble_eq_true rfl) (Nat.le_of_ble_eq_true rfl) (Nat.le_of_ble_eq_true rfl) (Nat.le_of_ble_eq_true rfl) (Nat.le_of_ble_eq_true rfl) (az_k1 rfl rfl ?_) (az_k0 rfl)
  refine az_if_ne C 14 dX4_convoyAt_5 (by decide) (fun q => absurd (by decide) q) (fun _ => ?_)
  refine az_aload_n C 0 dX4_convoyAt_8 rfl ?_
  refine az_iconst C (v := 1) dX4_convoyAt_9 (by decide) ?_
  refine az_callV C Y_X4_fails cX4 2 0 [.int 1] [] wm_X4_121 wi_X4_fails wse_X4_fails dX4_convoyAt_10 rfl rfl rfl (Mfails hG (1)) rfl (Nat.le_of_ble_eq_true rfl) (Nat.le_of_ble_eq_true rfl) (Nat.le_of_ble_eq_true rfl) (Nat.le_of_ble_eq_true rfl) (Nat.le_of_ble_eq_true rfl) (az_k1 rfl rfl ?_) (az_k0 rfl)
  exact az_iret C rfl dX4_convoyAt_13 (Nat.le_of_ble_eq_true rfl) (Nat.le_of_ble_eq_true rfl) ⟨rfl, rfl, rfl⟩

set_option maxHeartbeats 4000000 in
set_option maxRecDepth 100000 in
theorem Mcouple0 (hG : az_okS l G) (nb : Nat) (v u : Int32) (hb : m.1 0 12 = nI nb) (hn : nb ≤ 8) (hv : oo nb v) : az_M l G yX4_couple (az_ws yX4_couple cX4_couple 5 (Option.some FieldType.int)) 3 [.ref (ρ.1 100), .int v, .int u] (AD ρ) (KK G ρ x m ou) 0 0 (az_r (some (.int 0)) (AD ρ) (KK G ρ x (mI m 0 0 1) ou)) := by
  refine az_start hG.1 (by decide +kernel) (Nat.le_of_ble_eq_true rfl) ?_
  intro p e s mm args below meth c C hnm
  show az_W l G 5 _ p e _ s mm args below meth c _ _ 0 0 0 [(0, .ref (ρ.1 100)), (1, .int v), (2, .int u)] []
  refine az_aload_n C 0 dX4_couple_0 rfl ?_
  refine az_iload_n C 1 dX4_couple_1 rfl ?_
  refine az_callV C Y_X4_isBarge cX4 2 0 [.int v] [] wm_X4_161 wi_X4_isBarge wse_X4_isBarge dX4_couple_2 rfl rfl rfl (Mb0 hG nb v hb hn (by omega) hv) rfl (Nat.le_of_ble_eq_true rfl) (Nat.le_of_ble_eq_true rfl) (Nat.le_of_ble_eq_true rfl) (Nat.le_of_ble_eq_true rfl) (Nat.le_of_ble_eq_true rfl) (az_k1 rfl rfl ?_) (az_k0 rfl)
  refine az_if_eq C 16 dX4_couple_5 (by decide) (fun _ => ?_) (fun q => absurd (by decide) q)
  refine az_aload_n C 0 dX4_couple_16 rfl ?_
  refine az_iconst C (v := 1) dX4_couple_17 (by decide) ?_
  refine az_callV C Y_X4_fails cX4 2 0 [.int 1] [] wm_X4_121 wi_X4_fails wse_X4_fails dX4_couple_18 rfl rfl rfl (Mfails hG (1)) rfl (Nat.le_of_ble_eq_true rfl) (Nat.le_of_ble_eq_true rfl) (Nat.le_of_ble_eq_true rfl) (Nat.le_of_ble_eq_true rfl) (Nat.le_of_ble_eq_true rfl) (az_k1 rfl rfl ?_) (az_k0 rfl)
  exact az_iret C rfl dX4_couple_21 (Nat.le_of_ble_eq_true rfl) (Nat.le_of_ble_eq_true rfl) ⟨rfl, rfl, rfl⟩

set_option maxHeartbeats 4000000 in
set_option maxRecDepth 100000 in
theorem Mcouple00 (hG : az_okS l G) (nb b : Nat) (hb : m.1 0 12 = nI nb) (hn : nb ≤ 8) (hk : b + 1 ≤ nb) (v : Int32) (hv : oo nb v) : az_M l G yX4_couple (az_ws yX4_couple cX4_couple 5 (Option.some FieldType.int)) 3 [.ref (ρ.1 100), .int (nI b), .int v] (AD ρ) (KK G ρ x m ou) 0 0 (az_r (some (.int 0)) (AD ρ) (KK G ρ x (mI m 0 0 1) ou)) := by
  refine az_start hG.1 (by decide +kernel) (Nat.le_of_ble_eq_true rfl) ?_
  intro p e s mm args below meth c C hnm
  show az_W l G 5 _ p e _ s mm args below meth c _ _ 0 0 0 [(0, .ref (ρ.1 100)), (1, .int (nI b)), (2, .int v)] []
  refine az_aload_n C 0 dX4_couple_0 rfl ?_
  refine az_iload_n C 1 dX4_couple_1 rfl ?_
  refine az_callV C Y_X4_isBarge cX4 2 0 [.int (nI b)] [] wm_X4_161 wi_X4_isBarge wse_X4_isBarge dX4_couple_2 rfl rfl rfl (Mb1 hG nb b hb hn hk) rfl (Nat.le_of_ble_eq_true rfl) (Nat.le_of_ble_eq_true rfl) (Nat.le_of_ble_eq_true rfl) (Nat.le_of_ble_eq_true rfl) (Nat.le_of_ble_eq_true rfl) (az_k1 rfl rfl ?_) (az_k0 rfl)
  refine az_if_eq C 16 dX4_couple_5 (by decide) (fun q => absurd q (by decide)) (fun _ => ?_)
  refine az_aload_n C 0 dX4_couple_8 rfl ?_
  refine az_iload_n C 2 dX4_couple_9 rfl ?_
  refine az_callV C Y_X4_isBarge cX4 2 0 [.int v] [] wm_X4_161 wi_X4_isBarge wse_X4_isBarge dX4_couple_10 rfl rfl rfl (Mb0 hG nb v hb hn (by omega) hv) rfl (Nat.le_of_ble_eq_true rfl) (Nat.le_of_ble_eq_true rfl) (Nat.le_of_ble_eq_true rfl) (Nat.le_of_ble_eq_true rfl) (Nat.le_of_ble_eq_true rfl) (az_k1 rfl rfl ?_) (az_k0 rfl)
  refine az_if_ne C 22 dX4_couple_13 (by decide) (fun q => absurd (by decide) q) (fun _ => ?_)
  refine az_aload_n C 0 dX4_couple_16 rfl ?_
  refine az_iconst C (v := 1) dX4_couple_17 (by decide) ?_
  refine az_callV C Y_X4_fails cX4 2 0 [.int 1] [] wm_X4_121 wi_X4_fails wse_X4_fails dX4_couple_18 rfl rfl rfl (Mfails hG (1)) rfl (Nat.le_of_ble_eq_true rfl) (Nat.le_of_ble_eq_true rfl) (Nat.le_of_ble_eq_true rfl) (Nat.le_of_ble_eq_true rfl) (Nat.le_of_ble_eq_true rfl) (az_k1 rfl rfl ?_) (az_k0 rfl)
  exact az_iret C rfl dX4_couple_21 (Nat.le_of_ble_eq_true rfl) (Nat.le_of_ble_eq_true rfl) ⟨rfl, rfl, rfl⟩

set_option maxHeartbeats 4000000 in
set_option maxRecDepth 100000 in
theorem Mcouple1 (hG : az_okS l G) (nb a b : Nat) (hb : m.1 0 12 = nI nb) (hn : nb ≤ 8) (ka : a + 1 ≤ nb) (kb : b + 1 ≤ nb) (ra : List Nat) (fa : Nat) (ta : List Nat) (ca : MCv m a ra fa ta) (rb : List Nat) (fb : Nat) (tb : List Nat) (cb : MCv m b rb fb tb) (he : nI fa = nI fb) : az_M l G yX4_couple (az_ws yX4_couple cX4_couple 5 (Option.some FieldType.int)) 3 [.ref (ρ.1 100), .int (nI a), .int (nI b)] (AD ρ) (KK G ρ x m ou) 0 0 (az_r (some (.int 0)) (AD ρ) (KK G ρ x (mI m 0 0 2) ou)) := by
  refine az_start hG.1 (by decide +kernel) (Nat.le_of_ble_eq_true rfl) ?_
  intro p e s mm args below meth c C hnm
  show az_W l G 5 _ p e _ s mm args below meth c _ _ 0 0 0 [(0, .ref (ρ.1 100)), (1, .int (nI a)), (2, .int (nI b))] []
  refine az_aload_n C 0 dX4_couple_0 rfl ?_
  refine az_iload_n C 1 dX4_couple_1 rfl ?_
  refine az_callV C Y_X4_isBarge cX4 2 0 [.int (nI a)] [] wm_X4_161 wi_X4_isBarge wse_X4_isBarge dX4_couple_2 rfl rfl rfl (Mb1 hG nb a hb hn ka) rfl (Nat.le_of_ble_eq_true rfl) (Nat.le_of_ble_eq_true rfl) (Nat.le_of_ble_eq_true rfl) (Nat.le_of_ble_eq_true rfl) (Nat.le_of_ble_eq_true rfl) (az_k1 rfl rfl ?_) (az_k0 rfl)
  refine az_if_eq C 16 dX4_couple_5 (by decide) (fun q => absurd q (by decide)) (fun _ => ?_)
  refine az_aload_n C 0 dX4_couple_8 rfl ?_
  refine az_iload_n C 2 dX4_couple_9 rfl ?_
  refine az_callV C Y_X4_isBarge cX4 2 0 [.int (nI b)] [] wm_X4_161 wi_X4_isBarge wse_X4_isBarge dX4_couple_10 rfl rfl rfl (Mb1 hG nb b hb hn kb) rfl (Nat.le_of_ble_eq_true rfl) (Nat.le_of_ble_eq_true rfl) (Nat.le_of_ble_eq_true rfl) (Nat.le_of_ble_eq_true rfl) (Nat.le_of_ble_eq_true rfl) (az_k1 rfl rfl ?_) (az_k0 rfl)
  refine az_if_ne C 22 dX4_couple_13 (by decide) (fun _ => ?_) (fun q => absurd q (by decide))
  refine az_aload_n C 0 dX4_couple_22 rfl ?_
  refine az_iload_n C 1 dX4_couple_23 rfl ?_
  refine az_callV C Y_X4_first cX4 2 0 [.int (nI a)] [] wm_X4_167 wi_X4_first wse_X4_first dX4_couple_24 rfl rfl rfl (Mfirst2 hG a _ fa _ ca) rfl (Nat.le_of_ble_eq_true rfl) (Nat.le_of_ble_eq_true rfl) (Nat.le_of_ble_eq_true rfl) (Nat.le_of_ble_eq_true rfl) (Nat.le_of_ble_eq_true rfl) (az_k1 rfl rfl ?_) (az_k0 rfl)
  refine az_aload_n C 0 dX4_couple_27 rfl ?_
  refine az_iload_n C 2 dX4_couple_28 rfl ?_
  refine az_callV C Y_X4_first cX4 2 0 [.int (nI b)] [.int (nI fa)] wm_X4_167 wi_X4_first wse_X4_first dX4_couple_29 rfl rfl rfl (Mfirst2 hG b _ fb _ cb) rfl (Nat.le_of_ble_eq_true rfl) (Nat.le_of_ble_eq_true rfl) (Nat.le_of_ble_eq_true rfl) (Nat.le_of_ble_eq_true rfl) (Nat.le_of_ble_eq_true rfl) (az_k1 rfl rfl ?_) (az_k0 rfl)
  refine az_icmp_ne C 41 dX4_couple_32 (by decide) (fun q => absurd he q) (fun _ => ?_)
  refine az_aload_n C 0 dX4_couple_35 rfl ?_
  refine az_iconst C (v := 2) dX4_couple_36 (by decide) ?_
  refine az_callV C Y_X4_fails cX4 2 0 [.int 2] [] wm_X4_121 wi_X4_fails wse_X4_fails dX4_couple_37 rfl rfl rfl (Mfails hG (2)) rfl (Nat.le_of_ble_eq_true rfl) (Nat.le_of_ble_eq_true rfl) (Nat.le_of_ble_eq_true rfl) (Nat.le_of_ble_eq_true rfl) (Nat.le_of_ble_eq_true rfl) (az_k1 rfl rfl ?_) (az_k0 rfl)
  exact az_iret C rfl dX4_couple_40 (Nat.le_of_ble_eq_true rfl) (Nat.le_of_ble_eq_true rfl) ⟨rfl, rfl, rfl⟩

set_option maxHeartbeats 4000000 in
set_option maxRecDepth 100000 in
theorem Mcouple2 (hG : az_okS l G) (nb a b : Nat) (hb : m.1 0 12 = nI nb) (hn : nb ≤ 8) (ka : a + 1 ≤ nb) (kb : b + 1 ≤ nb) (ra : List Nat) (fa : Nat) (ta : List Nat) (ca : MCv m a ra fa ta) (rb : List Nat) (fb : Nat) (tb : List Nat) (cb : MCv m b rb fb tb) (he : ¬ nI fa = nI fb) (h2 : ¬ m.1 13 a = m.1 13 b ∨ ¬ nI (ta.length + 1) + nI (tb.length + 1) ≤ 4) : az_M l G yX4_couple (az_ws yX4_couple cX4_couple 5 (Option.some FieldType.int)) 3 [.ref (ρ.1 100), .int (nI a), .int (nI b)] (AD ρ) (KK G ρ x m ou) 0 0 (az_r (some (.int 0)) (AD ρ) (KK G ρ x (mI m 0 0 3) ou)) := by
  refine az_start hG.1 (by decide +kernel) (Nat.le_of_ble_eq_true rfl) ?_
  intro p e s mm args below meth c C hnm
  show az_W l G 5 _ p e _ s mm args below meth c _ _ 0 0 0 [(0, .ref (ρ.1 100)), (1, .int (nI a)), (2, .int (nI b))] []
  refine az_aload_n C 0 dX4_couple_0 rfl ?_
  refine az_iload_n C 1 dX4_couple_1 rfl ?_
  refine az_callV C Y_X4_isBarge cX4 2 0 [.int (nI a)] [] wm_X4_161 wi_X4_isBarge wse_X4_isBarge dX4_couple_2 rfl rfl rfl (Mb1 hG nb a hb hn ka) rfl (Nat.le_of_ble_eq_true rfl) (Nat.le_of_ble_eq_true rfl) (Nat.le_of_ble_eq_true rfl) (Nat.le_of_ble_eq_true rfl) (Nat.le_of_ble_eq_true rfl) (az_k1 rfl rfl ?_) (az_k0 rfl)
  refine az_if_eq C 16 dX4_couple_5 (by decide) (fun q => absurd q (by decide)) (fun _ => ?_)
  refine az_aload_n C 0 dX4_couple_8 rfl ?_
  refine az_iload_n C 2 dX4_couple_9 rfl ?_
  refine az_callV C Y_X4_isBarge cX4 2 0 [.int (nI b)] [] wm_X4_161 wi_X4_isBarge wse_X4_isBarge dX4_couple_10 rfl rfl rfl (Mb1 hG nb b hb hn kb) rfl (Nat.le_of_ble_eq_true rfl) (Nat.le_of_ble_eq_true rfl) (Nat.le_of_ble_eq_true rfl) (Nat.le_of_ble_eq_true rfl) (Nat.le_of_ble_eq_true rfl) (az_k1 rfl rfl ?_) (az_k0 rfl)
  refine az_if_ne C 22 dX4_couple_13 (by decide) (fun _ => ?_) (fun q => absurd q (by decide))
  refine az_aload_n C 0 dX4_couple_22 rfl ?_
  refine az_iload_n C 1 dX4_couple_23 rfl ?_
  refine az_callV C Y_X4_first cX4 2 0 [.int (nI a)] [] wm_X4_167 wi_X4_first wse_X4_first dX4_couple_24 rfl rfl rfl (Mfirst2 hG a _ fa _ ca) rfl (Nat.le_of_ble_eq_true rfl) (Nat.le_of_ble_eq_true rfl) (Nat.le_of_ble_eq_true rfl) (Nat.le_of_ble_eq_true rfl) (Nat.le_of_ble_eq_true rfl) (az_k1 rfl rfl ?_) (az_k0 rfl)
  refine az_aload_n C 0 dX4_couple_27 rfl ?_
  refine az_iload_n C 2 dX4_couple_28 rfl ?_
  refine az_callV C Y_X4_first cX4 2 0 [.int (nI b)] [.int (nI fa)] wm_X4_167 wi_X4_first wse_X4_first dX4_couple_29 rfl rfl rfl (Mfirst2 hG b _ fb _ cb) rfl (Nat.le_of_ble_eq_true rfl) (Nat.le_of_ble_eq_true rfl) (Nat.le_of_ble_eq_true rfl) (Nat.le_of_ble_eq_true rfl) (Nat.le_of_ble_eq_true rfl) (az_k1 rfl rfl ?_) (az_k0 rfl)
  refine az_icmp_ne C 41 dX4_couple_32 (by decide) (fun _ => ?_) (fun q => absurd q he)
  refine az_aload_n C 0 dX4_couple_41 rfl ?_
  refine az_get C cX4 2 0 13 (v := .ref (ρ.1 113)) wl_X4_42 dX4_couple_42 rfl rfl rfl (by decide) ?_
  refine az_iload_n C 1 dX4_couple_45 rfl ?_
  refine az_ialdN C 2 13 a (v := m.1 13 a) dX4_couple_46 rfl rfl (by omega) (by decide) rfl ?_
  refine az_aload_n C 0 dX4_couple_47 rfl ?_
  refine az_get C cX4 2 0 13 (v := .ref (ρ.1 113)) wl_X4_42 dX4_couple_48 rfl rfl rfl (by decide) ?_
  refine az_iload_n C 2 dX4_couple_51 rfl ?_
  refine az_ialdN C 2 13 b (v := m.1 13 b) dX4_couple_52 rfl rfl (by omega) (by decide) rfl ?_
  refine az_icmp_ne C 71 dX4_couple_53 (by decide) (fun c1 => ?_) (fun c1 => ?_)
  · refine az_aload_n C 0 dX4_couple_71 rfl ?_
    refine az_iconst C (v := 3) dX4_couple_72 (by decide) ?_
    refine az_callV C Y_X4_fails cX4 2 0 [.int 3] [] wm_X4_121 wi_X4_fails wse_X4_fails dX4_couple_73 rfl rfl rfl (Mfails hG (3)) rfl (Nat.le_of_ble_eq_true rfl) (Nat.le_of_ble_eq_true rfl) (Nat.le_of_ble_eq_true rfl) (Nat.le_of_ble_eq_true rfl) (Nat.le_of_ble_eq_true rfl) (az_k1 rfl rfl ?_) (az_k0 rfl)
    exact az_iret C rfl dX4_couple_76 (Nat.le_of_ble_eq_true rfl) (Nat.le_of_ble_eq_true rfl) ⟨rfl, rfl, rfl⟩
  · refine az_aload_n C 0 dX4_couple_56 rfl ?_
    refine az_iload_n C 1 dX4_couple_57 rfl ?_
    refine az_callV C Y_X4_size cX4 2 0 [.int (nI a)] [] wm_X4_170 wi_X4_size wse_X4_size dX4_couple_58 rfl rfl rfl (Msize hG a _ _ ta ca) rfl (Nat.le_of_ble_eq_true rfl) (Nat.le_of_ble_eq_true rfl) (Nat.le_of_ble_eq_true rfl) (Nat.le_of_ble_eq_true rfl) (Nat.le_of_ble_eq_true rfl) (az_k1 rfl rfl ?_) (az_k0 rfl)
    refine az_aload_n C 0 dX4_couple_61 rfl ?_
    refine az_iload_n C 2 dX4_couple_62 rfl ?_
    refine az_callV C Y_X4_size cX4 2 0 [.int (nI b)] [.int (nI ((ta.length + 1)))] wm_X4_170 wi_X4_size wse_X4_size dX4_couple_63 rfl rfl rfl (Msize hG b _ _ tb cb) rfl (Nat.le_of_ble_eq_true rfl) (Nat.le_of_ble_eq_true rfl) (Nat.le_of_ble_eq_true rfl) (Nat.le_of_ble_eq_true rfl) (Nat.le_of_ble_eq_true rfl) (az_k1 rfl rfl ?_) (az_k0 rfl)
    refine az_iadd C dX4_couple_66 ?_
    refine az_iconst C (v := 4) dX4_couple_67 (by decide) ?_
    refine az_icmp_le C 77 dX4_couple_68 (by decide) (fun c2 => ?_) (fun c2 => ?_)
    · exact absurd h2 (fun z => z.elim (fun q => q c1) (fun q => q c2))
    · refine az_aload_n C 0 dX4_couple_71 rfl ?_
      refine az_iconst C (v := 3) dX4_couple_72 (by decide) ?_
      refine az_callV C Y_X4_fails cX4 2 0 [.int 3] [] wm_X4_121 wi_X4_fails wse_X4_fails dX4_couple_73 rfl rfl rfl (Mfails hG (3)) rfl (Nat.le_of_ble_eq_true rfl) (Nat.le_of_ble_eq_true rfl) (Nat.le_of_ble_eq_true rfl) (Nat.le_of_ble_eq_true rfl) (Nat.le_of_ble_eq_true rfl) (az_k1 rfl rfl ?_) (az_k0 rfl)
      exact az_iret C rfl dX4_couple_76 (Nat.le_of_ble_eq_true rfl) (Nat.le_of_ble_eq_true rfl) ⟨rfl, rfl, rfl⟩

def MLst (m : Ms) (l : List Nat) : Prop := ∀ b ∈ l, b < 8
set_option maxHeartbeats 4000000 in
set_option maxRecDepth 100000 in
theorem Mcouple_l (hG : az_okS l G) {p : Program} {e : Env} {s : State} {mm : MethodId} {args : Array Value} {below : List Frame} {meth : Method} {c : Code} (C : az_C l G p s mm args meth c cX4_couple yX4_couple.cls 5 (Option.some FieldType.int) []) : ∀ (nb : Nat) (hb9 : nb ≤ 8) (rb : List Nat) (fb : Nat) (tb : List Nat) (b : Nat) (cb : MCv m b rb fb tb) (a ra9 : Nat) (rc : List Nat) (fc : Nat) (tc : List Nat) (la : Nat) (cc : MCv (mI (mI m 19 la (nI fb)) 18 fb (nI la)) a rc fc tc) (hla : la < 8) (s9 : List Nat) (d : Nat) (hs : MSuf m (d :: s9)) (hl : lst d s9 = la), az_W l G 5 (az_Q G (az_r (some (.int (nI (tc.length + 1)))) (AD ρ) (KK G ρ x (mI (mI (mI m 19 la (nI fb)) 18 fb (nI la)) 0 0 0) ou)) below args s 0 0) p e (az_rm 3 0 0) s mm args below meth c (AD ρ) (KK G ρ x m ou) 0 0 79 [(3, .int (nI d)), (2, .int (nI b)), (1, .int (nI a)), (0, .ref (ρ.1 100))] [] := by
  intro nb hb9 rb fb tb b cb a ra9 rc fc tc la cc hla s9
  induction s9 with
  | nil =>
    intro d hs hl
    have hd := hs.1
    have hfb : fb < 8 := cb.2.2.1
    simp only [lst] at hl
    subst hl
    refine az_aload_n C 3 dX4_couple_79 rfl ?_
    refine az_get C cX4 2 0 19 (v := .ref (ρ.1 119)) wl_X4_60 dX4_couple_80 rfl rfl rfl (by decide) ?_
    refine az_iload_n C 0 dX4_couple_83 rfl ?_
    refine az_ialdN C 2 19 d (v := m.1 19 d) dX4_couple_84 rfl rfl (by omega) (by decide) rfl ?_
    refine az_top ((-1)) hs.2.1 ?_
    refine az_iconst C (v := (-1)) dX4_couple_85 (by decide) ?_
    refine az_icmp_eq C 99 dX4_couple_86 (by decide) (fun _ => ?_) (fun q => absurd (by decide) q)
    refine az_aload_n C 3 dX4_couple_99 rfl ?_
    refine az_iload_n C 1 dX4_couple_100 rfl ?_
    refine az_callV C Y_X4_first cX4 2 0 [.int (nI b)] [] wm_X4_167 wi_X4_first wse_X4_first dX4_couple_101 rfl rfl rfl (Mfirst2 hG b _ fb _ cb) rfl (Nat.le_of_ble_eq_true rfl) (Nat.le_of_ble_eq_true rfl) (Nat.le_of_ble_eq_true rfl) (Nat.le_of_ble_eq_true rfl) (Nat.le_of_ble_eq_true rfl) (az_k1 rfl rfl ?_) (az_k0 rfl)
    refine az_istore C (lv' := [(4, .int (nI fb)), (3, .int (nI d)), (2, .int (nI b)), (1, .int (nI a)), (0, .ref (ρ.1 100))]) dX4_couple_104 (by decide) rfl ?_
    refine az_aload_n C 4 dX4_couple_106 rfl ?_
    refine az_get C cX4 2 0 19 (v := .ref (ρ.1 119)) wl_X4_60 dX4_couple_107 rfl rfl rfl (by decide) ?_
    refine az_iload_n C 1 dX4_couple_110 rfl ?_
    refine az_iload C 0 dX4_couple_111 rfl ?_
    refine az_iastN C 2 19 d dX4_couple_113 rfl rfl (by omega) (by decide) (az_to rfl (K' := (KK G ρ x (mI m 19 d (nI fb)) ou)) (KK_M rfl) ?_)
    refine az_aload_n C 4 dX4_couple_114 rfl ?_
    refine az_get C cX4 2 0 18 (v := .ref (ρ.1 118)) wl_X4_57 dX4_couple_115 rfl rfl rfl (by decide) ?_
    refine az_iload C 0 dX4_couple_118 rfl ?_
    refine az_iload_n C 1 dX4_couple_120 rfl ?_
    refine az_iastN C 2 18 fb dX4_couple_121 rfl rfl (by omega) (by decide) (az_to rfl (K' := (KK G ρ x (mI (mI m 19 d (nI fb)) 18 fb (nI d)) ou)) (KK_M rfl) ?_)
    refine az_aload_n C 4 dX4_couple_122 rfl ?_
    refine az_aload_n C 4 dX4_couple_123 rfl ?_
    refine az_iload_n C 3 dX4_couple_124 rfl ?_
    refine az_callV C Y_X4_size cX4 2 0 [.int (nI a)] [.ref (ρ.1 100)] wm_X4_170 wi_X4_size wse_X4_size dX4_couple_125 rfl rfl rfl (Msize hG a _ _ tc cc) rfl (Nat.le_of_ble_eq_true rfl) (Nat.le_of_ble_eq_true rfl) (Nat.le_of_ble_eq_true rfl) (Nat.le_of_ble_eq_true rfl) (Nat.le_of_ble_eq_true rfl) (az_k1 rfl rfl ?_) (az_k0 rfl)
    refine az_callV C Y_X4_tells cX4 2 0 [.int (nI ((tc.length + 1)))] [] wm_X4_125 wi_X4_tells wse_X4_tells dX4_couple_128 rfl rfl rfl (Mtells hG (nI ((tc.length + 1)))) rfl (Nat.le_of_ble_eq_true rfl) (Nat.le_of_ble_eq_true rfl) (Nat.le_of_ble_eq_true rfl) (Nat.le_of_ble_eq_true rfl) (Nat.le_of_ble_eq_true rfl) (az_k1 rfl rfl ?_) (az_k0 rfl)
    exact az_iret C rfl dX4_couple_131 (Nat.le_of_ble_eq_true rfl) (Nat.le_of_ble_eq_true rfl) ⟨rfl, rfl, rfl⟩
  | cons e9 s9 ih =>
    intro d hs hl
    have hd := hs.1
    have he9 := hs.2.2.1
    refine az_aload_n C 3 dX4_couple_79 rfl ?_
    refine az_get C cX4 2 0 19 (v := .ref (ρ.1 119)) wl_X4_60 dX4_couple_80 rfl rfl rfl (by decide) ?_
    refine az_iload_n C 0 dX4_couple_83 rfl ?_
    refine az_ialdN C 2 19 d (v := m.1 19 d) dX4_couple_84 rfl rfl (by omega) (by decide) rfl ?_
    refine az_top (nI e9) hs.2.1 ?_
    refine az_iconst C (v := (-1)) dX4_couple_85 (by decide) ?_
    refine az_icmp_eq C 99 dX4_couple_86 (by decide) (fun q => absurd q (nI_m1 he9)) (fun _ => ?_)
    refine az_aload_n C 3 dX4_couple_89 rfl ?_
    refine az_get C cX4 2 0 19 (v := .ref (ρ.1 119)) wl_X4_60 dX4_couple_90 rfl rfl rfl (by decide) ?_
    refine az_iload_n C 0 dX4_couple_93 rfl ?_
    refine az_ialdN C 2 19 d (v := m.1 19 d) dX4_couple_94 rfl rfl (by omega) (by decide) rfl ?_
    refine az_top (nI e9) hs.2.1 ?_
    refine az_istore_n C (lv' := [(3, .int (nI e9)), (2, .int (nI b)), (1, .int (nI a)), (0, .ref (ρ.1 100))]) (j := 3) rfl dX4_couple_95 (by decide) rfl ?_
    refine az_goto C 79 dX4_couple_96 (by decide) ?_
    exact ih e9 hs.2.2 hl

set_option maxHeartbeats 4000000 in
set_option maxRecDepth 100000 in
theorem Mcouple3 (hG : az_okS l G) (nb a b : Nat) (hb : m.1 0 12 = nI nb) (hn : nb ≤ 8) (ka : a + 1 ≤ nb) (kb : b + 1 ≤ nb) (ra : List Nat) (fa : Nat) (ta : List Nat) (ca : MCv m a ra fa ta) (rb : List Nat) (fb : Nat) (tb : List Nat) (cb : MCv m b rb fb tb) (he : ¬ nI fa = nI fb) (h1 : m.1 13 a = m.1 13 b) (h2 : nI (ta.length + 1) + nI (tb.length + 1) ≤ 4) (sa : List Nat) (la : Nat) (hs : MSuf m (a :: sa)) (hl : lst a sa = la) (hla : la < 8) (rc : List Nat) (fc : Nat) (tc : List Nat) (cc : MCv (mI (mI m 19 la (nI fb)) 18 fb (nI la)) a rc fc tc) : az_M l G yX4_couple (az_ws yX4_couple cX4_couple 5 (Option.some FieldType.int)) 3 [.ref (ρ.1 100), .int (nI a), .int (nI b)] (AD ρ) (KK G ρ x m ou) 0 0 (az_r (some (.int (nI (tc.length + 1)))) (AD ρ) (KK G ρ x (mI (mI (mI m 19 la (nI fb)) 18 fb (nI la)) 0 0 0) ou)) := by
  refine az_start hG.1 (by decide +kernel) (Nat.le_of_ble_eq_true rfl) ?_
  intro p e s mm args below meth c C hnm
  show az_W l G 5 _ p e _ s mm args below meth c _ _ 0 0 0 [(0, .ref (ρ.1 100)), (1, .int (nI a)), (2, .int (nI b))] []
  refine az_aload_n C 0 dX4_couple_0 rfl ?_
  refine az_iload_n C 1 dX4_couple_1 rfl ?_
  refine az_callV C Y_X4_isBarge cX4 2 0 [.int (nI a)] [] wm_X4_161 wi_X4_isBarge wse_X4_isBarge dX4_couple_2 rfl rfl rfl (Mb1 hG nb a hb hn ka) rfl (Nat.le_of_ble_eq_true rfl) (Nat.le_of_ble_eq_true rfl) (Nat.le_of_ble_eq_true rfl) (Nat.le_of_ble_eq_true rfl) (Nat.le_of_ble_eq_true rfl) (az_k1 rfl rfl ?_) (az_k0 rfl)
  refine az_if_eq C 16 dX4_couple_5 (by decide) (fun q => absurd q (by decide)) (fun _ => ?_)
  refine az_aload_n C 0 dX4_couple_8 rfl ?_
  refine az_iload_n C 2 dX4_couple_9 rfl ?_
  refine az_callV C Y_X4_isBarge cX4 2 0 [.int (nI b)] [] wm_X4_161 wi_X4_isBarge wse_X4_isBarge dX4_couple_10 rfl rfl rfl (Mb1 hG nb b hb hn kb) rfl (Nat.le_of_ble_eq_true rfl) (Nat.le_of_ble_eq_true rfl) (Nat.le_of_ble_eq_true rfl) (Nat.le_of_ble_eq_true rfl) (Nat.le_of_ble_eq_true rfl) (az_k1 rfl rfl ?_) (az_k0 rfl)
  refine az_if_ne C 22 dX4_couple_13 (by decide) (fun _ => ?_) (fun q => absurd q (by decide))
  refine az_aload_n C 0 dX4_couple_22 rfl ?_
  refine az_iload_n C 1 dX4_couple_23 rfl ?_
  refine az_callV C Y_X4_first cX4 2 0 [.int (nI a)] [] wm_X4_167 wi_X4_first wse_X4_first dX4_couple_24 rfl rfl rfl (Mfirst2 hG a _ fa _ ca) rfl (Nat.le_of_ble_eq_true rfl) (Nat.le_of_ble_eq_true rfl) (Nat.le_of_ble_eq_true rfl) (Nat.le_of_ble_eq_true rfl) (Nat.le_of_ble_eq_true rfl) (az_k1 rfl rfl ?_) (az_k0 rfl)
  refine az_aload_n C 0 dX4_couple_27 rfl ?_
  refine az_iload_n C 2 dX4_couple_28 rfl ?_
  refine az_callV C Y_X4_first cX4 2 0 [.int (nI b)] [.int (nI fa)] wm_X4_167 wi_X4_first wse_X4_first dX4_couple_29 rfl rfl rfl (Mfirst2 hG b _ fb _ cb) rfl (Nat.le_of_ble_eq_true rfl) (Nat.le_of_ble_eq_true rfl) (Nat.le_of_ble_eq_true rfl) (Nat.le_of_ble_eq_true rfl) (Nat.le_of_ble_eq_true rfl) (az_k1 rfl rfl ?_) (az_k0 rfl)
  refine az_icmp_ne C 41 dX4_couple_32 (by decide) (fun _ => ?_) (fun q => absurd q he)
  refine az_aload_n C 0 dX4_couple_41 rfl ?_
  refine az_get C cX4 2 0 13 (v := .ref (ρ.1 113)) wl_X4_42 dX4_couple_42 rfl rfl rfl (by decide) ?_
  refine az_iload_n C 1 dX4_couple_45 rfl ?_
  refine az_ialdN C 2 13 a (v := m.1 13 a) dX4_couple_46 rfl rfl (by omega) (by decide) rfl ?_
  refine az_aload_n C 0 dX4_couple_47 rfl ?_
  refine az_get C cX4 2 0 13 (v := .ref (ρ.1 113)) wl_X4_42 dX4_couple_48 rfl rfl rfl (by decide) ?_
  refine az_iload_n C 2 dX4_couple_51 rfl ?_
  refine az_ialdN C 2 13 b (v := m.1 13 b) dX4_couple_52 rfl rfl (by omega) (by decide) rfl ?_
  refine az_icmp_ne C 71 dX4_couple_53 (by decide) (fun q => absurd h1 q) (fun _ => ?_)
  refine az_aload_n C 0 dX4_couple_56 rfl ?_
  refine az_iload_n C 1 dX4_couple_57 rfl ?_
  refine az_callV C Y_X4_size cX4 2 0 [.int (nI a)] [] wm_X4_170 wi_X4_size wse_X4_size dX4_couple_58 rfl rfl rfl (Msize hG a _ _ ta ca) rfl (Nat.le_of_ble_eq_true rfl) (Nat.le_of_ble_eq_true rfl) (Nat.le_of_ble_eq_true rfl) (Nat.le_of_ble_eq_true rfl) (Nat.le_of_ble_eq_true rfl) (az_k1 rfl rfl ?_) (az_k0 rfl)
  refine az_aload_n C 0 dX4_couple_61 rfl ?_
  refine az_iload_n C 2 dX4_couple_62 rfl ?_
  refine az_callV C Y_X4_size cX4 2 0 [.int (nI b)] [.int (nI ((ta.length + 1)))] wm_X4_170 wi_X4_size wse_X4_size dX4_couple_63 rfl rfl rfl (Msize hG b _ _ tb cb) rfl (Nat.le_of_ble_eq_true rfl) (Nat.le_of_ble_eq_true rfl) (Nat.le_of_ble_eq_true rfl) (Nat.le_of_ble_eq_true rfl) (Nat.le_of_ble_eq_true rfl) (az_k1 rfl rfl ?_) (az_k0 rfl)
  refine az_iadd C dX4_couple_66 ?_
  refine az_iconst C (v := 4) dX4_couple_67 (by decide) ?_
  refine az_icmp_le C 77 dX4_couple_68 (by decide) (fun _ => ?_) (fun q => absurd h2 q)
  refine az_iload_n C 1 dX4_couple_77 rfl ?_
  refine az_istore_n C (lv' := [(3, .int (nI a)), (0, .ref (ρ.1 100)), (1, .int (nI a)), (2, .int (nI b))]) (j := 3) rfl dX4_couple_78 (by decide) rfl ?_
  exact az_lv [0, 3, 2, 1] rfl (Mcouple_l hG C nb hn rb fb tb b cb a 0 rc fc tc la cc hla sa a hs hl)

set_option maxHeartbeats 4000000 in
set_option maxRecDepth 100000 in
theorem Muncouple0 (hG : az_okS l G) (nb : Nat) (v : Int32) (hb : m.1 0 12 = nI nb) (hn : nb ≤ 8) (hv : oo nb v) : az_M l G yX4_uncouple (az_ws yX4_uncouple cX4_uncouple 3 (Option.some FieldType.int)) 3 [.ref (ρ.1 100), .int v] (AD ρ) (KK G ρ x m ou) 0 0 (az_r (some (.int 0)) (AD ρ) (KK G ρ x (mI m 0 0 1) ou)) := by
  refine az_start hG.1 (by decide +kernel) (Nat.le_of_ble_eq_true rfl) ?_
  intro p e s mm args below meth c C hnm
  show az_W l G 3 _ p e _ s mm args below meth c _ _ 0 0 0 [(0, .ref (ρ.1 100)), (1, .int v)] []
  refine az_aload_n C 0 dX4_uncouple_0 rfl ?_
  refine az_iload_n C 1 dX4_uncouple_1 rfl ?_
  refine az_callV C Y_X4_isBarge cX4 2 0 [.int v] [] wm_X4_161 wi_X4_isBarge wse_X4_isBarge dX4_uncouple_2 rfl rfl rfl (Mb0 hG nb v hb hn (by omega) hv) rfl (Nat.le_of_ble_eq_true rfl) (Nat.le_of_ble_eq_true rfl) (Nat.le_of_ble_eq_true rfl) (Nat.le_of_ble_eq_true rfl) (Nat.le_of_ble_eq_true rfl) (az_k1 rfl rfl ?_) (az_k0 rfl)
  refine az_if_ne C 14 dX4_uncouple_5 (by decide) (fun q => absurd (by decide) q) (fun _ => ?_)
  refine az_aload_n C 0 dX4_uncouple_8 rfl ?_
  refine az_iconst C (v := 1) dX4_uncouple_9 (by decide) ?_
  refine az_callV C Y_X4_fails cX4 2 0 [.int 1] [] wm_X4_121 wi_X4_fails wse_X4_fails dX4_uncouple_10 rfl rfl rfl (Mfails hG (1)) rfl (Nat.le_of_ble_eq_true rfl) (Nat.le_of_ble_eq_true rfl) (Nat.le_of_ble_eq_true rfl) (Nat.le_of_ble_eq_true rfl) (Nat.le_of_ble_eq_true rfl) (az_k1 rfl rfl ?_) (az_k0 rfl)
  exact az_iret C rfl dX4_uncouple_13 (Nat.le_of_ble_eq_true rfl) (Nat.le_of_ble_eq_true rfl) ⟨rfl, rfl, rfl⟩

set_option maxHeartbeats 4000000 in
set_option maxRecDepth 100000 in
theorem Muncouple1 (hG : az_okS l G) (nb b : Nat) (hb : m.1 0 12 = nI nb) (hn : nb ≤ 8) (hk : b + 1 ≤ nb) (h : m.1 18 b = (-1)) : az_M l G yX4_uncouple (az_ws yX4_uncouple cX4_uncouple 3 (Option.some FieldType.int)) 3 [.ref (ρ.1 100), .int (nI b)] (AD ρ) (KK G ρ x m ou) 0 0 (az_r (some (.int 0)) (AD ρ) (KK G ρ x (mI m 0 0 2) ou)) := by
  refine az_start hG.1 (by decide +kernel) (Nat.le_of_ble_eq_true rfl) ?_
  intro p e s mm args below meth c C hnm
  show az_W l G 3 _ p e _ s mm args below meth c _ _ 0 0 0 [(0, .ref (ρ.1 100)), (1, .int (nI b))] []
  refine az_aload_n C 0 dX4_uncouple_0 rfl ?_
  refine az_iload_n C 1 dX4_uncouple_1 rfl ?_
  refine az_callV C Y_X4_isBarge cX4 2 0 [.int (nI b)] [] wm_X4_161 wi_X4_isBarge wse_X4_isBarge dX4_uncouple_2 rfl rfl rfl (Mb1 hG nb b hb hn hk) rfl (Nat.le_of_ble_eq_true rfl) (Nat.le_of_ble_eq_true rfl) (Nat.le_of_ble_eq_true rfl) (Nat.le_of_ble_eq_true rfl) (Nat.le_of_ble_eq_true rfl) (az_k1 rfl rfl ?_) (az_k0 rfl)
  refine az_if_ne C 14 dX4_uncouple_5 (by decide) (fun _ => ?_) (fun q => absurd q (by decide))
  refine az_aload_n C 0 dX4_uncouple_14 rfl ?_
  refine az_get C cX4 2 0 18 (v := .ref (ρ.1 118)) wl_X4_57 dX4_uncouple_15 rfl rfl rfl (by decide) ?_
  refine az_iload_n C 1 dX4_uncouple_18 rfl ?_
  refine az_ialdN C 2 18 b (v := m.1 18 b) dX4_uncouple_19 rfl rfl (by omega) (by decide) rfl ?_
  refine az_top ((-1)) h ?_
  refine az_iconst C (v := (-1)) dX4_uncouple_20 (by decide) ?_
  refine az_icmp_ne C 30 dX4_uncouple_21 (by decide) (fun q => absurd (by decide) q) (fun _ => ?_)
  refine az_aload_n C 0 dX4_uncouple_24 rfl ?_
  refine az_iconst C (v := 2) dX4_uncouple_25 (by decide) ?_
  refine az_callV C Y_X4_fails cX4 2 0 [.int 2] [] wm_X4_121 wi_X4_fails wse_X4_fails dX4_uncouple_26 rfl rfl rfl (Mfails hG (2)) rfl (Nat.le_of_ble_eq_true rfl) (Nat.le_of_ble_eq_true rfl) (Nat.le_of_ble_eq_true rfl) (Nat.le_of_ble_eq_true rfl) (Nat.le_of_ble_eq_true rfl) (az_k1 rfl rfl ?_) (az_k0 rfl)
  exact az_iret C rfl dX4_uncouple_29 (Nat.le_of_ble_eq_true rfl) (Nat.le_of_ble_eq_true rfl) ⟨rfl, rfl, rfl⟩

set_option maxHeartbeats 4000000 in
set_option maxRecDepth 100000 in
theorem Muncouple2 (hG : az_okS l G) (nb b : Nat) (hb : m.1 0 12 = nI nb) (hn : nb ≤ 8) (hk : b + 1 ≤ nb) (d : Nat) (hd : d < 8) (h : m.1 18 b = nI d) (rc : List Nat) (fc : Nat) (tc : List Nat) (cc : MCv (mI (mI m 19 d (-1)) 18 b (-1)) d rc fc tc) : az_M l G yX4_uncouple (az_ws yX4_uncouple cX4_uncouple 3 (Option.some FieldType.int)) 3 [.ref (ρ.1 100), .int (nI b)] (AD ρ) (KK G ρ x m ou) 0 0 (az_r (some (.int (nI (tc.length + 1)))) (AD ρ) (KK G ρ x (mI (mI (mI m 19 d (-1)) 18 b (-1)) 0 0 0) ou)) := by
  refine az_start hG.1 (by decide +kernel) (Nat.le_of_ble_eq_true rfl) ?_
  intro p e s mm args below meth c C hnm
  show az_W l G 3 _ p e _ s mm args below meth c _ _ 0 0 0 [(0, .ref (ρ.1 100)), (1, .int (nI b))] []
  refine az_aload_n C 0 dX4_uncouple_0 rfl ?_
  refine az_iload_n C 1 dX4_uncouple_1 rfl ?_
  refine az_callV C Y_X4_isBarge cX4 2 0 [.int (nI b)] [] wm_X4_161 wi_X4_isBarge wse_X4_isBarge dX4_uncouple_2 rfl rfl rfl (Mb1 hG nb b hb hn hk) rfl (Nat.le_of_ble_eq_true rfl) (Nat.le_of_ble_eq_true rfl) (Nat.le_of_ble_eq_true rfl) (Nat.le_of_ble_eq_true rfl) (Nat.le_of_ble_eq_true rfl) (az_k1 rfl rfl ?_) (az_k0 rfl)
  refine az_if_ne C 14 dX4_uncouple_5 (by decide) (fun _ => ?_) (fun q => absurd q (by decide))
  refine az_aload_n C 0 dX4_uncouple_14 rfl ?_
  refine az_get C cX4 2 0 18 (v := .ref (ρ.1 118)) wl_X4_57 dX4_uncouple_15 rfl rfl rfl (by decide) ?_
  refine az_iload_n C 1 dX4_uncouple_18 rfl ?_
  refine az_ialdN C 2 18 b (v := m.1 18 b) dX4_uncouple_19 rfl rfl (by omega) (by decide) rfl ?_
  refine az_top (nI d) h ?_
  refine az_iconst C (v := (-1)) dX4_uncouple_20 (by decide) ?_
  refine az_icmp_ne C 30 dX4_uncouple_21 (by decide) (fun _ => ?_) (fun q => absurd q (nI_m1 hd))
  refine az_aload_n C 0 dX4_uncouple_30 rfl ?_
  refine az_get C cX4 2 0 18 (v := .ref (ρ.1 118)) wl_X4_57 dX4_uncouple_31 rfl rfl rfl (by decide) ?_
  refine az_iload_n C 1 dX4_uncouple_34 rfl ?_
  refine az_ialdN C 2 18 b (v := m.1 18 b) dX4_uncouple_35 rfl rfl (by omega) (by decide) rfl ?_
  refine az_top (nI d) h ?_
  refine az_istore_n C (lv' := [(2, .int (nI d)), (0, .ref (ρ.1 100)), (1, .int (nI b))]) (j := 2) rfl dX4_uncouple_36 (by decide) rfl ?_
  refine az_aload_n C 1 dX4_uncouple_37 rfl ?_
  refine az_get C cX4 2 0 19 (v := .ref (ρ.1 119)) wl_X4_60 dX4_uncouple_38 rfl rfl rfl (by decide) ?_
  refine az_iload_n C 0 dX4_uncouple_41 rfl ?_
  refine az_iconst C (v := (-1)) dX4_uncouple_42 (by decide) ?_
  refine az_iastN C 2 19 d dX4_uncouple_43 rfl rfl (by omega) (by decide) (az_to rfl (K' := (KK G ρ x (mI m 19 d ((-1))) ou)) (KK_M rfl) ?_)
  refine az_aload_n C 1 dX4_uncouple_44 rfl ?_
  refine az_get C cX4 2 0 18 (v := .ref (ρ.1 118)) wl_X4_57 dX4_uncouple_45 rfl rfl rfl (by decide) ?_
  refine az_iload_n C 2 dX4_uncouple_48 rfl ?_
  refine az_iconst C (v := (-1)) dX4_uncouple_49 (by decide) ?_
  refine az_iastN C 2 18 b dX4_uncouple_50 rfl rfl (by omega) (by decide) (az_to rfl (K' := (KK G ρ x (mI (mI m 19 d ((-1))) 18 b ((-1))) ou)) (KK_M rfl) ?_)
  refine az_aload_n C 1 dX4_uncouple_51 rfl ?_
  refine az_aload_n C 1 dX4_uncouple_52 rfl ?_
  refine az_iload_n C 0 dX4_uncouple_53 rfl ?_
  refine az_callV C Y_X4_size cX4 2 0 [.int (nI d)] [.ref (ρ.1 100)] wm_X4_170 wi_X4_size wse_X4_size dX4_uncouple_54 rfl rfl rfl (Msize hG d _ _ tc cc) rfl (Nat.le_of_ble_eq_true rfl) (Nat.le_of_ble_eq_true rfl) (Nat.le_of_ble_eq_true rfl) (Nat.le_of_ble_eq_true rfl) (Nat.le_of_ble_eq_true rfl) (az_k1 rfl rfl ?_) (az_k0 rfl)
  refine az_callV C Y_X4_tells cX4 2 0 [.int (nI ((tc.length + 1)))] [] wm_X4_125 wi_X4_tells wse_X4_tells dX4_uncouple_57 rfl rfl rfl (Mtells hG (nI ((tc.length + 1)))) rfl (Nat.le_of_ble_eq_true rfl) (Nat.le_of_ble_eq_true rfl) (Nat.le_of_ble_eq_true rfl) (Nat.le_of_ble_eq_true rfl) (Nat.le_of_ble_eq_true rfl) (az_k1 rfl rfl ?_) (az_k0 rfl)
  exact az_iret C rfl dX4_uncouple_60 (Nat.le_of_ble_eq_true rfl) (Nat.le_of_ble_eq_true rfl) ⟨rfl, rfl, rfl⟩

set_option maxHeartbeats 4000000 in
set_option maxRecDepth 100000 in
theorem MlevelOf1 (hG : az_okS l G) (nr k : Nat) (hr : m.1 0 1 = nI nr) (hn : nr ≤ 6) (hk : k + 1 ≤ nr) (ha : ¬ m.1 3 k = 0) : az_M l G yX4_levelOf (az_ws yX4_levelOf cX4_levelOf 2 (Option.some FieldType.int)) 3 [.ref (ρ.1 100), .int (nI k)] (AD ρ) (KK G ρ x m ou) 0 0 (az_r (some (.int (levM m k))) (AD ρ) (KK G ρ x (mI m 0 0 0) ou)) := by
  refine az_start hG.1 (by decide +kernel) (Nat.le_of_ble_eq_true rfl) ?_
  intro p e s mm args below meth c C hnm
  show az_W l G 2 _ p e _ s mm args below meth c _ _ 0 0 0 [(0, .ref (ρ.1 100)), (1, .int (nI k))] []
  refine az_aload_n C 0 dX4_levelOf_0 rfl ?_
  refine az_iload_n C 1 dX4_levelOf_1 rfl ?_
  refine az_callV C Y_X4_isReach cX4 2 0 [.int (nI k)] [] wm_X4_128 wi_X4_isReach wse_X4_isReach dX4_levelOf_2 rfl rfl rfl (Mr1 hG nr k hr hn hk) rfl (Nat.le_of_ble_eq_true rfl) (Nat.le_of_ble_eq_true rfl) (Nat.le_of_ble_eq_true rfl) (Nat.le_of_ble_eq_true rfl) (Nat.le_of_ble_eq_true rfl) (az_k1 rfl rfl ?_) (az_k0 rfl)
  refine az_if_eq C 20 dX4_levelOf_5 (by decide) (fun q => absurd q (by decide)) (fun _ => ?_)
  refine az_aload_n C 0 dX4_levelOf_8 rfl ?_
  refine az_aload_n C 0 dX4_levelOf_9 rfl ?_
  refine az_iload_n C 1 dX4_levelOf_10 rfl ?_
  refine az_callV C Y_X4_level cX4 2 0 [.int (nI k)] [.ref (ρ.1 100)] wm_X4_135 wi_X4_level wse_X4_level dX4_levelOf_11 rfl rfl rfl (Mlevel hG k (by omega) ha) rfl (Nat.le_of_ble_eq_true rfl) (Nat.le_of_ble_eq_true rfl) (Nat.le_of_ble_eq_true rfl) (Nat.le_of_ble_eq_true rfl) (Nat.le_of_ble_eq_true rfl) (az_k1 rfl rfl ?_) (az_k0 rfl)
  refine az_callV C Y_X4_tells cX4 2 0 [.int (levM m k)] [] wm_X4_125 wi_X4_tells wse_X4_tells dX4_levelOf_14 rfl rfl rfl (Mtells hG (levM m k)) rfl (Nat.le_of_ble_eq_true rfl) (Nat.le_of_ble_eq_true rfl) (Nat.le_of_ble_eq_true rfl) (Nat.le_of_ble_eq_true rfl) (Nat.le_of_ble_eq_true rfl) (az_k1 rfl rfl ?_) (az_k0 rfl)
  refine az_goto C 25 dX4_levelOf_17 (by decide) ?_
  exact az_iret C rfl dX4_levelOf_25 (Nat.le_of_ble_eq_true rfl) (Nat.le_of_ble_eq_true rfl) ⟨rfl, rfl, rfl⟩

set_option maxHeartbeats 4000000 in
set_option maxRecDepth 100000 in
theorem MlevelOf0 (hG : az_okS l G) (nr : Nat) (v : Int32) (hr : m.1 0 1 = nI nr) (hn : nr ≤ 6) (hv : oo nr v) : az_M l G yX4_levelOf (az_ws yX4_levelOf cX4_levelOf 2 (Option.some FieldType.int)) 3 [.ref (ρ.1 100), .int v] (AD ρ) (KK G ρ x m ou) 0 0 (az_r (some (.int 0)) (AD ρ) (KK G ρ x (mI m 0 0 1) ou)) := by
  refine az_start hG.1 (by decide +kernel) (Nat.le_of_ble_eq_true rfl) ?_
  intro p e s mm args below meth c C hnm
  show az_W l G 2 _ p e _ s mm args below meth c _ _ 0 0 0 [(0, .ref (ρ.1 100)), (1, .int v)] []
  refine az_aload_n C 0 dX4_levelOf_0 rfl ?_
  refine az_iload_n C 1 dX4_levelOf_1 rfl ?_
  refine az_callV C Y_X4_isReach cX4 2 0 [.int v] [] wm_X4_128 wi_X4_isReach wse_X4_isReach dX4_levelOf_2 rfl rfl rfl (Mr0 hG nr v hr hn (by omega) hv) rfl (Nat.le_of_ble_eq_true rfl) (Nat.le_of_ble_eq_true rfl) (Nat.le_of_ble_eq_true rfl) (Nat.le_of_ble_eq_true rfl) (Nat.le_of_ble_eq_true rfl) (az_k1 rfl rfl ?_) (az_k0 rfl)
  refine az_if_eq C 20 dX4_levelOf_5 (by decide) (fun _ => ?_) (fun q => absurd (by decide) q)
  refine az_aload_n C 0 dX4_levelOf_20 rfl ?_
  refine az_iconst C (v := 1) dX4_levelOf_21 (by decide) ?_
  refine az_callV C Y_X4_fails cX4 2 0 [.int 1] [] wm_X4_121 wi_X4_fails wse_X4_fails dX4_levelOf_22 rfl rfl rfl (Mfails hG (1)) rfl (Nat.le_of_ble_eq_true rfl) (Nat.le_of_ble_eq_true rfl) (Nat.le_of_ble_eq_true rfl) (Nat.le_of_ble_eq_true rfl) (Nat.le_of_ble_eq_true rfl) (az_k1 rfl rfl ?_) (az_k0 rfl)
  exact az_iret C rfl dX4_levelOf_25 (Nat.le_of_ble_eq_true rfl) (Nat.le_of_ble_eq_true rfl) ⟨rfl, rfl, rfl⟩

theorem nar_01 (c : Prop) (d : Decidable c) : narrow .boolean (.int (@ite Int32 c d 0 1)) = .int (@ite Int32 c d 0 1) := by split <;> rfl
set_option maxHeartbeats 4000000 in
set_option maxRecDepth 100000 in
theorem MisFull0 (hG : az_okS l G) (nr : Nat) (v : Int32) (hr : m.1 0 1 = nI nr) (hn : nr ≤ 6) (h1 : 1 ≤ nr) (hv : oo (nr - 1) v) : az_M l G yX4_isFull (az_ws yX4_isFull cX4_isFull 2 (Option.some FieldType.boolean)) 3 [.ref (ρ.1 100), .int v] (AD ρ) (KK G ρ x m ou) 0 0 (az_r (some (.int 0)) (AD ρ) (KK G ρ x (mI m 0 0 1) ou)) := by
  refine az_start hG.1 (by decide +kernel) (Nat.le_of_ble_eq_true rfl) ?_
  intro p e s mm args below meth c C hnm
  show az_W l G 2 _ p e _ s mm args below meth c _ _ 0 0 0 [(0, .ref (ρ.1 100)), (1, .int v)] []
  refine az_aload_n C 0 dX4_isFull_0 rfl ?_
  refine az_aload_n C 0 dX4_isFull_1 rfl ?_
  refine az_iload_n C 1 dX4_isFull_2 rfl ?_
  refine az_callV C Y_X4_isLock cX4 2 0 [.int v] [.ref (ρ.1 100)] wm_X4_138 wi_X4_isLock wse_X4_isLock dX4_isFull_3 rfl rfl rfl (Ml0 hG nr v hr hn (by omega) hv) rfl (Nat.le_of_ble_eq_true rfl) (Nat.le_of_ble_eq_true rfl) (Nat.le_of_ble_eq_true rfl) (Nat.le_of_ble_eq_true rfl) (Nat.le_of_ble_eq_true rfl) (az_k1 rfl rfl ?_) (az_k0 rfl)
  refine az_if_eq C 13 dX4_isFull_6 (by decide) (fun _ => ?_) (fun q => absurd (by decide) q)
  refine az_iconst C (v := 1) dX4_isFull_13 (by decide) ?_
  refine az_aload_n C 0 dX4_isFull_14 rfl ?_
  refine az_iload_n C 1 dX4_isFull_15 rfl ?_
  refine az_callV C Y_X4_isLock cX4 2 0 [.int v] [.int 1, .ref (ρ.1 100)] wm_X4_138 wi_X4_isLock wse_X4_isLock dX4_isFull_16 rfl rfl rfl (Ml0 hG nr v hr hn (by omega) hv) rfl (Nat.le_of_ble_eq_true rfl) (Nat.le_of_ble_eq_true rfl) (Nat.le_of_ble_eq_true rfl) (Nat.le_of_ble_eq_true rfl) (Nat.le_of_ble_eq_true rfl) (az_k1 rfl rfl ?_) (az_k0 rfl)
  refine az_if_eq C 35 dX4_isFull_19 (by decide) (fun _ => ?_) (fun q => absurd (by decide) q)
  refine az_iconst C (v := 0) dX4_isFull_35 (by decide) ?_
  refine az_callV C Y_X4_asks cX4 2 0 [.int 1, .int 0] [] wm_X4_141 wi_X4_asks wse_X4_asks dX4_isFull_36 rfl rfl rfl (Masks hG 1 0) rfl (Nat.le_of_ble_eq_true rfl) (Nat.le_of_ble_eq_true rfl) (Nat.le_of_ble_eq_true rfl) (Nat.le_of_ble_eq_true rfl) (Nat.le_of_ble_eq_true rfl) (az_k1 (by rw [show (if ¬ (1 : Int32) = 0 then (0 : Int32) else if (0 : Int32) = 0 then 0 else 1) = 0 from by decide]) rfl ?_) (az_k0 rfl)
  exact az_zret C .boolean rfl rfl dX4_isFull_39 (Nat.le_of_ble_eq_true rfl) (Nat.le_of_ble_eq_true rfl) ⟨rfl, rfl, rfl⟩

set_option maxHeartbeats 4000000 in
set_option maxRecDepth 100000 in
theorem MisFull1 (hG : az_okS l G) (nr k : Nat) (hr : m.1 0 1 = nI nr) (hn : nr ≤ 6) (hk : k + 2 ≤ nr) : az_M l G yX4_isFull (az_ws yX4_isFull cX4_isFull 2 (Option.some FieldType.boolean)) 3 [.ref (ρ.1 100), .int (nI k)] (AD ρ) (KK G ρ x m ou) 0 0 (az_r (some (.int (if (if m.1 11 k = 0 then (0 : Int32) else 1) = 0 then 0 else 1))) (AD ρ) (KK G ρ x (mI m 0 0 0) ou)) := by
  refine az_start hG.1 (by decide +kernel) (Nat.le_of_ble_eq_true rfl) ?_
  intro p e s mm args below meth c C hnm
  show az_W l G 2 _ p e _ s mm args below meth c _ _ 0 0 0 [(0, .ref (ρ.1 100)), (1, .int (nI k))] []
  refine az_aload_n C 0 dX4_isFull_0 rfl ?_
  refine az_aload_n C 0 dX4_isFull_1 rfl ?_
  refine az_iload_n C 1 dX4_isFull_2 rfl ?_
  refine az_callV C Y_X4_isLock cX4 2 0 [.int (nI k)] [.ref (ρ.1 100)] wm_X4_138 wi_X4_isLock wse_X4_isLock dX4_isFull_3 rfl rfl rfl (Ml1 hG nr k hr hn hk) rfl (Nat.le_of_ble_eq_true rfl) (Nat.le_of_ble_eq_true rfl) (Nat.le_of_ble_eq_true rfl) (Nat.le_of_ble_eq_true rfl) (Nat.le_of_ble_eq_true rfl) (az_k1 rfl rfl ?_) (az_k0 rfl)
  refine az_if_eq C 13 dX4_isFull_6 (by decide) (fun q => absurd q (by decide)) (fun _ => ?_)
  refine az_iconst C (v := 0) dX4_isFull_9 (by decide) ?_
  refine az_goto C 14 dX4_isFull_10 (by decide) ?_
  refine az_aload_n C 0 dX4_isFull_14 rfl ?_
  refine az_iload_n C 1 dX4_isFull_15 rfl ?_
  refine az_callV C Y_X4_isLock cX4 2 0 [.int (nI k)] [.int 0, .ref (ρ.1 100)] wm_X4_138 wi_X4_isLock wse_X4_isLock dX4_isFull_16 rfl rfl rfl (Ml1 hG nr k hr hn hk) rfl (Nat.le_of_ble_eq_true rfl) (Nat.le_of_ble_eq_true rfl) (Nat.le_of_ble_eq_true rfl) (Nat.le_of_ble_eq_true rfl) (Nat.le_of_ble_eq_true rfl) (az_k1 rfl rfl ?_) (az_k0 rfl)
  refine az_if_eq C 35 dX4_isFull_19 (by decide) (fun q => absurd q (by decide)) (fun _ => ?_)
  refine az_aload_n C 0 dX4_isFull_22 rfl ?_
  refine az_get C cX4 2 0 11 (v := .ref (ρ.1 111)) wl_X4_38 dX4_isFull_23 rfl rfl rfl (by decide) ?_
  refine az_iload_n C 1 dX4_isFull_26 rfl ?_
  refine az_zaldN C 2 11 k (v := m.1 11 k) dX4_isFull_27 rfl rfl (by omega) (by decide) rfl ?_
  suffices J1 : az_W l G 2 (az_Q G (az_r (some (.int (if (if m.1 11 k = 0 then (0 : Int32) else 1) = 0 then 0 else 1))) (AD ρ) (KK G ρ x (mI m 0 0 0) ou)) below args s 0 0) p e _ s mm args below meth c (AD ρ) (KK G ρ x m ou) _ _ 36 [(0, .ref (ρ.1 100)), (1, .int (nI k))] [.int ((if m.1 11 k = 0 then 0 else 1)), .int 0, .ref (ρ.1 100)] by
    refine az_if_eq C 35 dX4_isFull_28 (by decide) (fun c2 => ?_) (fun c2 => ?_)
    · refine az_iconst C (v := 0) dX4_isFull_35 (by decide) ?_
      first | rw [if_pos (show m.1 11 k = 0 from c2)] at J1 ⊢ | rw [if_pos (show m.1 11 k = 0 from c2)] at J1
      exact az_lv [0, 1] rfl J1
    · refine az_iconst C (v := 1) dX4_isFull_31 (by decide) ?_
      refine az_goto C 36 dX4_isFull_32 (by decide) ?_
      first | rw [if_neg (show ¬ (m.1 11 k = 0) from c2)] at J1 ⊢ | rw [if_neg (show ¬ (m.1 11 k = 0) from c2)] at J1
      exact az_lv [0, 1] rfl J1
  refine az_callV C Y_X4_asks cX4 2 0 [.int 0, .int ((if m.1 11 k = 0 then 0 else 1))] [] wm_X4_141 wi_X4_asks wse_X4_asks dX4_isFull_36 rfl rfl rfl (Masks hG 0 ((if m.1 11 k = 0 then 0 else 1))) rfl (Nat.le_of_ble_eq_true rfl) (Nat.le_of_ble_eq_true rfl) (Nat.le_of_ble_eq_true rfl) (Nat.le_of_ble_eq_true rfl) (Nat.le_of_ble_eq_true rfl) (az_k1 (by rw [if_neg (show ¬ ¬ (0 : Int32) = 0 by decide)]) rfl ?_) (az_k0 rfl)
  exact az_zret C .boolean rfl (nar_01 _ _) dX4_isFull_39 (Nat.le_of_ble_eq_true rfl) (Nat.le_of_ble_eq_true rfl) ⟨rfl, rfl, rfl⟩

set_option maxHeartbeats 4000000 in
set_option maxRecDepth 100000 in
theorem Mturn0 (hG : az_okS l G) (nr : Nat) (v : Int32) (hr : m.1 0 1 = nI nr) (hn : nr ≤ 6) (h1 : 1 ≤ nr) (hv : oo (nr - 1) v) : az_M l G yX4_turn (az_ws yX4_turn cX4_turn 2 (Option.some FieldType.boolean)) 5 [.ref (ρ.1 100), .int v] (AD ρ) (KK G ρ x m ou) 0 0 (az_r (some (.int 0)) (AD ρ) (KK G ρ x (mI m 0 0 1) ou)) := by
  refine az_start hG.1 (by decide +kernel) (Nat.le_of_ble_eq_true rfl) ?_
  intro p e s mm args below meth c C hnm
  show az_W l G 2 _ p e _ s mm args below meth c _ _ 0 0 0 [(0, .ref (ρ.1 100)), (1, .int v)] []
  refine az_aload_n C 0 dX4_turn_0 rfl ?_
  refine az_iload_n C 1 dX4_turn_1 rfl ?_
  refine az_callV C Y_X4_isLock cX4 2 0 [.int v] [] wm_X4_138 wi_X4_isLock wse_X4_isLock dX4_turn_2 rfl rfl rfl (Ml0 hG nr v hr hn (by omega) hv) rfl (Nat.le_of_ble_eq_true rfl) (Nat.le_of_ble_eq_true rfl) (Nat.le_of_ble_eq_true rfl) (Nat.le_of_ble_eq_true rfl) (Nat.le_of_ble_eq_true rfl) (az_k1 rfl rfl ?_) (az_k0 rfl)
  refine az_if_ne C 15 dX4_turn_5 (by decide) (fun q => absurd (by decide) q) (fun _ => ?_)
  refine az_aload_n C 0 dX4_turn_8 rfl ?_
  refine az_iconst C (v := 1) dX4_turn_9 (by decide) ?_
  refine az_iconst C (v := 0) dX4_turn_10 (by decide) ?_
  refine az_callV C Y_X4_asks cX4 2 0 [.int 1, .int 0] [] wm_X4_141 wi_X4_asks wse_X4_asks dX4_turn_11 rfl rfl rfl (Masks hG 1 0) rfl (Nat.le_of_ble_eq_true rfl) (Nat.le_of_ble_eq_true rfl) (Nat.le_of_ble_eq_true rfl) (Nat.le_of_ble_eq_true rfl) (Nat.le_of_ble_eq_true rfl) (az_k1 (by rw [show (if ¬ (1 : Int32) = 0 then (0 : Int32) else if (0 : Int32) = 0 then 0 else 1) = 0 from by decide]) rfl ?_) (az_k0 rfl)
  exact az_zret C .boolean rfl rfl dX4_turn_14 (Nat.le_of_ble_eq_true rfl) (Nat.le_of_ble_eq_true rfl) ⟨rfl, rfl, rfl⟩

set_option maxHeartbeats 4000000 in
set_option maxRecDepth 100000 in
theorem Mturn1 (hG : az_okS l G) (nr k : Nat) (hr : m.1 0 1 = nI nr) (hn : nr ≤ 6) (hk : k + 2 ≤ nr) (hf : ¬ m.1 11 k = 0) (hm : mvok m (nr + 1 - (k + 1))) : az_M l G yX4_turn (az_ws yX4_turn cX4_turn 2 (Option.some FieldType.boolean)) 5 [.ref (ρ.1 100), .int (nI k)] (AD ρ) (KK G ρ x m ou) 0 0 (az_r (some (.int 0)) (AD ρ) (KK G ρ x (mI (emptiesM m nr k) 0 0 0) ou)) := by
  refine az_start hG.1 (by decide +kernel) (Nat.le_of_ble_eq_true rfl) ?_
  intro p e s mm args below meth c C hnm
  show az_W l G 2 _ p e _ s mm args below meth c _ _ 0 0 0 [(0, .ref (ρ.1 100)), (1, .int (nI k))] []
  refine az_aload_n C 0 dX4_turn_0 rfl ?_
  refine az_iload_n C 1 dX4_turn_1 rfl ?_
  refine az_callV C Y_X4_isLock cX4 2 0 [.int (nI k)] [] wm_X4_138 wi_X4_isLock wse_X4_isLock dX4_turn_2 rfl rfl rfl (Ml1 hG nr k hr hn hk) rfl (Nat.le_of_ble_eq_true rfl) (Nat.le_of_ble_eq_true rfl) (Nat.le_of_ble_eq_true rfl) (Nat.le_of_ble_eq_true rfl) (Nat.le_of_ble_eq_true rfl) (az_k1 rfl rfl ?_) (az_k0 rfl)
  refine az_if_ne C 15 dX4_turn_5 (by decide) (fun _ => ?_) (fun q => absurd q (by decide))
  refine az_aload_n C 0 dX4_turn_15 rfl ?_
  refine az_get C cX4 2 0 11 (v := .ref (ρ.1 111)) wl_X4_38 dX4_turn_16 rfl rfl rfl (by decide) ?_
  refine az_iload_n C 1 dX4_turn_19 rfl ?_
  refine az_zaldN C 2 11 k (v := m.1 11 k) dX4_turn_20 rfl rfl (by omega) (by decide) rfl ?_
  refine az_if_eq C 36 dX4_turn_21 (by decide) (fun q => absurd q hf) (fun _ => ?_)
  refine az_aload_n C 0 dX4_turn_24 rfl ?_
  refine az_iload_n C 1 dX4_turn_25 rfl ?_
  refine az_callV C Y_X4_empties cX4 2 0 [.int (nI k)] [] wm_X4_145 wi_X4_empties wse_X4_empties dX4_turn_26 rfl rfl rfl (Mempties hG nr k hn hk hr hm) rfl (Nat.le_of_ble_eq_true rfl) (Nat.le_of_ble_eq_true rfl) (Nat.le_of_ble_eq_true rfl) (Nat.le_of_ble_eq_true rfl) (Nat.le_of_ble_eq_true rfl) (az_k1 rfl rfl ?_) (az_k0 rfl)
  refine az_aload_n C 0 dX4_turn_29 rfl ?_
  refine az_iconst C (v := 0) dX4_turn_30 (by decide) ?_
  refine az_iconst C (v := 0) dX4_turn_31 (by decide) ?_
  refine az_callV C Y_X4_asks cX4 2 0 [.int 0, .int 0] [] wm_X4_141 wi_X4_asks wse_X4_asks dX4_turn_32 rfl rfl rfl (Masks hG 0 0) rfl (Nat.le_of_ble_eq_true rfl) (Nat.le_of_ble_eq_true rfl) (Nat.le_of_ble_eq_true rfl) (Nat.le_of_ble_eq_true rfl) (Nat.le_of_ble_eq_true rfl) (az_k1 (by rw [show (if ¬ (0 : Int32) = 0 then (0 : Int32) else if (0 : Int32) = 0 then 0 else 1) = 0 from by decide]) rfl ?_) (az_k0 rfl)
  exact az_zret C .boolean rfl rfl dX4_turn_35 (Nat.le_of_ble_eq_true rfl) (Nat.le_of_ble_eq_true rfl) ⟨rfl, rfl, rfl⟩

set_option maxHeartbeats 4000000 in
set_option maxRecDepth 100000 in
theorem Mturn2 (hG : az_okS l G) (nr k : Nat) (hr : m.1 0 1 = nI nr) (hn : nr ≤ 6) (hk : k + 2 ≤ nr) (hf : m.1 11 k = 0) (hw : ¬ m.1 7 k ≤ m.1 4 k) : az_M l G yX4_turn (az_ws yX4_turn cX4_turn 2 (Option.some FieldType.boolean)) 5 [.ref (ρ.1 100), .int (nI k)] (AD ρ) (KK G ρ x m ou) 0 0 (az_r (some (.int 0)) (AD ρ) (KK G ρ x (mI m 0 0 2) ou)) := by
  refine az_start hG.1 (by decide +kernel) (Nat.le_of_ble_eq_true rfl) ?_
  intro p e s mm args below meth c C hnm
  show az_W l G 2 _ p e _ s mm args below meth c _ _ 0 0 0 [(0, .ref (ρ.1 100)), (1, .int (nI k))] []
  refine az_aload_n C 0 dX4_turn_0 rfl ?_
  refine az_iload_n C 1 dX4_turn_1 rfl ?_
  refine az_callV C Y_X4_isLock cX4 2 0 [.int (nI k)] [] wm_X4_138 wi_X4_isLock wse_X4_isLock dX4_turn_2 rfl rfl rfl (Ml1 hG nr k hr hn hk) rfl (Nat.le_of_ble_eq_true rfl) (Nat.le_of_ble_eq_true rfl) (Nat.le_of_ble_eq_true rfl) (Nat.le_of_ble_eq_true rfl) (Nat.le_of_ble_eq_true rfl) (az_k1 rfl rfl ?_) (az_k0 rfl)
  refine az_if_ne C 15 dX4_turn_5 (by decide) (fun _ => ?_) (fun q => absurd q (by decide))
  refine az_aload_n C 0 dX4_turn_15 rfl ?_
  refine az_get C cX4 2 0 11 (v := .ref (ρ.1 111)) wl_X4_38 dX4_turn_16 rfl rfl rfl (by decide) ?_
  refine az_iload_n C 1 dX4_turn_19 rfl ?_
  refine az_zaldN C 2 11 k (v := m.1 11 k) dX4_turn_20 rfl rfl (by omega) (by decide) rfl ?_
  refine az_if_eq C 36 dX4_turn_21 (by decide) (fun _ => ?_) (fun q => absurd hf q)
  refine az_aload_n C 0 dX4_turn_36 rfl ?_
  refine az_get C cX4 2 0 4 (v := .ref (ρ.1 104)) wl_X4_17 dX4_turn_37 rfl rfl rfl (by decide) ?_
  refine az_iload_n C 1 dX4_turn_40 rfl ?_
  refine az_ialdN C 2 4 k (v := m.1 4 k) dX4_turn_41 rfl rfl (by omega) (by decide) rfl ?_
  refine az_aload_n C 0 dX4_turn_42 rfl ?_
  refine az_get C cX4 2 0 7 (v := .ref (ρ.1 107)) wl_X4_26 dX4_turn_43 rfl rfl rfl (by decide) ?_
  refine az_iload_n C 1 dX4_turn_46 rfl ?_
  refine az_ialdN C 2 7 k (v := m.1 7 k) dX4_turn_47 rfl rfl (by omega) (by decide) rfl ?_
  refine az_icmp_ge C 58 dX4_turn_48 (by decide) (fun q => absurd q hw) (fun _ => ?_)
  refine az_aload_n C 0 dX4_turn_51 rfl ?_
  refine az_iconst C (v := 2) dX4_turn_52 (by decide) ?_
  refine az_iconst C (v := 0) dX4_turn_53 (by decide) ?_
  refine az_callV C Y_X4_asks cX4 2 0 [.int 2, .int 0] [] wm_X4_141 wi_X4_asks wse_X4_asks dX4_turn_54 rfl rfl rfl (Masks hG 2 0) rfl (Nat.le_of_ble_eq_true rfl) (Nat.le_of_ble_eq_true rfl) (Nat.le_of_ble_eq_true rfl) (Nat.le_of_ble_eq_true rfl) (Nat.le_of_ble_eq_true rfl) (az_k1 (by rw [show (if ¬ (2 : Int32) = 0 then (0 : Int32) else if (0 : Int32) = 0 then 0 else 1) = 0 from by decide]) rfl ?_) (az_k0 rfl)
  exact az_zret C .boolean rfl rfl dX4_turn_57 (Nat.le_of_ble_eq_true rfl) (Nat.le_of_ble_eq_true rfl) ⟨rfl, rfl, rfl⟩

set_option maxHeartbeats 4000000 in
set_option maxRecDepth 100000 in
theorem Mturn3 (hG : az_okS l G) (nr k : Nat) (hr : m.1 0 1 = nI nr) (hn : nr ≤ 6) (hk : k + 2 ≤ nr) (hf : m.1 11 k = 0) (hw : m.1 7 k ≤ m.1 4 k) (hm : mvok m 0) : az_M l G yX4_turn (az_ws yX4_turn cX4_turn 2 (Option.some FieldType.boolean)) 5 [.ref (ρ.1 100), .int (nI k)] (AD ρ) (KK G ρ x m ou) 0 0 (az_r (some (.int 1)) (AD ρ) (KK G ρ x (mI (fillsM m k) 0 0 0) ou)) := by
  refine az_start hG.1 (by decide +kernel) (Nat.le_of_ble_eq_true rfl) ?_
  intro p e s mm args below meth c C hnm
  show az_W l G 2 _ p e _ s mm args below meth c _ _ 0 0 0 [(0, .ref (ρ.1 100)), (1, .int (nI k))] []
  refine az_aload_n C 0 dX4_turn_0 rfl ?_
  refine az_iload_n C 1 dX4_turn_1 rfl ?_
  refine az_callV C Y_X4_isLock cX4 2 0 [.int (nI k)] [] wm_X4_138 wi_X4_isLock wse_X4_isLock dX4_turn_2 rfl rfl rfl (Ml1 hG nr k hr hn hk) rfl (Nat.le_of_ble_eq_true rfl) (Nat.le_of_ble_eq_true rfl) (Nat.le_of_ble_eq_true rfl) (Nat.le_of_ble_eq_true rfl) (Nat.le_of_ble_eq_true rfl) (az_k1 rfl rfl ?_) (az_k0 rfl)
  refine az_if_ne C 15 dX4_turn_5 (by decide) (fun _ => ?_) (fun q => absurd q (by decide))
  refine az_aload_n C 0 dX4_turn_15 rfl ?_
  refine az_get C cX4 2 0 11 (v := .ref (ρ.1 111)) wl_X4_38 dX4_turn_16 rfl rfl rfl (by decide) ?_
  refine az_iload_n C 1 dX4_turn_19 rfl ?_
  refine az_zaldN C 2 11 k (v := m.1 11 k) dX4_turn_20 rfl rfl (by omega) (by decide) rfl ?_
  refine az_if_eq C 36 dX4_turn_21 (by decide) (fun _ => ?_) (fun q => absurd hf q)
  refine az_aload_n C 0 dX4_turn_36 rfl ?_
  refine az_get C cX4 2 0 4 (v := .ref (ρ.1 104)) wl_X4_17 dX4_turn_37 rfl rfl rfl (by decide) ?_
  refine az_iload_n C 1 dX4_turn_40 rfl ?_
  refine az_ialdN C 2 4 k (v := m.1 4 k) dX4_turn_41 rfl rfl (by omega) (by decide) rfl ?_
  refine az_aload_n C 0 dX4_turn_42 rfl ?_
  refine az_get C cX4 2 0 7 (v := .ref (ρ.1 107)) wl_X4_26 dX4_turn_43 rfl rfl rfl (by decide) ?_
  refine az_iload_n C 1 dX4_turn_46 rfl ?_
  refine az_ialdN C 2 7 k (v := m.1 7 k) dX4_turn_47 rfl rfl (by omega) (by decide) rfl ?_
  refine az_icmp_ge C 58 dX4_turn_48 (by decide) (fun _ => ?_) (fun q => absurd hw q)
  refine az_aload_n C 0 dX4_turn_58 rfl ?_
  refine az_iload_n C 1 dX4_turn_59 rfl ?_
  refine az_callV C Y_X4_fills cX4 2 0 [.int (nI k)] [] wm_X4_149 wi_X4_fills wse_X4_fills dX4_turn_60 rfl rfl rfl (Mfills hG k (by omega) hm) rfl (Nat.le_of_ble_eq_true rfl) (Nat.le_of_ble_eq_true rfl) (Nat.le_of_ble_eq_true rfl) (Nat.le_of_ble_eq_true rfl) (Nat.le_of_ble_eq_true rfl) (az_k1 rfl rfl ?_) (az_k0 rfl)
  refine az_aload_n C 0 dX4_turn_63 rfl ?_
  refine az_iconst C (v := 0) dX4_turn_64 (by decide) ?_
  refine az_iconst C (v := 1) dX4_turn_65 (by decide) ?_
  refine az_callV C Y_X4_asks cX4 2 0 [.int 0, .int 1] [] wm_X4_141 wi_X4_asks wse_X4_asks dX4_turn_66 rfl rfl rfl (Masks hG 0 1) rfl (Nat.le_of_ble_eq_true rfl) (Nat.le_of_ble_eq_true rfl) (Nat.le_of_ble_eq_true rfl) (Nat.le_of_ble_eq_true rfl) (Nat.le_of_ble_eq_true rfl) (az_k1 (by rw [show (if ¬ (0 : Int32) = 0 then (0 : Int32) else if (1 : Int32) = 0 then 0 else 1) = 1 from by decide]) rfl ?_) (az_k0 rfl)
  exact az_zret C .boolean rfl rfl dX4_turn_69 (Nat.le_of_ble_eq_true rfl) (Nat.le_of_ble_eq_true rfl) ⟨rfl, rfl, rfl⟩

set_option maxHeartbeats 4000000 in
set_option maxRecDepth 100000 in
theorem Mrain0 (hG : az_okS l G) (nr : Nat) (v u : Int32) (hr : m.1 0 1 = nI nr) (hn : nr ≤ 6) (hv : oo nr v) : az_M l G yX4_rain (az_ws yX4_rain cX4_rain 4 (Option.some FieldType.int)) 5 [.ref (ρ.1 100), .int v, .int u] (AD ρ) (KK G ρ x m ou) 0 0 (az_r (some (.int 0)) (AD ρ) (KK G ρ x (mI m 0 0 1) ou)) := by
  refine az_start hG.1 (by decide +kernel) (Nat.le_of_ble_eq_true rfl) ?_
  intro p e s mm args below meth c C hnm
  show az_W l G 4 _ p e _ s mm args below meth c _ _ 0 0 0 [(0, .ref (ρ.1 100)), (1, .int v), (2, .int u)] []
  refine az_aload_n C 0 dX4_rain_0 rfl ?_
  refine az_iload_n C 1 dX4_rain_1 rfl ?_
  refine az_callV C Y_X4_isReach cX4 2 0 [.int v] [] wm_X4_128 wi_X4_isReach wse_X4_isReach dX4_rain_2 rfl rfl rfl (Mr0 hG nr v hr hn (by omega) hv) rfl (Nat.le_of_ble_eq_true rfl) (Nat.le_of_ble_eq_true rfl) (Nat.le_of_ble_eq_true rfl) (Nat.le_of_ble_eq_true rfl) (Nat.le_of_ble_eq_true rfl) (az_k1 rfl rfl ?_) (az_k0 rfl)
  refine az_if_ne C 14 dX4_rain_5 (by decide) (fun q => absurd (by decide) q) (fun _ => ?_)
  refine az_aload_n C 0 dX4_rain_8 rfl ?_
  refine az_iconst C (v := 1) dX4_rain_9 (by decide) ?_
  refine az_callV C Y_X4_fails cX4 2 0 [.int 1] [] wm_X4_121 wi_X4_fails wse_X4_fails dX4_rain_10 rfl rfl rfl (Mfails hG (1)) rfl (Nat.le_of_ble_eq_true rfl) (Nat.le_of_ble_eq_true rfl) (Nat.le_of_ble_eq_true rfl) (Nat.le_of_ble_eq_true rfl) (Nat.le_of_ble_eq_true rfl) (az_k1 rfl rfl ?_) (az_k0 rfl)
  exact az_iret C rfl dX4_rain_13 (Nat.le_of_ble_eq_true rfl) (Nat.le_of_ble_eq_true rfl) ⟨rfl, rfl, rfl⟩

set_option maxHeartbeats 4000000 in
set_option maxRecDepth 100000 in
theorem Mrain1 (hG : az_okS l G) (nr k : Nat) (hr : m.1 0 1 = nI nr) (hn : nr ≤ 6) (hk : k + 1 ≤ nr) (u : Int32) (hu : inI u 1 5000 = 0) : az_M l G yX4_rain (az_ws yX4_rain cX4_rain 4 (Option.some FieldType.int)) 5 [.ref (ρ.1 100), .int (nI k), .int u] (AD ρ) (KK G ρ x m ou) 0 0 (az_r (some (.int 0)) (AD ρ) (KK G ρ x (mI m 0 0 2) ou)) := by
  refine az_start hG.1 (by decide +kernel) (Nat.le_of_ble_eq_true rfl) ?_
  intro p e s mm args below meth c C hnm
  show az_W l G 4 _ p e _ s mm args below meth c _ _ 0 0 0 [(0, .ref (ρ.1 100)), (1, .int (nI k)), (2, .int u)] []
  refine az_aload_n C 0 dX4_rain_0 rfl ?_
  refine az_iload_n C 1 dX4_rain_1 rfl ?_
  refine az_callV C Y_X4_isReach cX4 2 0 [.int (nI k)] [] wm_X4_128 wi_X4_isReach wse_X4_isReach dX4_rain_2 rfl rfl rfl (Mr1 hG nr k hr hn hk) rfl (Nat.le_of_ble_eq_true rfl) (Nat.le_of_ble_eq_true rfl) (Nat.le_of_ble_eq_true rfl) (Nat.le_of_ble_eq_true rfl) (Nat.le_of_ble_eq_true rfl) (az_k1 rfl rfl ?_) (az_k0 rfl)
  refine az_if_ne C 14 dX4_rain_5 (by decide) (fun _ => ?_) (fun q => absurd q (by decide))
  refine az_iload_n C 2 dX4_rain_14 rfl ?_
  refine az_iconst C (v := 1) dX4_rain_15 (by decide) ?_
  refine az_sipush C (v := 5000) dX4_rain_16 (by decide) ?_
  refine az_callS C Y_X4_in [.int u, .int 1, .int 5000] [] wm_X4_104 wst_X4_in dX4_rain_19 rfl (Min hG (u) (1) (5000)) rfl (Nat.le_of_ble_eq_true rfl) (Nat.le_of_ble_eq_true rfl) (Nat.le_of_ble_eq_true rfl) (Nat.le_of_ble_eq_true rfl) (Nat.le_of_ble_eq_true rfl) (az_k1 rfl rfl ?_) (az_k0 rfl)
  refine az_if_ne C 31 dX4_rain_22 (by decide) (fun q => absurd hu q) (fun _ => ?_)
  refine az_aload_n C 0 dX4_rain_25 rfl ?_
  refine az_iconst C (v := 2) dX4_rain_26 (by decide) ?_
  refine az_callV C Y_X4_fails cX4 2 0 [.int 2] [] wm_X4_121 wi_X4_fails wse_X4_fails dX4_rain_27 rfl rfl rfl (Mfails hG (2)) rfl (Nat.le_of_ble_eq_true rfl) (Nat.le_of_ble_eq_true rfl) (Nat.le_of_ble_eq_true rfl) (Nat.le_of_ble_eq_true rfl) (Nat.le_of_ble_eq_true rfl) (az_k1 rfl rfl ?_) (az_k0 rfl)
  exact az_iret C rfl dX4_rain_30 (Nat.le_of_ble_eq_true rfl) (Nat.le_of_ble_eq_true rfl) ⟨rfl, rfl, rfl⟩

set_option maxHeartbeats 4000000 in
set_option maxRecDepth 100000 in
theorem Mrain2 (hG : az_okS l G) (nr k : Nat) (hr : m.1 0 1 = nI nr) (hn : nr ≤ 6) (hk : k + 1 ≤ nr) (u : Int32) (hu : 1 ≤ u ∧ u ≤ 5000) (hm : mvok m (nr + 1 - k)) : az_M l G yX4_rain (az_ws yX4_rain cX4_rain 4 (Option.some FieldType.int)) 5 [.ref (ρ.1 100), .int (nI k), .int u] (AD ρ) (KK G ρ x m ou) 0 0 (az_r (some (.int ((comesM (nr + 1 - k) (mI m 0 21 (m.1 0 21 + u)) nr (-1) k u).1 0 22 - m.1 0 22))) (AD ρ) (KK G ρ x (mI (comesM (nr + 1 - k) (mI m 0 21 (m.1 0 21 + u)) nr (-1) k u) 0 0 0) ou)) := by
  refine az_start hG.1 (by decide +kernel) (Nat.le_of_ble_eq_true rfl) ?_
  intro p e s mm args below meth c C hnm
  show az_W l G 4 _ p e _ s mm args below meth c _ _ 0 0 0 [(0, .ref (ρ.1 100)), (1, .int (nI k)), (2, .int u)] []
  refine az_aload_n C 0 dX4_rain_0 rfl ?_
  refine az_iload_n C 1 dX4_rain_1 rfl ?_
  refine az_callV C Y_X4_isReach cX4 2 0 [.int (nI k)] [] wm_X4_128 wi_X4_isReach wse_X4_isReach dX4_rain_2 rfl rfl rfl (Mr1 hG nr k hr hn hk) rfl (Nat.le_of_ble_eq_true rfl) (Nat.le_of_ble_eq_true rfl) (Nat.le_of_ble_eq_true rfl) (Nat.le_of_ble_eq_true rfl) (Nat.le_of_ble_eq_true rfl) (az_k1 rfl rfl ?_) (az_k0 rfl)
  refine az_if_ne C 14 dX4_rain_5 (by decide) (fun _ => ?_) (fun q => absurd q (by decide))
  refine az_iload_n C 2 dX4_rain_14 rfl ?_
  refine az_iconst C (v := 1) dX4_rain_15 (by decide) ?_
  refine az_sipush C (v := 5000) dX4_rain_16 (by decide) ?_
  refine az_callS C Y_X4_in [.int u, .int 1, .int 5000] [] wm_X4_104 wst_X4_in dX4_rain_19 rfl (Min1 hG (u) (1) (5000) hu.1 hu.2) rfl (Nat.le_of_ble_eq_true rfl) (Nat.le_of_ble_eq_true rfl) (Nat.le_of_ble_eq_true rfl) (Nat.le_of_ble_eq_true rfl) (Nat.le_of_ble_eq_true rfl) (az_k1 rfl rfl ?_) (az_k0 rfl)
  refine az_if_ne C 31 dX4_rain_22 (by decide) (fun _ => ?_) (fun q => absurd q (by decide))
  refine az_aload_n C 0 dX4_rain_31 rfl ?_
  refine az_get C cX4 2 0 22 (v := .int (m.1 0 22)) wl_X4_115 dX4_rain_32 rfl rfl rfl (by decide) ?_
  refine az_istore_n C (lv' := [(3, .int (m.1 0 22)), (0, .ref (ρ.1 100)), (1, .int (nI k)), (2, .int u)]) (j := 3) rfl dX4_rain_35 (by decide) rfl ?_
  refine az_aload_n C 1 dX4_rain_36 rfl ?_
  refine az_dup C dX4_rain_37 rfl ?_
  refine az_get C cX4 2 0 21 (v := .int (m.1 0 21)) wl_X4_69 dX4_rain_38 rfl rfl rfl (by decide) ?_
  refine az_iload_n C 3 dX4_rain_41 rfl ?_
  refine az_iadd C dX4_rain_42 ?_
  refine az_put C cX4 2 0 21 wl_X4_69 dX4_rain_43 rfl rfl (by decide) (Nat.le_of_ble_eq_true rfl) rfl rfl rfl (az_to rfl (K' := (KK G ρ x (mI m 0 21 ((m.1 0 21 + u))) ou)) (KK_M rfl) ?_)
  refine az_aload_n C 1 dX4_rain_46 rfl ?_
  refine az_iconst C (v := (-1)) dX4_rain_47 (by decide) ?_
  refine az_iload_n C 2 dX4_rain_48 rfl ?_
  refine az_iload_n C 3 dX4_rain_49 rfl ?_
  refine az_callV C Y_X4_comes cX4 2 0 [.int ((-1)), .int (nI k), .int u] [] wm_X4_118 wi_X4_comes wse_X4_comes dX4_rain_50 rfl rfl rfl (Mcomes hG nr (by omega) ((-1)) k (u) hr (by omega) (hm.eq rfl)) rfl (Nat.le_of_ble_eq_true rfl) (Nat.le_of_ble_eq_true rfl) (Nat.le_of_ble_eq_true rfl) (Nat.le_of_ble_eq_true rfl) (Nat.le_of_ble_eq_true rfl) (az_k1 rfl rfl ?_) (az_k0 rfl)
  refine az_aload_n C 1 dX4_rain_53 rfl ?_
  refine az_aload_n C 1 dX4_rain_54 rfl ?_
  refine az_get C cX4 2 0 22 (v := .int ((comesM (nr + 1 - k) (mI m 0 21 ((m.1 0 21 + u))) nr ((-1)) k u).1 0 22)) wl_X4_115 dX4_rain_55 rfl rfl rfl (by decide) ?_
  refine az_iload_n C 0 dX4_rain_58 rfl ?_
  refine az_isub C dX4_rain_59 ?_
  refine az_callV C Y_X4_tells cX4 2 0 [.int (((comesM (nr + 1 - k) (mI m 0 21 ((m.1 0 21 + u))) nr ((-1)) k u).1 0 22 - m.1 0 22))] [] wm_X4_125 wi_X4_tells wse_X4_tells dX4_rain_60 rfl rfl rfl (Mtells hG (((comesM (nr + 1 - k) (mI m 0 21 ((m.1 0 21 + u))) nr ((-1)) k u).1 0 22 - m.1 0 22))) rfl (Nat.le_of_ble_eq_true rfl) (Nat.le_of_ble_eq_true rfl) (Nat.le_of_ble_eq_true rfl) (Nat.le_of_ble_eq_true rfl) (Nat.le_of_ble_eq_true rfl) (az_k1 rfl rfl ?_) (az_k0 rfl)
  exact az_iret C rfl dX4_rain_63 (Nat.le_of_ble_eq_true rfl) (Nat.le_of_ble_eq_true rfl) ⟨rfl, rfl, rfl⟩

set_option maxHeartbeats 4000000 in
set_option maxRecDepth 100000 in
theorem MaddReach0 (hG : az_okS l G) (a1 a2 a3 a4 a5 : Int32) (h : ¬ (¬ inI a1 1 50 = 0 ∧ ¬ inI a2 0 60 = 0 ∧ ¬ inI a3 1 200 = 0 ∧ ¬ inI a4 10 200 = 0 ∧ ¬ inI a5 5 60 = 0)) : az_M l G yX4_addReach (az_ws yX4_addReach cX4_addReach 7 (Option.some FieldType.int)) 3 [.ref (ρ.1 100), .int a1, .int a2, .int a3, .int a4, .int a5] (AD ρ) (KK G ρ x m ou) 0 0 (az_r (some (.int 0)) (AD ρ) (KK G ρ x (mI m 0 0 1) ou)) := by
  refine az_start hG.1 (by decide +kernel) (Nat.le_of_ble_eq_true rfl) ?_
  intro p e s mm args below meth c C hnm
  show az_W l G 7 _ p e _ s mm args below meth c _ _ 0 0 0 [(0, .ref (ρ.1 100)), (1, .int a1), (2, .int a2), (3, .int a3), (4, .int a4), (5, .int a5)] []
  refine az_iload_n C 1 dX4_addReach_0 rfl ?_
  refine az_iconst C (v := 1) dX4_addReach_1 (by decide) ?_
  refine az_bipush C (v := 50) dX4_addReach_2 (by decide) ?_
  refine az_callS C Y_X4_in [.int a1, .int 1, .int 50] [] wm_X4_104 wst_X4_in dX4_addReach_4 rfl (Min hG (a1) (1) (50)) rfl (Nat.le_of_ble_eq_true rfl) (Nat.le_of_ble_eq_true rfl) (Nat.le_of_ble_eq_true rfl) (Nat.le_of_ble_eq_true rfl) (Nat.le_of_ble_eq_true rfl) (az_k1 rfl rfl ?_) (az_k0 rfl)
  refine az_if_eq C 55 dX4_addReach_7 (by decide) (fun c1 => ?_) (fun c1 => ?_)
  · refine az_aload_n C 0 dX4_addReach_55 rfl ?_
    refine az_iconst C (v := 1) dX4_addReach_56 (by decide) ?_
    refine az_callV C Y_X4_fails cX4 2 0 [.int 1] [] wm_X4_121 wi_X4_fails wse_X4_fails dX4_addReach_57 rfl rfl rfl (Mfails hG (1)) rfl (Nat.le_of_ble_eq_true rfl) (Nat.le_of_ble_eq_true rfl) (Nat.le_of_ble_eq_true rfl) (Nat.le_of_ble_eq_true rfl) (Nat.le_of_ble_eq_true rfl) (az_k1 rfl rfl ?_) (az_k0 rfl)
    exact az_iret C rfl dX4_addReach_60 (Nat.le_of_ble_eq_true rfl) (Nat.le_of_ble_eq_true rfl) ⟨rfl, rfl, rfl⟩
  · refine az_iload_n C 2 dX4_addReach_10 rfl ?_
    refine az_iconst C (v := 0) dX4_addReach_11 (by decide) ?_
    refine az_bipush C (v := 60) dX4_addReach_12 (by decide) ?_
    refine az_callS C Y_X4_in [.int a2, .int 0, .int 60] [] wm_X4_104 wst_X4_in dX4_addReach_14 rfl (Min hG (a2) (0) (60)) rfl (Nat.le_of_ble_eq_true rfl) (Nat.le_of_ble_eq_true rfl) (Nat.le_of_ble_eq_true rfl) (Nat.le_of_ble_eq_true rfl) (Nat.le_of_ble_eq_true rfl) (az_k1 rfl rfl ?_) (az_k0 rfl)
    refine az_if_eq C 55 dX4_addReach_17 (by decide) (fun c2 => ?_) (fun c2 => ?_)
    · refine az_aload_n C 0 dX4_addReach_55 rfl ?_
      refine az_iconst C (v := 1) dX4_addReach_56 (by decide) ?_
      refine az_callV C Y_X4_fails cX4 2 0 [.int 1] [] wm_X4_121 wi_X4_fails wse_X4_fails dX4_addReach_57 rfl rfl rfl (Mfails hG (1)) rfl (Nat.le_of_ble_eq_true rfl) (Nat.le_of_ble_eq_true rfl) (Nat.le_of_ble_eq_true rfl) (Nat.le_of_ble_eq_true rfl) (Nat.le_of_ble_eq_true rfl) (az_k1 rfl rfl ?_) (az_k0 rfl)
      exact az_iret C rfl dX4_addReach_60 (Nat.le_of_ble_eq_true rfl) (Nat.le_of_ble_eq_true rfl) ⟨rfl, rfl, rfl⟩
    · refine az_iload_n C 3 dX4_addReach_20 rfl ?_
      refine az_iconst C (v := 1) dX4_addReach_21 (by decide) ?_
      refine az_sipush C (v := 200) dX4_addReach_22 (by decide) ?_
      refine az_callS C Y_X4_in [.int a3, .int 1, .int 200] [] wm_X4_104 wst_X4_in dX4_addReach_25 rfl (Min hG (a3) (1) (200)) rfl (Nat.le_of_ble_eq_true rfl) (Nat.le_of_ble_eq_true rfl) (Nat.le_of_ble_eq_true rfl) (Nat.le_of_ble_eq_true rfl) (Nat.le_of_ble_eq_true rfl) (az_k1 rfl rfl ?_) (az_k0 rfl)
      refine az_if_eq C 55 dX4_addReach_28 (by decide) (fun c3 => ?_) (fun c3 => ?_)
      · refine az_aload_n C 0 dX4_addReach_55 rfl ?_
        refine az_iconst C (v := 1) dX4_addReach_56 (by decide) ?_
        refine az_callV C Y_X4_fails cX4 2 0 [.int 1] [] wm_X4_121 wi_X4_fails wse_X4_fails dX4_addReach_57 rfl rfl rfl (Mfails hG (1)) rfl (Nat.le_of_ble_eq_true rfl) (Nat.le_of_ble_eq_true rfl) (Nat.le_of_ble_eq_true rfl) (Nat.le_of_ble_eq_true rfl) (Nat.le_of_ble_eq_true rfl) (az_k1 rfl rfl ?_) (az_k0 rfl)
        exact az_iret C rfl dX4_addReach_60 (Nat.le_of_ble_eq_true rfl) (Nat.le_of_ble_eq_true rfl) ⟨rfl, rfl, rfl⟩
      · refine az_iload C 4 dX4_addReach_31 rfl ?_
        refine az_bipush C (v := 10) dX4_addReach_33 (by decide) ?_
        refine az_sipush C (v := 200) dX4_addReach_35 (by decide) ?_
        refine az_callS C Y_X4_in [.int a4, .int 10, .int 200] [] wm_X4_104 wst_X4_in dX4_addReach_38 rfl (Min hG (a4) (10) (200)) rfl (Nat.le_of_ble_eq_true rfl) (Nat.le_of_ble_eq_true rfl) (Nat.le_of_ble_eq_true rfl) (Nat.le_of_ble_eq_true rfl) (Nat.le_of_ble_eq_true rfl) (az_k1 rfl rfl ?_) (az_k0 rfl)
        refine az_if_eq C 55 dX4_addReach_41 (by decide) (fun c4 => ?_) (fun c4 => ?_)
        · refine az_aload_n C 0 dX4_addReach_55 rfl ?_
          refine az_iconst C (v := 1) dX4_addReach_56 (by decide) ?_
          refine az_callV C Y_X4_fails cX4 2 0 [.int 1] [] wm_X4_121 wi_X4_fails wse_X4_fails dX4_addReach_57 rfl rfl rfl (Mfails hG (1)) rfl (Nat.le_of_ble_eq_true rfl) (Nat.le_of_ble_eq_true rfl) (Nat.le_of_ble_eq_true rfl) (Nat.le_of_ble_eq_true rfl) (Nat.le_of_ble_eq_true rfl) (az_k1 rfl rfl ?_) (az_k0 rfl)
          exact az_iret C rfl dX4_addReach_60 (Nat.le_of_ble_eq_true rfl) (Nat.le_of_ble_eq_true rfl) ⟨rfl, rfl, rfl⟩
        · refine az_iload C 5 dX4_addReach_44 rfl ?_
          refine az_iconst C (v := 5) dX4_addReach_46 (by decide) ?_
          refine az_bipush C (v := 60) dX4_addReach_47 (by decide) ?_
          refine az_callS C Y_X4_in [.int a5, .int 5, .int 60] [] wm_X4_104 wst_X4_in dX4_addReach_49 rfl (Min hG (a5) (5) (60)) rfl (Nat.le_of_ble_eq_true rfl) (Nat.le_of_ble_eq_true rfl) (Nat.le_of_ble_eq_true rfl) (Nat.le_of_ble_eq_true rfl) (Nat.le_of_ble_eq_true rfl) (az_k1 rfl rfl ?_) (az_k0 rfl)
          refine az_if_ne C 61 dX4_addReach_52 (by decide) (fun c5 => ?_) (fun c5 => ?_)
          · exact absurd ⟨c1, c2, c3, c4, c5⟩ h
          · refine az_aload_n C 0 dX4_addReach_55 rfl ?_
            refine az_iconst C (v := 1) dX4_addReach_56 (by decide) ?_
            refine az_callV C Y_X4_fails cX4 2 0 [.int 1] [] wm_X4_121 wi_X4_fails wse_X4_fails dX4_addReach_57 rfl rfl rfl (Mfails hG (1)) rfl (Nat.le_of_ble_eq_true rfl) (Nat.le_of_ble_eq_true rfl) (Nat.le_of_ble_eq_true rfl) (Nat.le_of_ble_eq_true rfl) (Nat.le_of_ble_eq_true rfl) (az_k1 rfl rfl ?_) (az_k0 rfl)
            exact az_iret C rfl dX4_addReach_60 (Nat.le_of_ble_eq_true rfl) (Nat.le_of_ble_eq_true rfl) ⟨rfl, rfl, rfl⟩

set_option maxHeartbeats 4000000 in
set_option maxRecDepth 100000 in
theorem MaddReach1 (hG : az_okS l G) (a1 a2 a3 a4 a5 : Int32) (h1 : 1 ≤ a1 ∧ a1 ≤ 50) (h2 : 0 ≤ a2 ∧ a2 ≤ 60) (h3 : 1 ≤ a3 ∧ a3 ≤ 200) (h4 : 10 ≤ a4 ∧ a4 ≤ 200) (h5 : 5 ≤ a5 ∧ a5 ≤ 60) (h6 : m.1 0 1 = 6) : az_M l G yX4_addReach (az_ws yX4_addReach cX4_addReach 7 (Option.some FieldType.int)) 3 [.ref (ρ.1 100), .int a1, .int a2, .int a3, .int a4, .int a5] (AD ρ) (KK G ρ x m ou) 0 0 (az_r (some (.int 0)) (AD ρ) (KK G ρ x (mI m 0 0 2) ou)) := by
  refine az_start hG.1 (by decide +kernel) (Nat.le_of_ble_eq_true rfl) ?_
  intro p e s mm args below meth c C hnm
  show az_W l G 7 _ p e _ s mm args below meth c _ _ 0 0 0 [(0, .ref (ρ.1 100)), (1, .int a1), (2, .int a2), (3, .int a3), (4, .int a4), (5, .int a5)] []
  refine az_iload_n C 1 dX4_addReach_0 rfl ?_
  refine az_iconst C (v := 1) dX4_addReach_1 (by decide) ?_
  refine az_bipush C (v := 50) dX4_addReach_2 (by decide) ?_
  refine az_callS C Y_X4_in [.int a1, .int 1, .int 50] [] wm_X4_104 wst_X4_in dX4_addReach_4 rfl (Min1 hG (a1) (1) (50) h1.1 h1.2) rfl (Nat.le_of_ble_eq_true rfl) (Nat.le_of_ble_eq_true rfl) (Nat.le_of_ble_eq_true rfl) (Nat.le_of_ble_eq_true rfl) (Nat.le_of_ble_eq_true rfl) (az_k1 rfl rfl ?_) (az_k0 rfl)
  refine az_if_eq C 55 dX4_addReach_7 (by decide) (fun q => absurd q (by decide)) (fun _ => ?_)
  refine az_iload_n C 2 dX4_addReach_10 rfl ?_
  refine az_iconst C (v := 0) dX4_addReach_11 (by decide) ?_
  refine az_bipush C (v := 60) dX4_addReach_12 (by decide) ?_
  refine az_callS C Y_X4_in [.int a2, .int 0, .int 60] [] wm_X4_104 wst_X4_in dX4_addReach_14 rfl (Min1 hG (a2) (0) (60) h2.1 h2.2) rfl (Nat.le_of_ble_eq_true rfl) (Nat.le_of_ble_eq_true rfl) (Nat.le_of_ble_eq_true rfl) (Nat.le_of_ble_eq_true rfl) (Nat.le_of_ble_eq_true rfl) (az_k1 rfl rfl ?_) (az_k0 rfl)
  refine az_if_eq C 55 dX4_addReach_17 (by decide) (fun q => absurd q (by decide)) (fun _ => ?_)
  refine az_iload_n C 3 dX4_addReach_20 rfl ?_
  refine az_iconst C (v := 1) dX4_addReach_21 (by decide) ?_
  refine az_sipush C (v := 200) dX4_addReach_22 (by decide) ?_
  refine az_callS C Y_X4_in [.int a3, .int 1, .int 200] [] wm_X4_104 wst_X4_in dX4_addReach_25 rfl (Min1 hG (a3) (1) (200) h3.1 h3.2) rfl (Nat.le_of_ble_eq_true rfl) (Nat.le_of_ble_eq_true rfl) (Nat.le_of_ble_eq_true rfl) (Nat.le_of_ble_eq_true rfl) (Nat.le_of_ble_eq_true rfl) (az_k1 rfl rfl ?_) (az_k0 rfl)
  refine az_if_eq C 55 dX4_addReach_28 (by decide) (fun q => absurd q (by decide)) (fun _ => ?_)
  refine az_iload C 4 dX4_addReach_31 rfl ?_
  refine az_bipush C (v := 10) dX4_addReach_33 (by decide) ?_
  refine az_sipush C (v := 200) dX4_addReach_35 (by decide) ?_
  refine az_callS C Y_X4_in [.int a4, .int 10, .int 200] [] wm_X4_104 wst_X4_in dX4_addReach_38 rfl (Min1 hG (a4) (10) (200) h4.1 h4.2) rfl (Nat.le_of_ble_eq_true rfl) (Nat.le_of_ble_eq_true rfl) (Nat.le_of_ble_eq_true rfl) (Nat.le_of_ble_eq_true rfl) (Nat.le_of_ble_eq_true rfl) (az_k1 rfl rfl ?_) (az_k0 rfl)
  refine az_if_eq C 55 dX4_addReach_41 (by decide) (fun q => absurd q (by decide)) (fun _ => ?_)
  refine az_iload C 5 dX4_addReach_44 rfl ?_
  refine az_iconst C (v := 5) dX4_addReach_46 (by decide) ?_
  refine az_bipush C (v := 60) dX4_addReach_47 (by decide) ?_
  refine az_callS C Y_X4_in [.int a5, .int 5, .int 60] [] wm_X4_104 wst_X4_in dX4_addReach_49 rfl (Min1 hG (a5) (5) (60) h5.1 h5.2) rfl (Nat.le_of_ble_eq_true rfl) (Nat.le_of_ble_eq_true rfl) (Nat.le_of_ble_eq_true rfl) (Nat.le_of_ble_eq_true rfl) (Nat.le_of_ble_eq_true rfl) (az_k1 rfl rfl ?_) (az_k0 rfl)
  refine az_if_ne C 61 dX4_addReach_52 (by decide) (fun _ => ?_) (fun q => absurd q (by decide))
  refine az_aload_n C 0 dX4_addReach_61 rfl ?_
  refine az_get C cX4 2 0 1 (v := .int (m.1 0 1)) wl_X4_7 dX4_addReach_62 rfl rfl rfl (by decide) ?_
  refine az_top (6) h6 ?_
  refine az_bipush C (v := 6) dX4_addReach_65 (by decide) ?_
  refine az_icmp_ne C 76 dX4_addReach_67 (by decide) (fun q => absurd (by decide) q) (fun _ => ?_)
  refine az_aload_n C 0 dX4_addReach_70 rfl ?_
  refine az_iconst C (v := 2) dX4_addReach_71 (by decide) ?_
  refine az_callV C Y_X4_fails cX4 2 0 [.int 2] [] wm_X4_121 wi_X4_fails wse_X4_fails dX4_addReach_72 rfl rfl rfl (Mfails hG (2)) rfl (Nat.le_of_ble_eq_true rfl) (Nat.le_of_ble_eq_true rfl) (Nat.le_of_ble_eq_true rfl) (Nat.le_of_ble_eq_true rfl) (Nat.le_of_ble_eq_true rfl) (az_k1 rfl rfl ?_) (az_k0 rfl)
  exact az_iret C rfl dX4_addReach_75 (Nat.le_of_ble_eq_true rfl) (Nat.le_of_ble_eq_true rfl) ⟨rfl, rfl, rfl⟩

def addReachM (m : Ms) (a1 a2 a3 a4 a5 : Int32) (nr : Nat) : Ms := (mI (mI (recM (mI (mI (mI (mI (mI (mI (mI (mI m 7 ((nr - 1)) a3) 8 ((nr - 1)) a4) 9 ((nr - 1)) a5) 3 nr a1) 5 nr a2) 6 nr 100) 4 nr ((a1 * a2))) 0 21 ((m.1 0 21 + (a1 * a2)))) ((-1)) (nI nr) ((a1 * a2))) 0 1 (((recM (mI (mI (mI (mI (mI (mI (mI (mI m 7 ((nr - 1)) a3) 8 ((nr - 1)) a4) 9 ((nr - 1)) a5) 3 nr a1) 5 nr a2) 6 nr 100) 4 nr ((a1 * a2))) 0 21 ((m.1 0 21 + (a1 * a2)))) ((-1)) (nI nr) ((a1 * a2))).1 0 1 + 1))) 0 0 0)
set_option maxHeartbeats 4000000 in
set_option maxRecDepth 100000 in
theorem MaddReach2 (hG : az_okS l G) (a1 a2 a3 a4 a5 : Int32) (h1 : 1 ≤ a1 ∧ a1 ≤ 50) (h2 : 0 ≤ a2 ∧ a2 ≤ 60) (h3 : 1 ≤ a3 ∧ a3 ≤ 200) (h4 : 10 ≤ a4 ∧ a4 ≤ 200) (h5 : 5 ≤ a5 ∧ a5 ≤ 60) (nr : Nat) (hr : m.1 0 1 = nI nr) (hn1 : 1 ≤ nr) (hn : nr < 6) (hm : mvok m 0) : az_M l G yX4_addReach (az_ws yX4_addReach cX4_addReach 7 (Option.some FieldType.int)) 3 [.ref (ρ.1 100), .int a1, .int a2, .int a3, .int a4, .int a5] (AD ρ) (KK G ρ x m ou) 0 0 (az_r (some (.int (((((recM (mI (mI (mI (mI (mI (mI (mI (mI m 7 ((nr - 1)) a3) 8 ((nr - 1)) a4) 9 ((nr - 1)) a5) 3 nr a1) 5 nr a2) 6 nr 100) 4 nr ((a1 * a2))) 0 21 ((m.1 0 21 + (a1 * a2)))) ((-1)) (nI nr) ((a1 * a2))).1 0 1 + 1)) - 1)))) (AD ρ) (KK G ρ x (addReachM m a1 a2 a3 a4 a5 nr) ou)) := by
  refine az_start hG.1 (by decide +kernel) (Nat.le_of_ble_eq_true rfl) ?_
  intro p e s mm args below meth c C hnm
  show az_W l G 7 _ p e _ s mm args below meth c _ _ 0 0 0 [(0, .ref (ρ.1 100)), (1, .int a1), (2, .int a2), (3, .int a3), (4, .int a4), (5, .int a5)] []
  refine az_iload_n C 1 dX4_addReach_0 rfl ?_
  refine az_iconst C (v := 1) dX4_addReach_1 (by decide) ?_
  refine az_bipush C (v := 50) dX4_addReach_2 (by decide) ?_
  refine az_callS C Y_X4_in [.int a1, .int 1, .int 50] [] wm_X4_104 wst_X4_in dX4_addReach_4 rfl (Min1 hG (a1) (1) (50) h1.1 h1.2) rfl (Nat.le_of_ble_eq_true rfl) (Nat.le_of_ble_eq_true rfl) (Nat.le_of_ble_eq_true rfl) (Nat.le_of_ble_eq_true rfl) (Nat.le_of_ble_eq_true rfl) (az_k1 rfl rfl ?_) (az_k0 rfl)
  refine az_if_eq C 55 dX4_addReach_7 (by decide) (fun q => absurd q (by decide)) (fun _ => ?_)
  refine az_iload_n C 2 dX4_addReach_10 rfl ?_
  refine az_iconst C (v := 0) dX4_addReach_11 (by decide) ?_
  refine az_bipush C (v := 60) dX4_addReach_12 (by decide) ?_
  refine az_callS C Y_X4_in [.int a2, .int 0, .int 60] [] wm_X4_104 wst_X4_in dX4_addReach_14 rfl (Min1 hG (a2) (0) (60) h2.1 h2.2) rfl (Nat.le_of_ble_eq_true rfl) (Nat.le_of_ble_eq_true rfl) (Nat.le_of_ble_eq_true rfl) (Nat.le_of_ble_eq_true rfl) (Nat.le_of_ble_eq_true rfl) (az_k1 rfl rfl ?_) (az_k0 rfl)
  refine az_if_eq C 55 dX4_addReach_17 (by decide) (fun q => absurd q (by decide)) (fun _ => ?_)
  refine az_iload_n C 3 dX4_addReach_20 rfl ?_
  refine az_iconst C (v := 1) dX4_addReach_21 (by decide) ?_
  refine az_sipush C (v := 200) dX4_addReach_22 (by decide) ?_
  refine az_callS C Y_X4_in [.int a3, .int 1, .int 200] [] wm_X4_104 wst_X4_in dX4_addReach_25 rfl (Min1 hG (a3) (1) (200) h3.1 h3.2) rfl (Nat.le_of_ble_eq_true rfl) (Nat.le_of_ble_eq_true rfl) (Nat.le_of_ble_eq_true rfl) (Nat.le_of_ble_eq_true rfl) (Nat.le_of_ble_eq_true rfl) (az_k1 rfl rfl ?_) (az_k0 rfl)
  refine az_if_eq C 55 dX4_addReach_28 (by decide) (fun q => absurd q (by decide)) (fun _ => ?_)
  refine az_iload C 4 dX4_addReach_31 rfl ?_
  refine az_bipush C (v := 10) dX4_addReach_33 (by decide) ?_
  refine az_sipush C (v := 200) dX4_addReach_35 (by decide) ?_
  refine az_callS C Y_X4_in [.int a4, .int 10, .int 200] [] wm_X4_104 wst_X4_in dX4_addReach_38 rfl (Min1 hG (a4) (10) (200) h4.1 h4.2) rfl (Nat.le_of_ble_eq_true rfl) (Nat.le_of_ble_eq_true rfl) (Nat.le_of_ble_eq_true rfl) (Nat.le_of_ble_eq_true rfl) (Nat.le_of_ble_eq_true rfl) (az_k1 rfl rfl ?_) (az_k0 rfl)
  refine az_if_eq C 55 dX4_addReach_41 (by decide) (fun q => absurd q (by decide)) (fun _ => ?_)
  refine az_iload C 5 dX4_addReach_44 rfl ?_
  refine az_iconst C (v := 5) dX4_addReach_46 (by decide) ?_
  refine az_bipush C (v := 60) dX4_addReach_47 (by decide) ?_
  refine az_callS C Y_X4_in [.int a5, .int 5, .int 60] [] wm_X4_104 wst_X4_in dX4_addReach_49 rfl (Min1 hG (a5) (5) (60) h5.1 h5.2) rfl (Nat.le_of_ble_eq_true rfl) (Nat.le_of_ble_eq_true rfl) (Nat.le_of_ble_eq_true rfl) (Nat.le_of_ble_eq_true rfl) (Nat.le_of_ble_eq_true rfl) (az_k1 rfl rfl ?_) (az_k0 rfl)
  refine az_if_ne C 61 dX4_addReach_52 (by decide) (fun _ => ?_) (fun q => absurd q (by decide))
  refine az_aload_n C 0 dX4_addReach_61 rfl ?_
  refine az_get C cX4 2 0 1 (v := .int (m.1 0 1)) wl_X4_7 dX4_addReach_62 rfl rfl rfl (by decide) ?_
  refine az_top (nI nr) hr ?_
  refine az_bipush C (v := 6) dX4_addReach_65 (by decide) ?_
  refine az_icmp_ne C 76 dX4_addReach_67 (by decide) (fun _ => ?_) (fun q => absurd q (fun z => by rw [show (6 : Int32) = nI 6 from rfl, nI_eq (by omega) (by omega)] at z; omega))
  refine az_aload_n C 0 dX4_addReach_76 rfl ?_
  refine az_get C cX4 2 0 1 (v := .int (m.1 0 1)) wl_X4_7 dX4_addReach_77 rfl rfl rfl (by decide) ?_
  refine az_top (nI nr) hr ?_
  refine az_iconst C (v := 1) dX4_addReach_80 (by decide) ?_
  refine az_isub C dX4_addReach_81 ?_
  refine az_top (nI (nr - 1)) (show nI nr - 1 = nI (nr - 1) from pk_sub (b := 1) (by omega)) ?_
  refine az_istore C (lv' := [(6, .int (nI (nr - 1))), (0, .ref (ρ.1 100)), (1, .int a1), (2, .int a2), (3, .int a3), (4, .int a4), (5, .int a5)]) dX4_addReach_82 (by decide) rfl ?_
  refine az_aload_n C 1 dX4_addReach_84 rfl ?_
  refine az_get C cX4 2 0 7 (v := .ref (ρ.1 107)) wl_X4_26 dX4_addReach_85 rfl rfl rfl (by decide) ?_
  refine az_iload C 0 dX4_addReach_88 rfl ?_
  refine az_iload_n C 4 dX4_addReach_90 rfl ?_
  refine az_iastN C 2 7 ((nr - 1)) dX4_addReach_91 rfl rfl (by omega) (by decide) (az_to rfl (K' := (KK G ρ x (mI m 7 ((nr - 1)) a3) ou)) (KK_M rfl) ?_)
  refine az_aload_n C 1 dX4_addReach_92 rfl ?_
  refine az_get C cX4 2 0 8 (v := .ref (ρ.1 108)) wl_X4_29 dX4_addReach_93 rfl rfl rfl (by decide) ?_
  refine az_iload C 0 dX4_addReach_96 rfl ?_
  refine az_iload C 5 dX4_addReach_98 rfl ?_
  refine az_iastN C 2 8 ((nr - 1)) dX4_addReach_100 rfl rfl (by omega) (by decide) (az_to rfl (K' := (KK G ρ x (mI (mI m 7 ((nr - 1)) a3) 8 ((nr - 1)) a4) ou)) (KK_M rfl) ?_)
  refine az_aload_n C 1 dX4_addReach_101 rfl ?_
  refine az_get C cX4 2 0 9 (v := .ref (ρ.1 109)) wl_X4_32 dX4_addReach_102 rfl rfl rfl (by decide) ?_
  refine az_iload C 0 dX4_addReach_105 rfl ?_
  refine az_iload C 6 dX4_addReach_107 rfl ?_
  refine az_iastN C 2 9 ((nr - 1)) dX4_addReach_109 rfl rfl (by omega) (by decide) (az_to rfl (K' := (KK G ρ x (mI (mI (mI m 7 ((nr - 1)) a3) 8 ((nr - 1)) a4) 9 ((nr - 1)) a5) ou)) (KK_M rfl) ?_)
  refine az_aload_n C 1 dX4_addReach_110 rfl ?_
  refine az_get C cX4 2 0 3 (v := .ref (ρ.1 103)) wl_X4_13 dX4_addReach_111 rfl rfl rfl (by decide) ?_
  refine az_aload_n C 1 dX4_addReach_114 rfl ?_
  refine az_get C cX4 2 0 1 (v := .int (m.1 0 1)) wl_X4_7 dX4_addReach_115 rfl rfl rfl (by decide) ?_
  refine az_top (nI nr) hr ?_
  refine az_iload_n C 2 dX4_addReach_118 rfl ?_
  refine az_iastN C 2 3 nr dX4_addReach_119 rfl rfl (by omega) (by decide) (az_to rfl (K' := (KK G ρ x (mI (mI (mI (mI m 7 ((nr - 1)) a3) 8 ((nr - 1)) a4) 9 ((nr - 1)) a5) 3 nr a1) ou)) (KK_M rfl) ?_)
  refine az_aload_n C 1 dX4_addReach_120 rfl ?_
  refine az_get C cX4 2 0 5 (v := .ref (ρ.1 105)) wl_X4_20 dX4_addReach_121 rfl rfl rfl (by decide) ?_
  refine az_aload_n C 1 dX4_addReach_124 rfl ?_
  refine az_get C cX4 2 0 1 (v := .int (m.1 0 1)) wl_X4_7 dX4_addReach_125 rfl rfl rfl (by decide) ?_
  refine az_top (nI nr) hr ?_
  refine az_iload_n C 3 dX4_addReach_128 rfl ?_
  refine az_iastN C 2 5 nr dX4_addReach_129 rfl rfl (by omega) (by decide) (az_to rfl (K' := (KK G ρ x (mI (mI (mI (mI (mI m 7 ((nr - 1)) a3) 8 ((nr - 1)) a4) 9 ((nr - 1)) a5) 3 nr a1) 5 nr a2) ou)) (KK_M rfl) ?_)
  refine az_aload_n C 1 dX4_addReach_130 rfl ?_
  refine az_get C cX4 2 0 6 (v := .ref (ρ.1 106)) wl_X4_23 dX4_addReach_131 rfl rfl rfl (by decide) ?_
  refine az_aload_n C 1 dX4_addReach_134 rfl ?_
  refine az_get C cX4 2 0 1 (v := .int (m.1 0 1)) wl_X4_7 dX4_addReach_135 rfl rfl rfl (by decide) ?_
  refine az_top (nI nr) hr ?_
  refine az_bipush C (v := 100) dX4_addReach_138 (by decide) ?_
  refine az_iastN C 2 6 nr dX4_addReach_140 rfl rfl (by omega) (by decide) (az_to rfl (K' := (KK G ρ x (mI (mI (mI (mI (mI (mI m 7 ((nr - 1)) a3) 8 ((nr - 1)) a4) 9 ((nr - 1)) a5) 3 nr a1) 5 nr a2) 6 nr 100) ou)) (KK_M rfl) ?_)
  refine az_aload_n C 1 dX4_addReach_141 rfl ?_
  refine az_get C cX4 2 0 4 (v := .ref (ρ.1 104)) wl_X4_17 dX4_addReach_142 rfl rfl rfl (by decide) ?_
  refine az_aload_n C 1 dX4_addReach_145 rfl ?_
  refine az_get C cX4 2 0 1 (v := .int (m.1 0 1)) wl_X4_7 dX4_addReach_146 rfl rfl rfl (by decide) ?_
  refine az_top (nI nr) hr ?_
  refine az_iload_n C 2 dX4_addReach_149 rfl ?_
  refine az_iload_n C 3 dX4_addReach_150 rfl ?_
  refine az_imul C dX4_addReach_151 ?_
  refine az_iastN C 2 4 nr dX4_addReach_152 rfl rfl (by omega) (by decide) (az_to rfl (K' := (KK G ρ x (mI (mI (mI (mI (mI (mI (mI m 7 ((nr - 1)) a3) 8 ((nr - 1)) a4) 9 ((nr - 1)) a5) 3 nr a1) 5 nr a2) 6 nr 100) 4 nr ((a1 * a2))) ou)) (KK_M rfl) ?_)
  refine az_aload_n C 1 dX4_addReach_153 rfl ?_
  refine az_dup C dX4_addReach_154 rfl ?_
  refine az_get C cX4 2 0 21 (v := .int (m.1 0 21)) wl_X4_69 dX4_addReach_155 rfl rfl rfl (by decide) ?_
  refine az_iload_n C 2 dX4_addReach_158 rfl ?_
  refine az_iload_n C 3 dX4_addReach_159 rfl ?_
  refine az_imul C dX4_addReach_160 ?_
  refine az_iadd C dX4_addReach_161 ?_
  refine az_put C cX4 2 0 21 wl_X4_69 dX4_addReach_162 rfl rfl (by decide) (Nat.le_of_ble_eq_true rfl) rfl rfl rfl (az_to rfl (K' := (KK G ρ x (mI (mI (mI (mI (mI (mI (mI (mI m 7 ((nr - 1)) a3) 8 ((nr - 1)) a4) 9 ((nr - 1)) a5) 3 nr a1) 5 nr a2) 6 nr 100) 4 nr ((a1 * a2))) 0 21 ((m.1 0 21 + (a1 * a2)))) ou)) (KK_M rfl) ?_)
  refine az_aload_n C 1 dX4_addReach_165 rfl ?_
  refine az_iconst C (v := (-1)) dX4_addReach_166 (by decide) ?_
  refine az_aload_n C 1 dX4_addReach_167 rfl ?_
  refine az_get C cX4 2 0 1 (v := .int (m.1 0 1)) wl_X4_7 dX4_addReach_168 rfl rfl rfl (by decide) ?_
  refine az_top (nI nr) hr ?_
  refine az_iload_n C 2 dX4_addReach_171 rfl ?_
  refine az_iload_n C 3 dX4_addReach_172 rfl ?_
  refine az_imul C dX4_addReach_173 ?_
  refine az_callV C Y_X4_records cX4 2 0 [.int ((-1)), .int (nI nr), .int ((a1 * a2))] [] wm_X4_111 wi_X4_records wse_X4_records dX4_addReach_174 rfl rfl rfl (Mrecords hG ((-1)) (nI nr) ((a1 * a2)) (hm.eq rfl)) rfl (Nat.le_of_ble_eq_true rfl) (Nat.le_of_ble_eq_true rfl) (Nat.le_of_ble_eq_true rfl) (Nat.le_of_ble_eq_true rfl) (Nat.le_of_ble_eq_true rfl) (az_k1 rfl rfl ?_) (az_k0 rfl)
  refine az_aload_n C 1 dX4_addReach_177 rfl ?_
  refine az_dup C dX4_addReach_178 rfl ?_
  refine az_get C cX4 2 0 1 (v := .int ((recM (mI (mI (mI (mI (mI (mI (mI (mI m 7 ((nr - 1)) a3) 8 ((nr - 1)) a4) 9 ((nr - 1)) a5) 3 nr a1) 5 nr a2) 6 nr 100) 4 nr ((a1 * a2))) 0 21 ((m.1 0 21 + (a1 * a2)))) ((-1)) (nI nr) ((a1 * a2))).1 0 1)) wl_X4_7 dX4_addReach_179 rfl rfl rfl (by decide) ?_
  refine az_iconst C (v := 1) dX4_addReach_182 (by decide) ?_
  refine az_iadd C dX4_addReach_183 ?_
  refine az_put C cX4 2 0 1 wl_X4_7 dX4_addReach_184 rfl rfl (by decide) (Nat.le_of_ble_eq_true rfl) rfl rfl rfl (az_to rfl (K' := (KK G ρ x (mI (recM (mI (mI (mI (mI (mI (mI (mI (mI m 7 ((nr - 1)) a3) 8 ((nr - 1)) a4) 9 ((nr - 1)) a5) 3 nr a1) 5 nr a2) 6 nr 100) 4 nr ((a1 * a2))) 0 21 ((m.1 0 21 + (a1 * a2)))) ((-1)) (nI nr) ((a1 * a2))) 0 1 (((recM (mI (mI (mI (mI (mI (mI (mI (mI m 7 ((nr - 1)) a3) 8 ((nr - 1)) a4) 9 ((nr - 1)) a5) 3 nr a1) 5 nr a2) 6 nr 100) 4 nr ((a1 * a2))) 0 21 ((m.1 0 21 + (a1 * a2)))) ((-1)) (nI nr) ((a1 * a2))).1 0 1 + 1))) ou)) (KK_M rfl) ?_)
  refine az_aload_n C 1 dX4_addReach_187 rfl ?_
  refine az_aload_n C 1 dX4_addReach_188 rfl ?_
  refine az_get C cX4 2 0 1 (v := .int ((((recM (mI (mI (mI (mI (mI (mI (mI (mI m 7 ((nr - 1)) a3) 8 ((nr - 1)) a4) 9 ((nr - 1)) a5) 3 nr a1) 5 nr a2) 6 nr 100) 4 nr ((a1 * a2))) 0 21 ((m.1 0 21 + (a1 * a2)))) ((-1)) (nI nr) ((a1 * a2))).1 0 1 + 1)))) wl_X4_7 dX4_addReach_189 rfl rfl rfl (by decide) ?_
  refine az_iconst C (v := 1) dX4_addReach_192 (by decide) ?_
  refine az_isub C dX4_addReach_193 ?_
  refine az_callV C Y_X4_tells cX4 2 0 [.int (((((recM (mI (mI (mI (mI (mI (mI (mI (mI m 7 ((nr - 1)) a3) 8 ((nr - 1)) a4) 9 ((nr - 1)) a5) 3 nr a1) 5 nr a2) 6 nr 100) 4 nr ((a1 * a2))) 0 21 ((m.1 0 21 + (a1 * a2)))) ((-1)) (nI nr) ((a1 * a2))).1 0 1 + 1)) - 1))] [] wm_X4_125 wi_X4_tells wse_X4_tells dX4_addReach_194 rfl rfl rfl (Mtells hG (((((recM (mI (mI (mI (mI (mI (mI (mI (mI m 7 ((nr - 1)) a3) 8 ((nr - 1)) a4) 9 ((nr - 1)) a5) 3 nr a1) 5 nr a2) 6 nr 100) 4 nr ((a1 * a2))) 0 21 ((m.1 0 21 + (a1 * a2)))) ((-1)) (nI nr) ((a1 * a2))).1 0 1 + 1)) - 1))) rfl (Nat.le_of_ble_eq_true rfl) (Nat.le_of_ble_eq_true rfl) (Nat.le_of_ble_eq_true rfl) (Nat.le_of_ble_eq_true rfl) (Nat.le_of_ble_eq_true rfl) (az_k1 rfl rfl ?_) (az_k0 rfl)
  exact az_iret C rfl dX4_addReach_197 (Nat.le_of_ble_eq_true rfl) (Nat.le_of_ble_eq_true rfl) ⟨rfl, rfl, rfl⟩

def sellsM (m : Ms) (b r : Nat) (u : Int32) : Ms := (mM (mI m 17 b ((m.1 17 b - u))) ((m.2 + ((u.toInt64) * ((m.1 6 r).toInt64)))))
set_option maxHeartbeats 4000000 in
set_option maxRecDepth 100000 in
theorem Msells (hG : az_okS l G) (b r : Nat) (u : Int32) (hb : b < 8) (hr6 : r < 6) (hat : m.1 13 b = nI r) : az_M l G yX4_sells (az_ws yX4_sells cX4_sells 3 (Option.none : Option FieldType)) 1 [.ref (ρ.1 100), .int (nI b), .int u] (AD ρ) (KK G ρ x m ou) 0 0 (az_r none (AD ρ) (KK G ρ x (sellsM m b r u) ou)) := by
  refine az_start hG.1 (by decide +kernel) (Nat.le_of_ble_eq_true rfl) ?_
  intro p e s mm args below meth c C hnm
  show az_W l G 3 _ p e _ s mm args below meth c _ _ 0 0 0 [(0, .ref (ρ.1 100)), (1, .int (nI b)), (2, .int u)] []
  refine az_aload_n C 0 dX4_sells_0 rfl ?_
  refine az_get C cX4 2 0 17 (v := .ref (ρ.1 117)) wl_X4_54 dX4_sells_1 rfl rfl rfl (by decide) ?_
  refine az_iload_n C 1 dX4_sells_4 rfl ?_
  refine az_dup2 C dX4_sells_5 rfl rfl ?_
  refine az_ialdN C 2 17 b (v := m.1 17 b) dX4_sells_6 rfl rfl (by omega) (by decide) rfl ?_
  refine az_iload_n C 2 dX4_sells_7 rfl ?_
  refine az_isub C dX4_sells_8 ?_
  refine az_iastN C 2 17 b dX4_sells_9 rfl rfl (by omega) (by decide) (az_to rfl (K' := (KK G ρ x (mI m 17 b ((m.1 17 b - u))) ou)) (KK_M rfl) ?_)
  refine az_aload_n C 0 dX4_sells_10 rfl ?_
  refine az_dup C dX4_sells_11 rfl ?_
  refine az_get C cX4 2 0 20 (v := .long m.2) wl_X4_65 dX4_sells_12 rfl rfl rfl (by decide) ?_
  refine az_iload_n C 2 dX4_sells_15 rfl ?_
  refine az_i2l C dX4_sells_16 ?_
  refine az_aload_n C 0 dX4_sells_17 rfl ?_
  refine az_get C cX4 2 0 6 (v := .ref (ρ.1 106)) wl_X4_23 dX4_sells_18 rfl rfl rfl (by decide) ?_
  refine az_aload_n C 0 dX4_sells_21 rfl ?_
  refine az_get C cX4 2 0 13 (v := .ref (ρ.1 113)) wl_X4_42 dX4_sells_22 rfl rfl rfl (by decide) ?_
  refine az_iload_n C 1 dX4_sells_25 rfl ?_
  refine az_ialdN C 2 13 b (v := m.1 13 b) dX4_sells_26 rfl rfl (by omega) (by decide) rfl ?_
  refine az_top (nI r) hat ?_
  refine az_ialdN C 2 6 r (v := m.1 6 r) dX4_sells_27 rfl rfl (by omega) (by decide) rfl ?_
  refine az_i2l C dX4_sells_28 ?_
  refine az_lmul C dX4_sells_29 ?_
  refine az_ladd C dX4_sells_30 ?_
  refine az_put C cX4 2 0 20 wl_X4_65 dX4_sells_31 rfl rfl (by decide) (Nat.le_of_ble_eq_true rfl) rfl rfl rfl (az_to rfl (K' := (KK G ρ x (mM (mI m 17 b ((m.1 17 b - u))) ((m.2 + ((u.toInt64) * ((m.1 6 r).toInt64))))) ou)) (KK_mo rfl) ?_)
  exact az_vret C rfl dX4_sells_34 (Nat.le_of_ble_eq_true rfl) (Nat.le_of_ble_eq_true rfl) ⟨rfl, rfl, rfl⟩

end
