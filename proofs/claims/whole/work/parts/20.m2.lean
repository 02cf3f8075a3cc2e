section
variable {l : Launch} {G : az_G} {ρ : Rp} {x : Xs} {m : Ms} {ou : Nat → Int64}
/-- out of the range 0 .. n-1 -/
def oo (n : Nat) (v : Int32) : Prop := v < 0 ∨ nI n ≤ v
theorem oo_or (n : Nat) (hn : n < 2 ^ 31) (v : Int32) : oo n v ∨ ∃ k, k < n ∧ v = nI k := by
  rcases pk_ix v hn with h | h | h
  · exact Or.inl (Or.inl h)
  · exact Or.inl (Or.inr h)
  · exact Or.inr h
theorem hi_in {k n c : Nat} (h : k + c ≤ n) (hn : n < 2 ^ 30) : nI k ≤ nI n - nI c := by
  rw [Int32.le_iff_toInt_le, pk_sub_toInt hn (by omega), nI_toInt (by omega)]
  omega
theorem hi_out {n c : Nat} {v : Int32} (hv : oo (n + 1 - c) v) (hn : n < 2 ^ 29) (hc : c ≤ n + 1) (h : 0 ≤ v) : ¬ v ≤ nI n - nI c := by
  rcases hv with h1 | h1
  · exact absurd h1 (Int32.not_lt.mpr h)
  · rw [Int32.le_iff_toInt_le, pk_sub_toInt (by omega) (by omega)]
    rw [Int32.le_iff_toInt_le, nI_toInt (by omega)] at h1
    omega
def deepM (m : Ms) (b : Nat) : Int32 := m.1 15 b + ((m.1 17 b + m.1 16 b) - 1) / m.1 16 b
def levM (m : Ms) (k : Nat) : Int32 := m.1 4 k / m.1 3 k
set_option maxHeartbeats 4000000 in
set_option maxRecDepth 100000 in
theorem Mthrown (hG : az_okS l G)  : az_M l G yX4_thrown (az_ws yX4_thrown cX4_thrown 1 (Option.some FieldType.int)) 1 [.ref (ρ.1 100)] (AD ρ) (KK G ρ x m ou) 0 0 (az_r (some (.int (m.1 0 0))) (AD ρ) (KK G ρ x m ou)) := by
  refine az_start hG.1 (by decide +kernel) (Nat.le_of_ble_eq_true rfl) ?_
  intro p e s mm args below meth c C hnm
  show az_W l G 1 _ p e _ s mm args below meth c _ _ 0 0 0 [(0, .ref (ρ.1 100))] []
  refine az_aload_n C 0 dX4_thrown_0 rfl ?_
  refine az_get C cX4 2 0 0 (v := .int (m.1 0 0)) wl_X4_101 dX4_thrown_1 rfl rfl rfl (by decide) ?_
  exact az_iret C rfl dX4_thrown_4 (Nat.le_of_ble_eq_true rfl) (Nat.le_of_ble_eq_true rfl) ⟨rfl, rfl, rfl⟩

set_option maxHeartbeats 4000000 in
set_option maxRecDepth 100000 in
theorem Min1 (hG : az_okS l G) (v a b : Int32) (h1 : a ≤ v) (h2 : v ≤ b) : az_M l G yX4_in (az_ws yX4_in cX4_in 3 (Option.some FieldType.boolean)) 1 [.int v, .int a, .int b] (AD ρ) (KK G ρ x m ou) 0 0 (az_r (some (.int 1)) (AD ρ) (KK G ρ x m ou)) := by
  refine az_start hG.1 (by decide +kernel) (Nat.le_of_ble_eq_true rfl) ?_
  intro p e s mm args below meth c C hnm
  show az_W l G 3 _ p e _ s mm args below meth c _ _ 0 0 0 [(0, .int v), (1, .int a), (2, .int b)] []
  refine az_iload_n C 0 dX4_in_0 rfl ?_
  refine az_iload_n C 1 dX4_in_1 rfl ?_
  refine az_icmp_lt C 14 dX4_in_2 (by decide) (fun q => absurd q (Int32.not_lt.mpr h1)) (fun _ => ?_)
  refine az_iload_n C 0 dX4_in_5 rfl ?_
  refine az_iload_n C 2 dX4_in_6 rfl ?_
  refine az_icmp_gt C 14 dX4_in_7 (by decide) (fun q => absurd q (Int32.not_lt.mpr h2)) (fun _ => ?_)
  refine az_iconst C (v := 1) dX4_in_10 (by decide) ?_
  refine az_goto C 15 dX4_in_11 (by decide) ?_
  exact az_zret C .boolean rfl rfl dX4_in_15 (Nat.le_of_ble_eq_true rfl) (Nat.le_of_ble_eq_true rfl) ⟨rfl, rfl, rfl⟩

set_option maxHeartbeats 4000000 in
set_option maxRecDepth 100000 in
theorem Min0 (hG : az_okS l G) (v a b : Int32) (h : a ≤ v → ¬ v ≤ b) : az_M l G yX4_in (az_ws yX4_in cX4_in 3 (Option.some FieldType.boolean)) 1 [.int v, .int a, .int b] (AD ρ) (KK G ρ x m ou) 0 0 (az_r (some (.int 0)) (AD ρ) (KK G ρ x m ou)) := by
  refine az_start hG.1 (by decide +kernel) (Nat.le_of_ble_eq_true rfl) ?_
  intro p e s mm args below meth c C hnm
  show az_W l G 3 _ p e _ s mm args below meth c _ _ 0 0 0 [(0, .int v), (1, .int a), (2, .int b)] []
  refine az_iload_n C 0 dX4_in_0 rfl ?_
  refine az_iload_n C 1 dX4_in_1 rfl ?_
  refine az_icmp_lt C 14 dX4_in_2 (by decide) (fun c1 => ?_) (fun c1 => ?_)
  · refine az_iconst C (v := 0) dX4_in_14 (by decide) ?_
    exact az_zret C .boolean rfl rfl dX4_in_15 (Nat.le_of_ble_eq_true rfl) (Nat.le_of_ble_eq_true rfl) ⟨rfl, rfl, rfl⟩
  · refine az_iload_n C 0 dX4_in_5 rfl ?_
    refine az_iload_n C 2 dX4_in_6 rfl ?_
    refine az_icmp_gt C 14 dX4_in_7 (by decide) (fun _ => ?_) (fun q => absurd (Int32.not_le.mp (h (Int32.not_lt.mp c1))) q)
    refine az_iconst C (v := 0) dX4_in_14 (by decide) ?_
    exact az_zret C .boolean rfl rfl dX4_in_15 (Nat.le_of_ble_eq_true rfl) (Nat.le_of_ble_eq_true rfl) ⟨rfl, rfl, rfl⟩

set_option maxHeartbeats 4000000 in
set_option maxRecDepth 100000 in
theorem Mfails (hG : az_okS l G) (v : Int32) : az_M l G yX4_fails (az_ws yX4_fails cX4_fails 2 (Option.some FieldType.int)) 1 [.ref (ρ.1 100), .int v] (AD ρ) (KK G ρ x m ou) 0 0 (az_r (some (.int 0)) (AD ρ) (KK G ρ x (mI m 0 0 v) ou)) := by
  refine az_start hG.1 (by decide +kernel) (Nat.le_of_ble_eq_true rfl) ?_
  intro p e s mm args below meth c C hnm
  show az_W l G 2 _ p e _ s mm args below meth c _ _ 0 0 0 [(0, .ref (ρ.1 100)), (1, .int v)] []
  refine az_aload_n C 0 dX4_fails_0 rfl ?_
  refine az_iload_n C 1 dX4_fails_1 rfl ?_
  refine az_put C cX4 2 0 0 wl_X4_101 dX4_fails_2 rfl rfl (by decide) (Nat.le_of_ble_eq_true rfl) rfl rfl rfl (az_to rfl (K' := (KK G ρ x (mI m 0 0 v) ou)) (KK_M rfl) ?_)
  refine az_iconst C (v := 0) dX4_fails_5 (by decide) ?_
  exact az_iret C rfl dX4_fails_6 (Nat.le_of_ble_eq_true rfl) (Nat.le_of_ble_eq_true rfl) ⟨rfl, rfl, rfl⟩

set_option maxHeartbeats 4000000 in
set_option maxRecDepth 100000 in
theorem Mtells (hG : az_okS l G) (v : Int32) : az_M l G yX4_tells (az_ws yX4_tells cX4_tells 2 (Option.some FieldType.int)) 1 [.ref (ρ.1 100), .int v] (AD ρ) (KK G ρ x m ou) 0 0 (az_r (some (.int v)) (AD ρ) (KK G ρ x (mI m 0 0 0) ou)) := by
  refine az_start hG.1 (by decide +kernel) (Nat.le_of_ble_eq_true rfl) ?_
  intro p e s mm args below meth c C hnm
  show az_W l G 2 _ p e _ s mm args below meth c _ _ 0 0 0 [(0, .ref (ρ.1 100)), (1, .int v)] []
  refine az_aload_n C 0 dX4_tells_0 rfl ?_
  refine az_iconst C (v := 0) dX4_tells_1 (by decide) ?_
  refine az_put C cX4 2 0 0 wl_X4_101 dX4_tells_2 rfl rfl (by decide) (Nat.le_of_ble_eq_true rfl) rfl rfl rfl (az_to rfl (K' := (KK G ρ x (mI m 0 0 0) ou)) (KK_M rfl) ?_)
  refine az_iload_n C 1 dX4_tells_5 rfl ?_
  exact az_iret C rfl dX4_tells_6 (Nat.le_of_ble_eq_true rfl) (Nat.le_of_ble_eq_true rfl) ⟨rfl, rfl, rfl⟩

set_option maxHeartbeats 4000000 in
set_option maxRecDepth 100000 in
theorem Masks (hG : az_okS l G) (u v : Int32) : az_M l G yX4_asks (az_ws yX4_asks cX4_asks 3 (Option.some FieldType.boolean)) 1 [.ref (ρ.1 100), .int u, .int v] (AD ρ) (KK G ρ x m ou) 0 0 (az_r (some (.int (if ¬ u = 0 then 0 else if v = 0 then 0 else 1))) (AD ρ) (KK G ρ x (mI m 0 0 u) ou)) := by
  refine az_start hG.1 (by decide +kernel) (Nat.le_of_ble_eq_true rfl) ?_
  intro p e s mm args below meth c C hnm
  show az_W l G 3 _ p e _ s mm args below meth c _ _ 0 0 0 [(0, .ref (ρ.1 100)), (1, .int u), (2, .int v)] []
  refine az_aload_n C 0 dX4_asks_0 rfl ?_
  refine az_iload_n C 1 dX4_asks_1 rfl ?_
  refine az_put C cX4 2 0 0 wl_X4_101 dX4_asks_2 rfl rfl (by decide) (Nat.le_of_ble_eq_true rfl) rfl rfl rfl (az_to rfl (K' := (KK G ρ x (mI m 0 0 u) ou)) (KK_M rfl) ?_)
  refine az_iload_n C 1 dX4_asks_5 rfl ?_
  refine az_if_ne C 17 dX4_asks_6 (by decide) (fun c1 => ?_) (fun c1 => ?_)
  · refine az_iconst C (v := 0) dX4_asks_17 (by decide) ?_
    exact az_zret C .boolean rfl rfl dX4_asks_18 (Nat.le_of_ble_eq_true rfl) (Nat.le_of_ble_eq_true rfl) ⟨(by simp only [c1, if_true, if_false, not_true_eq_false, not_false_eq_true]), rfl, rfl⟩
  · refine az_iload_n C 2 dX4_asks_9 rfl ?_
    refine az_if_eq C 17 dX4_asks_10 (by decide) (fun c2 => ?_) (fun c2 => ?_)
    · refine az_iconst C (v := 0) dX4_asks_17 (by decide) ?_
      exact az_zret C .boolean rfl rfl dX4_asks_18 (Nat.le_of_ble_eq_true rfl) (Nat.le_of_ble_eq_true rfl) ⟨(by simp only [c1, c2, if_true, if_false, not_true_eq_false, not_false_eq_true]), rfl, rfl⟩
    · refine az_iconst C (v := 1) dX4_asks_13 (by decide) ?_
      refine az_goto C 18 dX4_asks_14 (by decide) ?_
      exact az_zret C .boolean rfl rfl dX4_asks_18 (Nat.le_of_ble_eq_true rfl) (Nat.le_of_ble_eq_true rfl) ⟨(by simp only [c1, c2, if_true, if_false, not_true_eq_false, not_false_eq_true]), rfl, rfl⟩

set_option maxHeartbeats 4000000 in
set_option maxRecDepth 100000 in
theorem Mr1 (hG : az_okS l G) (nr k : Nat) (hr : m.1 0 1 = nI nr) (hn : nr ≤ 6) (hk : k + 1 ≤ nr) : az_M l G yX4_isReach (az_ws yX4_isReach cX4_isReach 2 (Option.some FieldType.boolean)) 2 [.ref (ρ.1 100), .int (nI k)] (AD ρ) (KK G ρ x m ou) 0 0 (az_r (some (.int 1)) (AD ρ) (KK G ρ x m ou)) := by
  refine az_start hG.1 (by decide +kernel) (Nat.le_of_ble_eq_true rfl) ?_
  intro p e s mm args below meth c C hnm
  show az_W l G 2 _ p e _ s mm args below meth c _ _ 0 0 0 [(0, .ref (ρ.1 100)), (1, .int (nI k))] []
  refine az_iload_n C 1 dX4_isReach_0 rfl ?_
  refine az_iconst C (v := 0) dX4_isReach_1 (by decide) ?_
  refine az_aload_n C 0 dX4_isReach_2 rfl ?_
  refine az_get C cX4 2 0 1 (v := .int (m.1 0 1)) wl_X4_7 dX4_isReach_3 rfl rfl rfl (by decide) ?_
  refine az_top (nI nr) hr ?_
  refine az_iconst C (v := 1) dX4_isReach_6 (by decide) ?_
  refine az_isub C dX4_isReach_7 ?_
  refine az_callS C Y_X4_in [.int (nI k), .int 0, .int ((nI nr - 1))] [] wm_X4_104 wst_X4_in dX4_isReach_8 rfl (Min1 hG (nI k) 0 ((nI nr - 1)) (nI_pos' (by omega)) (hi_in hk (by omega))) rfl (Nat.le_of_ble_eq_true rfl) (Nat.le_of_ble_eq_true rfl) (Nat.le_of_ble_eq_true rfl) (Nat.le_of_ble_eq_true rfl) (Nat.le_of_ble_eq_true rfl) (az_k1 rfl rfl ?_) (az_k0 rfl)
  exact az_zret C .boolean rfl rfl dX4_isReach_11 (Nat.le_of_ble_eq_true rfl) (Nat.le_of_ble_eq_true rfl) ⟨rfl, rfl, rfl⟩

set_option maxHeartbeats 4000000 in
set_option maxRecDepth 100000 in
theorem Mr0 (hG : az_okS l G) (nr : Nat) (v : Int32) (hr : m.1 0 1 = nI nr) (hn : nr ≤ 6) (h0 : 1 ≤ nr + 1) (hv : oo (nr + 1 - 1) v) : az_M l G yX4_isReach (az_ws yX4_isReach cX4_isReach 2 (Option.some FieldType.boolean)) 2 [.ref (ρ.1 100), .int v] (AD ρ) (KK G ρ x m ou) 0 0 (az_r (some (.int 0)) (AD ρ) (KK G ρ x m ou)) := by
  refine az_start hG.1 (by decide +kernel) (Nat.le_of_ble_eq_true rfl) ?_
  intro p e s mm args below meth c C hnm
  show az_W l G 2 _ p e _ s mm args below meth c _ _ 0 0 0 [(0, .ref (ρ.1 100)), (1, .int v)] []
  refine az_iload_n C 1 dX4_isReach_0 rfl ?_
  refine az_iconst C (v := 0) dX4_isReach_1 (by decide) ?_
  refine az_aload_n C 0 dX4_isReach_2 rfl ?_
  refine az_get C cX4 2 0 1 (v := .int (m.1 0 1)) wl_X4_7 dX4_isReach_3 rfl rfl rfl (by decide) ?_
  refine az_top (nI nr) hr ?_
  refine az_iconst C (v := 1) dX4_isReach_6 (by decide) ?_
  refine az_isub C dX4_isReach_7 ?_
  refine az_callS C Y_X4_in [.int v, .int 0, .int ((nI nr - 1))] [] wm_X4_104 wst_X4_in dX4_isReach_8 rfl (Min0 hG (v) 0 ((nI nr - 1)) (fun z => hi_out hv (by omega) h0 z)) rfl (Nat.le_of_ble_eq_true rfl) (Nat.le_of_ble_eq_true rfl) (Nat.le_of_ble_eq_true rfl) (Nat.le_of_ble_eq_true rfl) (Nat.le_of_ble_eq_true rfl) (az_k1 rfl rfl ?_) (az_k0 rfl)
  exact az_zret C .boolean rfl rfl dX4_isReach_11 (Nat.le_of_ble_eq_true rfl) (Nat.le_of_ble_eq_true rfl) ⟨rfl, rfl, rfl⟩

set_option maxHeartbeats 4000000 in
set_option maxRecDepth 100000 in
theorem Ml1 (hG : az_okS l G) (nr k : Nat) (hr : m.1 0 1 = nI nr) (hn : nr ≤ 6) (hk : k + 2 ≤ nr) : az_M l G yX4_isLock (az_ws yX4_isLock cX4_isLock 2 (Option.some FieldType.boolean)) 2 [.ref (ρ.1 100), .int (nI k)] (AD ρ) (KK G ρ x m ou) 0 0 (az_r (some (.int 1)) (AD ρ) (KK G ρ x m ou)) := by
  refine az_start hG.1 (by decide +kernel) (Nat.le_of_ble_eq_true rfl) ?_
  intro p e s mm args below meth c C hnm
  show az_W l G 2 _ p e _ s mm args below meth c _ _ 0 0 0 [(0, .ref (ρ.1 100)), (1, .int (nI k))] []
  refine az_iload_n C 1 dX4_isLock_0 rfl ?_
  refine az_iconst C (v := 0) dX4_isLock_1 (by decide) ?_
  refine az_aload_n C 0 dX4_isLock_2 rfl ?_
  refine az_get C cX4 2 0 1 (v := .int (m.1 0 1)) wl_X4_7 dX4_isLock_3 rfl rfl rfl (by decide) ?_
  refine az_top (nI nr) hr ?_
  refine az_iconst C (v := 2) dX4_isLock_6 (by decide) ?_
  refine az_isub C dX4_isLock_7 ?_
  refine az_callS C Y_X4_in [.int (nI k), .int 0, .int ((nI nr - 2))] [] wm_X4_104 wst_X4_in dX4_isLock_8 rfl (Min1 hG (nI k) 0 ((nI nr - 2)) (nI_pos' (by omega)) (hi_in hk (by omega))) rfl (Nat.le_of_ble_eq_true rfl) (Nat.le_of_ble_eq_true rfl) (Nat.le_of_ble_eq_true rfl) (Nat.le_of_ble_eq_true rfl) (Nat.le_of_ble_eq_true rfl) (az_k1 rfl rfl ?_) (az_k0 rfl)
  exact az_zret C .boolean rfl rfl dX4_isLock_11 (Nat.le_of_ble_eq_true rfl) (Nat.le_of_ble_eq_true rfl) ⟨rfl, rfl, rfl⟩

set_option maxHeartbeats 4000000 in
set_option maxRecDepth 100000 in
theorem Ml0 (hG : az_okS l G) (nr : Nat) (v : Int32) (hr : m.1 0 1 = nI nr) (hn : nr ≤ 6) (h0 : 2 ≤ nr + 1) (hv : oo (nr + 1 - 2) v) : az_M l G yX4_isLock (az_ws yX4_isLock cX4_isLock 2 (Option.some FieldType.boolean)) 2 [.ref (ρ.1 100), .int v] (AD ρ) (KK G ρ x m ou) 0 0 (az_r (some (.int 0)) (AD ρ) (KK G ρ x m ou)) := by
  refine az_start hG.1 (by decide +kernel) (Nat.le_of_ble_eq_true rfl) ?_
  intro p e s mm args below meth c C hnm
  show az_W l G 2 _ p e _ s mm args below meth c _ _ 0 0 0 [(0, .ref (ρ.1 100)), (1, .int v)] []
  refine az_iload_n C 1 dX4_isLock_0 rfl ?_
  refine az_iconst C (v := 0) dX4_isLock_1 (by decide) ?_
  refine az_aload_n C 0 dX4_isLock_2 rfl ?_
  refine az_get C cX4 2 0 1 (v := .int (m.1 0 1)) wl_X4_7 dX4_isLock_3 rfl rfl rfl (by decide) ?_
  refine az_top (nI nr) hr ?_
  refine az_iconst C (v := 2) dX4_isLock_6 (by decide) ?_
  refine az_isub C dX4_isLock_7 ?_
  refine az_callS C Y_X4_in [.int v, .int 0, .int ((nI nr - 2))] [] wm_X4_104 wst_X4_in dX4_isLock_8 rfl (Min0 hG (v) 0 ((nI nr - 2)) (fun z => hi_out hv (by omega) h0 z)) rfl (Nat.le_of_ble_eq_true rfl) (Nat.le_of_ble_eq_true rfl) (Nat.le_of_ble_eq_true rfl) (Nat.le_of_ble_eq_true rfl) (Nat.le_of_ble_eq_true rfl) (az_k1 rfl rfl ?_) (az_k0 rfl)
  exact az_zret C .boolean rfl rfl dX4_isLock_11 (Nat.le_of_ble_eq_true rfl) (Nat.le_of_ble_eq_true rfl) ⟨rfl, rfl, rfl⟩

set_option maxHeartbeats 4000000 in
set_option maxRecDepth 100000 in
theorem Mb1 (hG : az_okS l G) (nb k : Nat) (hb : m.1 0 12 = nI nb) (hn : nb ≤ 8) (hk : k + 1 ≤ nb) : az_M l G yX4_isBarge (az_ws yX4_isBarge cX4_isBarge 2 (Option.some FieldType.boolean)) 2 [.ref (ρ.1 100), .int (nI k)] (AD ρ) (KK G ρ x m ou) 0 0 (az_r (some (.int 1)) (AD ρ) (KK G ρ x m ou)) := by
  refine az_start hG.1 (by decide +kernel) (Nat.le_of_ble_eq_true rfl) ?_
  intro p e s mm args below meth c C hnm
  show az_W l G 2 _ p e _ s mm args below meth c _ _ 0 0 0 [(0, .ref (ρ.1 100)), (1, .int (nI k))] []
  refine az_iload_n C 1 dX4_isBarge_0 rfl ?_
  refine az_iconst C (v := 0) dX4_isBarge_1 (by decide) ?_
  refine az_aload_n C 0 dX4_isBarge_2 rfl ?_
  refine az_get C cX4 2 0 12 (v := .int (m.1 0 12)) wl_X4_108 dX4_isBarge_3 rfl rfl rfl (by decide) ?_
  refine az_top (nI nb) hb ?_
  refine az_iconst C (v := 1) dX4_isBarge_6 (by decide) ?_
  refine az_isub C dX4_isBarge_7 ?_
  refine az_callS C Y_X4_in [.int (nI k), .int 0, .int ((nI nb - 1))] [] wm_X4_104 wst_X4_in dX4_isBarge_8 rfl (Min1 hG (nI k) 0 ((nI nb - 1)) (nI_pos' (by omega)) (hi_in hk (by omega))) rfl (Nat.le_of_ble_eq_true rfl) (Nat.le_of_ble_eq_true rfl) (Nat.le_of_ble_eq_true rfl) (Nat.le_of_ble_eq_true rfl) (Nat.le_of_ble_eq_true rfl) (az_k1 rfl rfl ?_) (az_k0 rfl)
  exact az_zret C .boolean rfl rfl dX4_isBarge_11 (Nat.le_of_ble_eq_true rfl) (Nat.le_of_ble_eq_true rfl) ⟨rfl, rfl, rfl⟩

set_option maxHeartbeats 4000000 in
set_option maxRecDepth 100000 in
theorem Mb0 (hG : az_okS l G) (nb : Nat) (v : Int32) (hb : m.1 0 12 = nI nb) (hn : nb ≤ 8) (h0 : 1 ≤ nb + 1) (hv : oo (nb + 1 - 1) v) : az_M l G yX4_isBarge (az_ws yX4_isBarge cX4_isBarge 2 (Option.some FieldType.boolean)) 2 [.ref (ρ.1 100), .int v] (AD ρ) (KK G ρ x m ou) 0 0 (az_r (some (.int 0)) (AD ρ) (KK G ρ x m ou)) := by
  refine az_start hG.1 (by decide +kernel) (Nat.le_of_ble_eq_true rfl) ?_
  intro p e s mm args below meth c C hnm
  show az_W l G 2 _ p e _ s mm args below meth c _ _ 0 0 0 [(0, .ref (ρ.1 100)), (1, .int v)] []
  refine az_iload_n C 1 dX4_isBarge_0 rfl ?_
  refine az_iconst C (v := 0) dX4_isBarge_1 (by decide) ?_
  refine az_aload_n C 0 dX4_isBarge_2 rfl ?_
  refine az_get C cX4 2 0 12 (v := .int (m.1 0 12)) wl_X4_108 dX4_isBarge_3 rfl rfl rfl (by decide) ?_
  refine az_top (nI nb) hb ?_
  refine az_iconst C (v := 1) dX4_isBarge_6 (by decide) ?_
  refine az_isub C dX4_isBarge_7 ?_
  refine az_callS C Y_X4_in [.int v, .int 0, .int ((nI nb - 1))] [] wm_X4_104 wst_X4_in dX4_isBarge_8 rfl (Min0 hG (v) 0 ((nI nb - 1)) (fun z => hi_out hv (by omega) h0 z)) rfl (Nat.le_of_ble_eq_true rfl) (Nat.le_of_ble_eq_true rfl) (Nat.le_of_ble_eq_true rfl) (Nat.le_of_ble_eq_true rfl) (Nat.le_of_ble_eq_true rfl) (az_k1 rfl rfl ?_) (az_k0 rfl)
  exact az_zret C .boolean rfl rfl dX4_isBarge_11 (Nat.le_of_ble_eq_true rfl) (Nat.le_of_ble_eq_true rfl) ⟨rfl, rfl, rfl⟩

set_option maxHeartbeats 4000000 in
set_option maxRecDepth 100000 in
theorem MareaOf1 (hG : az_okS l G) (nr k : Nat) (hr : m.1 0 1 = nI nr) (hn : nr ≤ 6) (hk : k + 1 ≤ nr) : az_M l G yX4_areaOf (az_ws yX4_areaOf cX4_areaOf 2 (Option.some FieldType.int)) 3 [.ref (ρ.1 100), .int (nI k)] (AD ρ) (KK G ρ x m ou) 0 0 (az_r (some (.int (m.1 3 k))) (AD ρ) (KK G ρ x (mI m 0 0 0) ou)) := by
  refine az_start hG.1 (by decide +kernel) (Nat.le_of_ble_eq_true rfl) ?_
  intro p e s mm args below meth c C hnm
  show az_W l G 2 _ p e _ s mm args below meth c _ _ 0 0 0 [(0, .ref (ρ.1 100)), (1, .int (nI k))] []
  refine az_aload_n C 0 dX4_areaOf_0 rfl ?_
  refine az_iload_n C 1 dX4_areaOf_1 rfl ?_
  refine az_callV C Y_X4_isReach cX4 2 0 [.int (nI k)] [] wm_X4_128 wi_X4_isReach wse_X4_isReach dX4_areaOf_2 rfl rfl rfl (Mr1 hG nr k hr hn hk) rfl (Nat.le_of_ble_eq_true rfl) (Nat.le_of_ble_eq_true rfl) (Nat.le_of_ble_eq_true rfl) (Nat.le_of_ble_eq_true rfl) (Nat.le_of_ble_eq_true rfl) (az_k1 rfl rfl ?_) (az_k0 rfl)
  refine az_if_eq C 21 dX4_areaOf_5 (by decide) (fun q => absurd q (by decide)) (fun _ => ?_)
  refine az_aload_n C 0 dX4_areaOf_8 rfl ?_
  refine az_aload_n C 0 dX4_areaOf_9 rfl ?_
  refine az_get C cX4 2 0 3 (v := .ref (ρ.1 103)) wl_X4_13 dX4_areaOf_10 rfl rfl rfl (by decide) ?_
  refine az_iload_n C 1 dX4_areaOf_13 rfl ?_
  refine az_ialdN C 2 3 k (v := m.1 3 k) dX4_areaOf_14 rfl rfl (by omega) (by decide) rfl ?_
  refine az_callV C Y_X4_tells cX4 2 0 [.int (m.1 3 k)] [] wm_X4_125 wi_X4_tells wse_X4_tells dX4_areaOf_15 rfl rfl rfl (Mtells hG (m.1 3 k)) rfl (Nat.le_of_ble_eq_true rfl) (Nat.le_of_ble_eq_true rfl) (Nat.le_of_ble_eq_true rfl) (Nat.le_of_ble_eq_true rfl) (Nat.le_of_ble_eq_true rfl) (az_k1 rfl rfl ?_) (az_k0 rfl)
  refine az_goto C 26 dX4_areaOf_18 (by decide) ?_
  exact az_iret C rfl dX4_areaOf_26 (Nat.le_of_ble_eq_true rfl) (Nat.le_of_ble_eq_true rfl) ⟨rfl, rfl, rfl⟩

set_option maxHeartbeats 4000000 in
set_option maxRecDepth 100000 in
theorem MareaOf0 (hG : az_okS l G) (nr : Nat) (v : Int32) (hr : m.1 0 1 = nI nr) (hn : nr ≤ 6) (hv : oo nr v) : az_M l G yX4_areaOf (az_ws yX4_areaOf cX4_areaOf 2 (Option.some FieldType.int)) 3 [.ref (ρ.1 100), .int v] (AD ρ) (KK G ρ x m ou) 0 0 (az_r (some (.int 0)) (AD ρ) (KK G ρ x (mI m 0 0 1) ou)) := by
  refine az_start hG.1 (by decide +kernel) (Nat.le_of_ble_eq_true rfl) ?_
  intro p e s mm args below meth c C hnm
  show az_W l G 2 _ p e _ s mm args below meth c _ _ 0 0 0 [(0, .ref (ρ.1 100)), (1, .int v)] []
  refine az_aload_n C 0 dX4_areaOf_0 rfl ?_
  refine az_iload_n C 1 dX4_areaOf_1 rfl ?_
  refine az_callV C Y_X4_isReach cX4 2 0 [.int v] [] wm_X4_128 wi_X4_isReach wse_X4_isReach dX4_areaOf_2 rfl rfl rfl (Mr0 hG nr v hr hn (by omega) hv) rfl (Nat.le_of_ble_eq_true rfl) (Nat.le_of_ble_eq_true rfl) (Nat.le_of_ble_eq_true rfl) (Nat.le_of_ble_eq_true rfl) (Nat.le_of_ble_eq_true rfl) (az_k1 rfl rfl ?_) (az_k0 rfl)
  refine az_if_eq C 21 dX4_areaOf_5 (by decide) (fun _ => ?_) (fun q => absurd (by decide) q)
  refine az_aload_n C 0 dX4_areaOf_21 rfl ?_
  refine az_iconst C (v := 1) dX4_areaOf_22 (by decide) ?_
  refine az_callV C Y_X4_fails cX4 2 0 [.int 1] [] wm_X4_121 wi_X4_fails wse_X4_fails dX4_areaOf_23 rfl rfl rfl (Mfails hG (1)) rfl (Nat.le_of_ble_eq_true rfl) (Nat.le_of_ble_eq_true rfl) (Nat.le_of_ble_eq_true rfl) (Nat.le_of_ble_eq_true rfl) (Nat.le_of_ble_eq_true rfl) (az_k1 rfl rfl ?_) (az_k0 rfl)
  exact az_iret C rfl dX4_areaOf_26 (Nat.le_of_ble_eq_true rfl) (Nat.le_of_ble_eq_true rfl) ⟨rfl, rfl, rfl⟩

set_option maxHeartbeats 4000000 in
set_option maxRecDepth 100000 in
theorem MvolumeOf1 (hG : az_okS l G) (nr k : Nat) (hr : m.1 0 1 = nI nr) (hn : nr ≤ 6) (hk : k + 1 ≤ nr) : az_M l G yX4_volumeOf (az_ws yX4_volumeOf cX4_volumeOf 2 (Option.some FieldType.int)) 3 [.ref (ρ.1 100), .int (nI k)] (AD ρ) (KK G ρ x m ou) 0 0 (az_r (some (.int (m.1 4 k))) (AD ρ) (KK G ρ x (mI m 0 0 0) ou)) := by
  refine az_start hG.1 (by decide +kernel) (Nat.le_of_ble_eq_true rfl) ?_
  intro p e s mm args below meth c C hnm
  show az_W l G 2 _ p e _ s mm args below meth c _ _ 0 0 0 [(0, .ref (ρ.1 100)), (1, .int (nI k))] []
  refine az_aload_n C 0 dX4_volumeOf_0 rfl ?_
  refine az_iload_n C 1 dX4_volumeOf_1 rfl ?_
  refine az_callV C Y_X4_isReach cX4 2 0 [.int (nI k)] [] wm_X4_128 wi_X4_isReach wse_X4_isReach dX4_volumeOf_2 rfl rfl rfl (Mr1 hG nr k hr hn hk) rfl (Nat.le_of_ble_eq_true rfl) (Nat.le_of_ble_eq_true rfl) (Nat.le_of_ble_eq_true rfl) (Nat.le_of_ble_eq_true rfl) (Nat.le_of_ble_eq_true rfl) (az_k1 rfl rfl ?_) (az_k0 rfl)
  refine az_if_eq C 21 dX4_volumeOf_5 (by decide) (fun q => absurd q (by decide)) (fun _ => ?_)
  refine az_aload_n C 0 dX4_volumeOf_8 rfl ?_
  refine az_aload_n C 0 dX4_volumeOf_9 rfl ?_
  refine az_get C cX4 2 0 4 (v := .ref (ρ.1 104)) wl_X4_17 dX4_volumeOf_10 rfl rfl rfl (by decide) ?_
  refine az_iload_n C 1 dX4_volumeOf_13 rfl ?_
  refine az_ialdN C 2 4 k (v := m.1 4 k) dX4_volumeOf_14 rfl rfl (by omega) (by decide) rfl ?_
  refine az_callV C Y_X4_tells cX4 2 0 [.int (m.1 4 k)] [] wm_X4_125 wi_X4_tells wse_X4_tells dX4_volumeOf_15 rfl rfl rfl (Mtells hG (m.1 4 k)) rfl (Nat.le_of_ble_eq_true rfl) (Nat.le_of_ble_eq_true rfl) (Nat.le_of_ble_eq_true rfl) (Nat.le_of_ble_eq_true rfl) (Nat.le_of_ble_eq_true rfl) (az_k1 rfl rfl ?_) (az_k0 rfl)
  refine az_goto C 26 dX4_volumeOf_18 (by decide) ?_
  exact az_iret C rfl dX4_volumeOf_26 (Nat.le_of_ble_eq_true rfl) (Nat.le_of_ble_eq_true rfl) ⟨rfl, rfl, rfl⟩

set_option maxHeartbeats 4000000 in
set_option maxRecDepth 100000 in
theorem MvolumeOf0 (hG : az_okS l G) (nr : Nat) (v : Int32) (hr : m.1 0 1 = nI nr) (hn : nr ≤ 6) (hv : oo nr v) : az_M l G yX4_volumeOf (az_ws yX4_volumeOf cX4_volumeOf 2 (Option.some FieldType.int)) 3 [.ref (ρ.1 100), .int v] (AD ρ) (KK G ρ x m ou) 0 0 (az_r (some (.int 0)) (AD ρ) (KK G ρ x (mI m 0 0 1) ou)) := by
  refine az_start hG.1 (by decide +kernel) (Nat.le_of_ble_eq_true rfl) ?_
  intro p e s mm args below meth c C hnm
  show az_W l G 2 _ p e _ s mm args below meth c _ _ 0 0 0 [(0, .ref (ρ.1 100)), (1, .int v)] []
  refine az_aload_n C 0 dX4_volumeOf_0 rfl ?_
  refine az_iload_n C 1 dX4_volumeOf_1 rfl ?_
  refine az_callV C Y_X4_isReach cX4 2 0 [.int v] [] wm_X4_128 wi_X4_isReach wse_X4_isReach dX4_volumeOf_2 rfl rfl rfl (Mr0 hG nr v hr hn (by omega) hv) rfl (Nat.le_of_ble_eq_true rfl) (Nat.le_of_ble_eq_true rfl) (Nat.le_of_ble_eq_true rfl) (Nat.le_of_ble_eq_true rfl) (Nat.le_of_ble_eq_true rfl) (az_k1 rfl rfl ?_) (az_k0 rfl)
  refine az_if_eq C 21 dX4_volumeOf_5 (by decide) (fun _ => ?_) (fun q => absurd (by decide) q)
  refine az_aload_n C 0 dX4_volumeOf_21 rfl ?_
  refine az_iconst C (v := 1) dX4_volumeOf_22 (by decide) ?_
  refine az_callV C Y_X4_fails cX4 2 0 [.int 1] [] wm_X4_121 wi_X4_fails wse_X4_fails dX4_volumeOf_23 rfl rfl rfl (Mfails hG (1)) rfl (Nat.le_of_ble_eq_true rfl) (Nat.le_of_ble_eq_true rfl) (Nat.le_of_ble_eq_true rfl) (Nat.le_of_ble_eq_true rfl) (Nat.le_of_ble_eq_true rfl) (az_k1 rfl rfl ?_) (az_k0 rfl)
  exact az_iret C rfl dX4_volumeOf_26 (Nat.le_of_ble_eq_true rfl) (Nat.le_of_ble_eq_true rfl) ⟨rfl, rfl, rfl⟩

set_option maxHeartbeats 4000000 in
set_option maxRecDepth 100000 in
theorem MpriceIn1 (hG : az_okS l G) (nr k : Nat) (hr : m.1 0 1 = nI nr) (hn : nr ≤ 6) (hk : k + 1 ≤ nr) : az_M l G yX4_priceIn (az_ws yX4_priceIn cX4_priceIn 2 (Option.some FieldType.int)) 3 [.ref (ρ.1 100), .int (nI k)] (AD ρ) (KK G ρ x m ou) 0 0 (az_r (some (.int (m.1 6 k))) (AD ρ) (KK G ρ x (mI m 0 0 0) ou)) := by
  refine az_start hG.1 (by decide +kernel) (Nat.le_of_ble_eq_true rfl) ?_
  intro p e s mm args below meth c C hnm
  show az_W l G 2 _ p e _ s mm args below meth c _ _ 0 0 0 [(0, .ref (ρ.1 100)), (1, .int (nI k))] []
  refine az_aload_n C 0 dX4_priceIn_0 rfl ?_
  refine az_iload_n C 1 dX4_priceIn_1 rfl ?_
  refine az_callV C Y_X4_isReach cX4 2 0 [.int (nI k)] [] wm_X4_128 wi_X4_isReach wse_X4_isReach dX4_priceIn_2 rfl rfl rfl (Mr1 hG nr k hr hn hk) rfl (Nat.le_of_ble_eq_true rfl) (Nat.le_of_ble_eq_true rfl) (Nat.le_of_ble_eq_true rfl) (Nat.le_of_ble_eq_true rfl) (Nat.le_of_ble_eq_true rfl) (az_k1 rfl rfl ?_) (az_k0 rfl)
  refine az_if_eq C 21 dX4_priceIn_5 (by decide) (fun q => absurd q (by decide)) (fun _ => ?_)
  refine az_aload_n C 0 dX4_priceIn_8 rfl ?_
  refine az_aload_n C 0 dX4_priceIn_9 rfl ?_
  refine az_get C cX4 2 0 6 (v := .ref (ρ.1 106)) wl_X4_23 dX4_priceIn_10 rfl rfl rfl (by decide) ?_
  refine az_iload_n C 1 dX4_priceIn_13 rfl ?_
  refine az_ialdN C 2 6 k (v := m.1 6 k) dX4_priceIn_14 rfl rfl (by omega) (by decide) rfl ?_
  refine az_callV C Y_X4_tells cX4 2 0 [.int (m.1 6 k)] [] wm_X4_125 wi_X4_tells wse_X4_tells dX4_priceIn_15 rfl rfl rfl (Mtells hG (m.1 6 k)) rfl (Nat.le_of_ble_eq_true rfl) (Nat.le_of_ble_eq_true rfl) (Nat.le_of_ble_eq_true rfl) (Nat.le_of_ble_eq_true rfl) (Nat.le_of_ble_eq_true rfl) (az_k1 rfl rfl ?_) (az_k0 rfl)
  refine az_goto C 26 dX4_priceIn_18 (by decide) ?_
  exact az_iret C rfl dX4_priceIn_26 (Nat.le_of_ble_eq_true rfl) (Nat.le_of_ble_eq_true rfl) ⟨rfl, rfl, rfl⟩

set_option maxHeartbeats 4000000 in
set_option maxRecDepth 100000 in
theorem MpriceIn0 (hG : az_okS l G) (nr : Nat) (v : Int32) (hr : m.1 0 1 = nI nr) (hn : nr ≤ 6) (hv : oo nr v) : az_M l G yX4_priceIn (az_ws yX4_priceIn cX4_priceIn 2 (Option.some FieldType.int)) 3 [.ref (ρ.1 100), .int v] (AD ρ) (KK G ρ x m ou) 0 0 (az_r (some (.int 0)) (AD ρ) (KK G ρ x (mI m 0 0 1) ou)) := by
  refine az_start hG.1 (by decide +kernel) (Nat.le_of_ble_eq_true rfl) ?_
  intro p e s mm args below meth c C hnm
  show az_W l G 2 _ p e _ s mm args below meth c _ _ 0 0 0 [(0, .ref (ρ.1 100)), (1, .int v)] []
  refine az_aload_n C 0 dX4_priceIn_0 rfl ?_
  refine az_iload_n C 1 dX4_priceIn_1 rfl ?_
  refine az_callV C Y_X4_isReach cX4 2 0 [.int v] [] wm_X4_128 wi_X4_isReach wse_X4_isReach dX4_priceIn_2 rfl rfl rfl (Mr0 hG nr v hr hn (by omega) hv) rfl (Nat.le_of_ble_eq_true rfl) (Nat.le_of_ble_eq_true rfl) (Nat.le_of_ble_eq_true rfl) (Nat.le_of_ble_eq_true rfl) (Nat.le_of_ble_eq_true rfl) (az_k1 rfl rfl ?_) (az_k0 rfl)
  refine az_if_eq C 21 dX4_priceIn_5 (by decide) (fun _ => ?_) (fun q => absurd (by decide) q)
  refine az_aload_n C 0 dX4_priceIn_21 rfl ?_
  refine az_iconst C (v := 1) dX4_priceIn_22 (by decide) ?_
  refine az_callV C Y_X4_fails cX4 2 0 [.int 1] [] wm_X4_121 wi_X4_fails wse_X4_fails dX4_priceIn_23 rfl rfl rfl (Mfails hG (1)) rfl (Nat.le_of_ble_eq_true rfl) (Nat.le_of_ble_eq_true rfl) (Nat.le_of_ble_eq_true rfl) (Nat.le_of_ble_eq_true rfl) (Nat.le_of_ble_eq_true rfl) (az_k1 rfl rfl ?_) (az_k0 rfl)
  exact az_iret C rfl dX4_priceIn_26 (Nat.le_of_ble_eq_true rfl) (Nat.le_of_ble_eq_true rfl) ⟨rfl, rfl, rfl⟩

set_option maxHeartbeats 4000000 in
set_option maxRecDepth 100000 in
theorem MlockfulOf1 (hG : az_okS l G) (nr k : Nat) (hr : m.1 0 1 = nI nr) (hn : nr ≤ 6) (hk : k + 2 ≤ nr) : az_M l G yX4_lockfulOf (az_ws yX4_lockfulOf cX4_lockfulOf 2 (Option.some FieldType.int)) 3 [.ref (ρ.1 100), .int (nI k)] (AD ρ) (KK G ρ x m ou) 0 0 (az_r (some (.int (m.1 7 k))) (AD ρ) (KK G ρ x (mI m 0 0 0) ou)) := by
  refine az_start hG.1 (by decide +kernel) (Nat.le_of_ble_eq_true rfl) ?_
  intro p e s mm args below meth c C hnm
  show az_W l G 2 _ p e _ s mm args below meth c _ _ 0 0 0 [(0, .ref (ρ.1 100)), (1, .int (nI k))] []
  refine az_aload_n C 0 dX4_lockfulOf_0 rfl ?_
  refine az_iload_n C 1 dX4_lockfulOf_1 rfl ?_
  refine az_callV C Y_X4_isLock cX4 2 0 [.int (nI k)] [] wm_X4_138 wi_X4_isLock wse_X4_isLock dX4_lockfulOf_2 rfl rfl rfl (Ml1 hG nr k hr hn hk) rfl (Nat.le_of_ble_eq_true rfl) (Nat.le_of_ble_eq_true rfl) (Nat.le_of_ble_eq_true rfl) (Nat.le_of_ble_eq_true rfl) (Nat.le_of_ble_eq_true rfl) (az_k1 rfl rfl ?_) (az_k0 rfl)
  refine az_if_eq C 21 dX4_lockfulOf_5 (by decide) (fun q => absurd q (by decide)) (fun _ => ?_)
  refine az_aload_n C 0 dX4_lockfulOf_8 rfl ?_
  refine az_aload_n C 0 dX4_lockfulOf_9 rfl ?_
  refine az_get C cX4 2 0 7 (v := .ref (ρ.1 107)) wl_X4_26 dX4_lockfulOf_10 rfl rfl rfl (by decide) ?_
  refine az_iload_n C 1 dX4_lockfulOf_13 rfl ?_
  refine az_ialdN C 2 7 k (v := m.1 7 k) dX4_lockfulOf_14 rfl rfl (by omega) (by decide) rfl ?_
  refine az_callV C Y_X4_tells cX4 2 0 [.int (m.1 7 k)] [] wm_X4_125 wi_X4_tells wse_X4_tells dX4_lockfulOf_15 rfl rfl rfl (Mtells hG (m.1 7 k)) rfl (Nat.le_of_ble_eq_true rfl) (Nat.le_of_ble_eq_true rfl) (Nat.le_of_ble_eq_true rfl) (Nat.le_of_ble_eq_true rfl) (Nat.le_of_ble_eq_true rfl) (az_k1 rfl rfl ?_) (az_k0 rfl)
  refine az_goto C 26 dX4_lockfulOf_18 (by decide) ?_
  exact az_iret C rfl dX4_lockfulOf_26 (Nat.le_of_ble_eq_true rfl) (Nat.le_of_ble_eq_true rfl) ⟨rfl, rfl, rfl⟩

set_option maxHeartbeats 4000000 in
set_option maxRecDepth 100000 in
theorem MlockfulOf0 (hG : az_okS l G) (nr : Nat) (v : Int32) (hr : m.1 0 1 = nI nr) (hn : nr ≤ 6) (h1 : 1 ≤ nr) (hv : oo (nr - 1) v) : az_M l G yX4_lockfulOf (az_ws yX4_lockfulOf cX4_lockfulOf 2 (Option.some FieldType.int)) 3 [.ref (ρ.1 100), .int v] (AD ρ) (KK G ρ x m ou) 0 0 (az_r (some (.int 0)) (AD ρ) (KK G ρ x (mI m 0 0 1) ou)) := by
  refine az_start hG.1 (by decide +kernel) (Nat.le_of_ble_eq_true rfl) ?_
  intro p e s mm args below meth c C hnm
  show az_W l G 2 _ p e _ s mm args below meth c _ _ 0 0 0 [(0, .ref (ρ.1 100)), (1, .int v)] []
  refine az_aload_n C 0 dX4_lockfulOf_0 rfl ?_
  refine az_iload_n C 1 dX4_lockfulOf_1 rfl ?_
  refine az_callV C Y_X4_isLock cX4 2 0 [.int v] [] wm_X4_138 wi_X4_isLock wse_X4_isLock dX4_lockfulOf_2 rfl rfl rfl (Ml0 hG nr v hr hn (by omega) hv) rfl (Nat.le_of_ble_eq_true rfl) (Nat.le_of_ble_eq_true rfl) (Nat.le_of_ble_eq_true rfl) (Nat.le_of_ble_eq_true rfl) (Nat.le_of_ble_eq_true rfl) (az_k1 rfl rfl ?_) (az_k0 rfl)
  refine az_if_eq C 21 dX4_lockfulOf_5 (by decide) (fun _ => ?_) (fun q => absurd (by decide) q)
  refine az_aload_n C 0 dX4_lockfulOf_21 rfl ?_
  refine az_iconst C (v := 1) dX4_lockfulOf_22 (by decide) ?_
  refine az_callV C Y_X4_fails cX4 2 0 [.int 1] [] wm_X4_121 wi_X4_fails wse_X4_fails dX4_lockfulOf_23 rfl rfl rfl (Mfails hG (1)) rfl (Nat.le_of_ble_eq_true rfl) (Nat.le_of_ble_eq_true rfl) (Nat.le_of_ble_eq_true rfl) (Nat.le_of_ble_eq_true rfl) (Nat.le_of_ble_eq_true rfl) (az_k1 rfl rfl ?_) (az_k0 rfl)
  exact az_iret C rfl dX4_lockfulOf_26 (Nat.le_of_ble_eq_true rfl) (Nat.le_of_ble_eq_true rfl) ⟨rfl, rfl, rfl⟩

set_option maxHeartbeats 4000000 in
set_option maxRecDepth 100000 in
theorem MlengthOf1 (hG : az_okS l G) (nr k : Nat) (hr : m.1 0 1 = nI nr) (hn : nr ≤ 6) (hk : k + 2 ≤ nr) : az_M l G yX4_lengthOf (az_ws yX4_lengthOf cX4_lengthOf 2 (Option.some FieldType.int)) 3 [.ref (ρ.1 100), .int (nI k)] (AD ρ) (KK G ρ x m ou) 0 0 (az_r (some (.int (m.1 8 k))) (AD ρ) (KK G ρ x (mI m 0 0 0) ou)) := by
  refine az_start hG.1 (by decide +kernel) (Nat.le_of_ble_eq_true rfl) ?_
  intro p e s mm args below meth c C hnm
  show az_W l G 2 _ p e _ s mm args below meth c _ _ 0 0 0 [(0, .ref (ρ.1 100)), (1, .int (nI k))] []
  refine az_aload_n C 0 dX4_lengthOf_0 rfl ?_
  refine az_iload_n C 1 dX4_lengthOf_1 rfl ?_
  refine az_callV C Y_X4_isLock cX4 2 0 [.int (nI k)] [] wm_X4_138 wi_X4_isLock wse_X4_isLock dX4_lengthOf_2 rfl rfl rfl (Ml1 hG nr k hr hn hk) rfl (Nat.le_of_ble_eq_true rfl) (Nat.le_of_ble_eq_true rfl) (Nat.le_of_ble_eq_true rfl) (Nat.le_of_ble_eq_true rfl) (Nat.le_of_ble_eq_true rfl) (az_k1 rfl rfl ?_) (az_k0 rfl)
  refine az_if_eq C 21 dX4_lengthOf_5 (by decide) (fun q => absurd q (by decide)) (fun _ => ?_)
  refine az_aload_n C 0 dX4_lengthOf_8 rfl ?_
  refine az_aload_n C 0 dX4_lengthOf_9 rfl ?_
  refine az_get C cX4 2 0 8 (v := .ref (ρ.1 108)) wl_X4_29 dX4_lengthOf_10 rfl rfl rfl (by decide) ?_
  refine az_iload_n C 1 dX4_lengthOf_13 rfl ?_
  refine az_ialdN C 2 8 k (v := m.1 8 k) dX4_lengthOf_14 rfl rfl (by omega) (by decide) rfl ?_
  refine az_callV C Y_X4_tells cX4 2 0 [.int (m.1 8 k)] [] wm_X4_125 wi_X4_tells wse_X4_tells dX4_lengthOf_15 rfl rfl rfl (Mtells hG (m.1 8 k)) rfl (Nat.le_of_ble_eq_true rfl) (Nat.le_of_ble_eq_true rfl) (Nat.le_of_ble_eq_true rfl) (Nat.le_of_ble_eq_true rfl) (Nat.le_of_ble_eq_true rfl) (az_k1 rfl rfl ?_) (az_k0 rfl)
  refine az_goto C 26 dX4_lengthOf_18 (by decide) ?_
  exact az_iret C rfl dX4_lengthOf_26 (Nat.le_of_ble_eq_true rfl) (Nat.le_of_ble_eq_true rfl) ⟨rfl, rfl, rfl⟩

set_option maxHeartbeats 4000000 in
set_option maxRecDepth 100000 in
theorem MlengthOf0 (hG : az_okS l G) (nr : Nat) (v : Int32) (hr : m.1 0 1 = nI nr) (hn : nr ≤ 6) (h1 : 1 ≤ nr) (hv : oo (nr - 1) v) : az_M l G yX4_lengthOf (az_ws yX4_lengthOf cX4_lengthOf 2 (Option.some FieldType.int)) 3 [.ref (ρ.1 100), .int v] (AD ρ) (KK G ρ x m ou) 0 0 (az_r (some (.int 0)) (AD ρ) (KK G ρ x (mI m 0 0 1) ou)) := by
  refine az_start hG.1 (by decide +kernel) (Nat.le_of_ble_eq_true rfl) ?_
  intro p e s mm args below meth c C hnm
  show az_W l G 2 _ p e _ s mm args below meth c _ _ 0 0 0 [(0, .ref (ρ.1 100)), (1, .int v)] []
  refine az_aload_n C 0 dX4_lengthOf_0 rfl ?_
  refine az_iload_n C 1 dX4_lengthOf_1 rfl ?_
  refine az_callV C Y_X4_isLock cX4 2 0 [.int v] [] wm_X4_138 wi_X4_isLock wse_X4_isLock dX4_lengthOf_2 rfl rfl rfl (Ml0 hG nr v hr hn (by omega) hv) rfl (Nat.le_of_ble_eq_true rfl) (Nat.le_of_ble_eq_true rfl) (Nat.le_of_ble_eq_true rfl) (Nat.le_of_ble_eq_true rfl) (Nat.le_of_ble_eq_true rfl) (az_k1 rfl rfl ?_) (az_k0 rfl)
  refine az_if_eq C 21 dX4_lengthOf_5 (by decide) (fun _ => ?_) (fun q => absurd (by decide) q)
  refine az_aload_n C 0 dX4_lengthOf_21 rfl ?_
  refine az_iconst C (v := 1) dX4_lengthOf_22 (by decide) ?_
  refine az_callV C Y_X4_fails cX4 2 0 [.int 1] [] wm_X4_121 wi_X4_fails wse_X4_fails dX4_lengthOf_23 rfl rfl rfl (Mfails hG (1)) rfl (Nat.le_of_ble_eq_true rfl) (Nat.le_of_ble_eq_true rfl) (Nat.le_of_ble_eq_true rfl) (Nat.le_of_ble_eq_true rfl) (Nat.le_of_ble_eq_true rfl) (az_k1 rfl rfl ?_) (az_k0 rfl)
  exact az_iret C rfl dX4_lengthOf_26 (Nat.le_of_ble_eq_true rfl) (Nat.le_of_ble_eq_true rfl) ⟨rfl, rfl, rfl⟩

set_option maxHeartbeats 4000000 in
set_option maxRecDepth 100000 in
theorem MsillOf1 (hG : az_okS l G) (nr k : Nat) (hr : m.1 0 1 = nI nr) (hn : nr ≤ 6) (hk : k + 2 ≤ nr) : az_M l G yX4_sillOf (az_ws yX4_sillOf cX4_sillOf 2 (Option.some FieldType.int)) 3 [.ref (ρ.1 100), .int (nI k)] (AD ρ) (KK G ρ x m ou) 0 0 (az_r (some (.int (m.1 9 k))) (AD ρ) (KK G ρ x (mI m 0 0 0) ou)) := by
  refine az_start hG.1 (by decide +kernel) (Nat.le_of_ble_eq_true rfl) ?_
  intro p e s mm args below meth c C hnm
  show az_W l G 2 _ p e _ s mm args below meth c _ _ 0 0 0 [(0, .ref (ρ.1 100)), (1, .int (nI k))] []
  refine az_aload_n C 0 dX4_sillOf_0 rfl ?_
  refine az_iload_n C 1 dX4_sillOf_1 rfl ?_
  refine az_callV C Y_X4_isLock cX4 2 0 [.int (nI k)] [] wm_X4_138 wi_X4_isLock wse_X4_isLock dX4_sillOf_2 rfl rfl rfl (Ml1 hG nr k hr hn hk) rfl (Nat.le_of_ble_eq_true rfl) (Nat.le_of_ble_eq_true rfl) (Nat.le_of_ble_eq_true rfl) (Nat.le_of_ble_eq_true rfl) (Nat.le_of_ble_eq_true rfl) (az_k1 rfl rfl ?_) (az_k0 rfl)
  refine az_if_eq C 21 dX4_sillOf_5 (by decide) (fun q => absurd q (by decide)) (fun _ => ?_)
  refine az_aload_n C 0 dX4_sillOf_8 rfl ?_
  refine az_aload_n C 0 dX4_sillOf_9 rfl ?_
  refine az_get C cX4 2 0 9 (v := .ref (ρ.1 109)) wl_X4_32 dX4_sillOf_10 rfl rfl rfl (by decide) ?_
  refine az_iload_n C 1 dX4_sillOf_13 rfl ?_
  refine az_ialdN C 2 9 k (v := m.1 9 k) dX4_sillOf_14 rfl rfl (by omega) (by decide) rfl ?_
  refine az_callV C Y_X4_tells cX4 2 0 [.int (m.1 9 k)] [] wm_X4_125 wi_X4_tells wse_X4_tells dX4_sillOf_15 rfl rfl rfl (Mtells hG (m.1 9 k)) rfl (Nat.le_of_ble_eq_true rfl) (Nat.le_of_ble_eq_true rfl) (Nat.le_of_ble_eq_true rfl) (Nat.le_of_ble_eq_true rfl) (Nat.le_of_ble_eq_true rfl) (az_k1 rfl rfl ?_) (az_k0 rfl)
  refine az_goto C 26 dX4_sillOf_18 (by decide) ?_
  exact az_iret C rfl dX4_sillOf_26 (Nat.le_of_ble_eq_true rfl) (Nat.le_of_ble_eq_true rfl) ⟨rfl, rfl, rfl⟩

set_option maxHeartbeats 4000000 in
set_option maxRecDepth 100000 in
theorem MsillOf0 (hG : az_okS l G) (nr : Nat) (v : Int32) (hr : m.1 0 1 = nI nr) (hn : nr ≤ 6) (h1 : 1 ≤ nr) (hv : oo (nr - 1) v) : az_M l G yX4_sillOf (az_ws yX4_sillOf cX4_sillOf 2 (Option.some FieldType.int)) 3 [.ref (ρ.1 100), .int v] (AD ρ) (KK G ρ x m ou) 0 0 (az_r (some (.int 0)) (AD ρ) (KK G ρ x (mI m 0 0 1) ou)) := by
  refine az_start hG.1 (by decide +kernel) (Nat.le_of_ble_eq_true rfl) ?_
  intro p e s mm args below meth c C hnm
  show az_W l G 2 _ p e _ s mm args below meth c _ _ 0 0 0 [(0, .ref (ρ.1 100)), (1, .int v)] []
  refine az_aload_n C 0 dX4_sillOf_0 rfl ?_
  refine az_iload_n C 1 dX4_sillOf_1 rfl ?_
  refine az_callV C Y_X4_isLock cX4 2 0 [.int v] [] wm_X4_138 wi_X4_isLock wse_X4_isLock dX4_sillOf_2 rfl rfl rfl (Ml0 hG nr v hr hn (by omega) hv) rfl (Nat.le_of_ble_eq_true rfl) (Nat.le_of_ble_eq_true rfl) (Nat.le_of_ble_eq_true rfl) (Nat.le_of_ble_eq_true rfl) (Nat.le_of_ble_eq_true rfl) (az_k1 rfl rfl ?_) (az_k0 rfl)
  refine az_if_eq C 21 dX4_sillOf_5 (by decide) (fun _ => ?_) (fun q => absurd (by decide) q)
  refine az_aload_n C 0 dX4_sillOf_21 rfl ?_
  refine az_iconst C (v := 1) dX4_sillOf_22 (by decide) ?_
  refine az_callV C Y_X4_fails cX4 2 0 [.int 1] [] wm_X4_121 wi_X4_fails wse_X4_fails dX4_sillOf_23 rfl rfl rfl (Mfails hG (1)) rfl (Nat.le_of_ble_eq_true rfl) (Nat.le_of_ble_eq_true rfl) (Nat.le_of_ble_eq_true rfl) (Nat.le_of_ble_eq_true rfl) (Nat.le_of_ble_eq_true rfl) (az_k1 rfl rfl ?_) (az_k0 rfl)
  exact az_iret C rfl dX4_sillOf_26 (Nat.le_of_ble_eq_true rfl) (Nat.le_of_ble_eq_true rfl) ⟨rfl, rfl, rfl⟩

set_option maxHeartbeats 4000000 in
set_option maxRecDepth 100000 in
theorem MwaterThrough1 (hG : az_okS l G) (nr k : Nat) (hr : m.1 0 1 = nI nr) (hn : nr ≤ 6) (hk : k + 2 ≤ nr) : az_M l G yX4_waterThrough (az_ws yX4_waterThrough cX4_waterThrough 2 (Option.some FieldType.int)) 3 [.ref (ρ.1 100), .int (nI k)] (AD ρ) (KK G ρ x m ou) 0 0 (az_r (some (.int (m.1 10 k))) (AD ρ) (KK G ρ x (mI m 0 0 0) ou)) := by
  refine az_start hG.1 (by decide +kernel) (Nat.le_of_ble_eq_true rfl) ?_
  intro p e s mm args below meth c C hnm
  show az_W l G 2 _ p e _ s mm args below meth c _ _ 0 0 0 [(0, .ref (ρ.1 100)), (1, .int (nI k))] []
  refine az_aload_n C 0 dX4_waterThrough_0 rfl ?_
  refine az_iload_n C 1 dX4_waterThrough_1 rfl ?_
  refine az_callV C Y_X4_isLock cX4 2 0 [.int (nI k)] [] wm_X4_138 wi_X4_isLock wse_X4_isLock dX4_waterThrough_2 rfl rfl rfl (Ml1 hG nr k hr hn hk) rfl (Nat.le_of_ble_eq_true rfl) (Nat.le_of_ble_eq_true rfl) (Nat.le_of_ble_eq_true rfl) (Nat.le_of_ble_eq_true rfl) (Nat.le_of_ble_eq_true rfl) (az_k1 rfl rfl ?_) (az_k0 rfl)
  refine az_if_eq C 21 dX4_waterThrough_5 (by decide) (fun q => absurd q (by decide)) (fun _ => ?_)
  refine az_aload_n C 0 dX4_waterThrough_8 rfl ?_
  refine az_aload_n C 0 dX4_waterThrough_9 rfl ?_
  refine az_get C cX4 2 0 10 (v := .ref (ρ.1 110)) wl_X4_35 dX4_waterThrough_10 rfl rfl rfl (by decide) ?_
  refine az_iload_n C 1 dX4_waterThrough_13 rfl ?_
  refine az_ialdN C 2 10 k (v := m.1 10 k) dX4_waterThrough_14 rfl rfl (by omega) (by decide) rfl ?_
  refine az_callV C Y_X4_tells cX4 2 0 [.int (m.1 10 k)] [] wm_X4_125 wi_X4_tells wse_X4_tells dX4_waterThrough_15 rfl rfl rfl (Mtells hG (m.1 10 k)) rfl (Nat.le_of_ble_eq_true rfl) (Nat.le_of_ble_eq_true rfl) (Nat.le_of_ble_eq_true rfl) (Nat.le_of_ble_eq_true rfl) (Nat.le_of_ble_eq_true rfl) (az_k1 rfl rfl ?_) (az_k0 rfl)
  refine az_goto C 26 dX4_waterThrough_18 (by decide) ?_
  exact az_iret C rfl dX4_waterThrough_26 (Nat.le_of_ble_eq_true rfl) (Nat.le_of_ble_eq_true rfl) ⟨rfl, rfl, rfl⟩

set_option maxHeartbeats 4000000 in
set_option maxRecDepth 100000 in
theorem MwaterThrough0 (hG : az_okS l G) (nr : Nat) (v : Int32) (hr : m.1 0 1 = nI nr) (hn : nr ≤ 6) (h1 : 1 ≤ nr) (hv : oo (nr - 1) v) : az_M l G yX4_waterThrough (az_ws yX4_waterThrough cX4_waterThrough 2 (Option.some FieldType.int)) 3 [.ref (ρ.1 100), .int v] (AD ρ) (KK G ρ x m ou) 0 0 (az_r (some (.int 0)) (AD ρ) (KK G ρ x (mI m 0 0 1) ou)) := by
  refine az_start hG.1 (by decide +kernel) (Nat.le_of_ble_eq_true rfl) ?_
  intro p e s mm args below meth c C hnm
  show az_W l G 2 _ p e _ s mm args below meth c _ _ 0 0 0 [(0, .ref (ρ.1 100)), (1, .int v)] []
  refine az_aload_n C 0 dX4_waterThrough_0 rfl ?_
  refine az_iload_n C 1 dX4_waterThrough_1 rfl ?_
  refine az_callV C Y_X4_isLock cX4 2 0 [.int v] [] wm_X4_138 wi_X4_isLock wse_X4_isLock dX4_waterThrough_2 rfl rfl rfl (Ml0 hG nr v hr hn (by omega) hv) rfl (Nat.le_of_ble_eq_true rfl) (Nat.le_of_ble_eq_true rfl) (Nat.le_of_ble_eq_true rfl) (Nat.le_of_ble_eq_true rfl) (Nat.le_of_ble_eq_true rfl) (az_k1 rfl rfl ?_) (az_k0 rfl)
  refine az_if_eq C 21 dX4_waterThrough_5 (by decide) (fun _ => ?_) (fun q => absurd (by decide) q)
  refine az_aload_n C 0 dX4_waterThrough_21 rfl ?_
  refine az_iconst C (v := 1) dX4_waterThrough_22 (by decide) ?_
  refine az_callV C Y_X4_fails cX4 2 0 [.int 1] [] wm_X4_121 wi_X4_fails wse_X4_fails dX4_waterThrough_23 rfl rfl rfl (Mfails hG (1)) rfl (Nat.le_of_ble_eq_true rfl) (Nat.le_of_ble_eq_true rfl) (Nat.le_of_ble_eq_true rfl) (Nat.le_of_ble_eq_true rfl) (Nat.le_of_ble_eq_true rfl) (az_k1 rfl rfl ?_) (az_k0 rfl)
  exact az_iret C rfl dX4_waterThrough_26 (Nat.le_of_ble_eq_true rfl) (Nat.le_of_ble_eq_true rfl) ⟨rfl, rfl, rfl⟩

set_option maxHeartbeats 4000000 in
set_option maxRecDepth 100000 in
theorem MreachOf1 (hG : az_okS l G) (nb k : Nat) (hb : m.1 0 12 = nI nb) (hn : nb ≤ 8) (hk : k + 1 ≤ nb) : az_M l G yX4_reachOf (az_ws yX4_reachOf cX4_reachOf 2 (Option.some FieldType.int)) 3 [.ref (ρ.1 100), .int (nI k)] (AD ρ) (KK G ρ x m ou) 0 0 (az_r (some (.int (m.1 13 k))) (AD ρ) (KK G ρ x (mI m 0 0 0) ou)) := by
  refine az_start hG.1 (by decide +kernel) (Nat.le_of_ble_eq_true rfl) ?_
  intro p e s mm args below meth c C hnm
  show az_W l G 2 _ p e _ s mm args below meth c _ _ 0 0 0 [(0, .ref (ρ.1 100)), (1, .int (nI k))] []
  refine az_aload_n C 0 dX4_reachOf_0 rfl ?_
  refine az_iload_n C 1 dX4_reachOf_1 rfl ?_
  refine az_callV C Y_X4_isBarge cX4 2 0 [.int (nI k)] [] wm_X4_161 wi_X4_isBarge wse_X4_isBarge dX4_reachOf_2 rfl rfl rfl (Mb1 hG nb k hb hn hk) rfl (Nat.le_of_ble_eq_true rfl) (Nat.le_of_ble_eq_true rfl) (Nat.le_of_ble_eq_true rfl) (Nat.le_of_ble_eq_true rfl) (Nat.le_of_ble_eq_true rfl) (az_k1 rfl rfl ?_) (az_k0 rfl)
  refine az_if_eq C 21 dX4_reachOf_5 (by decide) (fun q => absurd q (by decide)) (fun _ => ?_)
  refine az_aload_n C 0 dX4_reachOf_8 rfl ?_
  refine az_aload_n C 0 dX4_reachOf_9 rfl ?_
  refine az_get C cX4 2 0 13 (v := .ref (ρ.1 113)) wl_X4_42 dX4_reachOf_10 rfl rfl rfl (by decide) ?_
  refine az_iload_n C 1 dX4_reachOf_13 rfl ?_
  refine az_ialdN C 2 13 k (v := m.1 13 k) dX4_reachOf_14 rfl rfl (by omega) (by decide) rfl ?_
  refine az_callV C Y_X4_tells cX4 2 0 [.int (m.1 13 k)] [] wm_X4_125 wi_X4_tells wse_X4_tells dX4_reachOf_15 rfl rfl rfl (Mtells hG (m.1 13 k)) rfl (Nat.le_of_ble_eq_true rfl) (Nat.le_of_ble_eq_true rfl) (Nat.le_of_ble_eq_true rfl) (Nat.le_of_ble_eq_true rfl) (Nat.le_of_ble_eq_true rfl) (az_k1 rfl rfl ?_) (az_k0 rfl)
  refine az_goto C 26 dX4_reachOf_18 (by decide) ?_
  exact az_iret C rfl dX4_reachOf_26 (Nat.le_of_ble_eq_true rfl) (Nat.le_of_ble_eq_true rfl) ⟨rfl, rfl, rfl⟩

set_option maxHeartbeats 4000000 in
set_option maxRecDepth 100000 in
theorem MreachOf0 (hG : az_okS l G) (nb : Nat) (v : Int32) (hb : m.1 0 12 = nI nb) (hn : nb ≤ 8) (hv : oo nb v) : az_M l G yX4_reachOf (az_ws yX4_reachOf cX4_reachOf 2 (Option.some FieldType.int)) 3 [.ref (ρ.1 100), .int v] (AD ρ) (KK G ρ x m ou) 0 0 (az_r (some (.int 0)) (AD ρ) (KK G ρ x (mI m 0 0 1) ou)) := by
  refine az_start hG.1 (by decide +kernel) (Nat.le_of_ble_eq_true rfl) ?_
  intro p e s mm args below meth c C hnm
  show az_W l G 2 _ p e _ s mm args below meth c _ _ 0 0 0 [(0, .ref (ρ.1 100)), (1, .int v)] []
  refine az_aload_n C 0 dX4_reachOf_0 rfl ?_
  refine az_iload_n C 1 dX4_reachOf_1 rfl ?_
  refine az_callV C Y_X4_isBarge cX4 2 0 [.int v] [] wm_X4_161 wi_X4_isBarge wse_X4_isBarge dX4_reachOf_2 rfl rfl rfl (Mb0 hG nb v hb hn (by omega) hv) rfl (Nat.le_of_ble_eq_true rfl) (Nat.le_of_ble_eq_true rfl) (Nat.le_of_ble_eq_true rfl) (Nat.le_of_ble_eq_true rfl) (Nat.le_of_ble_eq_true rfl) (az_k1 rfl rfl ?_) (az_k0 rfl)
  refine az_if_eq C 21 dX4_reachOf_5 (by decide) (fun _ => ?_) (fun q => absurd (by decide) q)
  refine az_aload_n C 0 dX4_reachOf_21 rfl ?_
  refine az_iconst C (v := 1) dX4_reachOf_22 (by decide) ?_
  refine az_callV C Y_X4_fails cX4 2 0 [.int 1] [] wm_X4_121 wi_X4_fails wse_X4_fails dX4_reachOf_23 rfl rfl rfl (Mfails hG (1)) rfl (Nat.le_of_ble_eq_true rfl) (Nat.le_of_ble_eq_true rfl) (Nat.le_of_ble_eq_true rfl) (Nat.le_of_ble_eq_true rfl) (Nat.le_of_ble_eq_true rfl) (az_k1 rfl rfl ?_) (az_k0 rfl)
  exact az_iret C rfl dX4_reachOf_26 (Nat.le_of_ble_eq_true rfl) (Nat.le_of_ble_eq_true rfl) ⟨rfl, rfl, rfl⟩

set_option maxHeartbeats 4000000 in
set_option maxRecDepth 100000 in
theorem McargoOf1 (hG : az_okS l G) (nb k : Nat) (hb : m.1 0 12 = nI nb) (hn : nb ≤ 8) (hk : k + 1 ≤ nb) : az_M l G yX4_cargoOf (az_ws yX4_cargoOf cX4_cargoOf 2 (Option.some FieldType.int)) 3 [.ref (ρ.1 100), .int (nI k)] (AD ρ) (KK G ρ x m ou) 0 0 (az_r (some (.int (m.1 17 k))) (AD ρ) (KK G ρ x (mI m 0 0 0) ou)) := by
  refine az_start hG.1 (by decide +kernel) (Nat.le_of_ble_eq_true rfl) ?_
  intro p e s mm args below meth c C hnm
  show az_W l G 2 _ p e _ s mm args below meth c _ _ 0 0 0 [(0, .ref (ρ.1 100)), (1, .int (nI k))] []
  refine az_aload_n C 0 dX4_cargoOf_0 rfl ?_
  refine az_iload_n C 1 dX4_cargoOf_1 rfl ?_
  refine az_callV C Y_X4_isBarge cX4 2 0 [.int (nI k)] [] wm_X4_161 wi_X4_isBarge wse_X4_isBarge dX4_cargoOf_2 rfl rfl rfl (Mb1 hG nb k hb hn hk) rfl (Nat.le_of_ble_eq_true rfl) (Nat.le_of_ble_eq_true rfl) (Nat.le_of_ble_eq_true rfl) (Nat.le_of_ble_eq_true rfl) (Nat.le_of_ble_eq_true rfl) (az_k1 rfl rfl ?_) (az_k0 rfl)
  refine az_if_eq C 21 dX4_cargoOf_5 (by decide) (fun q => absurd q (by decide)) (fun _ => ?_)
  refine az_aload_n C 0 dX4_cargoOf_8 rfl ?_
  refine az_aload_n C 0 dX4_cargoOf_9 rfl ?_
  refine az_get C cX4 2 0 17 (v := .ref (ρ.1 117)) wl_X4_54 dX4_cargoOf_10 rfl rfl rfl (by decide) ?_
  refine az_iload_n C 1 dX4_cargoOf_13 rfl ?_
  refine az_ialdN C 2 17 k (v := m.1 17 k) dX4_cargoOf_14 rfl rfl (by omega) (by decide) rfl ?_
  refine az_callV C Y_X4_tells cX4 2 0 [.int (m.1 17 k)] [] wm_X4_125 wi_X4_tells wse_X4_tells dX4_cargoOf_15 rfl rfl rfl (Mtells hG (m.1 17 k)) rfl (Nat.le_of_ble_eq_true rfl) (Nat.le_of_ble_eq_true rfl) (Nat.le_of_ble_eq_true rfl) (Nat.le_of_ble_eq_true rfl) (Nat.le_of_ble_eq_true rfl) (az_k1 rfl rfl ?_) (az_k0 rfl)
  refine az_goto C 26 dX4_cargoOf_18 (by decide) ?_
  exact az_iret C rfl dX4_cargoOf_26 (Nat.le_of_ble_eq_true rfl) (Nat.le_of_ble_eq_true rfl) ⟨rfl, rfl, rfl⟩

set_option maxHeartbeats 4000000 in
set_option maxRecDepth 100000 in
theorem McargoOf0 (hG : az_okS l G) (nb : Nat) (v : Int32) (hb : m.1 0 12 = nI nb) (hn : nb ≤ 8) (hv : oo nb v) : az_M l G yX4_cargoOf (az_ws yX4_cargoOf cX4_cargoOf 2 (Option.some FieldType.int)) 3 [.ref (ρ.1 100), .int v] (AD ρ) (KK G ρ x m ou) 0 0 (az_r (some (.int 0)) (AD ρ) (KK G ρ x (mI m 0 0 1) ou)) := by
  refine az_start hG.1 (by decide +kernel) (Nat.le_of_ble_eq_true rfl) ?_
  intro p e s mm args below meth c C hnm
  show az_W l G 2 _ p e _ s mm args below meth c _ _ 0 0 0 [(0, .ref (ρ.1 100)), (1, .int v)] []
  refine az_aload_n C 0 dX4_cargoOf_0 rfl ?_
  refine az_iload_n C 1 dX4_cargoOf_1 rfl ?_
  refine az_callV C Y_X4_isBarge cX4 2 0 [.int v] [] wm_X4_161 wi_X4_isBarge wse_X4_isBarge dX4_cargoOf_2 rfl rfl rfl (Mb0 hG nb v hb hn (by omega) hv) rfl (Nat.le_of_ble_eq_true rfl) (Nat.le_of_ble_eq_true rfl) (Nat.le_of_ble_eq_true rfl) (Nat.le_of_ble_eq_true rfl) (Nat.le_of_ble_eq_true rfl) (az_k1 rfl rfl ?_) (az_k0 rfl)
  refine az_if_eq C 21 dX4_cargoOf_5 (by decide) (fun _ => ?_) (fun q => absurd (by decide) q)
  refine az_aload_n C 0 dX4_cargoOf_21 rfl ?_
  refine az_iconst C (v := 1) dX4_cargoOf_22 (by decide) ?_
  refine az_callV C Y_X4_fails cX4 2 0 [.int 1] [] wm_X4_121 wi_X4_fails wse_X4_fails dX4_cargoOf_23 rfl rfl rfl (Mfails hG (1)) rfl (Nat.le_of_ble_eq_true rfl) (Nat.le_of_ble_eq_true rfl) (Nat.le_of_ble_eq_true rfl) (Nat.le_of_ble_eq_true rfl) (Nat.le_of_ble_eq_true rfl) (az_k1 rfl rfl ?_) (az_k0 rfl)
  exact az_iret C rfl dX4_cargoOf_26 (Nat.le_of_ble_eq_true rfl) (Nat.le_of_ble_eq_true rfl) ⟨rfl, rfl, rfl⟩

set_option maxHeartbeats 4000000 in
set_option maxRecDepth 100000 in
theorem MreachCount (hG : az_okS l G)  : az_M l G yX4_reachCount (az_ws yX4_reachCount cX4_reachCount 1 (Option.some FieldType.int)) 2 [.ref (ρ.1 100)] (AD ρ) (KK G ρ x m ou) 0 0 (az_r (some (.int (m.1 0 1))) (AD ρ) (KK G ρ x (mI m 0 0 0) ou)) := by
  refine az_start hG.1 (by decide +kernel) (Nat.le_of_ble_eq_true rfl) ?_
  intro p e s mm args below meth c C hnm
  show az_W l G 1 _ p e _ s mm args below meth c _ _ 0 0 0 [(0, .ref (ρ.1 100))] []
  refine az_aload_n C 0 dX4_reachCount_0 rfl ?_
  refine az_aload_n C 0 dX4_reachCount_1 rfl ?_
  refine az_get C cX4 2 0 1 (v := .int (m.1 0 1)) wl_X4_7 dX4_reachCount_2 rfl rfl rfl (by decide) ?_
  refine az_callV C Y_X4_tells cX4 2 0 [.int (m.1 0 1)] [] wm_X4_125 wi_X4_tells wse_X4_tells dX4_reachCount_5 rfl rfl rfl (Mtells hG (m.1 0 1)) rfl (Nat.le_of_ble_eq_true rfl) (Nat.le_of_ble_eq_true rfl) (Nat.le_of_ble_eq_true rfl) (Nat.le_of_ble_eq_true rfl) (Nat.le_of_ble_eq_true rfl) (az_k1 rfl rfl ?_) (az_k0 rfl)
  exact az_iret C rfl dX4_reachCount_8 (Nat.le_of_ble_eq_true rfl) (Nat.le_of_ble_eq_true rfl) ⟨rfl, rfl, rfl⟩

set_option maxHeartbeats 4000000 in
set_option maxRecDepth 100000 in
theorem MweekCount (hG : az_okS l G)  : az_M l G yX4_weekCount (az_ws yX4_weekCount cX4_weekCount 1 (Option.some FieldType.int)) 2 [.ref (ρ.1 100)] (AD ρ) (KK G ρ x m ou) 0 0 (az_r (some (.int (m.1 0 2))) (AD ρ) (KK G ρ x (mI m 0 0 0) ou)) := by
  refine az_start hG.1 (by decide +kernel) (Nat.le_of_ble_eq_true rfl) ?_
  intro p e s mm args below meth c C hnm
  show az_W l G 1 _ p e _ s mm args below meth c _ _ 0 0 0 [(0, .ref (ρ.1 100))] []
  refine az_aload_n C 0 dX4_weekCount_0 rfl ?_
  refine az_aload_n C 0 dX4_weekCount_1 rfl ?_
  refine az_get C cX4 2 0 2 (v := .int (m.1 0 2)) wl_X4_155 dX4_weekCount_2 rfl rfl rfl (by decide) ?_
  refine az_callV C Y_X4_tells cX4 2 0 [.int (m.1 0 2)] [] wm_X4_125 wi_X4_tells wse_X4_tells dX4_weekCount_5 rfl rfl rfl (Mtells hG (m.1 0 2)) rfl (Nat.le_of_ble_eq_true rfl) (Nat.le_of_ble_eq_true rfl) (Nat.le_of_ble_eq_true rfl) (Nat.le_of_ble_eq_true rfl) (Nat.le_of_ble_eq_true rfl) (az_k1 rfl rfl ?_) (az_k0 rfl)
  exact az_iret C rfl dX4_weekCount_8 (Nat.le_of_ble_eq_true rfl) (Nat.le_of_ble_eq_true rfl) ⟨rfl, rfl, rfl⟩

set_option maxHeartbeats 4000000 in
set_option maxRecDepth 100000 in
theorem MbargeCount (hG : az_okS l G)  : az_M l G yX4_bargeCount (az_ws yX4_bargeCount cX4_bargeCount 1 (Option.some FieldType.int)) 2 [.ref (ρ.1 100)] (AD ρ) (KK G ρ x m ou) 0 0 (az_r (some (.int (m.1 0 12))) (AD ρ) (KK G ρ x (mI m 0 0 0) ou)) := by
  refine az_start hG.1 (by decide +kernel) (Nat.le_of_ble_eq_true rfl) ?_
  intro p e s mm args below meth c C hnm
  show az_W l G 1 _ p e _ s mm args below meth c _ _ 0 0 0 [(0, .ref (ρ.1 100))] []
  refine az_aload_n C 0 dX4_bargeCount_0 rfl ?_
  refine az_aload_n C 0 dX4_bargeCount_1 rfl ?_
  refine az_get C cX4 2 0 12 (v := .int (m.1 0 12)) wl_X4_108 dX4_bargeCount_2 rfl rfl rfl (by decide) ?_
  refine az_callV C Y_X4_tells cX4 2 0 [.int (m.1 0 12)] [] wm_X4_125 wi_X4_tells wse_X4_tells dX4_bargeCount_5 rfl rfl rfl (Mtells hG (m.1 0 12)) rfl (Nat.le_of_ble_eq_true rfl) (Nat.le_of_ble_eq_true rfl) (Nat.le_of_ble_eq_true rfl) (Nat.le_of_ble_eq_true rfl) (Nat.le_of_ble_eq_true rfl) (az_k1 rfl rfl ?_) (az_k0 rfl)
  exact az_iret C rfl dX4_bargeCount_8 (Nat.le_of_ble_eq_true rfl) (Nat.le_of_ble_eq_true rfl) ⟨rfl, rfl, rfl⟩

set_option maxHeartbeats 4000000 in
set_option maxRecDepth 100000 in
theorem McameTotal (hG : az_okS l G)  : az_M l G yX4_cameTotal (az_ws yX4_cameTotal cX4_cameTotal 1 (Option.some FieldType.int)) 2 [.ref (ρ.1 100)] (AD ρ) (KK G ρ x m ou) 0 0 (az_r (some (.int (m.1 0 21))) (AD ρ) (KK G ρ x (mI m 0 0 0) ou)) := by
  refine az_start hG.1 (by decide +kernel) (Nat.le_of_ble_eq_true rfl) ?_
  intro p e s mm args below meth c C hnm
  show az_W l G 1 _ p e _ s mm args below meth c _ _ 0 0 0 [(0, .ref (ρ.1 100))] []
  refine az_aload_n C 0 dX4_cameTotal_0 rfl ?_
  refine az_aload_n C 0 dX4_cameTotal_1 rfl ?_
  refine az_get C cX4 2 0 21 (v := .int (m.1 0 21)) wl_X4_69 dX4_cameTotal_2 rfl rfl rfl (by decide) ?_
  refine az_callV C Y_X4_tells cX4 2 0 [.int (m.1 0 21)] [] wm_X4_125 wi_X4_tells wse_X4_tells dX4_cameTotal_5 rfl rfl rfl (Mtells hG (m.1 0 21)) rfl (Nat.le_of_ble_eq_true rfl) (Nat.le_of_ble_eq_true rfl) (Nat.le_of_ble_eq_true rfl) (Nat.le_of_ble_eq_true rfl) (Nat.le_of_ble_eq_true rfl) (az_k1 rfl rfl ?_) (az_k0 rfl)
  exact az_iret C rfl dX4_cameTotal_8 (Nat.le_of_ble_eq_true rfl) (Nat.le_of_ble_eq_true rfl) ⟨rfl, rfl, rfl⟩

set_option maxHeartbeats 4000000 in
set_option maxRecDepth 100000 in
theorem MseaTotal (hG : az_okS l G)  : az_M l G yX4_seaTotal (az_ws yX4_seaTotal cX4_seaTotal 1 (Option.some FieldType.int)) 2 [.ref (ρ.1 100)] (AD ρ) (KK G ρ x m ou) 0 0 (az_r (some (.int (m.1 0 22))) (AD ρ) (KK G ρ x (mI m 0 0 0) ou)) := by
  refine az_start hG.1 (by decide +kernel) (Nat.le_of_ble_eq_true rfl) ?_
  intro p e s mm args below meth c C hnm
  show az_W l G 1 _ p e _ s mm args below meth c _ _ 0 0 0 [(0, .ref (ρ.1 100))] []
  refine az_aload_n C 0 dX4_seaTotal_0 rfl ?_
  refine az_aload_n C 0 dX4_seaTotal_1 rfl ?_
  refine az_get C cX4 2 0 22 (v := .int (m.1 0 22)) wl_X4_115 dX4_seaTotal_2 rfl rfl rfl (by decide) ?_
  refine az_callV C Y_X4_tells cX4 2 0 [.int (m.1 0 22)] [] wm_X4_125 wi_X4_tells wse_X4_tells dX4_seaTotal_5 rfl rfl rfl (Mtells hG (m.1 0 22)) rfl (Nat.le_of_ble_eq_true rfl) (Nat.le_of_ble_eq_true rfl) (Nat.le_of_ble_eq_true rfl) (Nat.le_of_ble_eq_true rfl) (Nat.le_of_ble_eq_true rfl) (az_k1 rfl rfl ?_) (az_k0 rfl)
  exact az_iret C rfl dX4_seaTotal_8 (Nat.le_of_ble_eq_true rfl) (Nat.le_of_ble_eq_true rfl) ⟨rfl, rfl, rfl⟩

set_option maxHeartbeats 4000000 in
set_option maxRecDepth 100000 in
theorem MairTotal (hG : az_okS l G)  : az_M l G yX4_airTotal (az_ws yX4_airTotal cX4_airTotal 1 (Option.some FieldType.int)) 2 [.ref (ρ.1 100)] (AD ρ) (KK G ρ x m ou) 0 0 (az_r (some (.int (m.1 0 23))) (AD ρ) (KK G ρ x (mI m 0 0 0) ou)) := by
  refine az_start hG.1 (by decide +kernel) (Nat.le_of_ble_eq_true rfl) ?_
  intro p e s mm args below meth c C hnm
  show az_W l G 1 _ p e _ s mm args below meth c _ _ 0 0 0 [(0, .ref (ρ.1 100))] []
  refine az_aload_n C 0 dX4_airTotal_0 rfl ?_
  refine az_aload_n C 0 dX4_airTotal_1 rfl ?_
  refine az_get C cX4 2 0 23 (v := .int (m.1 0 23)) wl_X4_152 dX4_airTotal_2 rfl rfl rfl (by decide) ?_
  refine az_callV C Y_X4_tells cX4 2 0 [.int (m.1 0 23)] [] wm_X4_125 wi_X4_tells wse_X4_tells dX4_airTotal_5 rfl rfl rfl (Mtells hG (m.1 0 23)) rfl (Nat.le_of_ble_eq_true rfl) (Nat.le_of_ble_eq_true rfl) (Nat.le_of_ble_eq_true rfl) (Nat.le_of_ble_eq_true rfl) (Nat.le_of_ble_eq_true rfl) (az_k1 rfl rfl ?_) (az_k0 rfl)
  exact az_iret C rfl dX4_airTotal_8 (Nat.le_of_ble_eq_true rfl) (Nat.le_of_ble_eq_true rfl) ⟨rfl, rfl, rfl⟩

set_option maxHeartbeats 4000000 in
set_option maxRecDepth 100000 in
theorem MmovementCount (hG : az_okS l G)  : az_M l G yX4_movementCount (az_ws yX4_movementCount cX4_movementCount 1 (Option.some FieldType.int)) 2 [.ref (ρ.1 100)] (AD ρ) (KK G ρ x m ou) 0 0 (az_r (some (.int (m.1 0 24))) (AD ρ) (KK G ρ x (mI m 0 0 0) ou)) := by
  refine az_start hG.1 (by decide +kernel) (Nat.le_of_ble_eq_true rfl) ?_
  intro p e s mm args below meth c C hnm
  show az_W l G 1 _ p e _ s mm args below meth c _ _ 0 0 0 [(0, .ref (ρ.1 100))] []
  refine az_aload_n C 0 dX4_movementCount_0 rfl ?_
  refine az_aload_n C 0 dX4_movementCount_1 rfl ?_
  refine az_get C cX4 2 0 24 (v := .int (m.1 0 24)) wl_X4_72 dX4_movementCount_2 rfl rfl rfl (by decide) ?_
  refine az_callV C Y_X4_tells cX4 2 0 [.int (m.1 0 24)] [] wm_X4_125 wi_X4_tells wse_X4_tells dX4_movementCount_5 rfl rfl rfl (Mtells hG (m.1 0 24)) rfl (Nat.le_of_ble_eq_true rfl) (Nat.le_of_ble_eq_true rfl) (Nat.le_of_ble_eq_true rfl) (Nat.le_of_ble_eq_true rfl) (Nat.le_of_ble_eq_true rfl) (az_k1 rfl rfl ?_) (az_k0 rfl)
  exact az_iret C rfl dX4_movementCount_8 (Nat.le_of_ble_eq_true rfl) (Nat.le_of_ble_eq_true rfl) ⟨rfl, rfl, rfl⟩

set_option maxHeartbeats 4000000 in
set_option maxRecDepth 100000 in
theorem Mmoney (hG : az_okS l G)  : az_M l G yX4_money (az_ws yX4_money cX4_money 1 (Option.some FieldType.long)) 1 [.ref (ρ.1 100)] (AD ρ) (KK G ρ x m ou) 0 0 (az_r (some (.long m.2)) (AD ρ) (KK G ρ x (mI m 0 0 0) ou)) := by
  refine az_start hG.1 (by decide +kernel) (Nat.le_of_ble_eq_true rfl) ?_
  intro p e s mm args below meth c C hnm
  show az_W l G 1 _ p e _ s mm args below meth c _ _ 0 0 0 [(0, .ref (ρ.1 100))] []
  refine az_aload_n C 0 dX4_money_0 rfl ?_
  refine az_iconst C (v := 0) dX4_money_1 (by decide) ?_
  refine az_put C cX4 2 0 0 wl_X4_101 dX4_money_2 rfl rfl (by decide) (Nat.le_of_ble_eq_true rfl) rfl rfl rfl (az_to rfl (K' := (KK G ρ x (mI m 0 0 0) ou)) (KK_M rfl) ?_)
  refine az_aload_n C 0 dX4_money_5 rfl ?_
  refine az_get C cX4 2 0 20 (v := .long m.2) wl_X4_65 dX4_money_6 rfl rfl rfl (by decide) ?_
  exact az_lret C rfl dX4_money_9 (Nat.le_of_ble_eq_true rfl) (Nat.le_of_ble_eq_true rfl) ⟨rfl, rfl, rfl⟩

set_option maxHeartbeats 4000000 in
set_option maxRecDepth 100000 in
theorem Mhas0 (hG : az_okS l G)  : az_M l G yX4_has (az_ws yX4_has cX4_has 2 (Option.some FieldType.long)) 1 [.ref (ρ.1 100), .int 0] (AD ρ) (KK G ρ x m ou) 0 0 (az_r (some (.long m.2)) (AD ρ) (KK G ρ x (mI m 0 0 0) ou)) := by
  refine az_start hG.1 (by decide +kernel) (Nat.le_of_ble_eq_true rfl) ?_
  intro p e s mm args below meth c C hnm
  show az_W l G 2 _ p e _ s mm args below meth c _ _ 0 0 0 [(0, .ref (ρ.1 100)), (1, .int 0)] []
  refine az_aload_n C 0 dX4_has_0 rfl ?_
  refine az_iload_n C 1 dX4_has_1 rfl ?_
  refine az_put C cX4 2 0 0 wl_X4_101 dX4_has_2 rfl rfl (by decide) (Nat.le_of_ble_eq_true rfl) rfl rfl rfl (az_to rfl (K' := (KK G ρ x (mI m 0 0 0) ou)) (KK_M rfl) ?_)
  refine az_iload_n C 1 dX4_has_5 rfl ?_
  refine az_if_ne C 16 dX4_has_6 (by decide) (fun q => absurd (by decide) q) (fun _ => ?_)
  refine az_aload_n C 0 dX4_has_9 rfl ?_
  refine az_get C cX4 2 0 20 (v := .long m.2) wl_X4_65 dX4_has_10 rfl rfl rfl (by decide) ?_
  refine az_goto C 17 dX4_has_13 (by decide) ?_
  exact az_lret C rfl dX4_has_17 (Nat.le_of_ble_eq_true rfl) (Nat.le_of_ble_eq_true rfl) ⟨rfl, rfl, rfl⟩

set_option maxHeartbeats 4000000 in
set_option maxRecDepth 100000 in
theorem Mhas1 (hG : az_okS l G) (v : Int32) (hv : ¬ v = 0) : az_M l G yX4_has (az_ws yX4_has cX4_has 2 (Option.some FieldType.long)) 1 [.ref (ρ.1 100), .int v] (AD ρ) (KK G ρ x m ou) 0 0 (az_r (some (.long 0)) (AD ρ) (KK G ρ x (mI m 0 0 v) ou)) := by
  refine az_start hG.1 (by decide +kernel) (Nat.le_of_ble_eq_true rfl) ?_
  intro p e s mm args below meth c C hnm
  show az_W l G 2 _ p e _ s mm args below meth c _ _ 0 0 0 [(0, .ref (ρ.1 100)), (1, .int v)] []
  refine az_aload_n C 0 dX4_has_0 rfl ?_
  refine az_iload_n C 1 dX4_has_1 rfl ?_
  refine az_put C cX4 2 0 0 wl_X4_101 dX4_has_2 rfl rfl (by decide) (Nat.le_of_ble_eq_true rfl) rfl rfl rfl (az_to rfl (K' := (KK G ρ x (mI m 0 0 v) ou)) (KK_M rfl) ?_)
  refine az_iload_n C 1 dX4_has_5 rfl ?_
  refine az_if_ne C 16 dX4_has_6 (by decide) (fun _ => ?_) (fun q => absurd q hv)
  refine az_lconst C (v := 0) dX4_has_16 (by decide) ?_
  exact az_lret C rfl dX4_has_17 (Nat.le_of_ble_eq_true rfl) (Nat.le_of_ble_eq_true rfl) ⟨rfl, rfl, rfl⟩

set_option maxHeartbeats 4000000 in
set_option maxRecDepth 100000 in
theorem Mlevel (hG : az_okS l G) (k : Nat) (hk : k < 6) (ha : ¬ m.1 3 k = 0) : az_M l G yX4_level (az_ws yX4_level cX4_level 2 (Option.some FieldType.int)) 1 [.ref (ρ.1 100), .int (nI k)] (AD ρ) (KK G ρ x m ou) 0 0 (az_r (some (.int (levM m k))) (AD ρ) (KK G ρ x m ou)) := by
  refine az_start hG.1 (by decide +kernel) (Nat.le_of_ble_eq_true rfl) ?_
  intro p e s mm args below meth c C hnm
  show az_W l G 2 _ p e _ s mm args below meth c _ _ 0 0 0 [(0, .ref (ρ.1 100)), (1, .int (nI k))] []
  refine az_aload_n C 0 dX4_level_0 rfl ?_
  refine az_get C cX4 2 0 4 (v := .ref (ρ.1 104)) wl_X4_17 dX4_level_1 rfl rfl rfl (by decide) ?_
  refine az_iload_n C 1 dX4_level_4 rfl ?_
  refine az_ialdN C 2 4 k (v := m.1 4 k) dX4_level_5 rfl rfl (by omega) (by decide) rfl ?_
  refine az_aload_n C 0 dX4_level_6 rfl ?_
  refine az_get C cX4 2 0 3 (v := .ref (ρ.1 103)) wl_X4_13 dX4_level_7 rfl rfl rfl (by decide) ?_
  refine az_iload_n C 1 dX4_level_10 rfl ?_
  refine az_ialdN C 2 3 k (v := m.1 3 k) dX4_level_11 rfl rfl (by omega) (by decide) rfl ?_
  refine az_idiv C dX4_level_12 ha ?_
  exact az_iret C rfl dX4_level_13 (Nat.le_of_ble_eq_true rfl) (Nat.le_of_ble_eq_true rfl) ⟨rfl, rfl, rfl⟩

end
