section
variable {l : Launch} {G : az_G} {ρ : Rp} {x : Xs} {m : Ms} {ou : Nat → Int64}
/-- 1 if every one of these floats at a reach, else 0 -/
def aflI (m : Ms) (r : Nat) : List Nat → Int32
  | [] => 1
  | d :: q => if floatsI m d r = 0 then 0 else aflI m r q
theorem aflI_01 {m : Ms} {r : Nat} : ∀ q : List Nat, aflI m r q = 0 ∨ aflI m r q = 1
  | [] => Or.inr rfl
  | d :: q => by
    unfold aflI; split
    · exact Or.inl rfl
    · exact aflI_01 q
/-- a part may be looked at: where its barges lie, and that they carry -/
def PtOK (m : Ms) (r : Nat) (q : List Nat) : Prop := ∀ d ∈ q, m.1 13 d = nI r ∧ ¬ m.1 16 d = 0
def movesM (v : Int32) : Ms → List Nat → Ms
  | m, [] => m
  | m, d :: q => movesM v (mI m 13 d v) q
theorem movesM_p {v : Int32} {p j : Nat} (h : p ≠ 13) : ∀ (q : List Nat) (m : Ms), (movesM v m q).1 p j = m.1 p j
  | [], _ => rfl
  | d :: q, m => by
    rw [movesM, movesM_p h q]
    simp only [mI]
    rw [up2_p h]
theorem movesM_n {v : Int32} {j : Nat} : ∀ (q : List Nat) (m : Ms), j ∉ q → (movesM v m q).1 13 j = m.1 13 j
  | [], _, _ => rfl
  | d :: q, m, h => by
    rw [movesM, movesM_n q _ (fun z => h (List.mem_cons_of_mem _ z))]
    simp only [mI]
    rw [up2_k (fun z : j = d => h (by rw [z]; exact List.mem_cons_self))]
theorem movesM_i {v : Int32} {j : Nat} : ∀ (q : List Nat) (m : Ms), j ∈ q → (movesM v m q).1 13 j = v
  | d :: q, m, h => by
    rw [movesM]
    by_cases hj : j ∈ q
    · exact movesM_i q _ hj
    · rw [movesM_n q _ hj]
      rcases List.mem_cons.mp h with rfl | h
      · simp only [mI]; rw [up2_s]
      · exact absurd h hj
/-- the part ends where its rest begins -/
def PtNe (q rest : List Nat) : Prop := ∀ d ∈ q, ¬ nI d = hdI rest
theorem hdI_app (d : Nat) (q rest : List Nat) : hdI (d :: q ++ rest) = nI d := rfl
set_option maxHeartbeats 4000000 in
set_option maxRecDepth 100000 in
theorem Mfl3_0c (hG : az_okS l G) {p : Program} {e : Env} {s : State} {mm : MethodId} {args : Array Value} {below : List Frame} {meth : Method} {c : Code} (C : az_C l G p s mm args meth c cX4_locks yX4_locks.cls 6 (Option.some FieldType.int) []) {Qx : State → Prop}  : ∀ (lk : Nat) (v : Int32) {x : Xs} {m : Ms}, ∀ (r : Nat) (hr6 : r < 6) (ha : ¬ m.1 3 r = 0) (rest q : List Nat) (hs : MSuf m (q ++ rest)) (hne : PtNe q rest) (hpt : PtOK m r q) (hf : aflI m r q = 1),az_W l G 6 Qx p e (az_rm 5 0 0) s mm args below meth c (AD ρ) (KK G ρ x m ou) 0 0 32 [(4, .int 0), (3, .int (nI lk)), (2, .int (hdI rest)), (1, .int v), (0, .ref (ρ.1 100))] [] → az_W l G 6 Qx p e (az_rm 5 0 0) s mm args below meth c (AD ρ) (KK G ρ x m ou) 0 0 3 [(5, .int (hdI (q ++ rest))), (4, .int 0), (3, .int (nI lk)), (2, .int (hdI rest)), (1, .int v), (0, .ref (ρ.1 100))] [] := by
  intro lk v x m r hr6 ha rest q
  induction q with
  | nil =>
    intro hs hne hpt hf hx
    refine az_iload C 0 dX4_locks_3 rfl ?_
    refine az_iload_n C 3 dX4_locks_5 rfl ?_
    refine az_icmp_eq C 32 dX4_locks_6 (by decide) (fun _ => ?_) (fun q => absurd rfl q)
    exact az_lv [1, 2, 3, 4, 5] rfl hx
  | cons d q ih =>
    intro hs hne hpt hf hx
    have hd : d < 8 := hs.1
    have hf1 : floatsI m d r = 1 := by
      unfold aflI at hf; split at hf
      · exact absurd hf (by decide)
      · rename_i hz; unfold floatsI at hz ⊢; split
        · rename_i hw; rw [if_pos hw] at hz; exact absurd rfl hz
        · rfl
    have hf2 : aflI m r q = 1 := by unfold aflI at hf; rw [hf1] at hf; exact hf
    refine az_iload C 0 dX4_locks_3 rfl ?_
    refine az_iload_n C 3 dX4_locks_5 rfl ?_
    refine az_icmp_eq C 32 dX4_locks_6 (by decide) (fun q => absurd q (hne d List.mem_cons_self)) (fun _ => ?_)
    refine az_aload_n C 5 dX4_locks_9 rfl ?_
    refine az_iload C 0 dX4_locks_10 rfl ?_
    refine az_callV C Y_X4_floats cX4 2 0 [.int (nI d)] [] wm_X4_164 wi_X4_floats wse_X4_floats dX4_locks_12 rfl rfl rfl (Mfloats hG d r (by omega) hr6 (hpt d List.mem_cons_self).2 (hpt d List.mem_cons_self).1 ha) rfl (Nat.le_of_ble_eq_true rfl) (Nat.le_of_ble_eq_true rfl) (Nat.le_of_ble_eq_true rfl) (Nat.le_of_ble_eq_true rfl) (Nat.le_of_ble_eq_true rfl) (az_k1 rfl rfl ?_) (az_k0 rfl)
    refine az_top (1) hf1 ?_
    refine az_if_ne C 20 dX4_locks_15 (by decide) (fun _ => ?_) (fun q => absurd q (by decide))
    refine az_aload_n C 5 dX4_locks_20 rfl ?_
    refine az_get C cX4 2 0 19 (v := .ref (ρ.1 119)) wl_X4_60 dX4_locks_21 rfl rfl rfl (by decide) ?_
    refine az_iload C 0 dX4_locks_24 rfl ?_
    refine az_ialdN C 2 19 d (v := m.1 19 d) dX4_locks_26 rfl rfl (by omega) (by decide) rfl ?_
    refine az_top (hdI (q ++ rest)) hs.2.1 ?_
    refine az_istore C (lv' := [(5, .int (hdI (q ++ rest))), (4, .int 0), (3, .int (nI lk)), (2, .int (hdI rest)), (1, .int v), (0, .ref (ρ.1 100))]) dX4_locks_27 (by decide) rfl ?_
    refine az_goto C 3 dX4_locks_29 (by decide) ?_
    exact az_lv [0, 1, 2, 3, 4, 5] rfl (ih hs.2.2 (fun b hb => hne b (List.mem_cons_of_mem _ hb)) (fun b hb => hpt b (List.mem_cons_of_mem _ hb)) hf2 hx)

set_option maxHeartbeats 4000000 in
set_option maxRecDepth 100000 in
theorem Mfl3_0r (hG : az_okS l G) {p : Program} {e : Env} {s : State} {mm : MethodId} {args : Array Value} {below : List Frame} {meth : Method} {c : Code} (C : az_C l G p s mm args meth c cX4_locks yX4_locks.cls 6 (Option.some FieldType.int) []) : ∀ (lk : Nat) (v : Int32) {x : Xs} {m : Ms}, ∀ (r : Nat) (hr6 : r < 6) (ha : ¬ m.1 3 r = 0) (rest q : List Nat) (hs : MSuf m (q ++ rest)) (hne : PtNe q rest) (hpt : PtOK m r q) (hf : aflI m r q = 0), az_W l G 6 (az_Q G (az_r (some (.int 3)) (AD ρ) (KK G ρ x m ou)) below args s 0 0) p e (az_rm 5 0 0) s mm args below meth c (AD ρ) (KK G ρ x m ou) 0 0 3 [(5, .int (hdI (q ++ rest))), (4, .int 0), (3, .int (nI lk)), (2, .int (hdI rest)), (1, .int v), (0, .ref (ρ.1 100))] [] := by
  intro lk v x m r hr6 ha rest q
  induction q with
  | nil =>
    intro hs hne hpt hf
    exact absurd (show (1 : Int32) = 0 from hf) (by decide)
  | cons d q ih =>
    intro hs hne hpt hf
    have hd : d < 8 := hs.1
    by_cases hf1 : floatsI m d r = 0
    · skip
      refine az_iload C 0 dX4_locks_3 rfl ?_
      refine az_iload_n C 3 dX4_locks_5 rfl ?_
      refine az_icmp_eq C 32 dX4_locks_6 (by decide) (fun q => absurd q (hne d List.mem_cons_self)) (fun _ => ?_)
      refine az_aload_n C 5 dX4_locks_9 rfl ?_
      refine az_iload C 0 dX4_locks_10 rfl ?_
      refine az_callV C Y_X4_floats cX4 2 0 [.int (nI d)] [] wm_X4_164 wi_X4_floats wse_X4_floats dX4_locks_12 rfl rfl rfl (Mfloats hG d r (by omega) hr6 (hpt d List.mem_cons_self).2 (hpt d List.mem_cons_self).1 ha) rfl (Nat.le_of_ble_eq_true rfl) (Nat.le_of_ble_eq_true rfl) (Nat.le_of_ble_eq_true rfl) (Nat.le_of_ble_eq_true rfl) (Nat.le_of_ble_eq_true rfl) (az_k1 rfl rfl ?_) (az_k0 rfl)
      refine az_top (0) hf1 ?_
      refine az_if_ne C 20 dX4_locks_15 (by decide) (fun q => absurd (by decide) q) (fun _ => ?_)
      refine az_iconst C (v := 3) dX4_locks_18 (by decide) ?_
      exact az_iret C rfl dX4_locks_19 (Nat.le_of_ble_eq_true rfl) (Nat.le_of_ble_eq_true rfl) ⟨rfl, rfl, rfl⟩
    · have hf2 : aflI m r q = 0 := by unfold aflI at hf; rw [if_neg hf1] at hf; exact hf
      refine az_iload C 0 dX4_locks_3 rfl ?_
      refine az_iload_n C 3 dX4_locks_5 rfl ?_
      refine az_icmp_eq C 32 dX4_locks_6 (by decide) (fun q => absurd q (hne d List.mem_cons_self)) (fun _ => ?_)
      refine az_aload_n C 5 dX4_locks_9 rfl ?_
      refine az_iload C 0 dX4_locks_10 rfl ?_
      refine az_callV C Y_X4_floats cX4 2 0 [.int (nI d)] [] wm_X4_164 wi_X4_floats wse_X4_floats dX4_locks_12 rfl rfl rfl (Mfloats hG d r (by omega) hr6 (hpt d List.mem_cons_self).2 (hpt d List.mem_cons_self).1 ha) rfl (Nat.le_of_ble_eq_true rfl) (Nat.le_of_ble_eq_true rfl) (Nat.le_of_ble_eq_true rfl) (Nat.le_of_ble_eq_true rfl) (Nat.le_of_ble_eq_true rfl) (az_k1 rfl rfl ?_) (az_k0 rfl)
      refine az_if_ne C 20 dX4_locks_15 (by decide) (fun _ => ?_) (fun q => absurd q hf1)
      refine az_aload_n C 5 dX4_locks_20 rfl ?_
      refine az_get C cX4 2 0 19 (v := .ref (ρ.1 119)) wl_X4_60 dX4_locks_21 rfl rfl rfl (by decide) ?_
      refine az_iload C 0 dX4_locks_24 rfl ?_
      refine az_ialdN C 2 19 d (v := m.1 19 d) dX4_locks_26 rfl rfl (by omega) (by decide) rfl ?_
      refine az_top (hdI (q ++ rest)) hs.2.1 ?_
      refine az_istore C (lv' := [(5, .int (hdI (q ++ rest))), (4, .int 0), (3, .int (nI lk)), (2, .int (hdI rest)), (1, .int v), (0, .ref (ρ.1 100))]) dX4_locks_27 (by decide) rfl ?_
      refine az_goto C 3 dX4_locks_29 (by decide) ?_
      exact az_lv [0, 1, 2, 3, 4, 5] rfl (ih hs.2.2 (fun b hb => hne b (List.mem_cons_of_mem _ hb)) (fun b hb => hpt b (List.mem_cons_of_mem _ hb)) hf2)

set_option maxHeartbeats 4000000 in
set_option maxRecDepth 100000 in
theorem Mfl144_0c (hG : az_okS l G) {p : Program} {e : Env} {s : State} {mm : MethodId} {args : Array Value} {below : List Frame} {meth : Method} {c : Code} (C : az_C l G p s mm args meth c cX4_locks yX4_locks.cls 6 (Option.some FieldType.int) []) {Qx : State → Prop}  : ∀ (lk : Nat) (v : Int32) {x : Xs} {m : Ms}, ∀ (r : Nat) (hr6 : r < 6) (ha : ¬ m.1 3 r = 0) (rest q : List Nat) (hs : MSuf m (q ++ rest)) (hne : PtNe q rest) (hpt : PtOK m r q) (hf : aflI m r q = 1),az_W l G 6 Qx p e (az_rm 5 0 0) s mm args below meth c (AD ρ) (KK G ρ x m ou) 0 0 173 [(4, .int 0), (3, .int (nI lk)), (2, .int (hdI rest)), (1, .int v), (0, .ref (ρ.1 100))] [] → az_W l G 6 Qx p e (az_rm 5 0 0) s mm args below meth c (AD ρ) (KK G ρ x m ou) 0 0 144 [(5, .int (hdI (q ++ rest))), (4, .int 0), (3, .int (nI lk)), (2, .int (hdI rest)), (1, .int v), (0, .ref (ρ.1 100))] [] := by
  intro lk v x m r hr6 ha rest q
  induction q with
  | nil =>
    intro hs hne hpt hf hx
    refine az_iload C 0 dX4_locks_144 rfl ?_
    refine az_iload_n C 3 dX4_locks_146 rfl ?_
    refine az_icmp_eq C 173 dX4_locks_147 (by decide) (fun _ => ?_) (fun q => absurd rfl q)
    exact az_lv [1, 2, 3, 4, 5] rfl hx
  | cons d q ih =>
    intro hs hne hpt hf hx
    have hd : d < 8 := hs.1
    have hf1 : floatsI m d r = 1 := by
      unfold aflI at hf; split at hf
      · exact absurd hf (by decide)
      · rename_i hz; unfold floatsI at hz ⊢; split
        · rename_i hw; rw [if_pos hw] at hz; exact absurd rfl hz
        · rfl
    have hf2 : aflI m r q = 1 := by unfold aflI at hf; rw [hf1] at hf; exact hf
    refine az_iload C 0 dX4_locks_144 rfl ?_
    refine az_iload_n C 3 dX4_locks_146 rfl ?_
    refine az_icmp_eq C 173 dX4_locks_147 (by decide) (fun q => absurd q (hne d List.mem_cons_self)) (fun _ => ?_)
    refine az_aload_n C 5 dX4_locks_150 rfl ?_
    refine az_iload C 0 dX4_locks_151 rfl ?_
    refine az_callV C Y_X4_floats cX4 2 0 [.int (nI d)] [] wm_X4_164 wi_X4_floats wse_X4_floats dX4_locks_153 rfl rfl rfl (Mfloats hG d r (by omega) hr6 (hpt d List.mem_cons_self).2 (hpt d List.mem_cons_self).1 ha) rfl (Nat.le_of_ble_eq_true rfl) (Nat.le_of_ble_eq_true rfl) (Nat.le_of_ble_eq_true rfl) (Nat.le_of_ble_eq_true rfl) (Nat.le_of_ble_eq_true rfl) (az_k1 rfl rfl ?_) (az_k0 rfl)
    refine az_top (1) hf1 ?_
    refine az_if_ne C 161 dX4_locks_156 (by decide) (fun _ => ?_) (fun q => absurd q (by decide))
    refine az_aload_n C 5 dX4_locks_161 rfl ?_
    refine az_get C cX4 2 0 19 (v := .ref (ρ.1 119)) wl_X4_60 dX4_locks_162 rfl rfl rfl (by decide) ?_
    refine az_iload C 0 dX4_locks_165 rfl ?_
    refine az_ialdN C 2 19 d (v := m.1 19 d) dX4_locks_167 rfl rfl (by omega) (by decide) rfl ?_
    refine az_top (hdI (q ++ rest)) hs.2.1 ?_
    refine az_istore C (lv' := [(5, .int (hdI (q ++ rest))), (4, .int 0), (3, .int (nI lk)), (2, .int (hdI rest)), (1, .int v), (0, .ref (ρ.1 100))]) dX4_locks_168 (by decide) rfl ?_
    refine az_goto C 144 dX4_locks_170 (by decide) ?_
    exact az_lv [0, 1, 2, 3, 4, 5] rfl (ih hs.2.2 (fun b hb => hne b (List.mem_cons_of_mem _ hb)) (fun b hb => hpt b (List.mem_cons_of_mem _ hb)) hf2 hx)

set_option maxHeartbeats 4000000 in
set_option maxRecDepth 100000 in
theorem Mfl144_0r (hG : az_okS l G) {p : Program} {e : Env} {s : State} {mm : MethodId} {args : Array Value} {below : List Frame} {meth : Method} {c : Code} (C : az_C l G p s mm args meth c cX4_locks yX4_locks.cls 6 (Option.some FieldType.int) []) : ∀ (lk : Nat) (v : Int32) {x : Xs} {m : Ms}, ∀ (r : Nat) (hr6 : r < 6) (ha : ¬ m.1 3 r = 0) (rest q : List Nat) (hs : MSuf m (q ++ rest)) (hne : PtNe q rest) (hpt : PtOK m r q) (hf : aflI m r q = 0), az_W l G 6 (az_Q G (az_r (some (.int 5)) (AD ρ) (KK G ρ x m ou)) below args s 0 0) p e (az_rm 5 0 0) s mm args below meth c (AD ρ) (KK G ρ x m ou) 0 0 144 [(5, .int (hdI (q ++ rest))), (4, .int 0), (3, .int (nI lk)), (2, .int (hdI rest)), (1, .int v), (0, .ref (ρ.1 100))] [] := by
  intro lk v x m r hr6 ha rest q
  induction q with
  | nil =>
    intro hs hne hpt hf
    exact absurd (show (1 : Int32) = 0 from hf) (by decide)
  | cons d q ih =>
    intro hs hne hpt hf
    have hd : d < 8 := hs.1
    by_cases hf1 : floatsI m d r = 0
    · skip
      refine az_iload C 0 dX4_locks_144 rfl ?_
      refine az_iload_n C 3 dX4_locks_146 rfl ?_
      refine az_icmp_eq C 173 dX4_locks_147 (by decide) (fun q => absurd q (hne d List.mem_cons_self)) (fun _ => ?_)
      refine az_aload_n C 5 dX4_locks_150 rfl ?_
      refine az_iload C 0 dX4_locks_151 rfl ?_
      refine az_callV C Y_X4_floats cX4 2 0 [.int (nI d)] [] wm_X4_164 wi_X4_floats wse_X4_floats dX4_locks_153 rfl rfl rfl (Mfloats hG d r (by omega) hr6 (hpt d List.mem_cons_self).2 (hpt d List.mem_cons_self).1 ha) rfl (Nat.le_of_ble_eq_true rfl) (Nat.le_of_ble_eq_true rfl) (Nat.le_of_ble_eq_true rfl) (Nat.le_of_ble_eq_true rfl) (Nat.le_of_ble_eq_true rfl) (az_k1 rfl rfl ?_) (az_k0 rfl)
      refine az_top (0) hf1 ?_
      refine az_if_ne C 161 dX4_locks_156 (by decide) (fun q => absurd (by decide) q) (fun _ => ?_)
      refine az_iconst C (v := 5) dX4_locks_159 (by decide) ?_
      exact az_iret C rfl dX4_locks_160 (Nat.le_of_ble_eq_true rfl) (Nat.le_of_ble_eq_true rfl) ⟨rfl, rfl, rfl⟩
    · have hf2 : aflI m r q = 0 := by unfold aflI at hf; rw [if_neg hf1] at hf; exact hf
      refine az_iload C 0 dX4_locks_144 rfl ?_
      refine az_iload_n C 3 dX4_locks_146 rfl ?_
      refine az_icmp_eq C 173 dX4_locks_147 (by decide) (fun q => absurd q (hne d List.mem_cons_self)) (fun _ => ?_)
      refine az_aload_n C 5 dX4_locks_150 rfl ?_
      refine az_iload C 0 dX4_locks_151 rfl ?_
      refine az_callV C Y_X4_floats cX4 2 0 [.int (nI d)] [] wm_X4_164 wi_X4_floats wse_X4_floats dX4_locks_153 rfl rfl rfl (Mfloats hG d r (by omega) hr6 (hpt d List.mem_cons_self).2 (hpt d List.mem_cons_self).1 ha) rfl (Nat.le_of_ble_eq_true rfl) (Nat.le_of_ble_eq_true rfl) (Nat.le_of_ble_eq_true rfl) (Nat.le_of_ble_eq_true rfl) (Nat.le_of_ble_eq_true rfl) (az_k1 rfl rfl ?_) (az_k0 rfl)
      refine az_if_ne C 161 dX4_locks_156 (by decide) (fun _ => ?_) (fun q => absurd q hf1)
      refine az_aload_n C 5 dX4_locks_161 rfl ?_
      refine az_get C cX4 2 0 19 (v := .ref (ρ.1 119)) wl_X4_60 dX4_locks_162 rfl rfl rfl (by decide) ?_
      refine az_iload C 0 dX4_locks_165 rfl ?_
      refine az_ialdN C 2 19 d (v := m.1 19 d) dX4_locks_167 rfl rfl (by omega) (by decide) rfl ?_
      refine az_top (hdI (q ++ rest)) hs.2.1 ?_
      refine az_istore C (lv' := [(5, .int (hdI (q ++ rest))), (4, .int 0), (3, .int (nI lk)), (2, .int (hdI rest)), (1, .int v), (0, .ref (ρ.1 100))]) dX4_locks_168 (by decide) rfl ?_
      refine az_goto C 144 dX4_locks_170 (by decide) ?_
      exact az_lv [0, 1, 2, 3, 4, 5] rfl (ih hs.2.2 (fun b hb => hne b (List.mem_cons_of_mem _ hb)) (fun b hb => hpt b (List.mem_cons_of_mem _ hb)) hf2)

set_option maxHeartbeats 4000000 in
set_option maxRecDepth 100000 in
theorem Mmv_0 (hG : az_okS l G) {p : Program} {e : Env} {s : State} {mm : MethodId} {args : Array Value} {below : List Frame} {meth : Method} {c : Code} (C : az_C l G p s mm args meth c cX4_locks yX4_locks.cls 6 (Option.some FieldType.int) []) {Qx : State → Prop}  : ∀ (lk : Nat) (v : Int32) {x : Xs} (rest q : List Nat) {m : Ms} (hs : MSuf m (q ++ rest)) (hne : PtNe q rest),az_W l G 6 Qx p e (az_rm 5 0 0) s mm args below meth c (AD ρ) (KK G ρ x (movesM (nI lk) m q) ou) 0 0 141 [(4, .int 0), (3, .int (nI lk)), (2, .int (hdI rest)), (1, .int v), (0, .ref (ρ.1 100))] [] → az_W l G 6 Qx p e (az_rm 5 0 0) s mm args below meth c (AD ρ) (KK G ρ x m ou) 0 0 104 [(5, .int (hdI (q ++ rest))), (4, .int 0), (3, .int (nI lk)), (2, .int (hdI rest)), (1, .int v), (0, .ref (ρ.1 100))] [] := by
  intro lk v x rest q
  induction q with
  | nil =>
    intro m hs hne hx
    refine az_iload C 0 dX4_locks_104 rfl ?_
    refine az_iload_n C 3 dX4_locks_106 rfl ?_
    refine az_icmp_eq C 141 dX4_locks_107 (by decide) (fun _ => ?_) (fun q => absurd rfl q)
    exact az_lv [1, 2, 3, 4, 5] rfl hx
  | cons d q ih =>
    intro m hs hne hx
    have hd : d < 8 := hs.1
    refine az_iload C 0 dX4_locks_104 rfl ?_
    refine az_iload_n C 3 dX4_locks_106 rfl ?_
    refine az_icmp_eq C 141 dX4_locks_107 (by decide) (fun q => absurd q (hne d List.mem_cons_self)) (fun _ => ?_)
    refine az_aload_n C 5 dX4_locks_110 rfl ?_
    refine az_get C cX4 2 0 13 (v := .ref (ρ.1 113)) wl_X4_42 dX4_locks_111 rfl rfl rfl (by decide) ?_
    refine az_iload C 0 dX4_locks_114 rfl ?_
    refine az_iload C 1 dX4_locks_116 rfl ?_
    refine az_if_eq C 127 dX4_locks_118 (by decide) (fun _ => ?_) (fun q => absurd (by decide) q)
    refine az_iload_n C 2 dX4_locks_127 rfl ?_
    refine az_iastN C 2 13 d dX4_locks_128 rfl rfl (by omega) (by decide) (az_to rfl (K' := (KK G ρ x (mI m 13 d (nI lk)) ou)) (KK_M rfl) ?_)
    refine az_aload_n C 5 dX4_locks_129 rfl ?_
    refine az_get C cX4 2 0 19 (v := .ref (ρ.1 119)) wl_X4_60 dX4_locks_130 rfl rfl rfl (by decide) ?_
    refine az_iload C 0 dX4_locks_133 rfl ?_
    refine az_ialdN C 2 19 d (v := m.1 19 d) dX4_locks_135 rfl rfl (by omega) (by decide) rfl ?_
    refine az_top (hdI (q ++ rest)) hs.2.1 ?_
    refine az_istore C (lv' := [(5, .int (hdI (q ++ rest))), (4, .int 0), (3, .int (nI lk)), (2, .int (hdI rest)), (1, .int v), (0, .ref (ρ.1 100))]) dX4_locks_136 (by decide) rfl ?_
    refine az_goto C 104 dX4_locks_138 (by decide) ?_
    exact az_lv [0, 1, 2, 3, 4, 5] rfl (ih (MSuf_w (m := m) (m' := mI m 13 d _) (fun b => rfl) hs.2.2) (fun b hb => hne b (List.mem_cons_of_mem _ hb)) hx)

set_option maxHeartbeats 4000000 in
set_option maxRecDepth 100000 in
theorem Mfl3_1c (hG : az_okS l G) {p : Program} {e : Env} {s : State} {mm : MethodId} {args : Array Value} {below : List Frame} {meth : Method} {c : Code} (C : az_C l G p s mm args meth c cX4_locks yX4_locks.cls 6 (Option.some FieldType.int) []) {Qx : State → Prop}  : ∀ (lk : Nat) (v : Int32) {x : Xs} {m : Ms}, ∀ (r : Nat) (hr6 : r < 6) (ha : ¬ m.1 3 r = 0) (rest q : List Nat) (hs : MSuf m (q ++ rest)) (hne : PtNe q rest) (hpt : PtOK m r q) (hf : aflI m r q = 1),az_W l G 6 Qx p e (az_rm 5 0 0) s mm args below meth c (AD ρ) (KK G ρ x m ou) 0 0 32 [(4, .int 1), (3, .int (nI lk)), (2, .int (hdI rest)), (1, .int v), (0, .ref (ρ.1 100))] [] → az_W l G 6 Qx p e (az_rm 5 0 0) s mm args below meth c (AD ρ) (KK G ρ x m ou) 0 0 3 [(5, .int (hdI (q ++ rest))), (4, .int 1), (3, .int (nI lk)), (2, .int (hdI rest)), (1, .int v), (0, .ref (ρ.1 100))] [] := by
  intro lk v x m r hr6 ha rest q
  induction q with
  | nil =>
    intro hs hne hpt hf hx
    refine az_iload C 0 dX4_locks_3 rfl ?_
    refine az_iload_n C 3 dX4_locks_5 rfl ?_
    refine az_icmp_eq C 32 dX4_locks_6 (by decide) (fun _ => ?_) (fun q => absurd rfl q)
    exact az_lv [1, 2, 3, 4, 5] rfl hx
  | cons d q ih =>
    intro hs hne hpt hf hx
    have hd : d < 8 := hs.1
    have hf1 : floatsI m d r = 1 := by
      unfold aflI at hf; split at hf
      · exact absurd hf (by decide)
      · rename_i hz; unfold floatsI at hz ⊢; split
        · rename_i hw; rw [if_pos hw] at hz; exact absurd rfl hz
        · rfl
    have hf2 : aflI m r q = 1 := by unfold aflI at hf; rw [hf1] at hf; exact hf
    refine az_iload C 0 dX4_locks_3 rfl ?_
    refine az_iload_n C 3 dX4_locks_5 rfl ?_
    refine az_icmp_eq C 32 dX4_locks_6 (by decide) (fun q => absurd q (hne d List.mem_cons_self)) (fun _ => ?_)
    refine az_aload_n C 5 dX4_locks_9 rfl ?_
    refine az_iload C 0 dX4_locks_10 rfl ?_
    refine az_callV C Y_X4_floats cX4 2 0 [.int (nI d)] [] wm_X4_164 wi_X4_floats wse_X4_floats dX4_locks_12 rfl rfl rfl (Mfloats hG d r (by omega) hr6 (hpt d List.mem_cons_self).2 (hpt d List.mem_cons_self).1 ha) rfl (Nat.le_of_ble_eq_true rfl) (Nat.le_of_ble_eq_true rfl) (Nat.le_of_ble_eq_true rfl) (Nat.le_of_ble_eq_true rfl) (Nat.le_of_ble_eq_true rfl) (az_k1 rfl rfl ?_) (az_k0 rfl)
    refine az_top (1) hf1 ?_
    refine az_if_ne C 20 dX4_locks_15 (by decide) (fun _ => ?_) (fun q => absurd q (by decide))
    refine az_aload_n C 5 dX4_locks_20 rfl ?_
    refine az_get C cX4 2 0 19 (v := .ref (ρ.1 119)) wl_X4_60 dX4_locks_21 rfl rfl rfl (by decide) ?_
    refine az_iload C 0 dX4_locks_24 rfl ?_
    refine az_ialdN C 2 19 d (v := m.1 19 d) dX4_locks_26 rfl rfl (by omega) (by decide) rfl ?_
    refine az_top (hdI (q ++ rest)) hs.2.1 ?_
    refine az_istore C (lv' := [(5, .int (hdI (q ++ rest))), (4, .int 1), (3, .int (nI lk)), (2, .int (hdI rest)), (1, .int v), (0, .ref (ρ.1 100))]) dX4_locks_27 (by decide) rfl ?_
    refine az_goto C 3 dX4_locks_29 (by decide) ?_
    exact az_lv [0, 1, 2, 3, 4, 5] rfl (ih hs.2.2 (fun b hb => hne b (List.mem_cons_of_mem _ hb)) (fun b hb => hpt b (List.mem_cons_of_mem _ hb)) hf2 hx)

set_option maxHeartbeats 4000000 in
set_option maxRecDepth 100000 in
theorem Mfl3_1r (hG : az_okS l G) {p : Program} {e : Env} {s : State} {mm : MethodId} {args : Array Value} {below : List Frame} {meth : Method} {c : Code} (C : az_C l G p s mm args meth c cX4_locks yX4_locks.cls 6 (Option.some FieldType.int) []) : ∀ (lk : Nat) (v : Int32) {x : Xs} {m : Ms}, ∀ (r : Nat) (hr6 : r < 6) (ha : ¬ m.1 3 r = 0) (rest q : List Nat) (hs : MSuf m (q ++ rest)) (hne : PtNe q rest) (hpt : PtOK m r q) (hf : aflI m r q = 0), az_W l G 6 (az_Q G (az_r (some (.int 3)) (AD ρ) (KK G ρ x m ou)) below args s 0 0) p e (az_rm 5 0 0) s mm args below meth c (AD ρ) (KK G ρ x m ou) 0 0 3 [(5, .int (hdI (q ++ rest))), (4, .int 1), (3, .int (nI lk)), (2, .int (hdI rest)), (1, .int v), (0, .ref (ρ.1 100))] [] := by
  intro lk v x m r hr6 ha rest q
  induction q with
  | nil =>
    intro hs hne hpt hf
    exact absurd (show (1 : Int32) = 0 from hf) (by decide)
  | cons d q ih =>
    intro hs hne hpt hf
    have hd : d < 8 := hs.1
    by_cases hf1 : floatsI m d r = 0
    · skip
      refine az_iload C 0 dX4_locks_3 rfl ?_
      refine az_iload_n C 3 dX4_locks_5 rfl ?_
      refine az_icmp_eq C 32 dX4_locks_6 (by decide) (fun q => absurd q (hne d List.mem_cons_self)) (fun _ => ?_)
      refine az_aload_n C 5 dX4_locks_9 rfl ?_
      refine az_iload C 0 dX4_locks_10 rfl ?_
      refine az_callV C Y_X4_floats cX4 2 0 [.int (nI d)] [] wm_X4_164 wi_X4_floats wse_X4_floats dX4_locks_12 rfl rfl rfl (Mfloats hG d r (by omega) hr6 (hpt d List.mem_cons_self).2 (hpt d List.mem_cons_self).1 ha) rfl (Nat.le_of_ble_eq_true rfl) (Nat.le_of_ble_eq_true rfl) (Nat.le_of_ble_eq_true rfl) (Nat.le_of_ble_eq_true rfl) (Nat.le_of_ble_eq_true rfl) (az_k1 rfl rfl ?_) (az_k0 rfl)
      refine az_top (0) hf1 ?_
      refine az_if_ne C 20 dX4_locks_15 (by decide) (fun q => absurd (by decide) q) (fun _ => ?_)
      refine az_iconst C (v := 3) dX4_locks_18 (by decide) ?_
      exact az_iret C rfl dX4_locks_19 (Nat.le_of_ble_eq_true rfl) (Nat.le_of_ble_eq_true rfl) ⟨rfl, rfl, rfl⟩
    · have hf2 : aflI m r q = 0 := by unfold aflI at hf; rw [if_neg hf1] at hf; exact hf
      refine az_iload C 0 dX4_locks_3 rfl ?_
      refine az_iload_n C 3 dX4_locks_5 rfl ?_
      refine az_icmp_eq C 32 dX4_locks_6 (by decide) (fun q => absurd q (hne d List.mem_cons_self)) (fun _ => ?_)
      refine az_aload_n C 5 dX4_locks_9 rfl ?_
      refine az_iload C 0 dX4_locks_10 rfl ?_
      refine az_callV C Y_X4_floats cX4 2 0 [.int (nI d)] [] wm_X4_164 wi_X4_floats wse_X4_floats dX4_locks_12 rfl rfl rfl (Mfloats hG d r (by omega) hr6 (hpt d List.mem_cons_self).2 (hpt d List.mem_cons_self).1 ha) rfl (Nat.le_of_ble_eq_true rfl) (Nat.le_of_ble_eq_true rfl) (Nat.le_of_ble_eq_true rfl) (Nat.le_of_ble_eq_true rfl) (Nat.le_of_ble_eq_true rfl) (az_k1 rfl rfl ?_) (az_k0 rfl)
      refine az_if_ne C 20 dX4_locks_15 (by decide) (fun _ => ?_) (fun q => absurd q hf1)
      refine az_aload_n C 5 dX4_locks_20 rfl ?_
      refine az_get C cX4 2 0 19 (v := .ref (ρ.1 119)) wl_X4_60 dX4_locks_21 rfl rfl rfl (by decide) ?_
      refine az_iload C 0 dX4_locks_24 rfl ?_
      refine az_ialdN C 2 19 d (v := m.1 19 d) dX4_locks_26 rfl rfl (by omega) (by decide) rfl ?_
      refine az_top (hdI (q ++ rest)) hs.2.1 ?_
      refine az_istore C (lv' := [(5, .int (hdI (q ++ rest))), (4, .int 1), (3, .int (nI lk)), (2, .int (hdI rest)), (1, .int v), (0, .ref (ρ.1 100))]) dX4_locks_27 (by decide) rfl ?_
      refine az_goto C 3 dX4_locks_29 (by decide) ?_
      exact az_lv [0, 1, 2, 3, 4, 5] rfl (ih hs.2.2 (fun b hb => hne b (List.mem_cons_of_mem _ hb)) (fun b hb => hpt b (List.mem_cons_of_mem _ hb)) hf2)

set_option maxHeartbeats 4000000 in
set_option maxRecDepth 100000 in
theorem Mfl144_1c (hG : az_okS l G) {p : Program} {e : Env} {s : State} {mm : MethodId} {args : Array Value} {below : List Frame} {meth : Method} {c : Code} (C : az_C l G p s mm args meth c cX4_locks yX4_locks.cls 6 (Option.some FieldType.int) []) {Qx : State → Prop}  : ∀ (lk : Nat) (v : Int32) {x : Xs} {m : Ms}, ∀ (r : Nat) (hr6 : r < 6) (ha : ¬ m.1 3 r = 0) (rest q : List Nat) (hs : MSuf m (q ++ rest)) (hne : PtNe q rest) (hpt : PtOK m r q) (hf : aflI m r q = 1),az_W l G 6 Qx p e (az_rm 5 0 0) s mm args below meth c (AD ρ) (KK G ρ x m ou) 0 0 173 [(4, .int 1), (3, .int (nI lk)), (2, .int (hdI rest)), (1, .int v), (0, .ref (ρ.1 100))] [] → az_W l G 6 Qx p e (az_rm 5 0 0) s mm args below meth c (AD ρ) (KK G ρ x m ou) 0 0 144 [(5, .int (hdI (q ++ rest))), (4, .int 1), (3, .int (nI lk)), (2, .int (hdI rest)), (1, .int v), (0, .ref (ρ.1 100))] [] := by
  intro lk v x m r hr6 ha rest q
  induction q with
  | nil =>
    intro hs hne hpt hf hx
    refine az_iload C 0 dX4_locks_144 rfl ?_
    refine az_iload_n C 3 dX4_locks_146 rfl ?_
    refine az_icmp_eq C 173 dX4_locks_147 (by decide) (fun _ => ?_) (fun q => absurd rfl q)
    exact az_lv [1, 2, 3, 4, 5] rfl hx
  | cons d q ih =>
    intro hs hne hpt hf hx
    have hd : d < 8 := hs.1
    have hf1 : floatsI m d r = 1 := by
      unfold aflI at hf; split at hf
      · exact absurd hf (by decide)
      · rename_i hz; unfold floatsI at hz ⊢; split
        · rename_i hw; rw [if_pos hw] at hz; exact absurd rfl hz
        · rfl
    have hf2 : aflI m r q = 1 := by unfold aflI at hf; rw [hf1] at hf; exact hf
    refine az_iload C 0 dX4_locks_144 rfl ?_
    refine az_iload_n C 3 dX4_locks_146 rfl ?_
    refine az_icmp_eq C 173 dX4_locks_147 (by decide) (fun q => absurd q (hne d List.mem_cons_self)) (fun _ => ?_)
    refine az_aload_n C 5 dX4_locks_150 rfl ?_
    refine az_iload C 0 dX4_locks_151 rfl ?_
    refine az_callV C Y_X4_floats cX4 2 0 [.int (nI d)] [] wm_X4_164 wi_X4_floats wse_X4_floats dX4_locks_153 rfl rfl rfl (Mfloats hG d r (by omega) hr6 (hpt d List.mem_cons_self).2 (hpt d List.mem_cons_self).1 ha) rfl (Nat.le_of_ble_eq_true rfl) (Nat.le_of_ble_eq_true rfl) (Nat.le_of_ble_eq_true rfl) (Nat.le_of_ble_eq_true rfl) (Nat.le_of_ble_eq_true rfl) (az_k1 rfl rfl ?_) (az_k0 rfl)
    refine az_top (1) hf1 ?_
    refine az_if_ne C 161 dX4_locks_156 (by decide) (fun _ => ?_) (fun q => absurd q (by decide))
    refine az_aload_n C 5 dX4_locks_161 rfl ?_
    refine az_get C cX4 2 0 19 (v := .ref (ρ.1 119)) wl_X4_60 dX4_locks_162 rfl rfl rfl (by decide) ?_
    refine az_iload C 0 dX4_locks_165 rfl ?_
    refine az_ialdN C 2 19 d (v := m.1 19 d) dX4_locks_167 rfl rfl (by omega) (by decide) rfl ?_
    refine az_top (hdI (q ++ rest)) hs.2.1 ?_
    refine az_istore C (lv' := [(5, .int (hdI (q ++ rest))), (4, .int 1), (3, .int (nI lk)), (2, .int (hdI rest)), (1, .int v), (0, .ref (ρ.1 100))]) dX4_locks_168 (by decide) rfl ?_
    refine az_goto C 144 dX4_locks_170 (by decide) ?_
    exact az_lv [0, 1, 2, 3, 4, 5] rfl (ih hs.2.2 (fun b hb => hne b (List.mem_cons_of_mem _ hb)) (fun b hb => hpt b (List.mem_cons_of_mem _ hb)) hf2 hx)

set_option maxHeartbeats 4000000 in
set_option maxRecDepth 100000 in
theorem Mfl144_1r (hG : az_okS l G) {p : Program} {e : Env} {s : State} {mm : MethodId} {args : Array Value} {below : List Frame} {meth : Method} {c : Code} (C : az_C l G p s mm args meth c cX4_locks yX4_locks.cls 6 (Option.some FieldType.int) []) : ∀ (lk : Nat) (v : Int32) {x : Xs} {m : Ms}, ∀ (r : Nat) (hr6 : r < 6) (ha : ¬ m.1 3 r = 0) (rest q : List Nat) (hs : MSuf m (q ++ rest)) (hne : PtNe q rest) (hpt : PtOK m r q) (hf : aflI m r q = 0), az_W l G 6 (az_Q G (az_r (some (.int 5)) (AD ρ) (KK G ρ x m ou)) below args s 0 0) p e (az_rm 5 0 0) s mm args below meth c (AD ρ) (KK G ρ x m ou) 0 0 144 [(5, .int (hdI (q ++ rest))), (4, .int 1), (3, .int (nI lk)), (2, .int (hdI rest)), (1, .int v), (0, .ref (ρ.1 100))] [] := by
  intro lk v x m r hr6 ha rest q
  induction q with
  | nil =>
    intro hs hne hpt hf
    exact absurd (show (1 : Int32) = 0 from hf) (by decide)
  | cons d q ih =>
    intro hs hne hpt hf
    have hd : d < 8 := hs.1
    by_cases hf1 : floatsI m d r = 0
    · skip
      refine az_iload C 0 dX4_locks_144 rfl ?_
      refine az_iload_n C 3 dX4_locks_146 rfl ?_
      refine az_icmp_eq C 173 dX4_locks_147 (by decide) (fun q => absurd q (hne d List.mem_cons_self)) (fun _ => ?_)
      refine az_aload_n C 5 dX4_locks_150 rfl ?_
      refine az_iload C 0 dX4_locks_151 rfl ?_
      refine az_callV C Y_X4_floats cX4 2 0 [.int (nI d)] [] wm_X4_164 wi_X4_floats wse_X4_floats dX4_locks_153 rfl rfl rfl (Mfloats hG d r (by omega) hr6 (hpt d List.mem_cons_self).2 (hpt d List.mem_cons_self).1 ha) rfl (Nat.le_of_ble_eq_true rfl) (Nat.le_of_ble_eq_true rfl) (Nat.le_of_ble_eq_true rfl) (Nat.le_of_ble_eq_true rfl) (Nat.le_of_ble_eq_true rfl) (az_k1 rfl rfl ?_) (az_k0 rfl)
      refine az_top (0) hf1 ?_
      refine az_if_ne C 161 dX4_locks_156 (by decide) (fun q => absurd (by decide) q) (fun _ => ?_)
      refine az_iconst C (v := 5) dX4_locks_159 (by decide) ?_
      exact az_iret C rfl dX4_locks_160 (Nat.le_of_ble_eq_true rfl) (Nat.le_of_ble_eq_true rfl) ⟨rfl, rfl, rfl⟩
    · have hf2 : aflI m r q = 0 := by unfold aflI at hf; rw [if_neg hf1] at hf; exact hf
      refine az_iload C 0 dX4_locks_144 rfl ?_
      refine az_iload_n C 3 dX4_locks_146 rfl ?_
      refine az_icmp_eq C 173 dX4_locks_147 (by decide) (fun q => absurd q (hne d List.mem_cons_self)) (fun _ => ?_)
      refine az_aload_n C 5 dX4_locks_150 rfl ?_
      refine az_iload C 0 dX4_locks_151 rfl ?_
      refine az_callV C Y_X4_floats cX4 2 0 [.int (nI d)] [] wm_X4_164 wi_X4_floats wse_X4_floats dX4_locks_153 rfl rfl rfl (Mfloats hG d r (by omega) hr6 (hpt d List.mem_cons_self).2 (hpt d List.mem_cons_self).1 ha) rfl (Nat.le_of_ble_eq_true rfl) (Nat.le_of_ble_eq_true rfl) (Nat.le_of_ble_eq_true rfl) (Nat.le_of_ble_eq_true rfl) (Nat.le_of_ble_eq_true rfl) (az_k1 rfl rfl ?_) (az_k0 rfl)
      refine az_if_ne C 161 dX4_locks_156 (by decide) (fun _ => ?_) (fun q => absurd q hf1)
      refine az_aload_n C 5 dX4_locks_161 rfl ?_
      refine az_get C cX4 2 0 19 (v := .ref (ρ.1 119)) wl_X4_60 dX4_locks_162 rfl rfl rfl (by decide) ?_
      refine az_iload C 0 dX4_locks_165 rfl ?_
      refine az_ialdN C 2 19 d (v := m.1 19 d) dX4_locks_167 rfl rfl (by omega) (by decide) rfl ?_
      refine az_top (hdI (q ++ rest)) hs.2.1 ?_
      refine az_istore C (lv' := [(5, .int (hdI (q ++ rest))), (4, .int 1), (3, .int (nI lk)), (2, .int (hdI rest)), (1, .int v), (0, .ref (ρ.1 100))]) dX4_locks_168 (by decide) rfl ?_
      refine az_goto C 144 dX4_locks_170 (by decide) ?_
      exact az_lv [0, 1, 2, 3, 4, 5] rfl (ih hs.2.2 (fun b hb => hne b (List.mem_cons_of_mem _ hb)) (fun b hb => hpt b (List.mem_cons_of_mem _ hb)) hf2)

set_option maxHeartbeats 4000000 in
set_option maxRecDepth 100000 in
theorem Mmv_1 (hG : az_okS l G) {p : Program} {e : Env} {s : State} {mm : MethodId} {args : Array Value} {below : List Frame} {meth : Method} {c : Code} (C : az_C l G p s mm args meth c cX4_locks yX4_locks.cls 6 (Option.some FieldType.int) []) {Qx : State → Prop}  : ∀ (lk : Nat) (v : Int32) {x : Xs} (rest q : List Nat) {m : Ms} (hs : MSuf m (q ++ rest)) (hne : PtNe q rest),az_W l G 6 Qx p e (az_rm 5 0 0) s mm args below meth c (AD ρ) (KK G ρ x (movesM (nI (lk + 1)) m q) ou) 0 0 141 [(4, .int 1), (3, .int (nI lk)), (2, .int (hdI rest)), (1, .int v), (0, .ref (ρ.1 100))] [] → az_W l G 6 Qx p e (az_rm 5 0 0) s mm args below meth c (AD ρ) (KK G ρ x m ou) 0 0 104 [(5, .int (hdI (q ++ rest))), (4, .int 1), (3, .int (nI lk)), (2, .int (hdI rest)), (1, .int v), (0, .ref (ρ.1 100))] [] := by
  intro lk v x rest q
  induction q with
  | nil =>
    intro m hs hne hx
    refine az_iload C 0 dX4_locks_104 rfl ?_
    refine az_iload_n C 3 dX4_locks_106 rfl ?_
    refine az_icmp_eq C 141 dX4_locks_107 (by decide) (fun _ => ?_) (fun q => absurd rfl q)
    exact az_lv [1, 2, 3, 4, 5] rfl hx
  | cons d q ih =>
    intro m hs hne hx
    have hd : d < 8 := hs.1
    refine az_iload C 0 dX4_locks_104 rfl ?_
    refine az_iload_n C 3 dX4_locks_106 rfl ?_
    refine az_icmp_eq C 141 dX4_locks_107 (by decide) (fun q => absurd q (hne d List.mem_cons_self)) (fun _ => ?_)
    refine az_aload_n C 5 dX4_locks_110 rfl ?_
    refine az_get C cX4 2 0 13 (v := .ref (ρ.1 113)) wl_X4_42 dX4_locks_111 rfl rfl rfl (by decide) ?_
    refine az_iload C 0 dX4_locks_114 rfl ?_
    refine az_iload C 1 dX4_locks_116 rfl ?_
    refine az_if_eq C 127 dX4_locks_118 (by decide) (fun q => absurd q (by decide)) (fun _ => ?_)
    refine az_iload_n C 2 dX4_locks_121 rfl ?_
    refine az_iconst C (v := 1) dX4_locks_122 (by decide) ?_
    refine az_iadd C dX4_locks_123 ?_
    refine az_top (nI (lk + 1)) (nI_1 lk) ?_
    refine az_goto C 128 dX4_locks_124 (by decide) ?_
    refine az_iastN C 2 13 d dX4_locks_128 rfl rfl (by omega) (by decide) (az_to rfl (K' := (KK G ρ x (mI m 13 d (nI (lk + 1))) ou)) (KK_M rfl) ?_)
    refine az_aload_n C 5 dX4_locks_129 rfl ?_
    refine az_get C cX4 2 0 19 (v := .ref (ρ.1 119)) wl_X4_60 dX4_locks_130 rfl rfl rfl (by decide) ?_
    refine az_iload C 0 dX4_locks_133 rfl ?_
    refine az_ialdN C 2 19 d (v := m.1 19 d) dX4_locks_135 rfl rfl (by omega) (by decide) rfl ?_
    refine az_top (hdI (q ++ rest)) hs.2.1 ?_
    refine az_istore C (lv' := [(5, .int (hdI (q ++ rest))), (4, .int 1), (3, .int (nI lk)), (2, .int (hdI rest)), (1, .int v), (0, .ref (ρ.1 100))]) dX4_locks_136 (by decide) rfl ?_
    refine az_goto C 104 dX4_locks_138 (by decide) ?_
    exact az_lv [0, 1, 2, 3, 4, 5] rfl (ih (MSuf_w (m := m) (m' := mI m 13 d _) (fun b => rfl) hs.2.2) (fun b hb => hne b (List.mem_cons_of_mem _ hb)) hx)

theorem comesM_p {p j : Nat} (h0 : p ≠ 0) (h4 : p ≠ 4) (h1 : p ≠ 25) (h2 : p ≠ 26) (h3 : p ≠ 27) : ∀ (n : Nat) (m : Ms) (nr : Nat) (src : Int32) (k : Nat) (left : Int32), (comesM n m nr src k left).1 p j = m.1 p j
  | 0, _, _, _, _, _ => rfl
  | n + 1, m, nr, src, k, left => by
    unfold comesM; split
    · rfl
    · split
      · exact (comesM_p h0 h4 h1 h2 h3 n _ _ _ _ _).trans (cnext_p h0 h4 h1 h2 h3)
      · simp only [mI]
        rw [up2_p h0]; exact recM_p h0 h1 h2 h3
theorem comesM_0 {j : Nat} (h : j ≠ 24) (h22 : j ≠ 22) : ∀ (n : Nat) (m : Ms) (nr : Nat) (src : Int32) (k : Nat) (left : Int32), (comesM n m nr src k left).1 0 j = m.1 0 j
  | 0, _, _, _, _, _ => rfl
  | n + 1, m, nr, src, k, left => by
    unfold comesM; split
    · rfl
    · split
      · exact (comesM_0 h h22 n _ _ _ _ _).trans (cnext_0 h)
      · simp only [mI]
        rw [up2_k h22]; exact recM_0 h
theorem comesM_ok : ∀ (n : Nat) (m : Ms) (nr : Nat) (src : Int32) (k : Nat) (left : Int32) (z : Nat), mvok m (n + z) → mvok (comesM n m nr src k left) z
  | 0, _, _, _, _, _, z, h => h.le (by omega)
  | n + 1, m, nr, src, k, left, z, h => by
    unfold comesM; split
    · exact h.le (by omega)
    · split
      · exact comesM_ok n _ _ _ _ _ z (cnext_ok (z := n + z) (h.le (by omega)))
      · exact recM_okE (z := z) (h.le (by omega))
theorem emptiesM_p {m : Ms} {nr k p j : Nat} (h0 : p ≠ 0) (h4 : p ≠ 4) (h10 : p ≠ 10) (h11 : p ≠ 11) (h1 : p ≠ 25) (h2 : p ≠ 26) (h3 : p ≠ 27) : (emptiesM m nr k).1 p j = m.1 p j := by
  rw [emptiesM, comesM_p h0 h4 h1 h2 h3]
  simp only [mI]
  rw [up2_p h10, up2_p h11]
theorem emptiesM_f {m : Ms} {nr k : Nat} : (emptiesM m nr k).1 11 k = 0 := by
  rw [emptiesM, comesM_p (by decide) (by decide) (by decide) (by decide) (by decide)]
  simp only [mI]
  rw [up2_p (by decide), up2_s]
  rfl
theorem emptiesM_0 {m : Ms} {nr k j : Nat} (h : j ≠ 24) (h22 : j ≠ 22) : (emptiesM m nr k).1 0 j = m.1 0 j := by
  rw [emptiesM, comesM_0 h h22]
  simp only [mI]
  rw [up2_p (by decide), up2_p (by decide)]
theorem emptiesM_ok {m : Ms} {nr k z : Nat} (hk : k + 1 ≤ nr) (h : mvok m (nr + z)) : mvok (emptiesM m nr k) z := by
  rw [emptiesM]
  exact comesM_ok _ _ _ _ _ _ z ((h.le (by omega)).eq rfl)
theorem fillsM_p {m : Ms} {k p j : Nat} (h0 : p ≠ 0) (h4 : p ≠ 4) (h11 : p ≠ 11) (h1 : p ≠ 25) (h2 : p ≠ 26) (h3 : p ≠ 27) : (fillsM m k).1 p j = m.1 p j := by
  simp only [fillsM, mI]
  rw [up2_p h11, up2_p h4]
  exact recM_p h0 h1 h2 h3
theorem fillsM_0 {m : Ms} {k j : Nat} (h : j ≠ 24) : (fillsM m k).1 0 j = m.1 0 j := by
  simp only [fillsM, mI]
  rw [up2_p (by decide), up2_p (by decide)]
  exact recM_0 h
theorem fillsM_ok {m : Ms} {k z : Nat} (h : mvok m (z + 1)) : mvok (fillsM m k) z := recM_okE (z := z) h
/-- what a lock does before it fills -/
def lkA (m : Ms) (nr lk : Nat) (dn : Bool) : Ms := if dn = false ∧ ¬ m.1 11 lk = 0 then emptiesM m nr lk else m
def lkB (m : Ms) (lk : Nat) : Ms := if m.1 11 lk = 0 then fillsM m lk else m
def lkC (m : Ms) (nr lk : Nat) (dn : Bool) : Ms := if dn = true then emptiesM m nr lk else m
def rIn (dn : Bool) (lk : Nat) : Nat := if dn = true then lk else lk + 1
def rOut (dn : Bool) (lk : Nat) : Nat := if dn = true then lk + 1 else lk
def lkD (m : Ms) (nr lk : Nat) (dn : Bool) (part : List Nat) : Ms := movesM (nI (rOut dn lk)) (lkC (lkB (lkA m nr lk dn) lk) nr lk dn) part
def lockM (m : Ms) (nr lk : Nat) (dn : Bool) (part : List Nat) : Ms × Int32 :=
  if aflI m (rIn dn lk) part = 0 then (m, 3)
  else if (lkA m nr lk dn).1 11 lk = 0 ∧ (lkA m nr lk dn).1 4 lk < (lkA m nr lk dn).1 7 lk then (lkA m nr lk dn, 4)
  else (lkD m nr lk dn part, if aflI (lkD m nr lk dn part) (rOut dn lk) part = 0 then 5 else 0)
set_option maxHeartbeats 4000000 in
set_option maxRecDepth 100000 in
theorem Mlocks1_3 (hG : az_okS l G) (nr lk : Nat) (hr : m.1 0 1 = nI nr) (hn : nr ≤ 6) (hk : lk + 2 ≤ nr) (hm : mvok m (2 * nr + 1)) (har : MAr m nr) (d : Nat) (q rest : List Nat) (hs : MSuf m (d :: q ++ rest)) (hne : PtNe (d :: q) rest) (hpt : PtOK m lk (d :: q)) (hA : aflI m lk (d :: q) = 0) : az_M l G yX4_locks (az_ws yX4_locks cX4_locks 6 (Option.some FieldType.int)) 5 [.ref (ρ.1 100), .int (nI d), .int (hdI rest), .int (nI lk), .int 1] (AD ρ) (KK G ρ x m ou) 0 0 (az_r (some (.int 3)) (AD ρ) (KK G ρ x m ou)) := by
  refine az_start hG.1 (by decide +kernel) (Nat.le_of_ble_eq_true rfl) ?_
  intro p e s mm args below meth c C hnm
  show az_W l G 6 _ p e _ s mm args below meth c _ _ 0 0 0 [(0, .ref (ρ.1 100)), (1, .int (nI d)), (2, .int (hdI rest)), (3, .int (nI lk)), (4, .int 1)] []
  refine az_iload_n C 1 dX4_locks_0 rfl ?_
  refine az_istore C (lv' := [(5, .int (nI d)), (0, .ref (ρ.1 100)), (1, .int (nI d)), (2, .int (hdI rest)), (3, .int (nI lk)), (4, .int 1)]) dX4_locks_1 (by decide) rfl ?_
  exact az_lv [0, 5, 4, 3, 2, 1] rfl (Mfl3_1r hG C lk (nI d) lk (by omega) (har lk (by omega)) rest (d :: q) hs hne hpt hA)

set_option maxHeartbeats 4000000 in
set_option maxRecDepth 100000 in
theorem Mlocks1_4 (hG : az_okS l G) (nr lk : Nat) (hr : m.1 0 1 = nI nr) (hn : nr ≤ 6) (hk : lk + 2 ≤ nr) (hm : mvok m (2 * nr + 1)) (har : MAr m nr) (d : Nat) (q rest : List Nat) (hs : MSuf m (d :: q ++ rest)) (hne : PtNe (d :: q) rest) (hpt : PtOK m lk (d :: q)) (hA : aflI m lk (d :: q) = 1) (hf : m.1 11 lk = 0) (hw : m.1 4 lk < m.1 7 lk) : az_M l G yX4_locks (az_ws yX4_locks cX4_locks 6 (Option.some FieldType.int)) 5 [.ref (ρ.1 100), .int (nI d), .int (hdI rest), .int (nI lk), .int 1] (AD ρ) (KK G ρ x m ou) 0 0 (az_r (some (.int 4)) (AD ρ) (KK G ρ x m ou)) := by
  refine az_start hG.1 (by decide +kernel) (Nat.le_of_ble_eq_true rfl) ?_
  intro p e s mm args below meth c C hnm
  show az_W l G 6 _ p e _ s mm args below meth c _ _ 0 0 0 [(0, .ref (ρ.1 100)), (1, .int (nI d)), (2, .int (hdI rest)), (3, .int (nI lk)), (4, .int 1)] []
  refine az_iload_n C 1 dX4_locks_0 rfl ?_
  refine az_istore C (lv' := [(5, .int (nI d)), (0, .ref (ρ.1 100)), (1, .int (nI d)), (2, .int (hdI rest)), (3, .int (nI lk)), (4, .int 1)]) dX4_locks_1 (by decide) rfl ?_
  refine az_lv [0, 5, 4, 3, 2, 1] rfl (Mfl3_1c hG C lk (nI d) lk (by omega) (har lk (by omega)) rest (d :: q) hs hne hpt hA ?_)
  refine az_iload C 0 dX4_locks_32 rfl ?_
  refine az_if_ne C 51 dX4_locks_34 (by decide) (fun _ => ?_) (fun q => absurd q (by decide))
  refine az_aload_n C 4 dX4_locks_51 rfl ?_
  refine az_get C cX4 2 0 11 (v := .ref (ρ.1 111)) wl_X4_38 dX4_locks_52 rfl rfl rfl (by decide) ?_
  refine az_iload_n C 1 dX4_locks_55 rfl ?_
  refine az_zaldN C 2 11 lk (v := m.1 11 lk) dX4_locks_56 rfl rfl (by omega) (by decide) rfl ?_
  refine az_if_ne C 77 dX4_locks_57 (by decide) (fun q => absurd hf q) (fun _ => ?_)
  refine az_aload_n C 4 dX4_locks_60 rfl ?_
  refine az_get C cX4 2 0 4 (v := .ref (ρ.1 104)) wl_X4_17 dX4_locks_61 rfl rfl rfl (by decide) ?_
  refine az_iload_n C 1 dX4_locks_64 rfl ?_
  refine az_ialdN C 2 4 lk (v := m.1 4 lk) dX4_locks_65 rfl rfl (by omega) (by decide) rfl ?_
  refine az_aload_n C 4 dX4_locks_66 rfl ?_
  refine az_get C cX4 2 0 7 (v := .ref (ρ.1 107)) wl_X4_26 dX4_locks_67 rfl rfl rfl (by decide) ?_
  refine az_iload_n C 1 dX4_locks_70 rfl ?_
  refine az_ialdN C 2 7 lk (v := m.1 7 lk) dX4_locks_71 rfl rfl (by omega) (by decide) rfl ?_
  refine az_icmp_ge C 77 dX4_locks_72 (by decide) (fun q => absurd q (Int32.not_le.mpr hw)) (fun _ => ?_)
  refine az_iconst C (v := 4) dX4_locks_75 (by decide) ?_
  exact az_iret C rfl dX4_locks_76 (Nat.le_of_ble_eq_true rfl) (Nat.le_of_ble_eq_true rfl) ⟨rfl, rfl, rfl⟩

set_option maxHeartbeats 4000000 in
set_option maxRecDepth 100000 in
theorem Mlocks1_50 (hG : az_okS l G) (nr lk : Nat) (hr : m.1 0 1 = nI nr) (hn : nr ≤ 6) (hk : lk + 2 ≤ nr) (hm : mvok m (2 * nr + 1)) (har : MAr m nr) (d : Nat) (q rest : List Nat) (hs : MSuf m (d :: q ++ rest)) (hne : PtNe (d :: q) rest) (hpt : PtOK m lk (d :: q)) (hA : aflI m lk (d :: q) = 1) (hf : m.1 11 lk = 0) (hw : m.1 7 lk ≤ m.1 4 lk) : az_M l G yX4_locks (az_ws yX4_locks cX4_locks 6 (Option.some FieldType.int)) 5 [.ref (ρ.1 100), .int (nI d), .int (hdI rest), .int (nI lk), .int 1] (AD ρ) (KK G ρ x m ou) 0 0 (az_r (some (.int (if aflI (movesM (nI (lk + 1)) (emptiesM (fillsM m lk) nr lk) (d :: q)) (lk + 1) (d :: q) = 0 then 5 else 0))) (AD ρ) (KK G ρ x (movesM (nI (lk + 1)) (emptiesM (fillsM m lk) nr lk) (d :: q)) ou)) := by
  refine az_start hG.1 (by decide +kernel) (Nat.le_of_ble_eq_true rfl) ?_
  intro p e s mm args below meth c C hnm
  show az_W l G 6 _ p e _ s mm args below meth c _ _ 0 0 0 [(0, .ref (ρ.1 100)), (1, .int (nI d)), (2, .int (hdI rest)), (3, .int (nI lk)), (4, .int 1)] []
  refine az_iload_n C 1 dX4_locks_0 rfl ?_
  refine az_istore C (lv' := [(5, .int (nI d)), (0, .ref (ρ.1 100)), (1, .int (nI d)), (2, .int (hdI rest)), (3, .int (nI lk)), (4, .int 1)]) dX4_locks_1 (by decide) rfl ?_
  refine az_lv [0, 5, 4, 3, 2, 1] rfl (Mfl3_1c hG C lk (nI d) lk (by omega) (har lk (by omega)) rest (d :: q) hs hne hpt hA ?_)
  refine az_iload C 0 dX4_locks_32 rfl ?_
  refine az_if_ne C 51 dX4_locks_34 (by decide) (fun _ => ?_) (fun q => absurd q (by decide))
  refine az_aload_n C 4 dX4_locks_51 rfl ?_
  refine az_get C cX4 2 0 11 (v := .ref (ρ.1 111)) wl_X4_38 dX4_locks_52 rfl rfl rfl (by decide) ?_
  refine az_iload_n C 1 dX4_locks_55 rfl ?_
  refine az_zaldN C 2 11 lk (v := m.1 11 lk) dX4_locks_56 rfl rfl (by omega) (by decide) rfl ?_
  refine az_if_ne C 77 dX4_locks_57 (by decide) (fun q => absurd hf q) (fun _ => ?_)
  refine az_aload_n C 4 dX4_locks_60 rfl ?_
  refine az_get C cX4 2 0 4 (v := .ref (ρ.1 104)) wl_X4_17 dX4_locks_61 rfl rfl rfl (by decide) ?_
  refine az_iload_n C 1 dX4_locks_64 rfl ?_
  refine az_ialdN C 2 4 lk (v := m.1 4 lk) dX4_locks_65 rfl rfl (by omega) (by decide) rfl ?_
  refine az_aload_n C 4 dX4_locks_66 rfl ?_
  refine az_get C cX4 2 0 7 (v := .ref (ρ.1 107)) wl_X4_26 dX4_locks_67 rfl rfl rfl (by decide) ?_
  refine az_iload_n C 1 dX4_locks_70 rfl ?_
  refine az_ialdN C 2 7 lk (v := m.1 7 lk) dX4_locks_71 rfl rfl (by omega) (by decide) rfl ?_
  refine az_icmp_ge C 77 dX4_locks_72 (by decide) (fun _ => ?_) (fun q => absurd hw q)
  refine az_aload_n C 4 dX4_locks_77 rfl ?_
  refine az_get C cX4 2 0 11 (v := .ref (ρ.1 111)) wl_X4_38 dX4_locks_78 rfl rfl rfl (by decide) ?_
  refine az_iload_n C 1 dX4_locks_81 rfl ?_
  refine az_zaldN C 2 11 lk (v := m.1 11 lk) dX4_locks_82 rfl rfl (by omega) (by decide) rfl ?_
  refine az_if_ne C 91 dX4_locks_83 (by decide) (fun q => absurd hf q) (fun _ => ?_)
  refine az_aload_n C 4 dX4_locks_86 rfl ?_
  refine az_iload_n C 1 dX4_locks_87 rfl ?_
  refine az_callV C Y_X4_fills cX4 2 0 [.int (nI lk)] [] wm_X4_149 wi_X4_fills wse_X4_fills dX4_locks_88 rfl rfl rfl (Mfills hG lk (by omega) (hm.le (by omega))) rfl (Nat.le_of_ble_eq_true rfl) (Nat.le_of_ble_eq_true rfl) (Nat.le_of_ble_eq_true rfl) (Nat.le_of_ble_eq_true rfl) (Nat.le_of_ble_eq_true rfl) (az_k1 rfl rfl ?_) (az_k0 rfl)
  refine az_iload C 0 dX4_locks_91 rfl ?_
  refine az_if_eq C 101 dX4_locks_93 (by decide) (fun q => absurd q (by decide)) (fun _ => ?_)
  refine az_aload_n C 4 dX4_locks_96 rfl ?_
  refine az_iload_n C 1 dX4_locks_97 rfl ?_
  refine az_callV C Y_X4_empties cX4 2 0 [.int (nI lk)] [] wm_X4_145 wi_X4_empties wse_X4_empties dX4_locks_98 rfl rfl rfl (Mempties hG nr lk (by omega) (by omega) ((fillsM_0 (by decide)).trans hr) ((fillsM_ok (z := 2 * nr) hm).le (by omega))) rfl (Nat.le_of_ble_eq_true rfl) (Nat.le_of_ble_eq_true rfl) (Nat.le_of_ble_eq_true rfl) (Nat.le_of_ble_eq_true rfl) (Nat.le_of_ble_eq_true rfl) (az_k1 rfl rfl ?_) (az_k0 rfl)
  refine az_iload_n C 3 dX4_locks_101 rfl ?_
  refine az_istore C (lv' := [(5, .int (nI d)), (4, .int 1), (3, .int (nI lk)), (2, .int (hdI rest)), (1, .int (nI d)), (0, .ref (ρ.1 100))]) dX4_locks_102 (by decide) rfl ?_
  refine az_lv [0, 1, 2, 3, 4, 5] rfl (Mmv_1 hG C lk (nI d) rest (d :: q) (MSuf_w (m := m) (fun b => ((emptiesM_p (by decide) (by decide) (by decide) (by decide) (by decide) (by decide) (by decide)).trans (fillsM_p (by decide) (by decide) (by decide) (by decide) (by decide) (by decide)))) hs) hne ?_)
  refine az_iload_n C 3 dX4_locks_141 rfl ?_
  refine az_istore C (lv' := [(5, .int (nI d)), (4, .int 1), (3, .int (nI lk)), (2, .int (hdI rest)), (1, .int (nI d)), (0, .ref (ρ.1 100))]) dX4_locks_142 (by decide) rfl ?_
  rcases aflI_01 (m := (movesM (nI (lk + 1)) (emptiesM (fillsM m lk) nr lk) (d :: q))) (r := (lk + 1)) (d :: q) with hz | hz
  · rw [if_pos hz]
    exact az_lv [0, 1, 2, 3, 4, 5] rfl (Mfl144_1r hG C lk (nI d) (lk + 1) (by omega) (fun z => har (lk + 1) (by omega) (((emptiesM_p (by decide) (by decide) (by decide) (by decide) (by decide) (by decide) (by decide)).trans (fillsM_p (by decide) (by decide) (by decide) (by decide) (by decide) (by decide))).symm.trans ((movesM_p (by decide) _ _).symm.trans z))) rest (d :: q) (MSuf_w (m := m) (fun b => (movesM_p (by decide) _ _).trans ((emptiesM_p (by decide) (by decide) (by decide) (by decide) (by decide) (by decide) (by decide)).trans (fillsM_p (by decide) (by decide) (by decide) (by decide) (by decide) (by decide)))) hs) hne (fun b hb => ⟨movesM_i _ _ hb, fun z => (hpt b hb).2 (((emptiesM_p (by decide) (by decide) (by decide) (by decide) (by decide) (by decide) (by decide)).trans (fillsM_p (by decide) (by decide) (by decide) (by decide) (by decide) (by decide))).symm.trans ((movesM_p (by decide) _ _).symm.trans z))⟩) hz)
  rw [if_neg (show ¬ aflI (movesM (nI (lk + 1)) (emptiesM (fillsM m lk) nr lk) (d :: q)) (lk + 1) (d :: q) = 0 from by rw [hz]; decide)]
  refine az_lv [0, 1, 2, 3, 4, 5] rfl (Mfl144_1c hG C lk (nI d) (lk + 1) (by omega) (fun z => har (lk + 1) (by omega) (((emptiesM_p (by decide) (by decide) (by decide) (by decide) (by decide) (by decide) (by decide)).trans (fillsM_p (by decide) (by decide) (by decide) (by decide) (by decide) (by decide))).symm.trans ((movesM_p (by decide) _ _).symm.trans z))) rest (d :: q) (MSuf_w (m := m) (fun b => (movesM_p (by decide) _ _).trans ((emptiesM_p (by decide) (by decide) (by decide) (by decide) (by decide) (by decide) (by decide)).trans (fillsM_p (by decide) (by decide) (by decide) (by decide) (by decide) (by decide)))) hs) hne (fun b hb => ⟨movesM_i _ _ hb, fun z => (hpt b hb).2 (((emptiesM_p (by decide) (by decide) (by decide) (by decide) (by decide) (by decide) (by decide)).trans (fillsM_p (by decide) (by decide) (by decide) (by decide) (by decide) (by decide))).symm.trans ((movesM_p (by decide) _ _).symm.trans z))⟩) hz ?_)
  refine az_iconst C (v := 0) dX4_locks_173 (by decide) ?_
  exact az_iret C rfl dX4_locks_174 (Nat.le_of_ble_eq_true rfl) (Nat.le_of_ble_eq_true rfl) ⟨rfl, rfl, rfl⟩

set_option maxHeartbeats 4000000 in
set_option maxRecDepth 100000 in
theorem Mlocks1_51 (hG : az_okS l G) (nr lk : Nat) (hr : m.1 0 1 = nI nr) (hn : nr ≤ 6) (hk : lk + 2 ≤ nr) (hm : mvok m (2 * nr + 1)) (har : MAr m nr) (d : Nat) (q rest : List Nat) (hs : MSuf m (d :: q ++ rest)) (hne : PtNe (d :: q) rest) (hpt : PtOK m lk (d :: q)) (hA : aflI m lk (d :: q) = 1) (hf : ¬ m.1 11 lk = 0) : az_M l G yX4_locks (az_ws yX4_locks cX4_locks 6 (Option.some FieldType.int)) 5 [.ref (ρ.1 100), .int (nI d), .int (hdI rest), .int (nI lk), .int 1] (AD ρ) (KK G ρ x m ou) 0 0 (az_r (some (.int (if aflI (movesM (nI (lk + 1)) (emptiesM m nr lk) (d :: q)) (lk + 1) (d :: q) = 0 then 5 else 0))) (AD ρ) (KK G ρ x (movesM (nI (lk + 1)) (emptiesM m nr lk) (d :: q)) ou)) := by
  refine az_start hG.1 (by decide +kernel) (Nat.le_of_ble_eq_true rfl) ?_
  intro p e s mm args below meth c C hnm
  show az_W l G 6 _ p e _ s mm args below meth c _ _ 0 0 0 [(0, .ref (ρ.1 100)), (1, .int (nI d)), (2, .int (hdI rest)), (3, .int (nI lk)), (4, .int 1)] []
  refine az_iload_n C 1 dX4_locks_0 rfl ?_
  refine az_istore C (lv' := [(5, .int (nI d)), (0, .ref (ρ.1 100)), (1, .int (nI d)), (2, .int (hdI rest)), (3, .int (nI lk)), (4, .int 1)]) dX4_locks_1 (by decide) rfl ?_
  refine az_lv [0, 5, 4, 3, 2, 1] rfl (Mfl3_1c hG C lk (nI d) lk (by omega) (har lk (by omega)) rest (d :: q) hs hne hpt hA ?_)
  refine az_iload C 0 dX4_locks_32 rfl ?_
  refine az_if_ne C 51 dX4_locks_34 (by decide) (fun _ => ?_) (fun q => absurd q (by decide))
  refine az_aload_n C 4 dX4_locks_51 rfl ?_
  refine az_get C cX4 2 0 11 (v := .ref (ρ.1 111)) wl_X4_38 dX4_locks_52 rfl rfl rfl (by decide) ?_
  refine az_iload_n C 1 dX4_locks_55 rfl ?_
  refine az_zaldN C 2 11 lk (v := m.1 11 lk) dX4_locks_56 rfl rfl (by omega) (by decide) rfl ?_
  refine az_if_ne C 77 dX4_locks_57 (by decide) (fun _ => ?_) (fun q => absurd q hf)
  refine az_aload_n C 4 dX4_locks_77 rfl ?_
  refine az_get C cX4 2 0 11 (v := .ref (ρ.1 111)) wl_X4_38 dX4_locks_78 rfl rfl rfl (by decide) ?_
  refine az_iload_n C 1 dX4_locks_81 rfl ?_
  refine az_zaldN C 2 11 lk (v := m.1 11 lk) dX4_locks_82 rfl rfl (by omega) (by decide) rfl ?_
  refine az_if_ne C 91 dX4_locks_83 (by decide) (fun _ => ?_) (fun q => absurd q hf)
  refine az_iload C 0 dX4_locks_91 rfl ?_
  refine az_if_eq C 101 dX4_locks_93 (by decide) (fun q => absurd q (by decide)) (fun _ => ?_)
  refine az_aload_n C 4 dX4_locks_96 rfl ?_
  refine az_iload_n C 1 dX4_locks_97 rfl ?_
  refine az_callV C Y_X4_empties cX4 2 0 [.int (nI lk)] [] wm_X4_145 wi_X4_empties wse_X4_empties dX4_locks_98 rfl rfl rfl (Mempties hG nr lk (by omega) (by omega) hr (hm.le (by omega))) rfl (Nat.le_of_ble_eq_true rfl) (Nat.le_of_ble_eq_true rfl) (Nat.le_of_ble_eq_true rfl) (Nat.le_of_ble_eq_true rfl) (Nat.le_of_ble_eq_true rfl) (az_k1 rfl rfl ?_) (az_k0 rfl)
  refine az_iload_n C 3 dX4_locks_101 rfl ?_
  refine az_istore C (lv' := [(5, .int (nI d)), (4, .int 1), (3, .int (nI lk)), (2, .int (hdI rest)), (1, .int (nI d)), (0, .ref (ρ.1 100))]) dX4_locks_102 (by decide) rfl ?_
  refine az_lv [0, 1, 2, 3, 4, 5] rfl (Mmv_1 hG C lk (nI d) rest (d :: q) (MSuf_w (m := m) (fun b => (emptiesM_p (by decide) (by decide) (by decide) (by decide) (by decide) (by decide) (by decide))) hs) hne ?_)
  refine az_iload_n C 3 dX4_locks_141 rfl ?_
  refine az_istore C (lv' := [(5, .int (nI d)), (4, .int 1), (3, .int (nI lk)), (2, .int (hdI rest)), (1, .int (nI d)), (0, .ref (ρ.1 100))]) dX4_locks_142 (by decide) rfl ?_
  rcases aflI_01 (m := (movesM (nI (lk + 1)) (emptiesM m nr lk) (d :: q))) (r := (lk + 1)) (d :: q) with hz | hz
  · rw [if_pos hz]
    exact az_lv [0, 1, 2, 3, 4, 5] rfl (Mfl144_1r hG C lk (nI d) (lk + 1) (by omega) (fun z => har (lk + 1) (by omega) ((emptiesM_p (by decide) (by decide) (by decide) (by decide) (by decide) (by decide) (by decide)).symm.trans ((movesM_p (by decide) _ _).symm.trans z))) rest (d :: q) (MSuf_w (m := m) (fun b => (movesM_p (by decide) _ _).trans (emptiesM_p (by decide) (by decide) (by decide) (by decide) (by decide) (by decide) (by decide))) hs) hne (fun b hb => ⟨movesM_i _ _ hb, fun z => (hpt b hb).2 ((emptiesM_p (by decide) (by decide) (by decide) (by decide) (by decide) (by decide) (by decide)).symm.trans ((movesM_p (by decide) _ _).symm.trans z))⟩) hz)
  rw [if_neg (show ¬ aflI (movesM (nI (lk + 1)) (emptiesM m nr lk) (d :: q)) (lk + 1) (d :: q) = 0 from by rw [hz]; decide)]
  refine az_lv [0, 1, 2, 3, 4, 5] rfl (Mfl144_1c hG C lk (nI d) (lk + 1) (by omega) (fun z => har (lk + 1) (by omega) ((emptiesM_p (by decide) (by decide) (by decide) (by decide) (by decide) (by decide) (by decide)).symm.trans ((movesM_p (by decide) _ _).symm.trans z))) rest (d :: q) (MSuf_w (m := m) (fun b => (movesM_p (by decide) _ _).trans (emptiesM_p (by decide) (by decide) (by decide) (by decide) (by decide) (by decide) (by decide))) hs) hne (fun b hb => ⟨movesM_i _ _ hb, fun z => (hpt b hb).2 ((emptiesM_p (by decide) (by decide) (by decide) (by decide) (by decide) (by decide) (by decide)).symm.trans ((movesM_p (by decide) _ _).symm.trans z))⟩) hz ?_)
  refine az_iconst C (v := 0) dX4_locks_173 (by decide) ?_
  exact az_iret C rfl dX4_locks_174 (Nat.le_of_ble_eq_true rfl) (Nat.le_of_ble_eq_true rfl) ⟨rfl, rfl, rfl⟩

set_option maxHeartbeats 4000000 in
set_option maxRecDepth 100000 in
theorem Mlocks0_3 (hG : az_okS l G) (nr lk : Nat) (hr : m.1 0 1 = nI nr) (hn : nr ≤ 6) (hk : lk + 2 ≤ nr) (hm : mvok m (2 * nr + 1)) (har : MAr m nr) (d : Nat) (q rest : List Nat) (hs : MSuf m (d :: q ++ rest)) (hne : PtNe (d :: q) rest) (hpt : PtOK m (lk + 1) (d :: q)) (hA : aflI m (lk + 1) (d :: q) = 0) : az_M l G yX4_locks (az_ws yX4_locks cX4_locks 6 (Option.some FieldType.int)) 5 [.ref (ρ.1 100), .int (nI d), .int (hdI rest), .int (nI lk), .int 0] (AD ρ) (KK G ρ x m ou) 0 0 (az_r (some (.int 3)) (AD ρ) (KK G ρ x m ou)) := by
  refine az_start hG.1 (by decide +kernel) (Nat.le_of_ble_eq_true rfl) ?_
  intro p e s mm args below meth c C hnm
  show az_W l G 6 _ p e _ s mm args below meth c _ _ 0 0 0 [(0, .ref (ρ.1 100)), (1, .int (nI d)), (2, .int (hdI rest)), (3, .int (nI lk)), (4, .int 0)] []
  refine az_iload_n C 1 dX4_locks_0 rfl ?_
  refine az_istore C (lv' := [(5, .int (nI d)), (0, .ref (ρ.1 100)), (1, .int (nI d)), (2, .int (hdI rest)), (3, .int (nI lk)), (4, .int 0)]) dX4_locks_1 (by decide) rfl ?_
  exact az_lv [0, 5, 4, 3, 2, 1] rfl (Mfl3_0r hG C lk (nI d) (lk + 1) (by omega) (har (lk + 1) (by omega)) rest (d :: q) hs hne hpt hA)

set_option maxHeartbeats 4000000 in
set_option maxRecDepth 100000 in
theorem Mlocks0_40 (hG : az_okS l G) (nr lk : Nat) (hr : m.1 0 1 = nI nr) (hn : nr ≤ 6) (hk : lk + 2 ≤ nr) (hm : mvok m (2 * nr + 1)) (har : MAr m nr) (d : Nat) (q rest : List Nat) (hs : MSuf m (d :: q ++ rest)) (hne : PtNe (d :: q) rest) (hpt : PtOK m (lk + 1) (d :: q)) (hA : aflI m (lk + 1) (d :: q) = 1) (hf : m.1 11 lk = 0) (hw : m.1 4 lk < m.1 7 lk) : az_M l G yX4_locks (az_ws yX4_locks cX4_locks 6 (Option.some FieldType.int)) 5 [.ref (ρ.1 100), .int (nI d), .int (hdI rest), .int (nI lk), .int 0] (AD ρ) (KK G ρ x m ou) 0 0 (az_r (some (.int 4)) (AD ρ) (KK G ρ x m ou)) := by
  refine az_start hG.1 (by decide +kernel) (Nat.le_of_ble_eq_true rfl) ?_
  intro p e s mm args below meth c C hnm
  show az_W l G 6 _ p e _ s mm args below meth c _ _ 0 0 0 [(0, .ref (ρ.1 100)), (1, .int (nI d)), (2, .int (hdI rest)), (3, .int (nI lk)), (4, .int 0)] []
  refine az_iload_n C 1 dX4_locks_0 rfl ?_
  refine az_istore C (lv' := [(5, .int (nI d)), (0, .ref (ρ.1 100)), (1, .int (nI d)), (2, .int (hdI rest)), (3, .int (nI lk)), (4, .int 0)]) dX4_locks_1 (by decide) rfl ?_
  refine az_lv [0, 5, 4, 3, 2, 1] rfl (Mfl3_0c hG C lk (nI d) (lk + 1) (by omega) (har (lk + 1) (by omega)) rest (d :: q) hs hne hpt hA ?_)
  refine az_iload C 0 dX4_locks_32 rfl ?_
  refine az_if_ne C 51 dX4_locks_34 (by decide) (fun q => absurd (by decide) q) (fun _ => ?_)
  refine az_aload_n C 4 dX4_locks_37 rfl ?_
  refine az_get C cX4 2 0 11 (v := .ref (ρ.1 111)) wl_X4_38 dX4_locks_38 rfl rfl rfl (by decide) ?_
  refine az_iload_n C 1 dX4_locks_41 rfl ?_
  refine az_zaldN C 2 11 lk (v := m.1 11 lk) dX4_locks_42 rfl rfl (by omega) (by decide) rfl ?_
  refine az_if_eq C 51 dX4_locks_43 (by decide) (fun _ => ?_) (fun q => absurd hf q)
  refine az_aload_n C 4 dX4_locks_51 rfl ?_
  refine az_get C cX4 2 0 11 (v := .ref (ρ.1 111)) wl_X4_38 dX4_locks_52 rfl rfl rfl (by decide) ?_
  refine az_iload_n C 1 dX4_locks_55 rfl ?_
  refine az_zaldN C 2 11 lk (v := m.1 11 lk) dX4_locks_56 rfl rfl (by omega) (by decide) rfl ?_
  refine az_if_ne C 77 dX4_locks_57 (by decide) (fun q => absurd hf q) (fun _ => ?_)
  refine az_aload_n C 4 dX4_locks_60 rfl ?_
  refine az_get C cX4 2 0 4 (v := .ref (ρ.1 104)) wl_X4_17 dX4_locks_61 rfl rfl rfl (by decide) ?_
  refine az_iload_n C 1 dX4_locks_64 rfl ?_
  refine az_ialdN C 2 4 lk (v := m.1 4 lk) dX4_locks_65 rfl rfl (by omega) (by decide) rfl ?_
  refine az_aload_n C 4 dX4_locks_66 rfl ?_
  refine az_get C cX4 2 0 7 (v := .ref (ρ.1 107)) wl_X4_26 dX4_locks_67 rfl rfl rfl (by decide) ?_
  refine az_iload_n C 1 dX4_locks_70 rfl ?_
  refine az_ialdN C 2 7 lk (v := m.1 7 lk) dX4_locks_71 rfl rfl (by omega) (by decide) rfl ?_
  refine az_icmp_ge C 77 dX4_locks_72 (by decide) (fun q => absurd q (Int32.not_le.mpr hw)) (fun _ => ?_)
  refine az_iconst C (v := 4) dX4_locks_75 (by decide) ?_
  exact az_iret C rfl dX4_locks_76 (Nat.le_of_ble_eq_true rfl) (Nat.le_of_ble_eq_true rfl) ⟨rfl, rfl, rfl⟩

set_option maxHeartbeats 4000000 in
set_option maxRecDepth 100000 in
theorem Mlocks0_50 (hG : az_okS l G) (nr lk : Nat) (hr : m.1 0 1 = nI nr) (hn : nr ≤ 6) (hk : lk + 2 ≤ nr) (hm : mvok m (2 * nr + 1)) (har : MAr m nr) (d : Nat) (q rest : List Nat) (hs : MSuf m (d :: q ++ rest)) (hne : PtNe (d :: q) rest) (hpt : PtOK m (lk + 1) (d :: q)) (hA : aflI m (lk + 1) (d :: q) = 1) (hf : m.1 11 lk = 0) (hw : m.1 7 lk ≤ m.1 4 lk) : az_M l G yX4_locks (az_ws yX4_locks cX4_locks 6 (Option.some FieldType.int)) 5 [.ref (ρ.1 100), .int (nI d), .int (hdI rest), .int (nI lk), .int 0] (AD ρ) (KK G ρ x m ou) 0 0 (az_r (some (.int (if aflI (movesM (nI lk) (fillsM m lk) (d :: q)) lk (d :: q) = 0 then 5 else 0))) (AD ρ) (KK G ρ x (movesM (nI lk) (fillsM m lk) (d :: q)) ou)) := by
  refine az_start hG.1 (by decide +kernel) (Nat.le_of_ble_eq_true rfl) ?_
  intro p e s mm args below meth c C hnm
  show az_W l G 6 _ p e _ s mm args below meth c _ _ 0 0 0 [(0, .ref (ρ.1 100)), (1, .int (nI d)), (2, .int (hdI rest)), (3, .int (nI lk)), (4, .int 0)] []
  refine az_iload_n C 1 dX4_locks_0 rfl ?_
  refine az_istore C (lv' := [(5, .int (nI d)), (0, .ref (ρ.1 100)), (1, .int (nI d)), (2, .int (hdI rest)), (3, .int (nI lk)), (4, .int 0)]) dX4_locks_1 (by decide) rfl ?_
  refine az_lv [0, 5, 4, 3, 2, 1] rfl (Mfl3_0c hG C lk (nI d) (lk + 1) (by omega) (har (lk + 1) (by omega)) rest (d :: q) hs hne hpt hA ?_)
  refine az_iload C 0 dX4_locks_32 rfl ?_
  refine az_if_ne C 51 dX4_locks_34 (by decide) (fun q => absurd (by decide) q) (fun _ => ?_)
  refine az_aload_n C 4 dX4_locks_37 rfl ?_
  refine az_get C cX4 2 0 11 (v := .ref (ρ.1 111)) wl_X4_38 dX4_locks_38 rfl rfl rfl (by decide) ?_
  refine az_iload_n C 1 dX4_locks_41 rfl ?_
  refine az_zaldN C 2 11 lk (v := m.1 11 lk) dX4_locks_42 rfl rfl (by omega) (by decide) rfl ?_
  refine az_if_eq C 51 dX4_locks_43 (by decide) (fun _ => ?_) (fun q => absurd hf q)
  refine az_aload_n C 4 dX4_locks_51 rfl ?_
  refine az_get C cX4 2 0 11 (v := .ref (ρ.1 111)) wl_X4_38 dX4_locks_52 rfl rfl rfl (by decide) ?_
  refine az_iload_n C 1 dX4_locks_55 rfl ?_
  refine az_zaldN C 2 11 lk (v := m.1 11 lk) dX4_locks_56 rfl rfl (by omega) (by decide) rfl ?_
  refine az_if_ne C 77 dX4_locks_57 (by decide) (fun q => absurd hf q) (fun _ => ?_)
  refine az_aload_n C 4 dX4_locks_60 rfl ?_
  refine az_get C cX4 2 0 4 (v := .ref (ρ.1 104)) wl_X4_17 dX4_locks_61 rfl rfl rfl (by decide) ?_
  refine az_iload_n C 1 dX4_locks_64 rfl ?_
  refine az_ialdN C 2 4 lk (v := m.1 4 lk) dX4_locks_65 rfl rfl (by omega) (by decide) rfl ?_
  refine az_aload_n C 4 dX4_locks_66 rfl ?_
  refine az_get C cX4 2 0 7 (v := .ref (ρ.1 107)) wl_X4_26 dX4_locks_67 rfl rfl rfl (by decide) ?_
  refine az_iload_n C 1 dX4_locks_70 rfl ?_
  refine az_ialdN C 2 7 lk (v := m.1 7 lk) dX4_locks_71 rfl rfl (by omega) (by decide) rfl ?_
  refine az_icmp_ge C 77 dX4_locks_72 (by decide) (fun _ => ?_) (fun q => absurd hw q)
  refine az_aload_n C 4 dX4_locks_77 rfl ?_
  refine az_get C cX4 2 0 11 (v := .ref (ρ.1 111)) wl_X4_38 dX4_locks_78 rfl rfl rfl (by decide) ?_
  refine az_iload_n C 1 dX4_locks_81 rfl ?_
  refine az_zaldN C 2 11 lk (v := m.1 11 lk) dX4_locks_82 rfl rfl (by omega) (by decide) rfl ?_
  refine az_if_ne C 91 dX4_locks_83 (by decide) (fun q => absurd hf q) (fun _ => ?_)
  refine az_aload_n C 4 dX4_locks_86 rfl ?_
  refine az_iload_n C 1 dX4_locks_87 rfl ?_
  refine az_callV C Y_X4_fills cX4 2 0 [.int (nI lk)] [] wm_X4_149 wi_X4_fills wse_X4_fills dX4_locks_88 rfl rfl rfl (Mfills hG lk (by omega) (hm.le (by omega))) rfl (Nat.le_of_ble_eq_true rfl) (Nat.le_of_ble_eq_true rfl) (Nat.le_of_ble_eq_true rfl) (Nat.le_of_ble_eq_true rfl) (Nat.le_of_ble_eq_true rfl) (az_k1 rfl rfl ?_) (az_k0 rfl)
  refine az_iload C 0 dX4_locks_91 rfl ?_
  refine az_if_eq C 101 dX4_locks_93 (by decide) (fun _ => ?_) (fun q => absurd (by decide) q)
  refine az_iload_n C 3 dX4_locks_101 rfl ?_
  refine az_istore C (lv' := [(5, .int (nI d)), (4, .int 0), (3, .int (nI lk)), (2, .int (hdI rest)), (1, .int (nI d)), (0, .ref (ρ.1 100))]) dX4_locks_102 (by decide) rfl ?_
  refine az_lv [0, 1, 2, 3, 4, 5] rfl (Mmv_0 hG C lk (nI d) rest (d :: q) (MSuf_w (m := m) (fun b => (fillsM_p (by decide) (by decide) (by decide) (by decide) (by decide) (by decide))) hs) hne ?_)
  refine az_iload_n C 3 dX4_locks_141 rfl ?_
  refine az_istore C (lv' := [(5, .int (nI d)), (4, .int 0), (3, .int (nI lk)), (2, .int (hdI rest)), (1, .int (nI d)), (0, .ref (ρ.1 100))]) dX4_locks_142 (by decide) rfl ?_
  rcases aflI_01 (m := (movesM (nI lk) (fillsM m lk) (d :: q))) (r := lk) (d :: q) with hz | hz
  · rw [if_pos hz]
    exact az_lv [0, 1, 2, 3, 4, 5] rfl (Mfl144_0r hG C lk (nI d) lk (by omega) (fun z => har lk (by omega) ((fillsM_p (by decide) (by decide) (by decide) (by decide) (by decide) (by decide)).symm.trans ((movesM_p (by decide) _ _).symm.trans z))) rest (d :: q) (MSuf_w (m := m) (fun b => (movesM_p (by decide) _ _).trans (fillsM_p (by decide) (by decide) (by decide) (by decide) (by decide) (by decide))) hs) hne (fun b hb => ⟨movesM_i _ _ hb, fun z => (hpt b hb).2 ((fillsM_p (by decide) (by decide) (by decide) (by decide) (by decide) (by decide)).symm.trans ((movesM_p (by decide) _ _).symm.trans z))⟩) hz)
  rw [if_neg (show ¬ aflI (movesM (nI lk) (fillsM m lk) (d :: q)) lk (d :: q) = 0 from by rw [hz]; decide)]
  refine az_lv [0, 1, 2, 3, 4, 5] rfl (Mfl144_0c hG C lk (nI d) lk (by omega) (fun z => har lk (by omega) ((fillsM_p (by decide) (by decide) (by decide) (by decide) (by decide) (by decide)).symm.trans ((movesM_p (by decide) _ _).symm.trans z))) rest (d :: q) (MSuf_w (m := m) (fun b => (movesM_p (by decide) _ _).trans (fillsM_p (by decide) (by decide) (by decide) (by decide) (by decide) (by decide))) hs) hne (fun b hb => ⟨movesM_i _ _ hb, fun z => (hpt b hb).2 ((fillsM_p (by decide) (by decide) (by decide) (by decide) (by decide) (by decide)).symm.trans ((movesM_p (by decide) _ _).symm.trans z))⟩) hz ?_)
  refine az_iconst C (v := 0) dX4_locks_173 (by decide) ?_
  exact az_iret C rfl dX4_locks_174 (Nat.le_of_ble_eq_true rfl) (Nat.le_of_ble_eq_true rfl) ⟨rfl, rfl, rfl⟩

set_option maxHeartbeats 4000000 in
set_option maxRecDepth 100000 in
theorem Mlocks0_41 (hG : az_okS l G) (nr lk : Nat) (hr : m.1 0 1 = nI nr) (hn : nr ≤ 6) (hk : lk + 2 ≤ nr) (hm : mvok m (2 * nr + 1)) (har : MAr m nr) (d : Nat) (q rest : List Nat) (hs : MSuf m (d :: q ++ rest)) (hne : PtNe (d :: q) rest) (hpt : PtOK m (lk + 1) (d :: q)) (hA : aflI m (lk + 1) (d :: q) = 1) (hf : ¬ m.1 11 lk = 0) (hw : (emptiesM m nr lk).1 4 lk < (emptiesM m nr lk).1 7 lk) : az_M l G yX4_locks (az_ws yX4_locks cX4_locks 6 (Option.some FieldType.int)) 5 [.ref (ρ.1 100), .int (nI d), .int (hdI rest), .int (nI lk), .int 0] (AD ρ) (KK G ρ x m ou) 0 0 (az_r (some (.int 4)) (AD ρ) (KK G ρ x (emptiesM m nr lk) ou)) := by
  refine az_start hG.1 (by decide +kernel) (Nat.le_of_ble_eq_true rfl) ?_
  intro p e s mm args below meth c C hnm
  show az_W l G 6 _ p e _ s mm args below meth c _ _ 0 0 0 [(0, .ref (ρ.1 100)), (1, .int (nI d)), (2, .int (hdI rest)), (3, .int (nI lk)), (4, .int 0)] []
  refine az_iload_n C 1 dX4_locks_0 rfl ?_
  refine az_istore C (lv' := [(5, .int (nI d)), (0, .ref (ρ.1 100)), (1, .int (nI d)), (2, .int (hdI rest)), (3, .int (nI lk)), (4, .int 0)]) dX4_locks_1 (by decide) rfl ?_
  refine az_lv [0, 5, 4, 3, 2, 1] rfl (Mfl3_0c hG C lk (nI d) (lk + 1) (by omega) (har (lk + 1) (by omega)) rest (d :: q) hs hne hpt hA ?_)
  refine az_iload C 0 dX4_locks_32 rfl ?_
  refine az_if_ne C 51 dX4_locks_34 (by decide) (fun q => absurd (by decide) q) (fun _ => ?_)
  refine az_aload_n C 4 dX4_locks_37 rfl ?_
  refine az_get C cX4 2 0 11 (v := .ref (ρ.1 111)) wl_X4_38 dX4_locks_38 rfl rfl rfl (by decide) ?_
  refine az_iload_n C 1 dX4_locks_41 rfl ?_
  refine az_zaldN C 2 11 lk (v := m.1 11 lk) dX4_locks_42 rfl rfl (by omega) (by decide) rfl ?_
  refine az_if_eq C 51 dX4_locks_43 (by decide) (fun q => absurd q hf) (fun _ => ?_)
  refine az_aload_n C 4 dX4_locks_46 rfl ?_
  refine az_iload_n C 1 dX4_locks_47 rfl ?_
  refine az_callV C Y_X4_empties cX4 2 0 [.int (nI lk)] [] wm_X4_145 wi_X4_empties wse_X4_empties dX4_locks_48 rfl rfl rfl (Mempties hG nr lk (by omega) (by omega) hr (hm.le (by omega))) rfl (Nat.le_of_ble_eq_true rfl) (Nat.le_of_ble_eq_true rfl) (Nat.le_of_ble_eq_true rfl) (Nat.le_of_ble_eq_true rfl) (Nat.le_of_ble_eq_true rfl) (az_k1 rfl rfl ?_) (az_k0 rfl)
  refine az_aload_n C 4 dX4_locks_51 rfl ?_
  refine az_get C cX4 2 0 11 (v := .ref (ρ.1 111)) wl_X4_38 dX4_locks_52 rfl rfl rfl (by decide) ?_
  refine az_iload_n C 1 dX4_locks_55 rfl ?_
  refine az_zaldN C 2 11 lk (v := (emptiesM m nr lk).1 11 lk) dX4_locks_56 rfl rfl (by omega) (by decide) rfl ?_
  refine az_if_ne C 77 dX4_locks_57 (by decide) (fun q => absurd emptiesM_f q) (fun _ => ?_)
  refine az_aload_n C 4 dX4_locks_60 rfl ?_
  refine az_get C cX4 2 0 4 (v := .ref (ρ.1 104)) wl_X4_17 dX4_locks_61 rfl rfl rfl (by decide) ?_
  refine az_iload_n C 1 dX4_locks_64 rfl ?_
  refine az_ialdN C 2 4 lk (v := (emptiesM m nr lk).1 4 lk) dX4_locks_65 rfl rfl (by omega) (by decide) rfl ?_
  refine az_aload_n C 4 dX4_locks_66 rfl ?_
  refine az_get C cX4 2 0 7 (v := .ref (ρ.1 107)) wl_X4_26 dX4_locks_67 rfl rfl rfl (by decide) ?_
  refine az_iload_n C 1 dX4_locks_70 rfl ?_
  refine az_ialdN C 2 7 lk (v := (emptiesM m nr lk).1 7 lk) dX4_locks_71 rfl rfl (by omega) (by decide) rfl ?_
  refine az_icmp_ge C 77 dX4_locks_72 (by decide) (fun q => absurd q (Int32.not_le.mpr hw)) (fun _ => ?_)
  refine az_iconst C (v := 4) dX4_locks_75 (by decide) ?_
  exact az_iret C rfl dX4_locks_76 (Nat.le_of_ble_eq_true rfl) (Nat.le_of_ble_eq_true rfl) ⟨rfl, rfl, rfl⟩

set_option maxHeartbeats 4000000 in
set_option maxRecDepth 100000 in
theorem Mlocks0_51 (hG : az_okS l G) (nr lk : Nat) (hr : m.1 0 1 = nI nr) (hn : nr ≤ 6) (hk : lk + 2 ≤ nr) (hm : mvok m (2 * nr + 1)) (har : MAr m nr) (d : Nat) (q rest : List Nat) (hs : MSuf m (d :: q ++ rest)) (hne : PtNe (d :: q) rest) (hpt : PtOK m (lk + 1) (d :: q)) (hA : aflI m (lk + 1) (d :: q) = 1) (hf : ¬ m.1 11 lk = 0) (hw : (emptiesM m nr lk).1 7 lk ≤ (emptiesM m nr lk).1 4 lk) : az_M l G yX4_locks (az_ws yX4_locks cX4_locks 6 (Option.some FieldType.int)) 5 [.ref (ρ.1 100), .int (nI d), .int (hdI rest), .int (nI lk), .int 0] (AD ρ) (KK G ρ x m ou) 0 0 (az_r (some (.int (if aflI (movesM (nI lk) (fillsM (emptiesM m nr lk) lk) (d :: q)) lk (d :: q) = 0 then 5 else 0))) (AD ρ) (KK G ρ x (movesM (nI lk) (fillsM (emptiesM m nr lk) lk) (d :: q)) ou)) := by
  refine az_start hG.1 (by decide +kernel) (Nat.le_of_ble_eq_true rfl) ?_
  intro p e s mm args below meth c C hnm
  show az_W l G 6 _ p e _ s mm args below meth c _ _ 0 0 0 [(0, .ref (ρ.1 100)), (1, .int (nI d)), (2, .int (hdI rest)), (3, .int (nI lk)), (4, .int 0)] []
  refine az_iload_n C 1 dX4_locks_0 rfl ?_
  refine az_istore C (lv' := [(5, .int (nI d)), (0, .ref (ρ.1 100)), (1, .int (nI d)), (2, .int (hdI rest)), (3, .int (nI lk)), (4, .int 0)]) dX4_locks_1 (by decide) rfl ?_
  refine az_lv [0, 5, 4, 3, 2, 1] rfl (Mfl3_0c hG C lk (nI d) (lk + 1) (by omega) (har (lk + 1) (by omega)) rest (d :: q) hs hne hpt hA ?_)
  refine az_iload C 0 dX4_locks_32 rfl ?_
  refine az_if_ne C 51 dX4_locks_34 (by decide) (fun q => absurd (by decide) q) (fun _ => ?_)
  refine az_aload_n C 4 dX4_locks_37 rfl ?_
  refine az_get C cX4 2 0 11 (v := .ref (ρ.1 111)) wl_X4_38 dX4_locks_38 rfl rfl rfl (by decide) ?_
  refine az_iload_n C 1 dX4_locks_41 rfl ?_
  refine az_zaldN C 2 11 lk (v := m.1 11 lk) dX4_locks_42 rfl rfl (by omega) (by decide) rfl ?_
  refine az_if_eq C 51 dX4_locks_43 (by decide) (fun q => absurd q hf) (fun _ => ?_)
  refine az_aload_n C 4 dX4_locks_46 rfl ?_
  refine az_iload_n C 1 dX4_locks_47 rfl ?_
  refine az_callV C Y_X4_empties cX4 2 0 [.int (nI lk)] [] wm_X4_145 wi_X4_empties wse_X4_empties dX4_locks_48 rfl rfl rfl (Mempties hG nr lk (by omega) (by omega) hr (hm.le (by omega))) rfl (Nat.le_of_ble_eq_true rfl) (Nat.le_of_ble_eq_true rfl) (Nat.le_of_ble_eq_true rfl) (Nat.le_of_ble_eq_true rfl) (Nat.le_of_ble_eq_true rfl) (az_k1 rfl rfl ?_) (az_k0 rfl)
  refine az_aload_n C 4 dX4_locks_51 rfl ?_
  refine az_get C cX4 2 0 11 (v := .ref (ρ.1 111)) wl_X4_38 dX4_locks_52 rfl rfl rfl (by decide) ?_
  refine az_iload_n C 1 dX4_locks_55 rfl ?_
  refine az_zaldN C 2 11 lk (v := (emptiesM m nr lk).1 11 lk) dX4_locks_56 rfl rfl (by omega) (by decide) rfl ?_
  refine az_if_ne C 77 dX4_locks_57 (by decide) (fun q => absurd emptiesM_f q) (fun _ => ?_)
  refine az_aload_n C 4 dX4_locks_60 rfl ?_
  refine az_get C cX4 2 0 4 (v := .ref (ρ.1 104)) wl_X4_17 dX4_locks_61 rfl rfl rfl (by decide) ?_
  refine az_iload_n C 1 dX4_locks_64 rfl ?_
  refine az_ialdN C 2 4 lk (v := (emptiesM m nr lk).1 4 lk) dX4_locks_65 rfl rfl (by omega) (by decide) rfl ?_
  refine az_aload_n C 4 dX4_locks_66 rfl ?_
  refine az_get C cX4 2 0 7 (v := .ref (ρ.1 107)) wl_X4_26 dX4_locks_67 rfl rfl rfl (by decide) ?_
  refine az_iload_n C 1 dX4_locks_70 rfl ?_
  refine az_ialdN C 2 7 lk (v := (emptiesM m nr lk).1 7 lk) dX4_locks_71 rfl rfl (by omega) (by decide) rfl ?_
  refine az_icmp_ge C 77 dX4_locks_72 (by decide) (fun _ => ?_) (fun q => absurd hw q)
  refine az_aload_n C 4 dX4_locks_77 rfl ?_
  refine az_get C cX4 2 0 11 (v := .ref (ρ.1 111)) wl_X4_38 dX4_locks_78 rfl rfl rfl (by decide) ?_
  refine az_iload_n C 1 dX4_locks_81 rfl ?_
  refine az_zaldN C 2 11 lk (v := (emptiesM m nr lk).1 11 lk) dX4_locks_82 rfl rfl (by omega) (by decide) rfl ?_
  refine az_if_ne C 91 dX4_locks_83 (by decide) (fun q => absurd emptiesM_f q) (fun _ => ?_)
  refine az_aload_n C 4 dX4_locks_86 rfl ?_
  refine az_iload_n C 1 dX4_locks_87 rfl ?_
  refine az_callV C Y_X4_fills cX4 2 0 [.int (nI lk)] [] wm_X4_149 wi_X4_fills wse_X4_fills dX4_locks_88 rfl rfl rfl (Mfills hG lk (by omega) ((emptiesM_ok (z := nr + 1) (by omega) (hm.le (by omega))).le (by omega))) rfl (Nat.le_of_ble_eq_true rfl) (Nat.le_of_ble_eq_true rfl) (Nat.le_of_ble_eq_true rfl) (Nat.le_of_ble_eq_true rfl) (Nat.le_of_ble_eq_true rfl) (az_k1 rfl rfl ?_) (az_k0 rfl)
  refine az_iload C 0 dX4_locks_91 rfl ?_
  refine az_if_eq C 101 dX4_locks_93 (by decide) (fun _ => ?_) (fun q => absurd (by decide) q)
  refine az_iload_n C 3 dX4_locks_101 rfl ?_
  refine az_istore C (lv' := [(5, .int (nI d)), (4, .int 0), (3, .int (nI lk)), (2, .int (hdI rest)), (1, .int (nI d)), (0, .ref (ρ.1 100))]) dX4_locks_102 (by decide) rfl ?_
  refine az_lv [0, 1, 2, 3, 4, 5] rfl (Mmv_0 hG C lk (nI d) rest (d :: q) (MSuf_w (m := m) (fun b => ((fillsM_p (by decide) (by decide) (by decide) (by decide) (by decide) (by decide)).trans (emptiesM_p (by decide) (by decide) (by decide) (by decide) (by decide) (by decide) (by decide)))) hs) hne ?_)
  refine az_iload_n C 3 dX4_locks_141 rfl ?_
  refine az_istore C (lv' := [(5, .int (nI d)), (4, .int 0), (3, .int (nI lk)), (2, .int (hdI rest)), (1, .int (nI d)), (0, .ref (ρ.1 100))]) dX4_locks_142 (by decide) rfl ?_
  rcases aflI_01 (m := (movesM (nI lk) (fillsM (emptiesM m nr lk) lk) (d :: q))) (r := lk) (d :: q) with hz | hz
  · rw [if_pos hz]
    exact az_lv [0, 1, 2, 3, 4, 5] rfl (Mfl144_0r hG C lk (nI d) lk (by omega) (fun z => har lk (by omega) (((fillsM_p (by decide) (by decide) (by decide) (by decide) (by decide) (by decide)).trans (emptiesM_p (by decide) (by decide) (by decide) (by decide) (by decide) (by decide) (by decide))).symm.trans ((movesM_p (by decide) _ _).symm.trans z))) rest (d :: q) (MSuf_w (m := m) (fun b => (movesM_p (by decide) _ _).trans ((fillsM_p (by decide) (by decide) (by decide) (by decide) (by decide) (by decide)).trans (emptiesM_p (by decide) (by decide) (by decide) (by decide) (by decide) (by decide) (by decide)))) hs) hne (fun b hb => ⟨movesM_i _ _ hb, fun z => (hpt b hb).2 (((fillsM_p (by decide) (by decide) (by decide) (by decide) (by decide) (by decide)).trans (emptiesM_p (by decide) (by decide) (by decide) (by decide) (by decide) (by decide) (by decide))).symm.trans ((movesM_p (by decide) _ _).symm.trans z))⟩) hz)
  rw [if_neg (show ¬ aflI (movesM (nI lk) (fillsM (emptiesM m nr lk) lk) (d :: q)) lk (d :: q) = 0 from by rw [hz]; decide)]
  refine az_lv [0, 1, 2, 3, 4, 5] rfl (Mfl144_0c hG C lk (nI d) lk (by omega) (fun z => har lk (by omega) (((fillsM_p (by decide) (by decide) (by decide) (by decide) (by decide) (by decide)).trans (emptiesM_p (by decide) (by decide) (by decide) (by decide) (by decide) (by decide) (by decide))).symm.trans ((movesM_p (by decide) _ _).symm.trans z))) rest (d :: q) (MSuf_w (m := m) (fun b => (movesM_p (by decide) _ _).trans ((fillsM_p (by decide) (by decide) (by decide) (by decide) (by decide) (by decide)).trans (emptiesM_p (by decide) (by decide) (by decide) (by decide) (by decide) (by decide) (by decide)))) hs) hne (fun b hb => ⟨movesM_i _ _ hb, fun z => (hpt b hb).2 (((fillsM_p (by decide) (by decide) (by decide) (by decide) (by decide) (by decide)).trans (emptiesM_p (by decide) (by decide) (by decide) (by decide) (by decide) (by decide) (by decide))).symm.trans ((movesM_p (by decide) _ _).symm.trans z))⟩) hz ?_)
  refine az_iconst C (v := 0) dX4_locks_173 (by decide) ?_
  exact az_iret C rfl dX4_locks_174 (Nat.le_of_ble_eq_true rfl) (Nat.le_of_ble_eq_true rfl) ⟨rfl, rfl, rfl⟩

end
