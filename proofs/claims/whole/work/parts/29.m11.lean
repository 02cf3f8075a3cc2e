section
variable {l : Launch} {G : az_G} {ρ : Rp} {x : Xs} {m : Ms} {ou : Nat → Int64}
set_option maxHeartbeats 4000000 in
set_option maxRecDepth 100000 in
theorem Msl_1c (hG : az_okS l G) {p : Program} {e : Env} {s : State} {mm : MethodId} {args : Array Value} {below : List Frame} {meth : Method} {c : Code} (C : az_C l G p s mm args meth c cX4_passes yX4_passes.cls 7 (Option.some FieldType.int) []) {Qx : State → Prop}  : ∀ (lk : Nat) (hlk : lk < 5) (v : Int32) (q : List Nat) (hs : MSuf m q) (hpt : ∀ d ∈ q, ¬ m.1 16 d = 0) (hf : sillI m lk q = 1),az_W l G 7 Qx p e (az_rm 6 0 0) s mm args below meth c (AD ρ) (KK G ρ x m ou) 0 0 85 [(3, .int (nI lk)), (2, .int 1), (1, .int v), (0, .ref (ρ.1 100))] [] → az_W l G 7 Qx p e (az_rm 6 0 0) s mm args below meth c (AD ρ) (KK G ρ x m ou) 0 0 45 [(4, .int (hdI q)), (3, .int (nI lk)), (2, .int 1), (1, .int v), (0, .ref (ρ.1 100))] [] := by
  intro lk hlk v q
  induction q with
  | nil =>
    intro hs hpt hf hx
    refine az_iload C 0 dX4_passes_45 rfl ?_
    refine az_iconst C (v := (-1)) dX4_passes_47 (by decide) ?_
    refine az_icmp_eq C 85 dX4_passes_48 (by decide) (fun _ => ?_) (fun q => absurd (by decide) q)
    exact az_lv [1, 2, 3, 4] rfl hx
  | cons d q ih =>
    intro hs hpt hf hx
    have hd8 : d < 8 := hs.1
    have hle : deepM m d ≤ m.1 9 lk := by
      unfold sillI at hf; split at hf
      · assumption
      · exact absurd hf (by decide)
    have hf2 : sillI m lk q = 1 := by unfold sillI at hf; rw [if_pos hle] at hf; exact hf
    refine az_iload C 0 dX4_passes_45 rfl ?_
    refine az_iconst C (v := (-1)) dX4_passes_47 (by decide) ?_
    refine az_icmp_eq C 85 dX4_passes_48 (by decide) (fun q => absurd q (nI_m1 hd8)) (fun _ => ?_)
    refine az_aload_n C 4 dX4_passes_51 rfl ?_
    refine az_iload C 0 dX4_passes_52 rfl ?_
    refine az_callV C Y_X4_deep cX4 2 0 [.int (nI d)] [] wm_X4_158 wi_X4_deep wse_X4_deep dX4_passes_54 rfl rfl rfl (Mdeep hG d hd8 (hpt d List.mem_cons_self)) rfl (Nat.le_of_ble_eq_true rfl) (Nat.le_of_ble_eq_true rfl) (Nat.le_of_ble_eq_true rfl) (Nat.le_of_ble_eq_true rfl) (Nat.le_of_ble_eq_true rfl) (az_k1 rfl rfl ?_) (az_k0 rfl)
    refine az_aload_n C 4 dX4_passes_57 rfl ?_
    refine az_get C cX4 2 0 9 (v := .ref (ρ.1 109)) wl_X4_32 dX4_passes_58 rfl rfl rfl (by decide) ?_
    refine az_iload_n C 1 dX4_passes_61 rfl ?_
    refine az_ialdN C 2 9 lk (v := m.1 9 lk) dX4_passes_62 rfl rfl (by omega) (by decide) rfl ?_
    refine az_icmp_le C 73 dX4_passes_63 (by decide) (fun _ => ?_) (fun q => absurd hle q)
    refine az_aload_n C 4 dX4_passes_73 rfl ?_
    refine az_get C cX4 2 0 19 (v := .ref (ρ.1 119)) wl_X4_60 dX4_passes_74 rfl rfl rfl (by decide) ?_
    refine az_iload C 0 dX4_passes_77 rfl ?_
    refine az_ialdN C 2 19 d (v := m.1 19 d) dX4_passes_79 rfl rfl (by omega) (by decide) rfl ?_
    refine az_top (hdI q) hs.2.1 ?_
    refine az_istore C (lv' := [(4, .int (hdI q)), (3, .int (nI lk)), (2, .int 1), (1, .int v), (0, .ref (ρ.1 100))]) dX4_passes_80 (by decide) rfl ?_
    refine az_goto C 45 dX4_passes_82 (by decide) ?_
    exact az_lv [0, 1, 2, 3, 4] rfl (ih hs.2.2 (fun b hb => hpt b (List.mem_cons_of_mem _ hb)) hf2 hx)

set_option maxHeartbeats 4000000 in
set_option maxRecDepth 100000 in
theorem Msl_1r (hG : az_okS l G) {p : Program} {e : Env} {s : State} {mm : MethodId} {args : Array Value} {below : List Frame} {meth : Method} {c : Code} (C : az_C l G p s mm args meth c cX4_passes yX4_passes.cls 7 (Option.some FieldType.int) []) : ∀ (lk : Nat) (hlk : lk < 5) (v : Int32) (q : List Nat) (hs : MSuf m q) (hpt : ∀ d ∈ q, ¬ m.1 16 d = 0) (hf : sillI m lk q = 0), az_W l G 7 (az_Q G (az_r (some (.int 0)) (AD ρ) (KK G ρ x (refM m 2 (nI lk)) ou)) below args s 0 0) p e (az_rm 6 0 0) s mm args below meth c (AD ρ) (KK G ρ x m ou) 0 0 45 [(4, .int (hdI q)), (3, .int (nI lk)), (2, .int 1), (1, .int v), (0, .ref (ρ.1 100))] [] := by
  intro lk hlk v q
  induction q with
  | nil =>
    intro hs hpt hf
    exact absurd (show (1 : Int32) = 0 from hf) (by decide)
  | cons d q ih =>
    intro hs hpt hf
    have hd8 : d < 8 := hs.1
    by_cases hle : deepM m d ≤ m.1 9 lk
    · have hf2 : sillI m lk q = 0 := by unfold sillI at hf; rw [if_pos hle] at hf; exact hf
      refine az_iload C 0 dX4_passes_45 rfl ?_
      refine az_iconst C (v := (-1)) dX4_passes_47 (by decide) ?_
      refine az_icmp_eq C 85 dX4_passes_48 (by decide) (fun q => absurd q (nI_m1 hd8)) (fun _ => ?_)
      refine az_aload_n C 4 dX4_passes_51 rfl ?_
      refine az_iload C 0 dX4_passes_52 rfl ?_
      refine az_callV C Y_X4_deep cX4 2 0 [.int (nI d)] [] wm_X4_158 wi_X4_deep wse_X4_deep dX4_passes_54 rfl rfl rfl (Mdeep hG d hd8 (hpt d List.mem_cons_self)) rfl (Nat.le_of_ble_eq_true rfl) (Nat.le_of_ble_eq_true rfl) (Nat.le_of_ble_eq_true rfl) (Nat.le_of_ble_eq_true rfl) (Nat.le_of_ble_eq_true rfl) (az_k1 rfl rfl ?_) (az_k0 rfl)
      refine az_aload_n C 4 dX4_passes_57 rfl ?_
      refine az_get C cX4 2 0 9 (v := .ref (ρ.1 109)) wl_X4_32 dX4_passes_58 rfl rfl rfl (by decide) ?_
      refine az_iload_n C 1 dX4_passes_61 rfl ?_
      refine az_ialdN C 2 9 lk (v := m.1 9 lk) dX4_passes_62 rfl rfl (by omega) (by decide) rfl ?_
      refine az_icmp_le C 73 dX4_passes_63 (by decide) (fun _ => ?_) (fun q => absurd hle q)
      refine az_aload_n C 4 dX4_passes_73 rfl ?_
      refine az_get C cX4 2 0 19 (v := .ref (ρ.1 119)) wl_X4_60 dX4_passes_74 rfl rfl rfl (by decide) ?_
      refine az_iload C 0 dX4_passes_77 rfl ?_
      refine az_ialdN C 2 19 d (v := m.1 19 d) dX4_passes_79 rfl rfl (by omega) (by decide) rfl ?_
      refine az_top (hdI q) hs.2.1 ?_
      refine az_istore C (lv' := [(4, .int (hdI q)), (3, .int (nI lk)), (2, .int 1), (1, .int v), (0, .ref (ρ.1 100))]) dX4_passes_80 (by decide) rfl ?_
      refine az_goto C 45 dX4_passes_82 (by decide) ?_
      exact az_lv [0, 1, 2, 3, 4] rfl (ih hs.2.2 (fun b hb => hpt b (List.mem_cons_of_mem _ hb)) hf2)
    · skip
      refine az_iload C 0 dX4_passes_45 rfl ?_
      refine az_iconst C (v := (-1)) dX4_passes_47 (by decide) ?_
      refine az_icmp_eq C 85 dX4_passes_48 (by decide) (fun q => absurd q (nI_m1 hd8)) (fun _ => ?_)
      refine az_aload_n C 4 dX4_passes_51 rfl ?_
      refine az_iload C 0 dX4_passes_52 rfl ?_
      refine az_callV C Y_X4_deep cX4 2 0 [.int (nI d)] [] wm_X4_158 wi_X4_deep wse_X4_deep dX4_passes_54 rfl rfl rfl (Mdeep hG d hd8 (hpt d List.mem_cons_self)) rfl (Nat.le_of_ble_eq_true rfl) (Nat.le_of_ble_eq_true rfl) (Nat.le_of_ble_eq_true rfl) (Nat.le_of_ble_eq_true rfl) (Nat.le_of_ble_eq_true rfl) (az_k1 rfl rfl ?_) (az_k0 rfl)
      refine az_aload_n C 4 dX4_passes_57 rfl ?_
      refine az_get C cX4 2 0 9 (v := .ref (ρ.1 109)) wl_X4_32 dX4_passes_58 rfl rfl rfl (by decide) ?_
      refine az_iload_n C 1 dX4_passes_61 rfl ?_
      refine az_ialdN C 2 9 lk (v := m.1 9 lk) dX4_passes_62 rfl rfl (by omega) (by decide) rfl ?_
      refine az_icmp_le C 73 dX4_passes_63 (by decide) (fun q => absurd q hle) (fun _ => ?_)
      refine az_aload_n C 4 dX4_passes_66 rfl ?_
      refine az_iconst C (v := 2) dX4_passes_67 (by decide) ?_
      refine az_iload_n C 1 dX4_passes_68 rfl ?_
      refine az_callV C Y_X4_refuses cX4 2 0 [.int 2, .int (nI lk)] [] wm_X4_193 wi_X4_refuses wse_X4_refuses dX4_passes_69 rfl rfl rfl (Mrefuses hG (2) (nI lk)) rfl (Nat.le_of_ble_eq_true rfl) (Nat.le_of_ble_eq_true rfl) (Nat.le_of_ble_eq_true rfl) (Nat.le_of_ble_eq_true rfl) (Nat.le_of_ble_eq_true rfl) (az_k1 rfl rfl ?_) (az_k0 rfl)
      exact az_iret C rfl dX4_passes_72 (Nat.le_of_ble_eq_true rfl) (Nat.le_of_ble_eq_true rfl) ⟨rfl, rfl, rfl⟩

set_option maxHeartbeats 4000000 in
set_option maxRecDepth 100000 in
theorem Msl_0c (hG : az_okS l G) {p : Program} {e : Env} {s : State} {mm : MethodId} {args : Array Value} {below : List Frame} {meth : Method} {c : Code} (C : az_C l G p s mm args meth c cX4_passes yX4_passes.cls 7 (Option.some FieldType.int) []) {Qx : State → Prop}  : ∀ (lk : Nat) (hlk : lk < 5) (v : Int32) (q : List Nat) (hs : MSuf m q) (hpt : ∀ d ∈ q, ¬ m.1 16 d = 0) (hf : sillI m lk q = 1),az_W l G 7 Qx p e (az_rm 6 0 0) s mm args below meth c (AD ρ) (KK G ρ x m ou) 0 0 85 [(3, .int (nI lk)), (2, .int 0), (1, .int v), (0, .ref (ρ.1 100))] [] → az_W l G 7 Qx p e (az_rm 6 0 0) s mm args below meth c (AD ρ) (KK G ρ x m ou) 0 0 45 [(4, .int (hdI q)), (3, .int (nI lk)), (2, .int 0), (1, .int v), (0, .ref (ρ.1 100))] [] := by
  intro lk hlk v q
  induction q with
  | nil =>
    intro hs hpt hf hx
    refine az_iload C 0 dX4_passes_45 rfl ?_
    refine az_iconst C (v := (-1)) dX4_passes_47 (by decide) ?_
    refine az_icmp_eq C 85 dX4_passes_48 (by decide) (fun _ => ?_) (fun q => absurd (by decide) q)
    exact az_lv [1, 2, 3, 4] rfl hx
  | cons d q ih =>
    intro hs hpt hf hx
    have hd8 : d < 8 := hs.1
    have hle : deepM m d ≤ m.1 9 lk := by
      unfold sillI at hf; split at hf
      · assumption
      · exact absurd hf (by decide)
    have hf2 : sillI m lk q = 1 := by unfold sillI at hf; rw [if_pos hle] at hf; exact hf
    refine az_iload C 0 dX4_passes_45 rfl ?_
    refine az_iconst C (v := (-1)) dX4_passes_47 (by decide) ?_
    refine az_icmp_eq C 85 dX4_passes_48 (by decide) (fun q => absurd q (nI_m1 hd8)) (fun _ => ?_)
    refine az_aload_n C 4 dX4_passes_51 rfl ?_
    refine az_iload C 0 dX4_passes_52 rfl ?_
    refine az_callV C Y_X4_deep cX4 2 0 [.int (nI d)] [] wm_X4_158 wi_X4_deep wse_X4_deep dX4_passes_54 rfl rfl rfl (Mdeep hG d hd8 (hpt d List.mem_cons_self)) rfl (Nat.le_of_ble_eq_true rfl) (Nat.le_of_ble_eq_true rfl) (Nat.le_of_ble_eq_true rfl) (Nat.le_of_ble_eq_true rfl) (Nat.le_of_ble_eq_true rfl) (az_k1 rfl rfl ?_) (az_k0 rfl)
    refine az_aload_n C 4 dX4_passes_57 rfl ?_
    refine az_get C cX4 2 0 9 (v := .ref (ρ.1 109)) wl_X4_32 dX4_passes_58 rfl rfl rfl (by decide) ?_
    refine az_iload_n C 1 dX4_passes_61 rfl ?_
    refine az_ialdN C 2 9 lk (v := m.1 9 lk) dX4_passes_62 rfl rfl (by omega) (by decide) rfl ?_
    refine az_icmp_le C 73 dX4_passes_63 (by decide) (fun _ => ?_) (fun q => absurd hle q)
    refine az_aload_n C 4 dX4_passes_73 rfl ?_
    refine az_get C cX4 2 0 19 (v := .ref (ρ.1 119)) wl_X4_60 dX4_passes_74 rfl rfl rfl (by decide) ?_
    refine az_iload C 0 dX4_passes_77 rfl ?_
    refine az_ialdN C 2 19 d (v := m.1 19 d) dX4_passes_79 rfl rfl (by omega) (by decide) rfl ?_
    refine az_top (hdI q) hs.2.1 ?_
    refine az_istore C (lv' := [(4, .int (hdI q)), (3, .int (nI lk)), (2, .int 0), (1, .int v), (0, .ref (ρ.1 100))]) dX4_passes_80 (by decide) rfl ?_
    refine az_goto C 45 dX4_passes_82 (by decide) ?_
    exact az_lv [0, 1, 2, 3, 4] rfl (ih hs.2.2 (fun b hb => hpt b (List.mem_cons_of_mem _ hb)) hf2 hx)

set_option maxHeartbeats 4000000 in
set_option maxRecDepth 100000 in
theorem Msl_0r (hG : az_okS l G) {p : Program} {e : Env} {s : State} {mm : MethodId} {args : Array Value} {below : List Frame} {meth : Method} {c : Code} (C : az_C l G p s mm args meth c cX4_passes yX4_passes.cls 7 (Option.some FieldType.int) []) : ∀ (lk : Nat) (hlk : lk < 5) (v : Int32) (q : List Nat) (hs : MSuf m q) (hpt : ∀ d ∈ q, ¬ m.1 16 d = 0) (hf : sillI m lk q = 0), az_W l G 7 (az_Q G (az_r (some (.int 0)) (AD ρ) (KK G ρ x (refM m 2 (nI lk)) ou)) below args s 0 0) p e (az_rm 6 0 0) s mm args below meth c (AD ρ) (KK G ρ x m ou) 0 0 45 [(4, .int (hdI q)), (3, .int (nI lk)), (2, .int 0), (1, .int v), (0, .ref (ρ.1 100))] [] := by
  intro lk hlk v q
  induction q with
  | nil =>
    intro hs hpt hf
    exact absurd (show (1 : Int32) = 0 from hf) (by decide)
  | cons d q ih =>
    intro hs hpt hf
    have hd8 : d < 8 := hs.1
    by_cases hle : deepM m d ≤ m.1 9 lk
    · have hf2 : sillI m lk q = 0 := by unfold sillI at hf; rw [if_pos hle] at hf; exact hf
      refine az_iload C 0 dX4_passes_45 rfl ?_
      refine az_iconst C (v := (-1)) dX4_passes_47 (by decide) ?_
      refine az_icmp_eq C 85 dX4_passes_48 (by decide) (fun q => absurd q (nI_m1 hd8)) (fun _ => ?_)
      refine az_aload_n C 4 dX4_passes_51 rfl ?_
      refine az_iload C 0 dX4_passes_52 rfl ?_
      refine az_callV C Y_X4_deep cX4 2 0 [.int (nI d)] [] wm_X4_158 wi_X4_deep wse_X4_deep dX4_passes_54 rfl rfl rfl (Mdeep hG d hd8 (hpt d List.mem_cons_self)) rfl (Nat.le_of_ble_eq_true rfl) (Nat.le_of_ble_eq_true rfl) (Nat.le_of_ble_eq_true rfl) (Nat.le_of_ble_eq_true rfl) (Nat.le_of_ble_eq_true rfl) (az_k1 rfl rfl ?_) (az_k0 rfl)
      refine az_aload_n C 4 dX4_passes_57 rfl ?_
      refine az_get C cX4 2 0 9 (v := .ref (ρ.1 109)) wl_X4_32 dX4_passes_58 rfl rfl rfl (by decide) ?_
      refine az_iload_n C 1 dX4_passes_61 rfl ?_
      refine az_ialdN C 2 9 lk (v := m.1 9 lk) dX4_passes_62 rfl rfl (by omega) (by decide) rfl ?_
      refine az_icmp_le C 73 dX4_passes_63 (by decide) (fun _ => ?_) (fun q => absurd hle q)
      refine az_aload_n C 4 dX4_passes_73 rfl ?_
      refine az_get C cX4 2 0 19 (v := .ref (ρ.1 119)) wl_X4_60 dX4_passes_74 rfl rfl rfl (by decide) ?_
      refine az_iload C 0 dX4_passes_77 rfl ?_
      refine az_ialdN C 2 19 d (v := m.1 19 d) dX4_passes_79 rfl rfl (by omega) (by decide) rfl ?_
      refine az_top (hdI q) hs.2.1 ?_
      refine az_istore C (lv' := [(4, .int (hdI q)), (3, .int (nI lk)), (2, .int 0), (1, .int v), (0, .ref (ρ.1 100))]) dX4_passes_80 (by decide) rfl ?_
      refine az_goto C 45 dX4_passes_82 (by decide) ?_
      exact az_lv [0, 1, 2, 3, 4] rfl (ih hs.2.2 (fun b hb => hpt b (List.mem_cons_of_mem _ hb)) hf2)
    · skip
      refine az_iload C 0 dX4_passes_45 rfl ?_
      refine az_iconst C (v := (-1)) dX4_passes_47 (by decide) ?_
      refine az_icmp_eq C 85 dX4_passes_48 (by decide) (fun q => absurd q (nI_m1 hd8)) (fun _ => ?_)
      refine az_aload_n C 4 dX4_passes_51 rfl ?_
      refine az_iload C 0 dX4_passes_52 rfl ?_
      refine az_callV C Y_X4_deep cX4 2 0 [.int (nI d)] [] wm_X4_158 wi_X4_deep wse_X4_deep dX4_passes_54 rfl rfl rfl (Mdeep hG d hd8 (hpt d List.mem_cons_self)) rfl (Nat.le_of_ble_eq_true rfl) (Nat.le_of_ble_eq_true rfl) (Nat.le_of_ble_eq_true rfl) (Nat.le_of_ble_eq_true rfl) (Nat.le_of_ble_eq_true rfl) (az_k1 rfl rfl ?_) (az_k0 rfl)
      refine az_aload_n C 4 dX4_passes_57 rfl ?_
      refine az_get C cX4 2 0 9 (v := .ref (ρ.1 109)) wl_X4_32 dX4_passes_58 rfl rfl rfl (by decide) ?_
      refine az_iload_n C 1 dX4_passes_61 rfl ?_
      refine az_ialdN C 2 9 lk (v := m.1 9 lk) dX4_passes_62 rfl rfl (by omega) (by decide) rfl ?_
      refine az_icmp_le C 73 dX4_passes_63 (by decide) (fun q => absurd q hle) (fun _ => ?_)
      refine az_aload_n C 4 dX4_passes_66 rfl ?_
      refine az_iconst C (v := 2) dX4_passes_67 (by decide) ?_
      refine az_iload_n C 1 dX4_passes_68 rfl ?_
      refine az_callV C Y_X4_refuses cX4 2 0 [.int 2, .int (nI lk)] [] wm_X4_193 wi_X4_refuses wse_X4_refuses dX4_passes_69 rfl rfl rfl (Mrefuses hG (2) (nI lk)) rfl (Nat.le_of_ble_eq_true rfl) (Nat.le_of_ble_eq_true rfl) (Nat.le_of_ble_eq_true rfl) (Nat.le_of_ble_eq_true rfl) (Nat.le_of_ble_eq_true rfl) (az_k1 rfl rfl ?_) (az_k0 rfl)
      exact az_iret C rfl dX4_passes_72 (Nat.le_of_ble_eq_true rfl) (Nat.le_of_ble_eq_true rfl) ⟨rfl, rfl, rfl⟩

/-- all that a run of parts needs -/
def PsOK (m : Ms) (nr lk : Nat) (dn : Bool) (q : List Nat) : Prop := m.1 0 1 = nI nr ∧ nr ≤ 6 ∧ lk + 2 ≤ nr ∧ MAr m nr ∧ MSuf m q ∧ q.Nodup ∧ PtOK m (rIn dn lk) q ∧ ∀ b ∈ q, ¬ m.1 8 lk < m.1 14 b
theorem PsOK.step {m : Ms} {nr lk : Nat} {dn : Bool} {q rest : List Nat} (h : PsOK m nr lk dn (q ++ rest)) : PsOK (lockM m nr lk dn q).1 nr lk dn rest := by
  obtain ⟨h1, h2, h3, h4, h5, h6, h7, h8⟩ := h
  have hsuf : ∀ {z : List Nat}, MSuf m (z ++ rest) → MSuf m rest := by
    intro z
    induction z with
    | nil => exact fun w => w
    | cons b z ih => exact fun w => ih w.2.2
  have hq := List.nodup_append.mp h6
  refine ⟨(lockM_0 (by decide) (by decide)).trans h1, h2, h3, fun k hk z => h4 k hk ((lockM_p (by decide) (by decide) (by decide) (by decide) (by decide) (by decide) (by decide) (by decide)).symm.trans z), MSuf_w (fun b => lockM_p (by decide) (by decide) (by decide) (by decide) (by decide) (by decide) (by decide) (by decide)) (hsuf h5), hq.2.1, ?_, ?_⟩
  · intro d hd
    refine ⟨(lockM_13 (fun z => hq.2.2 d z d hd rfl)).trans (h7 d (List.mem_append_right _ hd)).1, fun z => (h7 d (List.mem_append_right _ hd)).2 ((lockM_p (by decide) (by decide) (by decide) (by decide) (by decide) (by decide) (by decide) (by decide)).symm.trans z)⟩
  · intro d hd
    rw [lockM_p (by decide) (by decide) (by decide) (by decide) (by decide) (by decide) (by decide) (by decide), lockM_p (by decide) (by decide) (by decide) (by decide) (by decide) (by decide) (by decide) (by decide)]
    exact h8 d (List.mem_append_right _ hd)
set_option maxHeartbeats 4000000 in
set_option maxRecDepth 100000 in
theorem Mpass_1 (hG : az_okS l G) {p : Program} {e : Env} {s : State} {mm : MethodId} {args : Array Value} {below : List Frame} {meth : Method} {c : Code} (C : az_C l G p s mm args meth c cX4_passes yX4_passes.cls 7 (Option.some FieldType.int) []) : ∀ (nr lk : Nat) (v : Int32) (n : Nat) {m : Ms} (s9 : List Nat) (n9 : Nat) (hl : s9.length ≤ n) (hm : mvok m (n * (2 * nr + 1))) (hp : PsOK m nr lk true s9), az_W l G 7 (az_Q G (az_r (some (.int (passL nr lk true n m s9 n9).2)) (AD ρ) (KK G ρ x (passL nr lk true n m s9 n9).1 ou)) below args s 0 0) p e (az_rm 6 0 0) s mm args below meth c (AD ρ) (KK G ρ x m ou) 0 0 95 [(5, .int (hdI s9)), (4, .int (nI n9)), (3, .int (nI lk)), (2, .int 1), (1, .int v), (0, .ref (ρ.1 100))] [] := by
  intro nr lk v n
  induction n with
  | zero =>
    intro m s9 n9 hl hm hp
    obtain rfl : s9 = [] := List.length_eq_zero_iff.mp (by omega)
    refine az_iload C 0 dX4_passes_95 rfl ?_
    refine az_iconst C (v := (-1)) dX4_passes_97 (by decide) ?_
    refine az_icmp_eq C 146 dX4_passes_98 (by decide) (fun _ => ?_) (fun q => absurd (by decide) q)
    refine az_iload C 1 dX4_passes_146 rfl ?_
    exact az_iret C rfl dX4_passes_148 (Nat.le_of_ble_eq_true rfl) (Nat.le_of_ble_eq_true rfl) ⟨rfl, rfl, rfl⟩
  | succ n ih =>
    intro m s9 n9 hl hm hp
    cases s9 with
    | nil =>
      refine az_iload C 0 dX4_passes_95 rfl ?_
      refine az_iconst C (v := (-1)) dX4_passes_97 (by decide) ?_
      refine az_icmp_eq C 146 dX4_passes_98 (by decide) (fun _ => ?_) (fun q => absurd (by decide) q)
      refine az_iload C 1 dX4_passes_146 rfl ?_
      exact az_iret C rfl dX4_passes_148 (Nat.le_of_ble_eq_true rfl) (Nat.le_of_ble_eq_true rfl) ⟨rfl, rfl, rfl⟩
    | cons d s9 =>
      have hd8 : d < 8 := hp.2.2.2.2.1.1
      have hfit := hp.2.2.2.2.2.2.2 d List.mem_cons_self
      have epa := pa_ep (m := m) (lk := lk) (d :: s9) 0
      have hpa : paM m lk (d :: s9) 0 = d :: paM m lk s9 (0 + m.1 14 d) := by rw [paM, if_neg]; rw [Int32.zero_add]; exact hfit
      have hep : (epM m lk (d :: s9) 0).length ≤ s9.length := by rw [epM, if_neg (by rw [Int32.zero_add]; exact hfit)]; exact epM_len _ _
      have hps : PsOK m nr lk true (paM m lk (d :: s9) 0 ++ epM m lk (d :: s9) 0) := by rw [epa]; exact hp
      have hnx := hps.step
      have hmm : mvok m (2 * nr + 1 + n * (2 * nr + 1)) := hm.le (Nat.le_of_eq (by rw [Nat.add_mul n 1, Nat.one_mul]; exact Nat.add_comm _ _))
      have hlk5 : lk < 5 := by have := hp.2.1; have := hp.2.2.1; omega
      have hlock := Mlocks1 (ρ := ρ) (x := x) (m := m) (ou := ou) hG nr lk hp.1 hp.2.1 hp.2.2.1 (hmm.le (by omega)) hp.2.2.2.1 d (paM m lk s9 (0 + m.1 14 d)) (epM m lk (d :: s9) 0) (by rw [← hpa]; exact hps.2.2.2.2.1) (by rw [← hpa]; exact PtNe_of epa hp.2.2.2.2.1 hp.2.2.2.2.2.1) (by rw [← hpa]; exact fun b hb => hps.2.2.2.2.2.2.1 b (List.mem_append_left _ hb))
      rw [← hpa] at hlock
      rw [List.length_cons] at hl
      by_cases hc : (lockM m nr lk true (paM m lk (d :: s9) 0)).2 = 0
      · have eP : (passL nr lk true (n + 1) m (d :: s9) n9) = passL nr lk true n (lockM m nr lk true (paM m lk (d :: s9) 0)).1 (epM m lk (d :: s9) 0) (n9 + 1) := by rw [passL, if_pos hc]
        rw [eP]
        refine az_iload C 0 dX4_passes_95 rfl ?_
        refine az_iconst C (v := (-1)) dX4_passes_97 (by decide) ?_
        refine az_icmp_eq C 146 dX4_passes_98 (by decide) (fun q => absurd q (nI_m1 hd8)) (fun _ => ?_)
        refine az_aload_n C 5 dX4_passes_101 rfl ?_
        refine az_iload C 0 dX4_passes_102 rfl ?_
        refine az_aload_n C 5 dX4_passes_104 rfl ?_
        refine az_iload C 0 dX4_passes_105 rfl ?_
        refine az_iload_n C 2 dX4_passes_107 rfl ?_
        refine az_callV C Y_X4_endOfPart cX4 2 0 [.int (nI d), .int (nI lk)] [.int (nI d), .ref (ρ.1 100)] wm_X4_177 wi_X4_endOfPart wse_X4_endOfPart dX4_passes_108 rfl rfl rfl (Mend hG lk d s9 (by omega) hp.2.2.2.2.1) rfl (Nat.le_of_ble_eq_true rfl) (Nat.le_of_ble_eq_true rfl) (Nat.le_of_ble_eq_true rfl) (Nat.le_of_ble_eq_true rfl) (Nat.le_of_ble_eq_true rfl) (az_k1 rfl rfl ?_) (az_k0 rfl)
        refine az_iload_n C 2 dX4_passes_111 rfl ?_
        refine az_iload_n C 3 dX4_passes_112 rfl ?_
        refine az_callV C Y_X4_locks cX4 2 0 [.int (nI d), .int (hdI (epM m lk (d :: s9) 0)), .int (nI lk), .int 1] [] wm_X4_196 wi_X4_locks wse_X4_locks dX4_passes_113 rfl rfl rfl (hlock) rfl (Nat.le_of_ble_eq_true rfl) (Nat.le_of_ble_eq_true rfl) (Nat.le_of_ble_eq_true rfl) (Nat.le_of_ble_eq_true rfl) (Nat.le_of_ble_eq_true rfl) (az_k1 rfl rfl ?_) (az_k0 rfl)
        refine az_istore C (lv' := [(6, .int ((lockM m nr lk true (paM m lk (d :: s9) 0)).2)), (5, .int (nI d)), (4, .int (nI n9)), (3, .int (nI lk)), (2, .int 1), (1, .int v), (0, .ref (ρ.1 100))]) dX4_passes_116 (by decide) rfl ?_
        refine az_iload C 0 dX4_passes_118 rfl ?_
        refine az_if_eq C 131 dX4_passes_120 (by decide) (fun _ => ?_) (fun q => absurd hc q)
        refine az_iinc C 2 (v := nI (n9 + 1)) (lv' := [(4, .int (nI (n9 + 1))), (6, .int ((lockM m nr lk true (paM m lk (d :: s9) 0)).2)), (5, .int (nI d)), (3, .int (nI lk)), (2, .int 1), (1, .int v), (0, .ref (ρ.1 100))]) dX4_passes_131 rfl (nI_1 n9) (by decide) rfl ?_
        refine az_aload_n C 6 dX4_passes_134 rfl ?_
        refine az_iload C 2 dX4_passes_135 rfl ?_
        refine az_iload_n C 3 dX4_passes_137 rfl ?_
        refine az_callV C Y_X4_endOfPart cX4 2 0 [.int (nI d), .int (nI lk)] [] wm_X4_177 wi_X4_endOfPart wse_X4_endOfPart dX4_passes_138 rfl rfl rfl (Mend (m := (lockM m nr lk true (paM m lk (d :: s9) 0)).1) hG lk d s9 (by omega) (MSuf_w (fun b => lockM_p (by decide) (by decide) (by decide) (by decide) (by decide) (by decide) (by decide) (by decide)) hp.2.2.2.2.1)) rfl (Nat.le_of_ble_eq_true rfl) (Nat.le_of_ble_eq_true rfl) (Nat.le_of_ble_eq_true rfl) (Nat.le_of_ble_eq_true rfl) (Nat.le_of_ble_eq_true rfl) (az_k1 rfl rfl ?_) (az_k0 rfl)
        refine az_top (hdI (epM m lk (d :: s9) 0)) (congrArg hdI (epM_w (fun b => lockM_p (by decide) (by decide) (by decide) (by decide) (by decide) (by decide) (by decide) (by decide)) (fun b => lockM_p (by decide) (by decide) (by decide) (by decide) (by decide) (by decide) (by decide) (by decide)) (d :: s9) 0)) ?_
        refine az_istore C (lv' := [(5, .int (hdI (epM m lk (d :: s9) 0))), (4, .int (nI (n9 + 1))), (6, .int ((lockM m nr lk true (paM m lk (d :: s9) 0)).2)), (3, .int (nI lk)), (2, .int 1), (1, .int v), (0, .ref (ρ.1 100))]) dX4_passes_141 (by decide) rfl ?_
        refine az_goto C 95 dX4_passes_143 (by decide) ?_
        exact az_lv [0, 1, 3, 4, 5, 6] rfl (ih (epM m lk (d :: s9) 0) (n9 + 1) (by omega) (lockM_ok (by have := hp.2.2.1; omega) hmm) hnx)
      · have eP : (passL nr lk true (n + 1) m (d :: s9) n9) = (refM (lockM m nr lk true (paM m lk (d :: s9) 0)).1 (lockM m nr lk true (paM m lk (d :: s9) 0)).2 (nI lk), 0) := by rw [passL, if_neg hc]
        rw [eP]
        refine az_iload C 0 dX4_passes_95 rfl ?_
        refine az_iconst C (v := (-1)) dX4_passes_97 (by decide) ?_
        refine az_icmp_eq C 146 dX4_passes_98 (by decide) (fun q => absurd q (nI_m1 hd8)) (fun _ => ?_)
        refine az_aload_n C 5 dX4_passes_101 rfl ?_
        refine az_iload C 0 dX4_passes_102 rfl ?_
        refine az_aload_n C 5 dX4_passes_104 rfl ?_
        refine az_iload C 0 dX4_passes_105 rfl ?_
        refine az_iload_n C 2 dX4_passes_107 rfl ?_
        refine az_callV C Y_X4_endOfPart cX4 2 0 [.int (nI d), .int (nI lk)] [.int (nI d), .ref (ρ.1 100)] wm_X4_177 wi_X4_endOfPart wse_X4_endOfPart dX4_passes_108 rfl rfl rfl (Mend hG lk d s9 (by omega) hp.2.2.2.2.1) rfl (Nat.le_of_ble_eq_true rfl) (Nat.le_of_ble_eq_true rfl) (Nat.le_of_ble_eq_true rfl) (Nat.le_of_ble_eq_true rfl) (Nat.le_of_ble_eq_true rfl) (az_k1 rfl rfl ?_) (az_k0 rfl)
        refine az_iload_n C 2 dX4_passes_111 rfl ?_
        refine az_iload_n C 3 dX4_passes_112 rfl ?_
        refine az_callV C Y_X4_locks cX4 2 0 [.int (nI d), .int (hdI (epM m lk (d :: s9) 0)), .int (nI lk), .int 1] [] wm_X4_196 wi_X4_locks wse_X4_locks dX4_passes_113 rfl rfl rfl (hlock) rfl (Nat.le_of_ble_eq_true rfl) (Nat.le_of_ble_eq_true rfl) (Nat.le_of_ble_eq_true rfl) (Nat.le_of_ble_eq_true rfl) (Nat.le_of_ble_eq_true rfl) (az_k1 rfl rfl ?_) (az_k0 rfl)
        refine az_istore C (lv' := [(6, .int ((lockM m nr lk true (paM m lk (d :: s9) 0)).2)), (5, .int (nI d)), (4, .int (nI n9)), (3, .int (nI lk)), (2, .int 1), (1, .int v), (0, .ref (ρ.1 100))]) dX4_passes_116 (by decide) rfl ?_
        refine az_iload C 0 dX4_passes_118 rfl ?_
        refine az_if_eq C 131 dX4_passes_120 (by decide) (fun q => absurd q hc) (fun _ => ?_)
        refine az_aload_n C 6 dX4_passes_123 rfl ?_
        refine az_iload C 0 dX4_passes_124 rfl ?_
        refine az_iload_n C 3 dX4_passes_126 rfl ?_
        refine az_callV C Y_X4_refuses cX4 2 0 [.int ((lockM m nr lk true (paM m lk (d :: s9) 0)).2), .int (nI lk)] [] wm_X4_193 wi_X4_refuses wse_X4_refuses dX4_passes_127 rfl rfl rfl (Mrefuses hG ((lockM m nr lk true (paM m lk (d :: s9) 0)).2) (nI lk)) rfl (Nat.le_of_ble_eq_true rfl) (Nat.le_of_ble_eq_true rfl) (Nat.le_of_ble_eq_true rfl) (Nat.le_of_ble_eq_true rfl) (Nat.le_of_ble_eq_true rfl) (az_k1 rfl rfl ?_) (az_k0 rfl)
        exact az_iret C rfl dX4_passes_130 (Nat.le_of_ble_eq_true rfl) (Nat.le_of_ble_eq_true rfl) ⟨rfl, rfl, rfl⟩

set_option maxHeartbeats 4000000 in
set_option maxRecDepth 100000 in
theorem Mpass_0 (hG : az_okS l G) {p : Program} {e : Env} {s : State} {mm : MethodId} {args : Array Value} {below : List Frame} {meth : Method} {c : Code} (C : az_C l G p s mm args meth c cX4_passes yX4_passes.cls 7 (Option.some FieldType.int) []) : ∀ (nr lk : Nat) (v : Int32) (n : Nat) {m : Ms} (s9 : List Nat) (n9 : Nat) (hl : s9.length ≤ n) (hm : mvok m (n * (2 * nr + 1))) (hp : PsOK m nr lk false s9), az_W l G 7 (az_Q G (az_r (some (.int (passL nr lk false n m s9 n9).2)) (AD ρ) (KK G ρ x (passL nr lk false n m s9 n9).1 ou)) below args s 0 0) p e (az_rm 6 0 0) s mm args below meth c (AD ρ) (KK G ρ x m ou) 0 0 95 [(5, .int (hdI s9)), (4, .int (nI n9)), (3, .int (nI lk)), (2, .int 0), (1, .int v), (0, .ref (ρ.1 100))] [] := by
  intro nr lk v n
  induction n with
  | zero =>
    intro m s9 n9 hl hm hp
    obtain rfl : s9 = [] := List.length_eq_zero_iff.mp (by omega)
    refine az_iload C 0 dX4_passes_95 rfl ?_
    refine az_iconst C (v := (-1)) dX4_passes_97 (by decide) ?_
    refine az_icmp_eq C 146 dX4_passes_98 (by decide) (fun _ => ?_) (fun q => absurd (by decide) q)
    refine az_iload C 1 dX4_passes_146 rfl ?_
    exact az_iret C rfl dX4_passes_148 (Nat.le_of_ble_eq_true rfl) (Nat.le_of_ble_eq_true rfl) ⟨rfl, rfl, rfl⟩
  | succ n ih =>
    intro m s9 n9 hl hm hp
    cases s9 with
    | nil =>
      refine az_iload C 0 dX4_passes_95 rfl ?_
      refine az_iconst C (v := (-1)) dX4_passes_97 (by decide) ?_
      refine az_icmp_eq C 146 dX4_passes_98 (by decide) (fun _ => ?_) (fun q => absurd (by decide) q)
      refine az_iload C 1 dX4_passes_146 rfl ?_
      exact az_iret C rfl dX4_passes_148 (Nat.le_of_ble_eq_true rfl) (Nat.le_of_ble_eq_true rfl) ⟨rfl, rfl, rfl⟩
    | cons d s9 =>
      have hd8 : d < 8 := hp.2.2.2.2.1.1
      have hfit := hp.2.2.2.2.2.2.2 d List.mem_cons_self
      have epa := pa_ep (m := m) (lk := lk) (d :: s9) 0
      have hpa : paM m lk (d :: s9) 0 = d :: paM m lk s9 (0 + m.1 14 d) := by rw [paM, if_neg]; rw [Int32.zero_add]; exact hfit
      have hep : (epM m lk (d :: s9) 0).length ≤ s9.length := by rw [epM, if_neg (by rw [Int32.zero_add]; exact hfit)]; exact epM_len _ _
      have hps : PsOK m nr lk false (paM m lk (d :: s9) 0 ++ epM m lk (d :: s9) 0) := by rw [epa]; exact hp
      have hnx := hps.step
      have hmm : mvok m (2 * nr + 1 + n * (2 * nr + 1)) := hm.le (Nat.le_of_eq (by rw [Nat.add_mul n 1, Nat.one_mul]; exact Nat.add_comm _ _))
      have hlk5 : lk < 5 := by have := hp.2.1; have := hp.2.2.1; omega
      have hlock := Mlocks0 (ρ := ρ) (x := x) (m := m) (ou := ou) hG nr lk hp.1 hp.2.1 hp.2.2.1 (hmm.le (by omega)) hp.2.2.2.1 d (paM m lk s9 (0 + m.1 14 d)) (epM m lk (d :: s9) 0) (by rw [← hpa]; exact hps.2.2.2.2.1) (by rw [← hpa]; exact PtNe_of epa hp.2.2.2.2.1 hp.2.2.2.2.2.1) (by rw [← hpa]; exact fun b hb => hps.2.2.2.2.2.2.1 b (List.mem_append_left _ hb))
      rw [← hpa] at hlock
      rw [List.length_cons] at hl
      by_cases hc : (lockM m nr lk false (paM m lk (d :: s9) 0)).2 = 0
      · have eP : (passL nr lk false (n + 1) m (d :: s9) n9) = passL nr lk false n (lockM m nr lk false (paM m lk (d :: s9) 0)).1 (epM m lk (d :: s9) 0) (n9 + 1) := by rw [passL, if_pos hc]
        rw [eP]
        refine az_iload C 0 dX4_passes_95 rfl ?_
        refine az_iconst C (v := (-1)) dX4_passes_97 (by decide) ?_
        refine az_icmp_eq C 146 dX4_passes_98 (by decide) (fun q => absurd q (nI_m1 hd8)) (fun _ => ?_)
        refine az_aload_n C 5 dX4_passes_101 rfl ?_
        refine az_iload C 0 dX4_passes_102 rfl ?_
        refine az_aload_n C 5 dX4_passes_104 rfl ?_
        refine az_iload C 0 dX4_passes_105 rfl ?_
        refine az_iload_n C 2 dX4_passes_107 rfl ?_
        refine az_callV C Y_X4_endOfPart cX4 2 0 [.int (nI d), .int (nI lk)] [.int (nI d), .ref (ρ.1 100)] wm_X4_177 wi_X4_endOfPart wse_X4_endOfPart dX4_passes_108 rfl rfl rfl (Mend hG lk d s9 (by omega) hp.2.2.2.2.1) rfl (Nat.le_of_ble_eq_true rfl) (Nat.le_of_ble_eq_true rfl) (Nat.le_of_ble_eq_true rfl) (Nat.le_of_ble_eq_true rfl) (Nat.le_of_ble_eq_true rfl) (az_k1 rfl rfl ?_) (az_k0 rfl)
        refine az_iload_n C 2 dX4_passes_111 rfl ?_
        refine az_iload_n C 3 dX4_passes_112 rfl ?_
        refine az_callV C Y_X4_locks cX4 2 0 [.int (nI d), .int (hdI (epM m lk (d :: s9) 0)), .int (nI lk), .int 0] [] wm_X4_196 wi_X4_locks wse_X4_locks dX4_passes_113 rfl rfl rfl (hlock) rfl (Nat.le_of_ble_eq_true rfl) (Nat.le_of_ble_eq_true rfl) (Nat.le_of_ble_eq_true rfl) (Nat.le_of_ble_eq_true rfl) (Nat.le_of_ble_eq_true rfl) (az_k1 rfl rfl ?_) (az_k0 rfl)
        refine az_istore C (lv' := [(6, .int ((lockM m nr lk false (paM m lk (d :: s9) 0)).2)), (5, .int (nI d)), (4, .int (nI n9)), (3, .int (nI lk)), (2, .int 0), (1, .int v), (0, .ref (ρ.1 100))]) dX4_passes_116 (by decide) rfl ?_
        refine az_iload C 0 dX4_passes_118 rfl ?_
        refine az_if_eq C 131 dX4_passes_120 (by decide) (fun _ => ?_) (fun q => absurd hc q)
        refine az_iinc C 2 (v := nI (n9 + 1)) (lv' := [(4, .int (nI (n9 + 1))), (6, .int ((lockM m nr lk false (paM m lk (d :: s9) 0)).2)), (5, .int (nI d)), (3, .int (nI lk)), (2, .int 0), (1, .int v), (0, .ref (ρ.1 100))]) dX4_passes_131 rfl (nI_1 n9) (by decide) rfl ?_
        refine az_aload_n C 6 dX4_passes_134 rfl ?_
        refine az_iload C 2 dX4_passes_135 rfl ?_
        refine az_iload_n C 3 dX4_passes_137 rfl ?_
        refine az_callV C Y_X4_endOfPart cX4 2 0 [.int (nI d), .int (nI lk)] [] wm_X4_177 wi_X4_endOfPart wse_X4_endOfPart dX4_passes_138 rfl rfl rfl (Mend (m := (lockM m nr lk false (paM m lk (d :: s9) 0)).1) hG lk d s9 (by omega) (MSuf_w (fun b => lockM_p (by decide) (by decide) (by decide) (by decide) (by decide) (by decide) (by decide) (by decide)) hp.2.2.2.2.1)) rfl (Nat.le_of_ble_eq_true rfl) (Nat.le_of_ble_eq_true rfl) (Nat.le_of_ble_eq_true rfl) (Nat.le_of_ble_eq_true rfl) (Nat.le_of_ble_eq_true rfl) (az_k1 rfl rfl ?_) (az_k0 rfl)
        refine az_top (hdI (epM m lk (d :: s9) 0)) (congrArg hdI (epM_w (fun b => lockM_p (by decide) (by decide) (by decide) (by decide) (by decide) (by decide) (by decide) (by decide)) (fun b => lockM_p (by decide) (by decide) (by decide) (by decide) (by decide) (by decide) (by decide) (by decide)) (d :: s9) 0)) ?_
        refine az_istore C (lv' := [(5, .int (hdI (epM m lk (d :: s9) 0))), (4, .int (nI (n9 + 1))), (6, .int ((lockM m nr lk false (paM m lk (d :: s9) 0)).2)), (3, .int (nI lk)), (2, .int 0), (1, .int v), (0, .ref (ρ.1 100))]) dX4_passes_141 (by decide) rfl ?_
        refine az_goto C 95 dX4_passes_143 (by decide) ?_
        exact az_lv [0, 1, 3, 4, 5, 6] rfl (ih (epM m lk (d :: s9) 0) (n9 + 1) (by omega) (lockM_ok (by have := hp.2.2.1; omega) hmm) hnx)
      · have eP : (passL nr lk false (n + 1) m (d :: s9) n9) = (refM (lockM m nr lk false (paM m lk (d :: s9) 0)).1 (lockM m nr lk false (paM m lk (d :: s9) 0)).2 (nI lk), 0) := by rw [passL, if_neg hc]
        rw [eP]
        refine az_iload C 0 dX4_passes_95 rfl ?_
        refine az_iconst C (v := (-1)) dX4_passes_97 (by decide) ?_
        refine az_icmp_eq C 146 dX4_passes_98 (by decide) (fun q => absurd q (nI_m1 hd8)) (fun _ => ?_)
        refine az_aload_n C 5 dX4_passes_101 rfl ?_
        refine az_iload C 0 dX4_passes_102 rfl ?_
        refine az_aload_n C 5 dX4_passes_104 rfl ?_
        refine az_iload C 0 dX4_passes_105 rfl ?_
        refine az_iload_n C 2 dX4_passes_107 rfl ?_
        refine az_callV C Y_X4_endOfPart cX4 2 0 [.int (nI d), .int (nI lk)] [.int (nI d), .ref (ρ.1 100)] wm_X4_177 wi_X4_endOfPart wse_X4_endOfPart dX4_passes_108 rfl rfl rfl (Mend hG lk d s9 (by omega) hp.2.2.2.2.1) rfl (Nat.le_of_ble_eq_true rfl) (Nat.le_of_ble_eq_true rfl) (Nat.le_of_ble_eq_true rfl) (Nat.le_of_ble_eq_true rfl) (Nat.le_of_ble_eq_true rfl) (az_k1 rfl rfl ?_) (az_k0 rfl)
        refine az_iload_n C 2 dX4_passes_111 rfl ?_
        refine az_iload_n C 3 dX4_passes_112 rfl ?_
        refine az_callV C Y_X4_locks cX4 2 0 [.int (nI d), .int (hdI (epM m lk (d :: s9) 0)), .int (nI lk), .int 0] [] wm_X4_196 wi_X4_locks wse_X4_locks dX4_passes_113 rfl rfl rfl (hlock) rfl (Nat.le_of_ble_eq_true rfl) (Nat.le_of_ble_eq_true rfl) (Nat.le_of_ble_eq_true rfl) (Nat.le_of_ble_eq_true rfl) (Nat.le_of_ble_eq_true rfl) (az_k1 rfl rfl ?_) (az_k0 rfl)
        refine az_istore C (lv' := [(6, .int ((lockM m nr lk false (paM m lk (d :: s9) 0)).2)), (5, .int (nI d)), (4, .int (nI n9)), (3, .int (nI lk)), (2, .int 0), (1, .int v), (0, .ref (ρ.1 100))]) dX4_passes_116 (by decide) rfl ?_
        refine az_iload C 0 dX4_passes_118 rfl ?_
        refine az_if_eq C 131 dX4_passes_120 (by decide) (fun q => absurd q hc) (fun _ => ?_)
        refine az_aload_n C 6 dX4_passes_123 rfl ?_
        refine az_iload C 0 dX4_passes_124 rfl ?_
        refine az_iload_n C 3 dX4_passes_126 rfl ?_
        refine az_callV C Y_X4_refuses cX4 2 0 [.int ((lockM m nr lk false (paM m lk (d :: s9) 0)).2), .int (nI lk)] [] wm_X4_193 wi_X4_refuses wse_X4_refuses dX4_passes_127 rfl rfl rfl (Mrefuses hG ((lockM m nr lk false (paM m lk (d :: s9) 0)).2) (nI lk)) rfl (Nat.le_of_ble_eq_true rfl) (Nat.le_of_ble_eq_true rfl) (Nat.le_of_ble_eq_true rfl) (Nat.le_of_ble_eq_true rfl) (Nat.le_of_ble_eq_true rfl) (az_k1 rfl rfl ?_) (az_k0 rfl)
        exact az_iret C rfl dX4_passes_130 (Nat.le_of_ble_eq_true rfl) (Nat.le_of_ble_eq_true rfl) ⟨rfl, rfl, rfl⟩

set_option maxHeartbeats 4000000 in
set_option maxRecDepth 100000 in
theorem Mpasses1_1 (hG : az_okS l G) (nr lk b : Nat) (r : List Nat) (f : Nat) (t : List Nat) (hc : MCv m b r f t) (hr : m.1 0 1 = nI nr) (hn : nr ≤ 6) (hk : lk + 2 ≤ nr) (har : MAr m nr) (hnd : (f :: t).Nodup) (hpt : PtOK m (rIn true lk) (f :: t)) (hat : m.1 13 b = nI (rIn true lk)) (hm : mvok m ((t.length + 1) * (2 * nr + 1))) (h1 : ¬ tlM m lk (f :: t) 0 = 0) : az_M l G yX4_passes (az_ws yX4_passes cX4_passes 7 (Option.some FieldType.int)) 6 [.ref (ρ.1 100), .int (nI b), .int 1] (AD ρ) (KK G ρ x m ou) 0 0 (az_r (some (.int 0)) (AD ρ) (KK G ρ x (refM m 1 (nI lk)) ou)) := by
  refine az_start hG.1 (by decide +kernel) (Nat.le_of_ble_eq_true rfl) ?_
  intro p e s mm args below meth c C hnm
  show az_W l G 7 _ p e _ s mm args below meth c _ _ 0 0 0 [(0, .ref (ρ.1 100)), (1, .int (nI b)), (2, .int 1)] []
  have hb8 : b < 8 := hc.1.1
  have hlk5 : lk < 5 := by omega
  refine az_iload_n C 2 dX4_passes_0 rfl ?_
  refine az_if_eq C 13 dX4_passes_1 (by decide) (fun q => absurd q (by decide)) (fun _ => ?_)
  refine az_aload_n C 0 dX4_passes_4 rfl ?_
  refine az_get C cX4 2 0 13 (v := .ref (ρ.1 113)) wl_X4_42 dX4_passes_5 rfl rfl rfl (by decide) ?_
  refine az_iload_n C 1 dX4_passes_8 rfl ?_
  refine az_ialdN C 2 13 b (v := m.1 13 b) dX4_passes_9 rfl rfl (by omega) (by decide) rfl ?_
  refine az_top (nI lk) hat ?_
  refine az_goto C 21 dX4_passes_10 (by decide) ?_
  refine az_istore_n C (lv' := [(3, .int (nI lk)), (0, .ref (ρ.1 100)), (1, .int (nI b)), (2, .int 1)]) (j := 3) rfl dX4_passes_21 (by decide) rfl ?_
  refine az_aload_n C 1 dX4_passes_22 rfl ?_
  refine az_iload_n C 2 dX4_passes_23 rfl ?_
  refine az_iload_n C 0 dX4_passes_24 rfl ?_
  refine az_callV C Y_X4_isTooLong cX4 2 0 [.int (nI b), .int (nI lk)] [] wm_X4_173 wi_X4_isTooLong wse_X4_isTooLong dX4_passes_25 rfl rfl rfl (Mtl hG lk (by omega) b r f t hc) rfl (Nat.le_of_ble_eq_true rfl) (Nat.le_of_ble_eq_true rfl) (Nat.le_of_ble_eq_true rfl) (Nat.le_of_ble_eq_true rfl) (Nat.le_of_ble_eq_true rfl) (az_k1 rfl rfl ?_) (az_k0 rfl)
  refine az_if_eq C 38 dX4_passes_28 (by decide) (fun q => absurd q h1) (fun _ => ?_)
  refine az_aload_n C 1 dX4_passes_31 rfl ?_
  refine az_iconst C (v := 1) dX4_passes_32 (by decide) ?_
  refine az_iload_n C 0 dX4_passes_33 rfl ?_
  refine az_callV C Y_X4_refuses cX4 2 0 [.int 1, .int (nI lk)] [] wm_X4_193 wi_X4_refuses wse_X4_refuses dX4_passes_34 rfl rfl rfl (Mrefuses hG (1) (nI lk)) rfl (Nat.le_of_ble_eq_true rfl) (Nat.le_of_ble_eq_true rfl) (Nat.le_of_ble_eq_true rfl) (Nat.le_of_ble_eq_true rfl) (Nat.le_of_ble_eq_true rfl) (az_k1 rfl rfl ?_) (az_k0 rfl)
  exact az_iret C rfl dX4_passes_37 (Nat.le_of_ble_eq_true rfl) (Nat.le_of_ble_eq_true rfl) ⟨rfl, rfl, rfl⟩

set_option maxHeartbeats 4000000 in
set_option maxRecDepth 100000 in
theorem Mpasses1_2 (hG : az_okS l G) (nr lk b : Nat) (r : List Nat) (f : Nat) (t : List Nat) (hc : MCv m b r f t) (hr : m.1 0 1 = nI nr) (hn : nr ≤ 6) (hk : lk + 2 ≤ nr) (har : MAr m nr) (hnd : (f :: t).Nodup) (hpt : PtOK m (rIn true lk) (f :: t)) (hat : m.1 13 b = nI (rIn true lk)) (hm : mvok m ((t.length + 1) * (2 * nr + 1))) (h1 : tlM m lk (f :: t) 0 = 0) (h2 : sillI m lk (f :: t) = 0) : az_M l G yX4_passes (az_ws yX4_passes cX4_passes 7 (Option.some FieldType.int)) 6 [.ref (ρ.1 100), .int (nI b), .int 1] (AD ρ) (KK G ρ x m ou) 0 0 (az_r (some (.int 0)) (AD ρ) (KK G ρ x (refM m 2 (nI lk)) ou)) := by
  refine az_start hG.1 (by decide +kernel) (Nat.le_of_ble_eq_true rfl) ?_
  intro p e s mm args below meth c C hnm
  show az_W l G 7 _ p e _ s mm args below meth c _ _ 0 0 0 [(0, .ref (ρ.1 100)), (1, .int (nI b)), (2, .int 1)] []
  have hb8 : b < 8 := hc.1.1
  have hlk5 : lk < 5 := by omega
  refine az_iload_n C 2 dX4_passes_0 rfl ?_
  refine az_if_eq C 13 dX4_passes_1 (by decide) (fun q => absurd q (by decide)) (fun _ => ?_)
  refine az_aload_n C 0 dX4_passes_4 rfl ?_
  refine az_get C cX4 2 0 13 (v := .ref (ρ.1 113)) wl_X4_42 dX4_passes_5 rfl rfl rfl (by decide) ?_
  refine az_iload_n C 1 dX4_passes_8 rfl ?_
  refine az_ialdN C 2 13 b (v := m.1 13 b) dX4_passes_9 rfl rfl (by omega) (by decide) rfl ?_
  refine az_top (nI lk) hat ?_
  refine az_goto C 21 dX4_passes_10 (by decide) ?_
  refine az_istore_n C (lv' := [(3, .int (nI lk)), (0, .ref (ρ.1 100)), (1, .int (nI b)), (2, .int 1)]) (j := 3) rfl dX4_passes_21 (by decide) rfl ?_
  refine az_aload_n C 1 dX4_passes_22 rfl ?_
  refine az_iload_n C 2 dX4_passes_23 rfl ?_
  refine az_iload_n C 0 dX4_passes_24 rfl ?_
  refine az_callV C Y_X4_isTooLong cX4 2 0 [.int (nI b), .int (nI lk)] [] wm_X4_173 wi_X4_isTooLong wse_X4_isTooLong dX4_passes_25 rfl rfl rfl (Mtl hG lk (by omega) b r f t hc) rfl (Nat.le_of_ble_eq_true rfl) (Nat.le_of_ble_eq_true rfl) (Nat.le_of_ble_eq_true rfl) (Nat.le_of_ble_eq_true rfl) (Nat.le_of_ble_eq_true rfl) (az_k1 rfl rfl ?_) (az_k0 rfl)
  refine az_if_eq C 38 dX4_passes_28 (by decide) (fun _ => ?_) (fun q => absurd h1 q)
  refine az_aload_n C 1 dX4_passes_38 rfl ?_
  refine az_iload_n C 2 dX4_passes_39 rfl ?_
  refine az_callV C Y_X4_first cX4 2 0 [.int (nI b)] [] wm_X4_167 wi_X4_first wse_X4_first dX4_passes_40 rfl rfl rfl (Mfirst2 hG b r f t hc) rfl (Nat.le_of_ble_eq_true rfl) (Nat.le_of_ble_eq_true rfl) (Nat.le_of_ble_eq_true rfl) (Nat.le_of_ble_eq_true rfl) (Nat.le_of_ble_eq_true rfl) (az_k1 rfl rfl ?_) (az_k0 rfl)
  refine az_istore C (lv' := [(4, .int (nI f)), (3, .int (nI lk)), (0, .ref (ρ.1 100)), (1, .int (nI b)), (2, .int 1)]) dX4_passes_43 (by decide) rfl ?_
  exact az_lv [0, 1, 4, 3, 2] rfl (Msl_1r hG C lk hlk5 (nI b) (f :: t) hc.2.2 (fun d hd => (hpt d hd).2) h2)

set_option maxHeartbeats 4000000 in
set_option maxRecDepth 100000 in
theorem Mpasses1_3 (hG : az_okS l G) (nr lk b : Nat) (r : List Nat) (f : Nat) (t : List Nat) (hc : MCv m b r f t) (hr : m.1 0 1 = nI nr) (hn : nr ≤ 6) (hk : lk + 2 ≤ nr) (har : MAr m nr) (hnd : (f :: t).Nodup) (hpt : PtOK m (rIn true lk) (f :: t)) (hat : m.1 13 b = nI (rIn true lk)) (hm : mvok m ((t.length + 1) * (2 * nr + 1))) (h1 : tlM m lk (f :: t) 0 = 0) (h2 : sillI m lk (f :: t) = 1) : az_M l G yX4_passes (az_ws yX4_passes cX4_passes 7 (Option.some FieldType.int)) 6 [.ref (ρ.1 100), .int (nI b), .int 1] (AD ρ) (KK G ρ x m ou) 0 0 (az_r (some (.int (passL nr lk true (t.length + 1) m (f :: t) 0).2)) (AD ρ) (KK G ρ x (passL nr lk true (t.length + 1) m (f :: t) 0).1 ou)) := by
  refine az_start hG.1 (by decide +kernel) (Nat.le_of_ble_eq_true rfl) ?_
  intro p e s mm args below meth c C hnm
  show az_W l G 7 _ p e _ s mm args below meth c _ _ 0 0 0 [(0, .ref (ρ.1 100)), (1, .int (nI b)), (2, .int 1)] []
  have hb8 : b < 8 := hc.1.1
  have hlk5 : lk < 5 := by omega
  refine az_iload_n C 2 dX4_passes_0 rfl ?_
  refine az_if_eq C 13 dX4_passes_1 (by decide) (fun q => absurd q (by decide)) (fun _ => ?_)
  refine az_aload_n C 0 dX4_passes_4 rfl ?_
  refine az_get C cX4 2 0 13 (v := .ref (ρ.1 113)) wl_X4_42 dX4_passes_5 rfl rfl rfl (by decide) ?_
  refine az_iload_n C 1 dX4_passes_8 rfl ?_
  refine az_ialdN C 2 13 b (v := m.1 13 b) dX4_passes_9 rfl rfl (by omega) (by decide) rfl ?_
  refine az_top (nI lk) hat ?_
  refine az_goto C 21 dX4_passes_10 (by decide) ?_
  refine az_istore_n C (lv' := [(3, .int (nI lk)), (0, .ref (ρ.1 100)), (1, .int (nI b)), (2, .int 1)]) (j := 3) rfl dX4_passes_21 (by decide) rfl ?_
  refine az_aload_n C 1 dX4_passes_22 rfl ?_
  refine az_iload_n C 2 dX4_passes_23 rfl ?_
  refine az_iload_n C 0 dX4_passes_24 rfl ?_
  refine az_callV C Y_X4_isTooLong cX4 2 0 [.int (nI b), .int (nI lk)] [] wm_X4_173 wi_X4_isTooLong wse_X4_isTooLong dX4_passes_25 rfl rfl rfl (Mtl hG lk (by omega) b r f t hc) rfl (Nat.le_of_ble_eq_true rfl) (Nat.le_of_ble_eq_true rfl) (Nat.le_of_ble_eq_true rfl) (Nat.le_of_ble_eq_true rfl) (Nat.le_of_ble_eq_true rfl) (az_k1 rfl rfl ?_) (az_k0 rfl)
  refine az_if_eq C 38 dX4_passes_28 (by decide) (fun _ => ?_) (fun q => absurd h1 q)
  refine az_aload_n C 1 dX4_passes_38 rfl ?_
  refine az_iload_n C 2 dX4_passes_39 rfl ?_
  refine az_callV C Y_X4_first cX4 2 0 [.int (nI b)] [] wm_X4_167 wi_X4_first wse_X4_first dX4_passes_40 rfl rfl rfl (Mfirst2 hG b r f t hc) rfl (Nat.le_of_ble_eq_true rfl) (Nat.le_of_ble_eq_true rfl) (Nat.le_of_ble_eq_true rfl) (Nat.le_of_ble_eq_true rfl) (Nat.le_of_ble_eq_true rfl) (az_k1 rfl rfl ?_) (az_k0 rfl)
  refine az_istore C (lv' := [(4, .int (nI f)), (3, .int (nI lk)), (0, .ref (ρ.1 100)), (1, .int (nI b)), (2, .int 1)]) dX4_passes_43 (by decide) rfl ?_
  refine az_lv [0, 1, 4, 3, 2] rfl (Msl_1c hG C lk hlk5 (nI b) (f :: t) hc.2.2 (fun d hd => (hpt d hd).2) h2 ?_)
  refine az_iconst C (v := 0) dX4_passes_85 (by decide) ?_
  refine az_istore C (lv' := [(4, .int 0), (3, .int (nI lk)), (2, .int 1), (1, .int (nI b)), (0, .ref (ρ.1 100))]) dX4_passes_86 (by decide) rfl ?_
  refine az_aload_n C 4 dX4_passes_88 rfl ?_
  refine az_iload_n C 3 dX4_passes_89 rfl ?_
  refine az_callV C Y_X4_first cX4 2 0 [.int (nI b)] [] wm_X4_167 wi_X4_first wse_X4_first dX4_passes_90 rfl rfl rfl (Mfirst2 hG b r f t hc) rfl (Nat.le_of_ble_eq_true rfl) (Nat.le_of_ble_eq_true rfl) (Nat.le_of_ble_eq_true rfl) (Nat.le_of_ble_eq_true rfl) (Nat.le_of_ble_eq_true rfl) (az_k1 rfl rfl ?_) (az_k0 rfl)
  refine az_istore C (lv' := [(5, .int (nI f)), (4, .int 0), (3, .int (nI lk)), (2, .int 1), (1, .int (nI b)), (0, .ref (ρ.1 100))]) dX4_passes_93 (by decide) rfl ?_
  exact az_lv [0, 1, 2, 3, 4, 5] rfl (Mpass_1 hG C nr lk (nI b) (t.length + 1) (f :: t) 0 (Nat.le_refl _) hm ⟨hr, hn, hk, har, hc.2.2, hnd, hpt, tlM_0 (f :: t) h1⟩)

theorem Mpasses1 (hG : az_okS l G) (nr lk b : Nat) (r : List Nat) (f : Nat) (t : List Nat) (hc : MCv m b r f t) (hr : m.1 0 1 = nI nr) (hn : nr ≤ 6) (hk : lk + 2 ≤ nr) (har : MAr m nr) (hnd : (f :: t).Nodup) (hpt : PtOK m (rIn true lk) (f :: t)) (hat : m.1 13 b = nI (rIn true lk)) (hm : mvok m ((t.length + 1) * (2 * nr + 1))) : az_M l G yX4_passes (az_ws yX4_passes cX4_passes 7 (Option.some FieldType.int)) 6 [.ref (ρ.1 100), .int (nI b), .int 1] (AD ρ) (KK G ρ x m ou) 0 0 (az_r (some (.int (passM m nr lk true f t).2)) (AD ρ) (KK G ρ x (passM m nr lk true f t).1 ou)) := by
  by_cases h1 : tlM m lk (f :: t) 0 = 0
  · rcases sillI_01 (m := m) (lk := lk) (f :: t) with h2 | h2
    · have e : passM m nr lk true f t = (refM m 2 (nI lk), 0) := by unfold passM; rw [if_pos h1, if_pos h2]
      rw [e]; exact Mpasses1_2 hG nr lk b r f t hc hr hn hk har hnd hpt hat hm h1 h2
    · have e : passM m nr lk true f t = passL nr lk true (t.length + 1) m (f :: t) 0 := by unfold passM; rw [if_pos h1, if_neg (by rw [h2]; decide)]
      rw [e]; exact Mpasses1_3 hG nr lk b r f t hc hr hn hk har hnd hpt hat hm h1 h2
  · have e : passM m nr lk true f t = (refM m 1 (nI lk), 0) := by unfold passM; rw [if_neg h1]
    rw [e]; exact Mpasses1_1 hG nr lk b r f t hc hr hn hk har hnd hpt hat hm h1
set_option maxHeartbeats 4000000 in
set_option maxRecDepth 100000 in
theorem Mpasses0_1 (hG : az_okS l G) (nr lk b : Nat) (r : List Nat) (f : Nat) (t : List Nat) (hc : MCv m b r f t) (hr : m.1 0 1 = nI nr) (hn : nr ≤ 6) (hk : lk + 2 ≤ nr) (har : MAr m nr) (hnd : (f :: t).Nodup) (hpt : PtOK m (rIn false lk) (f :: t)) (hat : m.1 13 b = nI (rIn false lk)) (hm : mvok m ((t.length + 1) * (2 * nr + 1))) (h1 : ¬ tlM m lk (f :: t) 0 = 0) : az_M l G yX4_passes (az_ws yX4_passes cX4_passes 7 (Option.some FieldType.int)) 6 [.ref (ρ.1 100), .int (nI b), .int 0] (AD ρ) (KK G ρ x m ou) 0 0 (az_r (some (.int 0)) (AD ρ) (KK G ρ x (refM m 1 (nI lk)) ou)) := by
  refine az_start hG.1 (by decide +kernel) (Nat.le_of_ble_eq_true rfl) ?_
  intro p e s mm args below meth c C hnm
  show az_W l G 7 _ p e _ s mm args below meth c _ _ 0 0 0 [(0, .ref (ρ.1 100)), (1, .int (nI b)), (2, .int 0)] []
  have hb8 : b < 8 := hc.1.1
  have hlk5 : lk < 5 := by omega
  refine az_iload_n C 2 dX4_passes_0 rfl ?_
  refine az_if_eq C 13 dX4_passes_1 (by decide) (fun _ => ?_) (fun q => absurd (by decide) q)
  refine az_aload_n C 0 dX4_passes_13 rfl ?_
  refine az_get C cX4 2 0 13 (v := .ref (ρ.1 113)) wl_X4_42 dX4_passes_14 rfl rfl rfl (by decide) ?_
  refine az_iload_n C 1 dX4_passes_17 rfl ?_
  refine az_ialdN C 2 13 b (v := m.1 13 b) dX4_passes_18 rfl rfl (by omega) (by decide) rfl ?_
  refine az_top (nI (lk + 1)) hat ?_
  refine az_iconst C (v := 1) dX4_passes_19 (by decide) ?_
  refine az_isub C dX4_passes_20 ?_
  refine az_top (nI lk) (show nI (lk + 1) - 1 = nI lk from pk_sub (b := 1) (by omega)) ?_
  refine az_istore_n C (lv' := [(3, .int (nI lk)), (0, .ref (ρ.1 100)), (1, .int (nI b)), (2, .int 0)]) (j := 3) rfl dX4_passes_21 (by decide) rfl ?_
  refine az_aload_n C 1 dX4_passes_22 rfl ?_
  refine az_iload_n C 2 dX4_passes_23 rfl ?_
  refine az_iload_n C 0 dX4_passes_24 rfl ?_
  refine az_callV C Y_X4_isTooLong cX4 2 0 [.int (nI b), .int (nI lk)] [] wm_X4_173 wi_X4_isTooLong wse_X4_isTooLong dX4_passes_25 rfl rfl rfl (Mtl hG lk (by omega) b r f t hc) rfl (Nat.le_of_ble_eq_true rfl) (Nat.le_of_ble_eq_true rfl) (Nat.le_of_ble_eq_true rfl) (Nat.le_of_ble_eq_true rfl) (Nat.le_of_ble_eq_true rfl) (az_k1 rfl rfl ?_) (az_k0 rfl)
  refine az_if_eq C 38 dX4_passes_28 (by decide) (fun q => absurd q h1) (fun _ => ?_)
  refine az_aload_n C 1 dX4_passes_31 rfl ?_
  refine az_iconst C (v := 1) dX4_passes_32 (by decide) ?_
  refine az_iload_n C 0 dX4_passes_33 rfl ?_
  refine az_callV C Y_X4_refuses cX4 2 0 [.int 1, .int (nI lk)] [] wm_X4_193 wi_X4_refuses wse_X4_refuses dX4_passes_34 rfl rfl rfl (Mrefuses hG (1) (nI lk)) rfl (Nat.le_of_ble_eq_true rfl) (Nat.le_of_ble_eq_true rfl) (Nat.le_of_ble_eq_true rfl) (Nat.le_of_ble_eq_true rfl) (Nat.le_of_ble_eq_true rfl) (az_k1 rfl rfl ?_) (az_k0 rfl)
  exact az_iret C rfl dX4_passes_37 (Nat.le_of_ble_eq_true rfl) (Nat.le_of_ble_eq_true rfl) ⟨rfl, rfl, rfl⟩

set_option maxHeartbeats 4000000 in
set_option maxRecDepth 100000 in
theorem Mpasses0_2 (hG : az_okS l G) (nr lk b : Nat) (r : List Nat) (f : Nat) (t : List Nat) (hc : MCv m b r f t) (hr : m.1 0 1 = nI nr) (hn : nr ≤ 6) (hk : lk + 2 ≤ nr) (har : MAr m nr) (hnd : (f :: t).Nodup) (hpt : PtOK m (rIn false lk) (f :: t)) (hat : m.1 13 b = nI (rIn false lk)) (hm : mvok m ((t.length + 1) * (2 * nr + 1))) (h1 : tlM m lk (f :: t) 0 = 0) (h2 : sillI m lk (f :: t) = 0) : az_M l G yX4_passes (az_ws yX4_passes cX4_passes 7 (Option.some FieldType.int)) 6 [.ref (ρ.1 100), .int (nI b), .int 0] (AD ρ) (KK G ρ x m ou) 0 0 (az_r (some (.int 0)) (AD ρ) (KK G ρ x (refM m 2 (nI lk)) ou)) := by
  refine az_start hG.1 (by decide +kernel) (Nat.le_of_ble_eq_true rfl) ?_
  intro p e s mm args below meth c C hnm
  show az_W l G 7 _ p e _ s mm args below meth c _ _ 0 0 0 [(0, .ref (ρ.1 100)), (1, .int (nI b)), (2, .int 0)] []
  have hb8 : b < 8 := hc.1.1
  have hlk5 : lk < 5 := by omega
  refine az_iload_n C 2 dX4_passes_0 rfl ?_
  refine az_if_eq C 13 dX4_passes_1 (by decide) (fun _ => ?_) (fun q => absurd (by decide) q)
  refine az_aload_n C 0 dX4_passes_13 rfl ?_
  refine az_get C cX4 2 0 13 (v := .ref (ρ.1 113)) wl_X4_42 dX4_passes_14 rfl rfl rfl (by decide) ?_
  refine az_iload_n C 1 dX4_passes_17 rfl ?_
  refine az_ialdN C 2 13 b (v := m.1 13 b) dX4_passes_18 rfl rfl (by omega) (by decide) rfl ?_
  refine az_top (nI (lk + 1)) hat ?_
  refine az_iconst C (v := 1) dX4_passes_19 (by decide) ?_
  refine az_isub C dX4_passes_20 ?_
  refine az_top (nI lk) (show nI (lk + 1) - 1 = nI lk from pk_sub (b := 1) (by omega)) ?_
  refine az_istore_n C (lv' := [(3, .int (nI lk)), (0, .ref (ρ.1 100)), (1, .int (nI b)), (2, .int 0)]) (j := 3) rfl dX4_passes_21 (by decide) rfl ?_
  refine az_aload_n C 1 dX4_passes_22 rfl ?_
  refine az_iload_n C 2 dX4_passes_23 rfl ?_
  refine az_iload_n C 0 dX4_passes_24 rfl ?_
  refine az_callV C Y_X4_isTooLong cX4 2 0 [.int (nI b), .int (nI lk)] [] wm_X4_173 wi_X4_isTooLong wse_X4_isTooLong dX4_passes_25 rfl rfl rfl (Mtl hG lk (by omega) b r f t hc) rfl (Nat.le_of_ble_eq_true rfl) (Nat.le_of_ble_eq_true rfl) (Nat.le_of_ble_eq_true rfl) (Nat.le_of_ble_eq_true rfl) (Nat.le_of_ble_eq_true rfl) (az_k1 rfl rfl ?_) (az_k0 rfl)
  refine az_if_eq C 38 dX4_passes_28 (by decide) (fun _ => ?_) (fun q => absurd h1 q)
  refine az_aload_n C 1 dX4_passes_38 rfl ?_
  refine az_iload_n C 2 dX4_passes_39 rfl ?_
  refine az_callV C Y_X4_first cX4 2 0 [.int (nI b)] [] wm_X4_167 wi_X4_first wse_X4_first dX4_passes_40 rfl rfl rfl (Mfirst2 hG b r f t hc) rfl (Nat.le_of_ble_eq_true rfl) (Nat.le_of_ble_eq_true rfl) (Nat.le_of_ble_eq_true rfl) (Nat.le_of_ble_eq_true rfl) (Nat.le_of_ble_eq_true rfl) (az_k1 rfl rfl ?_) (az_k0 rfl)
  refine az_istore C (lv' := [(4, .int (nI f)), (3, .int (nI lk)), (0, .ref (ρ.1 100)), (1, .int (nI b)), (2, .int 0)]) dX4_passes_43 (by decide) rfl ?_
  exact az_lv [0, 1, 4, 3, 2] rfl (Msl_0r hG C lk hlk5 (nI b) (f :: t) hc.2.2 (fun d hd => (hpt d hd).2) h2)

set_option maxHeartbeats 4000000 in
set_option maxRecDepth 100000 in
theorem Mpasses0_3 (hG : az_okS l G) (nr lk b : Nat) (r : List Nat) (f : Nat) (t : List Nat) (hc : MCv m b r f t) (hr : m.1 0 1 = nI nr) (hn : nr ≤ 6) (hk : lk + 2 ≤ nr) (har : MAr m nr) (hnd : (f :: t).Nodup) (hpt : PtOK m (rIn false lk) (f :: t)) (hat : m.1 13 b = nI (rIn false lk)) (hm : mvok m ((t.length + 1) * (2 * nr + 1))) (h1 : tlM m lk (f :: t) 0 = 0) (h2 : sillI m lk (f :: t) = 1) : az_M l G yX4_passes (az_ws yX4_passes cX4_passes 7 (Option.some FieldType.int)) 6 [.ref (ρ.1 100), .int (nI b), .int 0] (AD ρ) (KK G ρ x m ou) 0 0 (az_r (some (.int (passL nr lk false (t.length + 1) m (f :: t) 0).2)) (AD ρ) (KK G ρ x (passL nr lk false (t.length + 1) m (f :: t) 0).1 ou)) := by
  refine az_start hG.1 (by decide +kernel) (Nat.le_of_ble_eq_true rfl) ?_
  intro p e s mm args below meth c C hnm
  show az_W l G 7 _ p e _ s mm args below meth c _ _ 0 0 0 [(0, .ref (ρ.1 100)), (1, .int (nI b)), (2, .int 0)] []
  have hb8 : b < 8 := hc.1.1
  have hlk5 : lk < 5 := by omega
  refine az_iload_n C 2 dX4_passes_0 rfl ?_
  refine az_if_eq C 13 dX4_passes_1 (by decide) (fun _ => ?_) (fun q => absurd (by decide) q)
  refine az_aload_n C 0 dX4_passes_13 rfl ?_
  refine az_get C cX4 2 0 13 (v := .ref (ρ.1 113)) wl_X4_42 dX4_passes_14 rfl rfl rfl (by decide) ?_
  refine az_iload_n C 1 dX4_passes_17 rfl ?_
  refine az_ialdN C 2 13 b (v := m.1 13 b) dX4_passes_18 rfl rfl (by omega) (by decide) rfl ?_
  refine az_top (nI (lk + 1)) hat ?_
  refine az_iconst C (v := 1) dX4_passes_19 (by decide) ?_
  refine az_isub C dX4_passes_20 ?_
  refine az_top (nI lk) (show nI (lk + 1) - 1 = nI lk from pk_sub (b := 1) (by omega)) ?_
  refine az_istore_n C (lv' := [(3, .int (nI lk)), (0, .ref (ρ.1 100)), (1, .int (nI b)), (2, .int 0)]) (j := 3) rfl dX4_passes_21 (by decide) rfl ?_
  refine az_aload_n C 1 dX4_passes_22 rfl ?_
  refine az_iload_n C 2 dX4_passes_23 rfl ?_
  refine az_iload_n C 0 dX4_passes_24 rfl ?_
  refine az_callV C Y_X4_isTooLong cX4 2 0 [.int (nI b), .int (nI lk)] [] wm_X4_173 wi_X4_isTooLong wse_X4_isTooLong dX4_passes_25 rfl rfl rfl (Mtl hG lk (by omega) b r f t hc) rfl (Nat.le_of_ble_eq_true rfl) (Nat.le_of_ble_eq_true rfl) (Nat.le_of_ble_eq_true rfl) (Nat.le_of_ble_eq_true rfl) (Nat.le_of_ble_eq_true rfl) (az_k1 rfl rfl ?_) (az_k0 rfl)
  refine az_if_eq C 38 dX4_passes_28 (by decide) (fun _ => ?_) (fun q => absurd h1 q)
  refine az_aload_n C 1 dX4_passes_38 rfl ?_
  refine az_iload_n C 2 dX4_passes_39 rfl ?_
  refine az_callV C Y_X4_first cX4 2 0 [.int (nI b)] [] wm_X4_167 wi_X4_first wse_X4_first dX4_passes_40 rfl rfl rfl (Mfirst2 hG b r f t hc) rfl (Nat.le_of_ble_eq_true rfl) (Nat.le_of_ble_eq_true rfl) (Nat.le_of_ble_eq_true rfl) (Nat.le_of_ble_eq_true rfl) (Nat.le_of_ble_eq_true rfl) (az_k1 rfl rfl ?_) (az_k0 rfl)
  refine az_istore C (lv' := [(4, .int (nI f)), (3, .int (nI lk)), (0, .ref (ρ.1 100)), (1, .int (nI b)), (2, .int 0)]) dX4_passes_43 (by decide) rfl ?_
  refine az_lv [0, 1, 4, 3, 2] rfl (Msl_0c hG C lk hlk5 (nI b) (f :: t) hc.2.2 (fun d hd => (hpt d hd).2) h2 ?_)
  refine az_iconst C (v := 0) dX4_passes_85 (by decide) ?_
  refine az_istore C (lv' := [(4, .int 0), (3, .int (nI lk)), (2, .int 0), (1, .int (nI b)), (0, .ref (ρ.1 100))]) dX4_passes_86 (by decide) rfl ?_
  refine az_aload_n C 4 dX4_passes_88 rfl ?_
  refine az_iload_n C 3 dX4_passes_89 rfl ?_
  refine az_callV C Y_X4_first cX4 2 0 [.int (nI b)] [] wm_X4_167 wi_X4_first wse_X4_first dX4_passes_90 rfl rfl rfl (Mfirst2 hG b r f t hc) rfl (Nat.le_of_ble_eq_true rfl) (Nat.le_of_ble_eq_true rfl) (Nat.le_of_ble_eq_true rfl) (Nat.le_of_ble_eq_true rfl) (Nat.le_of_ble_eq_true rfl) (az_k1 rfl rfl ?_) (az_k0 rfl)
  refine az_istore C (lv' := [(5, .int (nI f)), (4, .int 0), (3, .int (nI lk)), (2, .int 0), (1, .int (nI b)), (0, .ref (ρ.1 100))]) dX4_passes_93 (by decide) rfl ?_
  exact az_lv [0, 1, 2, 3, 4, 5] rfl (Mpass_0 hG C nr lk (nI b) (t.length + 1) (f :: t) 0 (Nat.le_refl _) hm ⟨hr, hn, hk, har, hc.2.2, hnd, hpt, tlM_0 (f :: t) h1⟩)

theorem Mpasses0 (hG : az_okS l G) (nr lk b : Nat) (r : List Nat) (f : Nat) (t : List Nat) (hc : MCv m b r f t) (hr : m.1 0 1 = nI nr) (hn : nr ≤ 6) (hk : lk + 2 ≤ nr) (har : MAr m nr) (hnd : (f :: t).Nodup) (hpt : PtOK m (rIn false lk) (f :: t)) (hat : m.1 13 b = nI (rIn false lk)) (hm : mvok m ((t.length + 1) * (2 * nr + 1))) : az_M l G yX4_passes (az_ws yX4_passes cX4_passes 7 (Option.some FieldType.int)) 6 [.ref (ρ.1 100), .int (nI b), .int 0] (AD ρ) (KK G ρ x m ou) 0 0 (az_r (some (.int (passM m nr lk false f t).2)) (AD ρ) (KK G ρ x (passM m nr lk false f t).1 ou)) := by
  by_cases h1 : tlM m lk (f :: t) 0 = 0
  · rcases sillI_01 (m := m) (lk := lk) (f :: t) with h2 | h2
    · have e : passM m nr lk false f t = (refM m 2 (nI lk), 0) := by unfold passM; rw [if_pos h1, if_pos h2]
      rw [e]; exact Mpasses0_2 hG nr lk b r f t hc hr hn hk har hnd hpt hat hm h1 h2
    · have e : passM m nr lk false f t = passL nr lk false (t.length + 1) m (f :: t) 0 := by unfold passM; rw [if_pos h1, if_neg (by rw [h2]; decide)]
      rw [e]; exact Mpasses0_3 hG nr lk b r f t hc hr hn hk har hnd hpt hat hm h1 h2
  · have e : passM m nr lk false f t = (refM m 1 (nI lk), 0) := by unfold passM; rw [if_neg h1]
    rw [e]; exact Mpasses0_1 hG nr lk b r f t hc hr hn hk har hnd hpt hat hm h1
set_option maxHeartbeats 4000000 in
set_option maxRecDepth 100000 in
theorem Mends1 (hG : az_okS l G) (v u : Int32) (hv : 0 < v) : az_M l G yX4_ends (az_ws yX4_ends cX4_ends 3 (Option.some FieldType.int)) 2 [.ref (ρ.1 100), .int v, .int u] (AD ρ) (KK G ρ x m ou) 0 0 (az_r (some (.int v)) (AD ρ) (KK G ρ x (mI m 0 0 0) ou)) := by
  refine az_start hG.1 (by decide +kernel) (Nat.le_of_ble_eq_true rfl) ?_
  intro p e s mm args below meth c C hnm
  show az_W l G 3 _ p e _ s mm args below meth c _ _ 0 0 0 [(0, .ref (ρ.1 100)), (1, .int v), (2, .int u)] []
  refine az_iload_n C 1 dX4_ends_0 rfl ?_
  refine az_if_le C 10 dX4_ends_1 (by decide) (fun q => absurd q (Int32.not_le.mpr hv)) (fun _ => ?_)
  refine az_aload_n C 0 dX4_ends_4 rfl ?_
  refine az_iload_n C 1 dX4_ends_5 rfl ?_
  refine az_callV C Y_X4_tells cX4 2 0 [.int v] [] wm_X4_125 wi_X4_tells wse_X4_tells dX4_ends_6 rfl rfl rfl (Mtells hG (v)) rfl (Nat.le_of_ble_eq_true rfl) (Nat.le_of_ble_eq_true rfl) (Nat.le_of_ble_eq_true rfl) (Nat.le_of_ble_eq_true rfl) (Nat.le_of_ble_eq_true rfl) (az_k1 rfl rfl ?_) (az_k0 rfl)
  exact az_iret C rfl dX4_ends_9 (Nat.le_of_ble_eq_true rfl) (Nat.le_of_ble_eq_true rfl) ⟨rfl, rfl, rfl⟩

def endsM (m : Ms) (u : Int32) : Ms := (mI (mI (mI (backM m) 0 30 ((backM m).1 0 28)) 0 31 ((backM m).1 0 29)) 0 0 u)
set_option maxHeartbeats 4000000 in
set_option maxRecDepth 100000 in
theorem Mends0 (hG : az_okS l G) (u : Int32) : az_M l G yX4_ends (az_ws yX4_ends cX4_ends 3 (Option.some FieldType.int)) 2 [.ref (ρ.1 100), .int 0, .int u] (AD ρ) (KK G ρ x m ou) 0 0 (az_r (some (.int 0)) (AD ρ) (KK G ρ x (endsM m u) ou)) := by
  refine az_start hG.1 (by decide +kernel) (Nat.le_of_ble_eq_true rfl) ?_
  intro p e s mm args below meth c C hnm
  show az_W l G 3 _ p e _ s mm args below meth c _ _ 0 0 0 [(0, .ref (ρ.1 100)), (1, .int 0), (2, .int u)] []
  refine az_iload_n C 1 dX4_ends_0 rfl ?_
  refine az_if_le C 10 dX4_ends_1 (by decide) (fun _ => ?_) (fun q => absurd (by decide) q)
  refine az_aload_n C 0 dX4_ends_10 rfl ?_
  refine az_callV C Y_X4_takesBack cX4 2 0 [] [] wm_X4_204 wi_X4_takesBack wse_X4_takesBack dX4_ends_11 rfl rfl rfl (MtakesBack hG) rfl (Nat.le_of_ble_eq_true rfl) (Nat.le_of_ble_eq_true rfl) (Nat.le_of_ble_eq_true rfl) (Nat.le_of_ble_eq_true rfl) (Nat.le_of_ble_eq_true rfl) (az_k1 rfl rfl ?_) (az_k0 rfl)
  refine az_aload_n C 0 dX4_ends_14 rfl ?_
  refine az_aload_n C 0 dX4_ends_15 rfl ?_
  refine az_get C cX4 2 0 28 (v := .int ((backM m).1 0 28)) wl_X4_187 dX4_ends_16 rfl rfl rfl (by decide) ?_
  refine az_put C cX4 2 0 30 wl_X4_207 dX4_ends_19 rfl rfl (by decide) (Nat.le_of_ble_eq_true rfl) rfl rfl rfl (az_to rfl (K' := (KK G ρ x (mI (backM m) 0 30 ((backM m).1 0 28)) ou)) (KK_M rfl) ?_)
  refine az_aload_n C 0 dX4_ends_22 rfl ?_
  refine az_aload_n C 0 dX4_ends_23 rfl ?_
  refine az_get C cX4 2 0 29 (v := .int ((backM m).1 0 29)) wl_X4_190 dX4_ends_24 rfl rfl rfl (by decide) ?_
  refine az_put C cX4 2 0 31 wl_X4_210 dX4_ends_27 rfl rfl (by decide) (Nat.le_of_ble_eq_true rfl) rfl rfl rfl (az_to rfl (K' := (KK G ρ x (mI (mI (backM m) 0 30 ((backM m).1 0 28)) 0 31 ((backM m).1 0 29)) ou)) (KK_M rfl) ?_)
  refine az_aload_n C 0 dX4_ends_30 rfl ?_
  refine az_iload_n C 2 dX4_ends_31 rfl ?_
  refine az_callV C Y_X4_fails cX4 2 0 [.int u] [] wm_X4_121 wi_X4_fails wse_X4_fails dX4_ends_32 rfl rfl rfl (Mfails hG (u)) rfl (Nat.le_of_ble_eq_true rfl) (Nat.le_of_ble_eq_true rfl) (Nat.le_of_ble_eq_true rfl) (Nat.le_of_ble_eq_true rfl) (Nat.le_of_ble_eq_true rfl) (az_k1 rfl rfl ?_) (az_k0 rfl)
  exact az_iret C rfl dX4_ends_35 (Nat.le_of_ble_eq_true rfl) (Nat.le_of_ble_eq_true rfl) ⟨rfl, rfl, rfl⟩

end
