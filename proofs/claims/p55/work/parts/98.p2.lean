section
variable {l : Launch} {G : az_G} {ρ : Rp} {x : Xs} {m : Mz} {ou : Nat → Int64}
theorem az_ncs_mem {q : String × String} (h : az_ncs.contains q = true) : q ∈ az_ncs := List.contains_iff_mem.mp h
set_option maxHeartbeats 4000000 in
set_option maxRecDepth 100000 in
theorem H_addReach (hG : az_okS l G) (p0 p1 p2 p3 p4 : Int32) {d mc ms : Nat} {post post' : az_O → az_A → az_K → Prop} (hd : d ≤ 9) (hM : az_M l G yX3_addReach (az_ws yX3_addReach cX3_addReach 7 (some FieldType.int)) d (.ref (ρ.1 0) :: [.int p0, .int p1, .int p2, .int p3, .int p4]) (AD ρ) (KK G ρ x m ou) mc ms post) (hv : ∀ (v : Option Value) (ad' : az_A) (K' : az_K), post (.inl v) ad' K' → ∃ u : Int32, v = some (.int u) ∧ post' (.inl (some (.int u))) ad' K') (hx : ∀ (E : String) (ad' : az_A) (K' : az_K), post (.inr E) ad' K' → (E = "java/lang/IllegalArgumentException" ∧ post' (.inl (some (.int (-1001)))) ad' K') ∨ (E = "java/lang/IllegalStateException" ∧ post' (.inl (some (.int (-1002)))) ad' K')) : az_M l G yL_addReach (az_wsH yL_addReach cL_addReach 7 (some FieldType.int) [(0, 11, 12, 20), (0, 11, 18, 22)]) 10 (.ref (ρ.1 0) :: [.int p0, .int p1, .int p2, .int p3, .int p4]) (AD ρ) (KK G ρ x m ou) mc ms post' := by
  refine az_startH hG.1 (by decide +kernel) (Nat.le_of_ble_eq_true rfl) ?_
  intro p e s mm args below meth c C
  show az_W l G 7 _ p e _ s mm args below meth c _ _ 0 0 0 [(0, .ref (ρ.1 0)), (1, .int p0), (2, .int p1), (3, .int p2), (4, .int p3), (5, .int p4)] []
  refine az_aload_n C 0 dL_addReach_0 rfl ?_
  refine az_iload_n C 1 dL_addReach_1 rfl ?_
  refine az_iload_n C 2 dL_addReach_2 rfl ?_
  refine az_iload_n C 3 dL_addReach_3 rfl ?_
  refine az_iload C 4 dL_addReach_4 rfl ?_
  refine az_iload C 5 dL_addReach_6 rfl ?_
  refine az_callV C Y_X3_addReach cX3 0 0 [.int p0, .int p1, .int p2, .int p3, .int p4] [] wm_L_14 wi_X3_addReach wse_X3_addReach dL_addReach_8 rfl rfl rfl hM rfl (Nat.le_of_ble_eq_true rfl) (by show d + 1 ≤ 10; omega) (by show 19 + 7 + 40 * d ≤ 400; omega) (Nat.le_of_eq (Nat.zero_add _)) (Nat.le_of_eq (Nat.zero_add _)) (fun v ad9 K9 hp => ?_) (fun E ad9 K9 hp => ?_)
  · obtain ⟨u, rfl, hp'⟩ := hv _ _ _ hp
    exact az_iret C rfl dL_addReach_11 (Nat.le_of_eq (Nat.zero_add _)) (Nat.le_of_eq (Nat.zero_add _)) hp'
  · rcases hx _ _ _ hp with ⟨rfl, hp'⟩ | ⟨rfl, hp'⟩
    · refine az_catch C hG [] ⟨0, 11, 12, 20⟩ [⟨0, 11, 18, 22⟩] rfl (fun z hz => absurd hz List.not_mem_nil) (by decide +kernel) (by decide) wk_L_20 nx_IAE (fun q => ?_)
      refine az_astore C (lv' := [(6, .ref q), (0, .ref (ρ.1 0)), (1, .int p0), (2, .int p1), (3, .int p2), (4, .int p3), (5, .int p4)]) dL_addReach_12 (by decide) rfl ?_
      refine az_sipush C (v := (-1001)) dL_addReach_14 (by decide) ?_
      exact az_iret C rfl dL_addReach_17 (Nat.le_of_eq (Nat.zero_add _)) (Nat.le_of_eq (Nat.zero_add _)) hp'
    · refine az_catch C hG [⟨0, 11, 12, 20⟩] ⟨0, 11, 18, 22⟩ [] rfl (List.forall_mem_cons.mpr ⟨⟨(show (20 : Nat) ≠ 0 by decide), "java/lang/IllegalArgumentException", wk_L_20, az_ncs_mem (by decide +kernel)⟩, (fun z hz => absurd hz List.not_mem_nil)⟩) (by decide +kernel) (by decide) wk_L_22 nx_ISE (fun q => ?_)
      refine az_astore C (lv' := [(6, .ref q), (0, .ref (ρ.1 0)), (1, .int p0), (2, .int p1), (3, .int p2), (4, .int p3), (5, .int p4)]) dL_addReach_18 (by decide) rfl ?_
      refine az_sipush C (v := (-1002)) dL_addReach_20 (by decide) ?_
      exact az_iret C rfl dL_addReach_23 (Nat.le_of_eq (Nat.zero_add _)) (Nat.le_of_eq (Nat.zero_add _)) hp'
set_option maxHeartbeats 4000000 in
set_option maxRecDepth 100000 in
theorem H_areaOf (hG : az_okS l G) (p0 : Int32) {d mc ms : Nat} {post post' : az_O → az_A → az_K → Prop} (hd : d ≤ 9) (hM : az_M l G yX3_areaOf (az_ws yX3_areaOf cX3_areaOf 2 (some FieldType.int)) d (.ref (ρ.1 0) :: [.int p0]) (AD ρ) (KK G ρ x m ou) mc ms post) (hv : ∀ (v : Option Value) (ad' : az_A) (K' : az_K), post (.inl v) ad' K' → ∃ u : Int32, v = some (.int u) ∧ post' (.inl (some (.int u))) ad' K') (hx : ∀ (E : String) (ad' : az_A) (K' : az_K), post (.inr E) ad' K' → (E = "java/lang/IndexOutOfBoundsException" ∧ post' (.inl (some (.int (-1001)))) ad' K')) : az_M l G yL_areaOf (az_wsH yL_areaOf cL_areaOf 3 (some FieldType.int) [(0, 5, 6, 28)]) 10 (.ref (ρ.1 0) :: [.int p0]) (AD ρ) (KK G ρ x m ou) mc ms post' := by
  refine az_startH hG.1 (by decide +kernel) (Nat.le_of_ble_eq_true rfl) ?_
  intro p e s mm args below meth c C
  show az_W l G 3 _ p e _ s mm args below meth c _ _ 0 0 0 [(0, .ref (ρ.1 0)), (1, .int p0)] []
  refine az_aload_n C 0 dL_areaOf_0 rfl ?_
  refine az_iload_n C 1 dL_areaOf_1 rfl ?_
  refine az_callV C Y_X3_areaOf cX3 0 0 [.int p0] [] wm_L_24 wi_X3_areaOf wse_X3_areaOf dL_areaOf_2 rfl rfl rfl hM rfl (Nat.le_of_ble_eq_true rfl) (by show d + 1 ≤ 10; omega) (by show 19 + 2 + 40 * d ≤ 400; omega) (Nat.le_of_eq (Nat.zero_add _)) (Nat.le_of_eq (Nat.zero_add _)) (fun v ad9 K9 hp => ?_) (fun E ad9 K9 hp => ?_)
  · obtain ⟨u, rfl, hp'⟩ := hv _ _ _ hp
    exact az_iret C rfl dL_areaOf_5 (Nat.le_of_eq (Nat.zero_add _)) (Nat.le_of_eq (Nat.zero_add _)) hp'
  · rcases hx _ _ _ hp with ⟨rfl, hp'⟩
    · refine az_catch C hG [] ⟨0, 5, 6, 28⟩ [] rfl (fun z hz => absurd hz List.not_mem_nil) (by decide +kernel) (by decide) wk_L_28 nx_IOB (fun q => ?_)
      refine az_astore_n C (lv' := [(2, .ref q), (0, .ref (ρ.1 0)), (1, .int p0)]) (j := 2) rfl dL_areaOf_6 (by decide) rfl ?_
      refine az_sipush C (v := (-1001)) dL_areaOf_7 (by decide) ?_
      exact az_iret C rfl dL_areaOf_10 (Nat.le_of_eq (Nat.zero_add _)) (Nat.le_of_eq (Nat.zero_add _)) hp'
set_option maxHeartbeats 4000000 in
set_option maxRecDepth 100000 in
theorem H_volumeOf (hG : az_okS l G) (p0 : Int32) {d mc ms : Nat} {post post' : az_O → az_A → az_K → Prop} (hd : d ≤ 9) (hM : az_M l G yX3_volumeOf (az_ws yX3_volumeOf cX3_volumeOf 2 (some FieldType.int)) d (.ref (ρ.1 0) :: [.int p0]) (AD ρ) (KK G ρ x m ou) mc ms post) (hv : ∀ (v : Option Value) (ad' : az_A) (K' : az_K), post (.inl v) ad' K' → ∃ u : Int32, v = some (.int u) ∧ post' (.inl (some (.int u))) ad' K') (hx : ∀ (E : String) (ad' : az_A) (K' : az_K), post (.inr E) ad' K' → (E = "java/lang/IndexOutOfBoundsException" ∧ post' (.inl (some (.int (-1001)))) ad' K')) : az_M l G yL_volumeOf (az_wsH yL_volumeOf cL_volumeOf 3 (some FieldType.int) [(0, 5, 6, 28)]) 10 (.ref (ρ.1 0) :: [.int p0]) (AD ρ) (KK G ρ x m ou) mc ms post' := by
  refine az_startH hG.1 (by decide +kernel) (Nat.le_of_ble_eq_true rfl) ?_
  intro p e s mm args below meth c C
  show az_W l G 3 _ p e _ s mm args below meth c _ _ 0 0 0 [(0, .ref (ρ.1 0)), (1, .int p0)] []
  refine az_aload_n C 0 dL_volumeOf_0 rfl ?_
  refine az_iload_n C 1 dL_volumeOf_1 rfl ?_
  refine az_callV C Y_X3_volumeOf cX3 0 0 [.int p0] [] wm_L_30 wi_X3_volumeOf wse_X3_volumeOf dL_volumeOf_2 rfl rfl rfl hM rfl (Nat.le_of_ble_eq_true rfl) (by show d + 1 ≤ 10; omega) (by show 19 + 2 + 40 * d ≤ 400; omega) (Nat.le_of_eq (Nat.zero_add _)) (Nat.le_of_eq (Nat.zero_add _)) (fun v ad9 K9 hp => ?_) (fun E ad9 K9 hp => ?_)
  · obtain ⟨u, rfl, hp'⟩ := hv _ _ _ hp
    exact az_iret C rfl dL_volumeOf_5 (Nat.le_of_eq (Nat.zero_add _)) (Nat.le_of_eq (Nat.zero_add _)) hp'
  · rcases hx _ _ _ hp with ⟨rfl, hp'⟩
    · refine az_catch C hG [] ⟨0, 5, 6, 28⟩ [] rfl (fun z hz => absurd hz List.not_mem_nil) (by decide +kernel) (by decide) wk_L_28 nx_IOB (fun q => ?_)
      refine az_astore_n C (lv' := [(2, .ref q), (0, .ref (ρ.1 0)), (1, .int p0)]) (j := 2) rfl dL_volumeOf_6 (by decide) rfl ?_
      refine az_sipush C (v := (-1001)) dL_volumeOf_7 (by decide) ?_
      exact az_iret C rfl dL_volumeOf_10 (Nat.le_of_eq (Nat.zero_add _)) (Nat.le_of_eq (Nat.zero_add _)) hp'
set_option maxHeartbeats 4000000 in
set_option maxRecDepth 100000 in
theorem H_volumeBySteps (hG : az_okS l G) (p0 : Int32) {d mc ms : Nat} {post post' : az_O → az_A → az_K → Prop} (hd : d ≤ 9) (hM : az_M l G yX3_volumeBySteps (az_ws yX3_volumeBySteps cX3_volumeBySteps 2 (some FieldType.int)) d (.ref (ρ.1 0) :: [.int p0]) (AD ρ) (KK G ρ x m ou) mc ms post) (hv : ∀ (v : Option Value) (ad' : az_A) (K' : az_K), post (.inl v) ad' K' → ∃ u : Int32, v = some (.int u) ∧ post' (.inl (some (.int u))) ad' K') (hx : ∀ (E : String) (ad' : az_A) (K' : az_K), post (.inr E) ad' K' → (E = "java/lang/IndexOutOfBoundsException" ∧ post' (.inl (some (.int (-1001)))) ad' K')) : az_M l G yL_volumeBySteps (az_wsH yL_volumeBySteps cL_volumeBySteps 3 (some FieldType.int) [(0, 5, 6, 28)]) 10 (.ref (ρ.1 0) :: [.int p0]) (AD ρ) (KK G ρ x m ou) mc ms post' := by
  refine az_startH hG.1 (by decide +kernel) (Nat.le_of_ble_eq_true rfl) ?_
  intro p e s mm args below meth c C
  show az_W l G 3 _ p e _ s mm args below meth c _ _ 0 0 0 [(0, .ref (ρ.1 0)), (1, .int p0)] []
  refine az_aload_n C 0 dL_volumeBySteps_0 rfl ?_
  refine az_iload_n C 1 dL_volumeBySteps_1 rfl ?_
  refine az_callV C Y_X3_volumeBySteps cX3 0 0 [.int p0] [] wm_L_33 wi_X3_volumeBySteps wse_X3_volumeBySteps dL_volumeBySteps_2 rfl rfl rfl hM rfl (Nat.le_of_ble_eq_true rfl) (by show d + 1 ≤ 10; omega) (by show 19 + 2 + 40 * d ≤ 400; omega) (Nat.le_of_eq (Nat.zero_add _)) (Nat.le_of_eq (Nat.zero_add _)) (fun v ad9 K9 hp => ?_) (fun E ad9 K9 hp => ?_)
  · obtain ⟨u, rfl, hp'⟩ := hv _ _ _ hp
    exact az_iret C rfl dL_volumeBySteps_5 (Nat.le_of_eq (Nat.zero_add _)) (Nat.le_of_eq (Nat.zero_add _)) hp'
  · rcases hx _ _ _ hp with ⟨rfl, hp'⟩
    · refine az_catch C hG [] ⟨0, 5, 6, 28⟩ [] rfl (fun z hz => absurd hz List.not_mem_nil) (by decide +kernel) (by decide) wk_L_28 nx_IOB (fun q => ?_)
      refine az_astore_n C (lv' := [(2, .ref q), (0, .ref (ρ.1 0)), (1, .int p0)]) (j := 2) rfl dL_volumeBySteps_6 (by decide) rfl ?_
      refine az_sipush C (v := (-1001)) dL_volumeBySteps_7 (by decide) ?_
      exact az_iret C rfl dL_volumeBySteps_10 (Nat.le_of_eq (Nat.zero_add _)) (Nat.le_of_eq (Nat.zero_add _)) hp'
set_option maxHeartbeats 4000000 in
set_option maxRecDepth 100000 in
theorem H_levelOf (hG : az_okS l G) (p0 : Int32) {d mc ms : Nat} {post post' : az_O → az_A → az_K → Prop} (hd : d ≤ 9) (hM : az_M l G yX3_levelOf (az_ws yX3_levelOf cX3_levelOf 2 (some FieldType.int)) d (.ref (ρ.1 0) :: [.int p0]) (AD ρ) (KK G ρ x m ou) mc ms post) (hv : ∀ (v : Option Value) (ad' : az_A) (K' : az_K), post (.inl v) ad' K' → ∃ u : Int32, v = some (.int u) ∧ post' (.inl (some (.int u))) ad' K') (hx : ∀ (E : String) (ad' : az_A) (K' : az_K), post (.inr E) ad' K' → (E = "java/lang/IndexOutOfBoundsException" ∧ post' (.inl (some (.int (-1001)))) ad' K')) : az_M l G yL_levelOf (az_wsH yL_levelOf cL_levelOf 3 (some FieldType.int) [(0, 5, 6, 28)]) 10 (.ref (ρ.1 0) :: [.int p0]) (AD ρ) (KK G ρ x m ou) mc ms post' := by
  refine az_startH hG.1 (by decide +kernel) (Nat.le_of_ble_eq_true rfl) ?_
  intro p e s mm args below meth c C
  show az_W l G 3 _ p e _ s mm args below meth c _ _ 0 0 0 [(0, .ref (ρ.1 0)), (1, .int p0)] []
  refine az_aload_n C 0 dL_levelOf_0 rfl ?_
  refine az_iload_n C 1 dL_levelOf_1 rfl ?_
  refine az_callV C Y_X3_levelOf cX3 0 0 [.int p0] [] wm_L_36 wi_X3_levelOf wse_X3_levelOf dL_levelOf_2 rfl rfl rfl hM rfl (Nat.le_of_ble_eq_true rfl) (by show d + 1 ≤ 10; omega) (by show 19 + 2 + 40 * d ≤ 400; omega) (Nat.le_of_eq (Nat.zero_add _)) (Nat.le_of_eq (Nat.zero_add _)) (fun v ad9 K9 hp => ?_) (fun E ad9 K9 hp => ?_)
  · obtain ⟨u, rfl, hp'⟩ := hv _ _ _ hp
    exact az_iret C rfl dL_levelOf_5 (Nat.le_of_eq (Nat.zero_add _)) (Nat.le_of_eq (Nat.zero_add _)) hp'
  · rcases hx _ _ _ hp with ⟨rfl, hp'⟩
    · refine az_catch C hG [] ⟨0, 5, 6, 28⟩ [] rfl (fun z hz => absurd hz List.not_mem_nil) (by decide +kernel) (by decide) wk_L_28 nx_IOB (fun q => ?_)
      refine az_astore_n C (lv' := [(2, .ref q), (0, .ref (ρ.1 0)), (1, .int p0)]) (j := 2) rfl dL_levelOf_6 (by decide) rfl ?_
      refine az_sipush C (v := (-1001)) dL_levelOf_7 (by decide) ?_
      exact az_iret C rfl dL_levelOf_10 (Nat.le_of_eq (Nat.zero_add _)) (Nat.le_of_eq (Nat.zero_add _)) hp'
set_option maxHeartbeats 4000000 in
set_option maxRecDepth 100000 in
theorem H_lockfulOf (hG : az_okS l G) (p0 : Int32) {d mc ms : Nat} {post post' : az_O → az_A → az_K → Prop} (hd : d ≤ 9) (hM : az_M l G yX3_lockfulOf (az_ws yX3_lockfulOf cX3_lockfulOf 2 (some FieldType.int)) d (.ref (ρ.1 0) :: [.int p0]) (AD ρ) (KK G ρ x m ou) mc ms post) (hv : ∀ (v : Option Value) (ad' : az_A) (K' : az_K), post (.inl v) ad' K' → ∃ u : Int32, v = some (.int u) ∧ post' (.inl (some (.int u))) ad' K') (hx : ∀ (E : String) (ad' : az_A) (K' : az_K), post (.inr E) ad' K' → (E = "java/lang/IndexOutOfBoundsException" ∧ post' (.inl (some (.int (-1001)))) ad' K')) : az_M l G yL_lockfulOf (az_wsH yL_lockfulOf cL_lockfulOf 3 (some FieldType.int) [(0, 5, 6, 28)]) 10 (.ref (ρ.1 0) :: [.int p0]) (AD ρ) (KK G ρ x m ou) mc ms post' := by
  refine az_startH hG.1 (by decide +kernel) (Nat.le_of_ble_eq_true rfl) ?_
  intro p e s mm args below meth c C
  show az_W l G 3 _ p e _ s mm args below meth c _ _ 0 0 0 [(0, .ref (ρ.1 0)), (1, .int p0)] []
  refine az_aload_n C 0 dL_lockfulOf_0 rfl ?_
  refine az_iload_n C 1 dL_lockfulOf_1 rfl ?_
  refine az_callV C Y_X3_lockfulOf cX3 0 0 [.int p0] [] wm_L_39 wi_X3_lockfulOf wse_X3_lockfulOf dL_lockfulOf_2 rfl rfl rfl hM rfl (Nat.le_of_ble_eq_true rfl) (by show d + 1 ≤ 10; omega) (by show 19 + 2 + 40 * d ≤ 400; omega) (Nat.le_of_eq (Nat.zero_add _)) (Nat.le_of_eq (Nat.zero_add _)) (fun v ad9 K9 hp => ?_) (fun E ad9 K9 hp => ?_)
  · obtain ⟨u, rfl, hp'⟩ := hv _ _ _ hp
    exact az_iret C rfl dL_lockfulOf_5 (Nat.le_of_eq (Nat.zero_add _)) (Nat.le_of_eq (Nat.zero_add _)) hp'
  · rcases hx _ _ _ hp with ⟨rfl, hp'⟩
    · refine az_catch C hG [] ⟨0, 5, 6, 28⟩ [] rfl (fun z hz => absurd hz List.not_mem_nil) (by decide +kernel) (by decide) wk_L_28 nx_IOB (fun q => ?_)
      refine az_astore_n C (lv' := [(2, .ref q), (0, .ref (ρ.1 0)), (1, .int p0)]) (j := 2) rfl dL_lockfulOf_6 (by decide) rfl ?_
      refine az_sipush C (v := (-1001)) dL_lockfulOf_7 (by decide) ?_
      exact az_iret C rfl dL_lockfulOf_10 (Nat.le_of_eq (Nat.zero_add _)) (Nat.le_of_eq (Nat.zero_add _)) hp'
set_option maxHeartbeats 4000000 in
set_option maxRecDepth 100000 in
theorem H_isFull (hG : az_okS l G) (p0 : Int32) {d mc ms : Nat} {post post' : az_O → az_A → az_K → Prop} (hd : d ≤ 9) (hM : az_M l G yX3_isFull (az_ws yX3_isFull cX3_isFull 2 (some FieldType.boolean)) d (.ref (ρ.1 0) :: [.int p0]) (AD ρ) (KK G ρ x m ou) mc ms post) (hv : ∀ (v : Option Value) (ad' : az_A) (K' : az_K), post (.inl v) ad' K' → ∃ u : Int32, v = some (.int u) ∧ post' (.inl (some (.int (if u = 0 then 0 else 1)))) ad' K') (hx : ∀ (E : String) (ad' : az_A) (K' : az_K), post (.inr E) ad' K' → (E = "java/lang/IndexOutOfBoundsException" ∧ post' (.inl (some (.int (-1001)))) ad' K')) : az_M l G yL_isFull (az_wsH yL_isFull cL_isFull 3 (some FieldType.int) [(0, 13, 14, 28)]) 10 (.ref (ρ.1 0) :: [.int p0]) (AD ρ) (KK G ρ x m ou) mc ms post' := by
  refine az_startH hG.1 (by decide +kernel) (Nat.le_of_ble_eq_true rfl) ?_
  intro p e s mm args below meth c C
  show az_W l G 3 _ p e _ s mm args below meth c _ _ 0 0 0 [(0, .ref (ρ.1 0)), (1, .int p0)] []
  refine az_aload_n C 0 dL_isFull_0 rfl ?_
  refine az_iload_n C 1 dL_isFull_1 rfl ?_
  refine az_callV C Y_X3_isFull cX3 0 0 [.int p0] [] wm_L_48 wi_X3_isFull wse_X3_isFull dL_isFull_2 rfl rfl rfl hM rfl (Nat.le_of_ble_eq_true rfl) (by show d + 1 ≤ 10; omega) (by show 19 + 2 + 40 * d ≤ 400; omega) (Nat.le_of_eq (Nat.zero_add _)) (Nat.le_of_eq (Nat.zero_add _)) (fun v ad9 K9 hp => ?_) (fun E ad9 K9 hp => ?_)
  · obtain ⟨u, rfl, hp'⟩ := hv _ _ _ hp
    refine az_if_eq C 12 dL_isFull_5 (by decide) (fun h0 => ?_) (fun h0 => ?_)
    · rw [if_pos h0] at hp'
      refine az_iconst C (v := 0) dL_isFull_12 (by decide) ?_
      exact az_iret C rfl dL_isFull_13 (Nat.le_of_eq (Nat.zero_add _)) (Nat.le_of_eq (Nat.zero_add _)) hp'
    · rw [if_neg h0] at hp'
      refine az_iconst C (v := 1) dL_isFull_8 (by decide) ?_
      refine az_goto C 13 dL_isFull_9 (by decide) ?_
      exact az_iret C rfl dL_isFull_13 (Nat.le_of_eq (Nat.zero_add _)) (Nat.le_of_eq (Nat.zero_add _)) hp'
  · rcases hx _ _ _ hp with ⟨rfl, hp'⟩
    · refine az_catch C hG [] ⟨0, 13, 14, 28⟩ [] rfl (fun z hz => absurd hz List.not_mem_nil) (by decide +kernel) (by decide) wk_L_28 nx_IOB (fun q => ?_)
      refine az_astore_n C (lv' := [(2, .ref q), (0, .ref (ρ.1 0)), (1, .int p0)]) (j := 2) rfl dL_isFull_14 (by decide) rfl ?_
      refine az_sipush C (v := (-1001)) dL_isFull_15 (by decide) ?_
      exact az_iret C rfl dL_isFull_18 (Nat.le_of_eq (Nat.zero_add _)) (Nat.le_of_eq (Nat.zero_add _)) hp'
set_option maxHeartbeats 4000000 in
set_option maxRecDepth 100000 in
theorem H_turn (hG : az_okS l G) (p0 : Int32) {d mc ms : Nat} {post post' : az_O → az_A → az_K → Prop} (hd : d ≤ 9) (hM : az_M l G yX3_turn (az_ws yX3_turn cX3_turn 2 (some FieldType.boolean)) d (.ref (ρ.1 0) :: [.int p0]) (AD ρ) (KK G ρ x m ou) mc ms post) (hv : ∀ (v : Option Value) (ad' : az_A) (K' : az_K), post (.inl v) ad' K' → ∃ u : Int32, v = some (.int u) ∧ post' (.inl (some (.int (if u = 0 then 0 else 1)))) ad' K') (hx : ∀ (E : String) (ad' : az_A) (K' : az_K), post (.inr E) ad' K' → (E = "java/lang/IndexOutOfBoundsException" ∧ post' (.inl (some (.int (-1001)))) ad' K') ∨ (E = "java/lang/UnsupportedOperationException" ∧ post' (.inl (some (.int (-1002)))) ad' K')) : az_M l G yL_turn (az_wsH yL_turn cL_turn 3 (some FieldType.int) [(0, 13, 14, 28), (0, 13, 19, 55)]) 10 (.ref (ρ.1 0) :: [.int p0]) (AD ρ) (KK G ρ x m ou) mc ms post' := by
  refine az_startH hG.1 (by decide +kernel) (Nat.le_of_ble_eq_true rfl) ?_
  intro p e s mm args below meth c C
  show az_W l G 3 _ p e _ s mm args below meth c _ _ 0 0 0 [(0, .ref (ρ.1 0)), (1, .int p0)] []
  refine az_aload_n C 0 dL_turn_0 rfl ?_
  refine az_iload_n C 1 dL_turn_1 rfl ?_
  refine az_callV C Y_X3_turn cX3 0 0 [.int p0] [] wm_L_52 wi_X3_turn wse_X3_turn dL_turn_2 rfl rfl rfl hM rfl (Nat.le_of_ble_eq_true rfl) (by show d + 1 ≤ 10; omega) (by show 19 + 2 + 40 * d ≤ 400; omega) (Nat.le_of_eq (Nat.zero_add _)) (Nat.le_of_eq (Nat.zero_add _)) (fun v ad9 K9 hp => ?_) (fun E ad9 K9 hp => ?_)
  · obtain ⟨u, rfl, hp'⟩ := hv _ _ _ hp
    refine az_if_eq C 12 dL_turn_5 (by decide) (fun h0 => ?_) (fun h0 => ?_)
    · rw [if_pos h0] at hp'
      refine az_iconst C (v := 0) dL_turn_12 (by decide) ?_
      exact az_iret C rfl dL_turn_13 (Nat.le_of_eq (Nat.zero_add _)) (Nat.le_of_eq (Nat.zero_add _)) hp'
    · rw [if_neg h0] at hp'
      refine az_iconst C (v := 1) dL_turn_8 (by decide) ?_
      refine az_goto C 13 dL_turn_9 (by decide) ?_
      exact az_iret C rfl dL_turn_13 (Nat.le_of_eq (Nat.zero_add _)) (Nat.le_of_eq (Nat.zero_add _)) hp'
  · rcases hx _ _ _ hp with ⟨rfl, hp'⟩ | ⟨rfl, hp'⟩
    · refine az_catch C hG [] ⟨0, 13, 14, 28⟩ [⟨0, 13, 19, 55⟩] rfl (fun z hz => absurd hz List.not_mem_nil) (by decide +kernel) (by decide) wk_L_28 nx_IOB (fun q => ?_)
      refine az_astore_n C (lv' := [(2, .ref q), (0, .ref (ρ.1 0)), (1, .int p0)]) (j := 2) rfl dL_turn_14 (by decide) rfl ?_
      refine az_sipush C (v := (-1001)) dL_turn_15 (by decide) ?_
      exact az_iret C rfl dL_turn_18 (Nat.le_of_eq (Nat.zero_add _)) (Nat.le_of_eq (Nat.zero_add _)) hp'
    · refine az_catch C hG [⟨0, 13, 14, 28⟩] ⟨0, 13, 19, 55⟩ [] rfl (List.forall_mem_cons.mpr ⟨⟨(show (28 : Nat) ≠ 0 by decide), "java/lang/IndexOutOfBoundsException", wk_L_28, az_ncs_mem (by decide +kernel)⟩, (fun z hz => absurd hz List.not_mem_nil)⟩) (by decide +kernel) (by decide) wk_L_55 nx_UOE (fun q => ?_)
      refine az_astore_n C (lv' := [(2, .ref q), (0, .ref (ρ.1 0)), (1, .int p0)]) (j := 2) rfl dL_turn_19 (by decide) rfl ?_
      refine az_sipush C (v := (-1002)) dL_turn_20 (by decide) ?_
      exact az_iret C rfl dL_turn_23 (Nat.le_of_eq (Nat.zero_add _)) (Nat.le_of_eq (Nat.zero_add _)) hp'
set_option maxHeartbeats 4000000 in
set_option maxRecDepth 100000 in
theorem H_waterThrough (hG : az_okS l G) (p0 : Int32) {d mc ms : Nat} {post post' : az_O → az_A → az_K → Prop} (hd : d ≤ 9) (hM : az_M l G yX3_waterThrough (az_ws yX3_waterThrough cX3_waterThrough 2 (some FieldType.int)) d (.ref (ρ.1 0) :: [.int p0]) (AD ρ) (KK G ρ x m ou) mc ms post) (hv : ∀ (v : Option Value) (ad' : az_A) (K' : az_K), post (.inl v) ad' K' → ∃ u : Int32, v = some (.int u) ∧ post' (.inl (some (.int u))) ad' K') (hx : ∀ (E : String) (ad' : az_A) (K' : az_K), post (.inr E) ad' K' → (E = "java/lang/IndexOutOfBoundsException" ∧ post' (.inl (some (.int (-1001)))) ad' K')) : az_M l G yL_waterThrough (az_wsH yL_waterThrough cL_waterThrough 3 (some FieldType.int) [(0, 5, 6, 28)]) 10 (.ref (ρ.1 0) :: [.int p0]) (AD ρ) (KK G ρ x m ou) mc ms post' := by
  refine az_startH hG.1 (by decide +kernel) (Nat.le_of_ble_eq_true rfl) ?_
  intro p e s mm args below meth c C
  show az_W l G 3 _ p e _ s mm args below meth c _ _ 0 0 0 [(0, .ref (ρ.1 0)), (1, .int p0)] []
  refine az_aload_n C 0 dL_waterThrough_0 rfl ?_
  refine az_iload_n C 1 dL_waterThrough_1 rfl ?_
  refine az_callV C Y_X3_waterThrough cX3 0 0 [.int p0] [] wm_L_57 wi_X3_waterThrough wse_X3_waterThrough dL_waterThrough_2 rfl rfl rfl hM rfl (Nat.le_of_ble_eq_true rfl) (by show d + 1 ≤ 10; omega) (by show 19 + 2 + 40 * d ≤ 400; omega) (Nat.le_of_eq (Nat.zero_add _)) (Nat.le_of_eq (Nat.zero_add _)) (fun v ad9 K9 hp => ?_) (fun E ad9 K9 hp => ?_)
  · obtain ⟨u, rfl, hp'⟩ := hv _ _ _ hp
    exact az_iret C rfl dL_waterThrough_5 (Nat.le_of_eq (Nat.zero_add _)) (Nat.le_of_eq (Nat.zero_add _)) hp'
  · rcases hx _ _ _ hp with ⟨rfl, hp'⟩
    · refine az_catch C hG [] ⟨0, 5, 6, 28⟩ [] rfl (fun z hz => absurd hz List.not_mem_nil) (by decide +kernel) (by decide) wk_L_28 nx_IOB (fun q => ?_)
      refine az_astore_n C (lv' := [(2, .ref q), (0, .ref (ρ.1 0)), (1, .int p0)]) (j := 2) rfl dL_waterThrough_6 (by decide) rfl ?_
      refine az_sipush C (v := (-1001)) dL_waterThrough_7 (by decide) ?_
      exact az_iret C rfl dL_waterThrough_10 (Nat.le_of_eq (Nat.zero_add _)) (Nat.le_of_eq (Nat.zero_add _)) hp'
set_option maxHeartbeats 4000000 in
set_option maxRecDepth 100000 in
theorem H_rain (hG : az_okS l G) (p0 p1 : Int32) {d mc ms : Nat} {post post' : az_O → az_A → az_K → Prop} (hd : d ≤ 9) (hM : az_M l G yX3_rain (az_ws yX3_rain cX3_rain 4 (some FieldType.int)) d (.ref (ρ.1 0) :: [.int p0, .int p1]) (AD ρ) (KK G ρ x m ou) mc ms post) (hv : ∀ (v : Option Value) (ad' : az_A) (K' : az_K), post (.inl v) ad' K' → ∃ u : Int32, v = some (.int u) ∧ post' (.inl (some (.int u))) ad' K') (hx : ∀ (E : String) (ad' : az_A) (K' : az_K), post (.inr E) ad' K' → (E = "java/lang/IndexOutOfBoundsException" ∧ post' (.inl (some (.int (-1001)))) ad' K') ∨ (E = "java/lang/IllegalArgumentException" ∧ post' (.inl (some (.int (-1002)))) ad' K')) : az_M l G yL_rain (az_wsH yL_rain cL_rain 4 (some FieldType.int) [(0, 6, 7, 28), (0, 6, 12, 20)]) 10 (.ref (ρ.1 0) :: [.int p0, .int p1]) (AD ρ) (KK G ρ x m ou) mc ms post' := by
  refine az_startH hG.1 (by decide +kernel) (Nat.le_of_ble_eq_true rfl) ?_
  intro p e s mm args below meth c C
  show az_W l G 4 _ p e _ s mm args below meth c _ _ 0 0 0 [(0, .ref (ρ.1 0)), (1, .int p0), (2, .int p1)] []
  refine az_aload_n C 0 dL_rain_0 rfl ?_
  refine az_iload_n C 1 dL_rain_1 rfl ?_
  refine az_iload_n C 2 dL_rain_2 rfl ?_
  refine az_callV C Y_X3_rain cX3 0 0 [.int p0, .int p1] [] wm_L_60 wi_X3_rain wse_X3_rain dL_rain_3 rfl rfl rfl hM rfl (Nat.le_of_ble_eq_true rfl) (by show d + 1 ≤ 10; omega) (by show 19 + 4 + 40 * d ≤ 400; omega) (Nat.le_of_eq (Nat.zero_add _)) (Nat.le_of_eq (Nat.zero_add _)) (fun v ad9 K9 hp => ?_) (fun E ad9 K9 hp => ?_)
  · obtain ⟨u, rfl, hp'⟩ := hv _ _ _ hp
    exact az_iret C rfl dL_rain_6 (Nat.le_of_eq (Nat.zero_add _)) (Nat.le_of_eq (Nat.zero_add _)) hp'
  · rcases hx _ _ _ hp with ⟨rfl, hp'⟩ | ⟨rfl, hp'⟩
    · refine az_catch C hG [] ⟨0, 6, 7, 28⟩ [⟨0, 6, 12, 20⟩] rfl (fun z hz => absurd hz List.not_mem_nil) (by decide +kernel) (by decide) wk_L_28 nx_IOB (fun q => ?_)
      refine az_astore_n C (lv' := [(3, .ref q), (0, .ref (ρ.1 0)), (1, .int p0), (2, .int p1)]) (j := 3) rfl dL_rain_7 (by decide) rfl ?_
      refine az_sipush C (v := (-1001)) dL_rain_8 (by decide) ?_
      exact az_iret C rfl dL_rain_11 (Nat.le_of_eq (Nat.zero_add _)) (Nat.le_of_eq (Nat.zero_add _)) hp'
    · refine az_catch C hG [⟨0, 6, 7, 28⟩] ⟨0, 6, 12, 20⟩ [] rfl (List.forall_mem_cons.mpr ⟨⟨(show (28 : Nat) ≠ 0 by decide), "java/lang/IndexOutOfBoundsException", wk_L_28, az_ncs_mem (by decide +kernel)⟩, (fun z hz => absurd hz List.not_mem_nil)⟩) (by decide +kernel) (by decide) wk_L_20 nx_IAE (fun q => ?_)
      refine az_astore_n C (lv' := [(3, .ref q), (0, .ref (ρ.1 0)), (1, .int p0), (2, .int p1)]) (j := 3) rfl dL_rain_12 (by decide) rfl ?_
      refine az_sipush C (v := (-1002)) dL_rain_13 (by decide) ?_
      exact az_iret C rfl dL_rain_16 (Nat.le_of_eq (Nat.zero_add _)) (Nat.le_of_eq (Nat.zero_add _)) hp'
set_option maxHeartbeats 4000000 in
set_option maxRecDepth 100000 in
theorem H_addBarge (hG : az_okS l G) (p0 p1 p2 p3 : Int32) {d mc ms : Nat} {post post' : az_O → az_A → az_K → Prop} (hd : d ≤ 9) (hM : az_M l G yX3_addBarge (az_ws yX3_addBarge cX3_addBarge 6 (some FieldType.int)) d (.ref (ρ.1 0) :: [.int p0, .int p1, .int p2, .int p3]) (AD ρ) (KK G ρ x m ou) mc ms post) (hv : ∀ (v : Option Value) (ad' : az_A) (K' : az_K), post (.inl v) ad' K' → ∃ u : Int32, v = some (.int u) ∧ post' (.inl (some (.int u))) ad' K') (hx : ∀ (E : String) (ad' : az_A) (K' : az_K), post (.inr E) ad' K' → (E = "java/lang/IndexOutOfBoundsException" ∧ post' (.inl (some (.int (-1001)))) ad' K') ∨ (E = "java/lang/IllegalArgumentException" ∧ post' (.inl (some (.int (-1002)))) ad' K') ∨ (E = "java/lang/IllegalStateException" ∧ post' (.inl (some (.int (-1003)))) ad' K') ∨ (E = "java/lang/UnsupportedOperationException" ∧ post' (.inl (some (.int (-1004)))) ad' K')) : az_M l G yL_addBarge (az_wsH yL_addBarge cL_addBarge 6 (some FieldType.int) [(0, 9, 10, 28), (0, 9, 16, 20), (0, 9, 22, 22), (0, 9, 28, 55)]) 10 (.ref (ρ.1 0) :: [.int p0, .int p1, .int p2, .int p3]) (AD ρ) (KK G ρ x m ou) mc ms post' := by
  refine az_startH hG.1 (by decide +kernel) (Nat.le_of_ble_eq_true rfl) ?_
  intro p e s mm args below meth c C
  show az_W l G 6 _ p e _ s mm args below meth c _ _ 0 0 0 [(0, .ref (ρ.1 0)), (1, .int p0), (2, .int p1), (3, .int p2), (4, .int p3)] []
  refine az_aload_n C 0 dL_addBarge_0 rfl ?_
  refine az_iload_n C 1 dL_addBarge_1 rfl ?_
  refine az_iload_n C 2 dL_addBarge_2 rfl ?_
  refine az_iload_n C 3 dL_addBarge_3 rfl ?_
  refine az_iload C 4 dL_addBarge_4 rfl ?_
  refine az_callV C Y_X3_addBarge cX3 0 0 [.int p0, .int p1, .int p2, .int p3] [] wm_L_64 wi_X3_addBarge wse_X3_addBarge dL_addBarge_6 rfl rfl rfl hM rfl (Nat.le_of_ble_eq_true rfl) (by show d + 1 ≤ 10; omega) (by show 19 + 6 + 40 * d ≤ 400; omega) (Nat.le_of_eq (Nat.zero_add _)) (Nat.le_of_eq (Nat.zero_add _)) (fun v ad9 K9 hp => ?_) (fun E ad9 K9 hp => ?_)
  · obtain ⟨u, rfl, hp'⟩ := hv _ _ _ hp
    exact az_iret C rfl dL_addBarge_9 (Nat.le_of_eq (Nat.zero_add _)) (Nat.le_of_eq (Nat.zero_add _)) hp'
  · rcases hx _ _ _ hp with ⟨rfl, hp'⟩ | ⟨rfl, hp'⟩ | ⟨rfl, hp'⟩ | ⟨rfl, hp'⟩
    · refine az_catch C hG [] ⟨0, 9, 10, 28⟩ [⟨0, 9, 16, 20⟩, ⟨0, 9, 22, 22⟩, ⟨0, 9, 28, 55⟩] rfl (fun z hz => absurd hz List.not_mem_nil) (by decide +kernel) (by decide) wk_L_28 nx_IOB (fun q => ?_)
      refine az_astore C (lv' := [(5, .ref q), (0, .ref (ρ.1 0)), (1, .int p0), (2, .int p1), (3, .int p2), (4, .int p3)]) dL_addBarge_10 (by decide) rfl ?_
      refine az_sipush C (v := (-1001)) dL_addBarge_12 (by decide) ?_
      exact az_iret C rfl dL_addBarge_15 (Nat.le_of_eq (Nat.zero_add _)) (Nat.le_of_eq (Nat.zero_add _)) hp'
    · refine az_catch C hG [⟨0, 9, 10, 28⟩] ⟨0, 9, 16, 20⟩ [⟨0, 9, 22, 22⟩, ⟨0, 9, 28, 55⟩] rfl (List.forall_mem_cons.mpr ⟨⟨(show (28 : Nat) ≠ 0 by decide), "java/lang/IndexOutOfBoundsException", wk_L_28, az_ncs_mem (by decide +kernel)⟩, (fun z hz => absurd hz List.not_mem_nil)⟩) (by decide +kernel) (by decide) wk_L_20 nx_IAE (fun q => ?_)
      refine az_astore C (lv' := [(5, .ref q), (0, .ref (ρ.1 0)), (1, .int p0), (2, .int p1), (3, .int p2), (4, .int p3)]) dL_addBarge_16 (by decide) rfl ?_
      refine az_sipush C (v := (-1002)) dL_addBarge_18 (by decide) ?_
      exact az_iret C rfl dL_addBarge_21 (Nat.le_of_eq (Nat.zero_add _)) (Nat.le_of_eq (Nat.zero_add _)) hp'
    · refine az_catch C hG [⟨0, 9, 10, 28⟩, ⟨0, 9, 16, 20⟩] ⟨0, 9, 22, 22⟩ [⟨0, 9, 28, 55⟩] rfl (List.forall_mem_cons.mpr ⟨⟨(show (28 : Nat) ≠ 0 by decide), "java/lang/IndexOutOfBoundsException", wk_L_28, az_ncs_mem (by decide +kernel)⟩, (List.forall_mem_cons.mpr ⟨⟨(show (20 : Nat) ≠ 0 by decide), "java/lang/IllegalArgumentException", wk_L_20, az_ncs_mem (by decide +kernel)⟩, (fun z hz => absurd hz List.not_mem_nil)⟩)⟩) (by decide +kernel) (by decide) wk_L_22 nx_ISE (fun q => ?_)
      refine az_astore C (lv' := [(5, .ref q), (0, .ref (ρ.1 0)), (1, .int p0), (2, .int p1), (3, .int p2), (4, .int p3)]) dL_addBarge_22 (by decide) rfl ?_
      refine az_sipush C (v := (-1003)) dL_addBarge_24 (by decide) ?_
      exact az_iret C rfl dL_addBarge_27 (Nat.le_of_eq (Nat.zero_add _)) (Nat.le_of_eq (Nat.zero_add _)) hp'
    · refine az_catch C hG [⟨0, 9, 10, 28⟩, ⟨0, 9, 16, 20⟩, ⟨0, 9, 22, 22⟩] ⟨0, 9, 28, 55⟩ [] rfl (List.forall_mem_cons.mpr ⟨⟨(show (28 : Nat) ≠ 0 by decide), "java/lang/IndexOutOfBoundsException", wk_L_28, az_ncs_mem (by decide +kernel)⟩, (List.forall_mem_cons.mpr ⟨⟨(show (20 : Nat) ≠ 0 by decide), "java/lang/IllegalArgumentException", wk_L_20, az_ncs_mem (by decide +kernel)⟩, (List.forall_mem_cons.mpr ⟨⟨(show (22 : Nat) ≠ 0 by decide), "java/lang/IllegalStateException", wk_L_22, az_ncs_mem (by decide +kernel)⟩, (fun z hz => absurd hz List.not_mem_nil)⟩)⟩)⟩) (by decide +kernel) (by decide) wk_L_55 nx_UOE (fun q => ?_)
      refine az_astore C (lv' := [(5, .ref q), (0, .ref (ρ.1 0)), (1, .int p0), (2, .int p1), (3, .int p2), (4, .int p3)]) dL_addBarge_28 (by decide) rfl ?_
      refine az_sipush C (v := (-1004)) dL_addBarge_30 (by decide) ?_
      exact az_iret C rfl dL_addBarge_33 (Nat.le_of_eq (Nat.zero_add _)) (Nat.le_of_eq (Nat.zero_add _)) hp'
set_option maxHeartbeats 4000000 in
set_option maxRecDepth 100000 in
theorem H_reachOf (hG : az_okS l G) (p0 : Int32) {d mc ms : Nat} {post post' : az_O → az_A → az_K → Prop} (hd : d ≤ 9) (hM : az_M l G yX3_reachOf (az_ws yX3_reachOf cX3_reachOf 2 (some FieldType.int)) d (.ref (ρ.1 0) :: [.int p0]) (AD ρ) (KK G ρ x m ou) mc ms post) (hv : ∀ (v : Option Value) (ad' : az_A) (K' : az_K), post (.inl v) ad' K' → ∃ u : Int32, v = some (.int u) ∧ post' (.inl (some (.int u))) ad' K') (hx : ∀ (E : String) (ad' : az_A) (K' : az_K), post (.inr E) ad' K' → (E = "java/lang/IndexOutOfBoundsException" ∧ post' (.inl (some (.int (-1001)))) ad' K')) : az_M l G yL_reachOf (az_wsH yL_reachOf cL_reachOf 3 (some FieldType.int) [(0, 5, 6, 28)]) 10 (.ref (ρ.1 0) :: [.int p0]) (AD ρ) (KK G ρ x m ou) mc ms post' := by
  refine az_startH hG.1 (by decide +kernel) (Nat.le_of_ble_eq_true rfl) ?_
  intro p e s mm args below meth c C
  show az_W l G 3 _ p e _ s mm args below meth c _ _ 0 0 0 [(0, .ref (ρ.1 0)), (1, .int p0)] []
  refine az_aload_n C 0 dL_reachOf_0 rfl ?_
  refine az_iload_n C 1 dL_reachOf_1 rfl ?_
  refine az_callV C Y_X3_reachOf cX3 0 0 [.int p0] [] wm_L_68 wi_X3_reachOf wse_X3_reachOf dL_reachOf_2 rfl rfl rfl hM rfl (Nat.le_of_ble_eq_true rfl) (by show d + 1 ≤ 10; omega) (by show 19 + 2 + 40 * d ≤ 400; omega) (Nat.le_of_eq (Nat.zero_add _)) (Nat.le_of_eq (Nat.zero_add _)) (fun v ad9 K9 hp => ?_) (fun E ad9 K9 hp => ?_)
  · obtain ⟨u, rfl, hp'⟩ := hv _ _ _ hp
    exact az_iret C rfl dL_reachOf_5 (Nat.le_of_eq (Nat.zero_add _)) (Nat.le_of_eq (Nat.zero_add _)) hp'
  · rcases hx _ _ _ hp with ⟨rfl, hp'⟩
    · refine az_catch C hG [] ⟨0, 5, 6, 28⟩ [] rfl (fun z hz => absurd hz List.not_mem_nil) (by decide +kernel) (by decide) wk_L_28 nx_IOB (fun q => ?_)
      refine az_astore_n C (lv' := [(2, .ref q), (0, .ref (ρ.1 0)), (1, .int p0)]) (j := 2) rfl dL_reachOf_6 (by decide) rfl ?_
      refine az_sipush C (v := (-1001)) dL_reachOf_7 (by decide) ?_
      exact az_iret C rfl dL_reachOf_10 (Nat.le_of_eq (Nat.zero_add _)) (Nat.le_of_eq (Nat.zero_add _)) hp'
set_option maxHeartbeats 4000000 in
set_option maxRecDepth 100000 in
theorem H_cargoOf (hG : az_okS l G) (p0 : Int32) {d mc ms : Nat} {post post' : az_O → az_A → az_K → Prop} (hd : d ≤ 9) (hM : az_M l G yX3_cargoOf (az_ws yX3_cargoOf cX3_cargoOf 2 (some FieldType.int)) d (.ref (ρ.1 0) :: [.int p0]) (AD ρ) (KK G ρ x m ou) mc ms post) (hv : ∀ (v : Option Value) (ad' : az_A) (K' : az_K), post (.inl v) ad' K' → ∃ u : Int32, v = some (.int u) ∧ post' (.inl (some (.int u))) ad' K') (hx : ∀ (E : String) (ad' : az_A) (K' : az_K), post (.inr E) ad' K' → (E = "java/lang/IndexOutOfBoundsException" ∧ post' (.inl (some (.int (-1001)))) ad' K')) : az_M l G yL_cargoOf (az_wsH yL_cargoOf cL_cargoOf 3 (some FieldType.int) [(0, 5, 6, 28)]) 10 (.ref (ρ.1 0) :: [.int p0]) (AD ρ) (KK G ρ x m ou) mc ms post' := by
  refine az_startH hG.1 (by decide +kernel) (Nat.le_of_ble_eq_true rfl) ?_
  intro p e s mm args below meth c C
  show az_W l G 3 _ p e _ s mm args below meth c _ _ 0 0 0 [(0, .ref (ρ.1 0)), (1, .int p0)] []
  refine az_aload_n C 0 dL_cargoOf_0 rfl ?_
  refine az_iload_n C 1 dL_cargoOf_1 rfl ?_
  refine az_callV C Y_X3_cargoOf cX3 0 0 [.int p0] [] wm_L_71 wi_X3_cargoOf wse_X3_cargoOf dL_cargoOf_2 rfl rfl rfl hM rfl (Nat.le_of_ble_eq_true rfl) (by show d + 1 ≤ 10; omega) (by show 19 + 2 + 40 * d ≤ 400; omega) (Nat.le_of_eq (Nat.zero_add _)) (Nat.le_of_eq (Nat.zero_add _)) (fun v ad9 K9 hp => ?_) (fun E ad9 K9 hp => ?_)
  · obtain ⟨u, rfl, hp'⟩ := hv _ _ _ hp
    exact az_iret C rfl dL_cargoOf_5 (Nat.le_of_eq (Nat.zero_add _)) (Nat.le_of_eq (Nat.zero_add _)) hp'
  · rcases hx _ _ _ hp with ⟨rfl, hp'⟩
    · refine az_catch C hG [] ⟨0, 5, 6, 28⟩ [] rfl (fun z hz => absurd hz List.not_mem_nil) (by decide +kernel) (by decide) wk_L_28 nx_IOB (fun q => ?_)
      refine az_astore_n C (lv' := [(2, .ref q), (0, .ref (ρ.1 0)), (1, .int p0)]) (j := 2) rfl dL_cargoOf_6 (by decide) rfl ?_
      refine az_sipush C (v := (-1001)) dL_cargoOf_7 (by decide) ?_
      exact az_iret C rfl dL_cargoOf_10 (Nat.le_of_eq (Nat.zero_add _)) (Nat.le_of_eq (Nat.zero_add _)) hp'
set_option maxHeartbeats 4000000 in
set_option maxRecDepth 100000 in
theorem H_draughtOf (hG : az_okS l G) (p0 : Int32) {d mc ms : Nat} {post post' : az_O → az_A → az_K → Prop} (hd : d ≤ 9) (hM : az_M l G yX3_draughtOf (az_ws yX3_draughtOf cX3_draughtOf 2 (some FieldType.int)) d (.ref (ρ.1 0) :: [.int p0]) (AD ρ) (KK G ρ x m ou) mc ms post) (hv : ∀ (v : Option Value) (ad' : az_A) (K' : az_K), post (.inl v) ad' K' → ∃ u : Int32, v = some (.int u) ∧ post' (.inl (some (.int u))) ad' K') (hx : ∀ (E : String) (ad' : az_A) (K' : az_K), post (.inr E) ad' K' → (E = "java/lang/IndexOutOfBoundsException" ∧ post' (.inl (some (.int (-1001)))) ad' K')) : az_M l G yL_draughtOf (az_wsH yL_draughtOf cL_draughtOf 3 (some FieldType.int) [(0, 5, 6, 28)]) 10 (.ref (ρ.1 0) :: [.int p0]) (AD ρ) (KK G ρ x m ou) mc ms post' := by
  refine az_startH hG.1 (by decide +kernel) (Nat.le_of_ble_eq_true rfl) ?_
  intro p e s mm args below meth c C
  show az_W l G 3 _ p e _ s mm args below meth c _ _ 0 0 0 [(0, .ref (ρ.1 0)), (1, .int p0)] []
  refine az_aload_n C 0 dL_draughtOf_0 rfl ?_
  refine az_iload_n C 1 dL_draughtOf_1 rfl ?_
  refine az_callV C Y_X3_draughtOf cX3 0 0 [.int p0] [] wm_L_74 wi_X3_draughtOf wse_X3_draughtOf dL_draughtOf_2 rfl rfl rfl hM rfl (Nat.le_of_ble_eq_true rfl) (by show d + 1 ≤ 10; omega) (by show 19 + 2 + 40 * d ≤ 400; omega) (Nat.le_of_eq (Nat.zero_add _)) (Nat.le_of_eq (Nat.zero_add _)) (fun v ad9 K9 hp => ?_) (fun E ad9 K9 hp => ?_)
  · obtain ⟨u, rfl, hp'⟩ := hv _ _ _ hp
    exact az_iret C rfl dL_draughtOf_5 (Nat.le_of_eq (Nat.zero_add _)) (Nat.le_of_eq (Nat.zero_add _)) hp'
  · rcases hx _ _ _ hp with ⟨rfl, hp'⟩
    · refine az_catch C hG [] ⟨0, 5, 6, 28⟩ [] rfl (fun z hz => absurd hz List.not_mem_nil) (by decide +kernel) (by decide) wk_L_28 nx_IOB (fun q => ?_)
      refine az_astore_n C (lv' := [(2, .ref q), (0, .ref (ρ.1 0)), (1, .int p0)]) (j := 2) rfl dL_draughtOf_6 (by decide) rfl ?_
      refine az_sipush C (v := (-1001)) dL_draughtOf_7 (by decide) ?_
      exact az_iret C rfl dL_draughtOf_10 (Nat.le_of_eq (Nat.zero_add _)) (Nat.le_of_eq (Nat.zero_add _)) hp'
set_option maxHeartbeats 4000000 in
set_option maxRecDepth 100000 in
theorem H_isAfloat (hG : az_okS l G) (p0 : Int32) {d mc ms : Nat} {post post' : az_O → az_A → az_K → Prop} (hd : d ≤ 9) (hM : az_M l G yX3_isAfloat (az_ws yX3_isAfloat cX3_isAfloat 2 (some FieldType.boolean)) d (.ref (ρ.1 0) :: [.int p0]) (AD ρ) (KK G ρ x m ou) mc ms post) (hv : ∀ (v : Option Value) (ad' : az_A) (K' : az_K), post (.inl v) ad' K' → ∃ u : Int32, v = some (.int u) ∧ post' (.inl (some (.int (if u = 0 then 0 else 1)))) ad' K') (hx : ∀ (E : String) (ad' : az_A) (K' : az_K), post (.inr E) ad' K' → (E = "java/lang/IndexOutOfBoundsException" ∧ post' (.inl (some (.int (-1001)))) ad' K')) : az_M l G yL_isAfloat (az_wsH yL_isAfloat cL_isAfloat 3 (some FieldType.int) [(0, 13, 14, 28)]) 10 (.ref (ρ.1 0) :: [.int p0]) (AD ρ) (KK G ρ x m ou) mc ms post' := by
  refine az_startH hG.1 (by decide +kernel) (Nat.le_of_ble_eq_true rfl) ?_
  intro p e s mm args below meth c C
  show az_W l G 3 _ p e _ s mm args below meth c _ _ 0 0 0 [(0, .ref (ρ.1 0)), (1, .int p0)] []
  refine az_aload_n C 0 dL_isAfloat_0 rfl ?_
  refine az_iload_n C 1 dL_isAfloat_1 rfl ?_
  refine az_callV C Y_X3_isAfloat cX3 0 0 [.int p0] [] wm_L_77 wi_X3_isAfloat wse_X3_isAfloat dL_isAfloat_2 rfl rfl rfl hM rfl (Nat.le_of_ble_eq_true rfl) (by show d + 1 ≤ 10; omega) (by show 19 + 2 + 40 * d ≤ 400; omega) (Nat.le_of_eq (Nat.zero_add _)) (Nat.le_of_eq (Nat.zero_add _)) (fun v ad9 K9 hp => ?_) (fun E ad9 K9 hp => ?_)
  · obtain ⟨u, rfl, hp'⟩ := hv _ _ _ hp
    refine az_if_eq C 12 dL_isAfloat_5 (by decide) (fun h0 => ?_) (fun h0 => ?_)
    · rw [if_pos h0] at hp'
      refine az_iconst C (v := 0) dL_isAfloat_12 (by decide) ?_
      exact az_iret C rfl dL_isAfloat_13 (Nat.le_of_eq (Nat.zero_add _)) (Nat.le_of_eq (Nat.zero_add _)) hp'
    · rw [if_neg h0] at hp'
      refine az_iconst C (v := 1) dL_isAfloat_8 (by decide) ?_
      refine az_goto C 13 dL_isAfloat_9 (by decide) ?_
      exact az_iret C rfl dL_isAfloat_13 (Nat.le_of_eq (Nat.zero_add _)) (Nat.le_of_eq (Nat.zero_add _)) hp'
  · rcases hx _ _ _ hp with ⟨rfl, hp'⟩
    · refine az_catch C hG [] ⟨0, 13, 14, 28⟩ [] rfl (fun z hz => absurd hz List.not_mem_nil) (by decide +kernel) (by decide) wk_L_28 nx_IOB (fun q => ?_)
      refine az_astore_n C (lv' := [(2, .ref q), (0, .ref (ρ.1 0)), (1, .int p0)]) (j := 2) rfl dL_isAfloat_14 (by decide) rfl ?_
      refine az_sipush C (v := (-1001)) dL_isAfloat_15 (by decide) ?_
      exact az_iret C rfl dL_isAfloat_18 (Nat.le_of_eq (Nat.zero_add _)) (Nat.le_of_eq (Nat.zero_add _)) hp'
set_option maxHeartbeats 4000000 in
set_option maxRecDepth 100000 in
theorem H_couple (hG : az_okS l G) (p0 p1 : Int32) {d mc ms : Nat} {post post' : az_O → az_A → az_K → Prop} (hd : d ≤ 9) (hM : az_M l G yX3_couple (az_ws yX3_couple cX3_couple 7 (some FieldType.int)) d (.ref (ρ.1 0) :: [.int p0, .int p1]) (AD ρ) (KK G ρ x m ou) mc ms post) (hv : ∀ (v : Option Value) (ad' : az_A) (K' : az_K), post (.inl v) ad' K' → ∃ u : Int32, v = some (.int u) ∧ post' (.inl (some (.int u))) ad' K') (hx : ∀ (E : String) (ad' : az_A) (K' : az_K), post (.inr E) ad' K' → (E = "java/lang/IndexOutOfBoundsException" ∧ post' (.inl (some (.int (-1001)))) ad' K') ∨ (E = "java/lang/IllegalArgumentException" ∧ post' (.inl (some (.int (-1002)))) ad' K') ∨ (E = "java/lang/IllegalStateException" ∧ post' (.inl (some (.int (-1003)))) ad' K')) : az_M l G yL_couple (az_wsH yL_couple cL_couple 4 (some FieldType.int) [(0, 6, 7, 28), (0, 6, 12, 20), (0, 6, 17, 22)]) 10 (.ref (ρ.1 0) :: [.int p0, .int p1]) (AD ρ) (KK G ρ x m ou) mc ms post' := by
  refine az_startH hG.1 (by decide +kernel) (Nat.le_of_ble_eq_true rfl) ?_
  intro p e s mm args below meth c C
  show az_W l G 4 _ p e _ s mm args below meth c _ _ 0 0 0 [(0, .ref (ρ.1 0)), (1, .int p0), (2, .int p1)] []
  refine az_aload_n C 0 dL_couple_0 rfl ?_
  refine az_iload_n C 1 dL_couple_1 rfl ?_
  refine az_iload_n C 2 dL_couple_2 rfl ?_
  refine az_callV C Y_X3_couple cX3 0 0 [.int p0, .int p1] [] wm_L_80 wi_X3_couple wse_X3_couple dL_couple_3 rfl rfl rfl hM rfl (Nat.le_of_ble_eq_true rfl) (by show d + 1 ≤ 10; omega) (by show 19 + 7 + 40 * d ≤ 400; omega) (Nat.le_of_eq (Nat.zero_add _)) (Nat.le_of_eq (Nat.zero_add _)) (fun v ad9 K9 hp => ?_) (fun E ad9 K9 hp => ?_)
  · obtain ⟨u, rfl, hp'⟩ := hv _ _ _ hp
    exact az_iret C rfl dL_couple_6 (Nat.le_of_eq (Nat.zero_add _)) (Nat.le_of_eq (Nat.zero_add _)) hp'
  · rcases hx _ _ _ hp with ⟨rfl, hp'⟩ | ⟨rfl, hp'⟩ | ⟨rfl, hp'⟩
    · refine az_catch C hG [] ⟨0, 6, 7, 28⟩ [⟨0, 6, 12, 20⟩, ⟨0, 6, 17, 22⟩] rfl (fun z hz => absurd hz List.not_mem_nil) (by decide +kernel) (by decide) wk_L_28 nx_IOB (fun q => ?_)
      refine az_astore_n C (lv' := [(3, .ref q), (0, .ref (ρ.1 0)), (1, .int p0), (2, .int p1)]) (j := 3) rfl dL_couple_7 (by decide) rfl ?_
      refine az_sipush C (v := (-1001)) dL_couple_8 (by decide) ?_
      exact az_iret C rfl dL_couple_11 (Nat.le_of_eq (Nat.zero_add _)) (Nat.le_of_eq (Nat.zero_add _)) hp'
    · refine az_catch C hG [⟨0, 6, 7, 28⟩] ⟨0, 6, 12, 20⟩ [⟨0, 6, 17, 22⟩] rfl (List.forall_mem_cons.mpr ⟨⟨(show (28 : Nat) ≠ 0 by decide), "java/lang/IndexOutOfBoundsException", wk_L_28, az_ncs_mem (by decide +kernel)⟩, (fun z hz => absurd hz List.not_mem_nil)⟩) (by decide +kernel) (by decide) wk_L_20 nx_IAE (fun q => ?_)
      refine az_astore_n C (lv' := [(3, .ref q), (0, .ref (ρ.1 0)), (1, .int p0), (2, .int p1)]) (j := 3) rfl dL_couple_12 (by decide) rfl ?_
      refine az_sipush C (v := (-1002)) dL_couple_13 (by decide) ?_
      exact az_iret C rfl dL_couple_16 (Nat.le_of_eq (Nat.zero_add _)) (Nat.le_of_eq (Nat.zero_add _)) hp'
    · refine az_catch C hG [⟨0, 6, 7, 28⟩, ⟨0, 6, 12, 20⟩] ⟨0, 6, 17, 22⟩ [] rfl (List.forall_mem_cons.mpr ⟨⟨(show (28 : Nat) ≠ 0 by decide), "java/lang/IndexOutOfBoundsException", wk_L_28, az_ncs_mem (by decide +kernel)⟩, (List.forall_mem_cons.mpr ⟨⟨(show (20 : Nat) ≠ 0 by decide), "java/lang/IllegalArgumentException", wk_L_20, az_ncs_mem (by decide +kernel)⟩, (fun z hz => absurd hz List.not_mem_nil)⟩)⟩) (by decide +kernel) (by decide) wk_L_22 nx_ISE (fun q => ?_)
      refine az_astore_n C (lv' := [(3, .ref q), (0, .ref (ρ.1 0)), (1, .int p0), (2, .int p1)]) (j := 3) rfl dL_couple_17 (by decide) rfl ?_
      refine az_sipush C (v := (-1003)) dL_couple_18 (by decide) ?_
      exact az_iret C rfl dL_couple_21 (Nat.le_of_eq (Nat.zero_add _)) (Nat.le_of_eq (Nat.zero_add _)) hp'
set_option maxHeartbeats 4000000 in
set_option maxRecDepth 100000 in
theorem H_uncouple (hG : az_okS l G) (p0 : Int32) {d mc ms : Nat} {post post' : az_O → az_A → az_K → Prop} (hd : d ≤ 9) (hM : az_M l G yX3_uncouple (az_ws yX3_uncouple cX3_uncouple 4 (some FieldType.int)) d (.ref (ρ.1 0) :: [.int p0]) (AD ρ) (KK G ρ x m ou) mc ms post) (hv : ∀ (v : Option Value) (ad' : az_A) (K' : az_K), post (.inl v) ad' K' → ∃ u : Int32, v = some (.int u) ∧ post' (.inl (some (.int u))) ad' K') (hx : ∀ (E : String) (ad' : az_A) (K' : az_K), post (.inr E) ad' K' → (E = "java/lang/IndexOutOfBoundsException" ∧ post' (.inl (some (.int (-1001)))) ad' K') ∨ (E = "java/lang/IllegalStateException" ∧ post' (.inl (some (.int (-1002)))) ad' K')) : az_M l G yL_uncouple (az_wsH yL_uncouple cL_uncouple 3 (some FieldType.int) [(0, 5, 6, 28), (0, 5, 11, 22)]) 10 (.ref (ρ.1 0) :: [.int p0]) (AD ρ) (KK G ρ x m ou) mc ms post' := by
  refine az_startH hG.1 (by decide +kernel) (Nat.le_of_ble_eq_true rfl) ?_
  intro p e s mm args below meth c C
  show az_W l G 3 _ p e _ s mm args below meth c _ _ 0 0 0 [(0, .ref (ρ.1 0)), (1, .int p0)] []
  refine az_aload_n C 0 dL_uncouple_0 rfl ?_
  refine az_iload_n C 1 dL_uncouple_1 rfl ?_
  refine az_callV C Y_X3_uncouple cX3 0 0 [.int p0] [] wm_L_83 wi_X3_uncouple wse_X3_uncouple dL_uncouple_2 rfl rfl rfl hM rfl (Nat.le_of_ble_eq_true rfl) (by show d + 1 ≤ 10; omega) (by show 19 + 4 + 40 * d ≤ 400; omega) (Nat.le_of_eq (Nat.zero_add _)) (Nat.le_of_eq (Nat.zero_add _)) (fun v ad9 K9 hp => ?_) (fun E ad9 K9 hp => ?_)
  · obtain ⟨u, rfl, hp'⟩ := hv _ _ _ hp
    exact az_iret C rfl dL_uncouple_5 (Nat.le_of_eq (Nat.zero_add _)) (Nat.le_of_eq (Nat.zero_add _)) hp'
  · rcases hx _ _ _ hp with ⟨rfl, hp'⟩ | ⟨rfl, hp'⟩
    · refine az_catch C hG [] ⟨0, 5, 6, 28⟩ [⟨0, 5, 11, 22⟩] rfl (fun z hz => absurd hz List.not_mem_nil) (by decide +kernel) (by decide) wk_L_28 nx_IOB (fun q => ?_)
      refine az_astore_n C (lv' := [(2, .ref q), (0, .ref (ρ.1 0)), (1, .int p0)]) (j := 2) rfl dL_uncouple_6 (by decide) rfl ?_
      refine az_sipush C (v := (-1001)) dL_uncouple_7 (by decide) ?_
      exact az_iret C rfl dL_uncouple_10 (Nat.le_of_eq (Nat.zero_add _)) (Nat.le_of_eq (Nat.zero_add _)) hp'
    · refine az_catch C hG [⟨0, 5, 6, 28⟩] ⟨0, 5, 11, 22⟩ [] rfl (List.forall_mem_cons.mpr ⟨⟨(show (28 : Nat) ≠ 0 by decide), "java/lang/IndexOutOfBoundsException", wk_L_28, az_ncs_mem (by decide +kernel)⟩, (fun z hz => absurd hz List.not_mem_nil)⟩) (by decide +kernel) (by decide) wk_L_22 nx_ISE (fun q => ?_)
      refine az_astore_n C (lv' := [(2, .ref q), (0, .ref (ρ.1 0)), (1, .int p0)]) (j := 2) rfl dL_uncouple_11 (by decide) rfl ?_
      refine az_sipush C (v := (-1002)) dL_uncouple_12 (by decide) ?_
      exact az_iret C rfl dL_uncouple_15 (Nat.le_of_eq (Nat.zero_add _)) (Nat.le_of_eq (Nat.zero_add _)) hp'
set_option maxHeartbeats 4000000 in
set_option maxRecDepth 100000 in
theorem H_convoySize (hG : az_okS l G) (p0 : Int32) {d mc ms : Nat} {post post' : az_O → az_A → az_K → Prop} (hd : d ≤ 9) (hM : az_M l G yX3_convoySize (az_ws yX3_convoySize cX3_convoySize 2 (some FieldType.int)) d (.ref (ρ.1 0) :: [.int p0]) (AD ρ) (KK G ρ x m ou) mc ms post) (hv : ∀ (v : Option Value) (ad' : az_A) (K' : az_K), post (.inl v) ad' K' → ∃ u : Int32, v = some (.int u) ∧ post' (.inl (some (.int u))) ad' K') (hx : ∀ (E : String) (ad' : az_A) (K' : az_K), post (.inr E) ad' K' → (E = "java/lang/IndexOutOfBoundsException" ∧ post' (.inl (some (.int (-1001)))) ad' K')) : az_M l G yL_convoySize (az_wsH yL_convoySize cL_convoySize 3 (some FieldType.int) [(0, 5, 6, 28)]) 10 (.ref (ρ.1 0) :: [.int p0]) (AD ρ) (KK G ρ x m ou) mc ms post' := by
  refine az_startH hG.1 (by decide +kernel) (Nat.le_of_ble_eq_true rfl) ?_
  intro p e s mm args below meth c C
  show az_W l G 3 _ p e _ s mm args below meth c _ _ 0 0 0 [(0, .ref (ρ.1 0)), (1, .int p0)] []
  refine az_aload_n C 0 dL_convoySize_0 rfl ?_
  refine az_iload_n C 1 dL_convoySize_1 rfl ?_
  refine az_callV C Y_X3_convoySize cX3 0 0 [.int p0] [] wm_L_86 wi_X3_convoySize wse_X3_convoySize dL_convoySize_2 rfl rfl rfl hM rfl (Nat.le_of_ble_eq_true rfl) (by show d + 1 ≤ 10; omega) (by show 19 + 2 + 40 * d ≤ 400; omega) (Nat.le_of_eq (Nat.zero_add _)) (Nat.le_of_eq (Nat.zero_add _)) (fun v ad9 K9 hp => ?_) (fun E ad9 K9 hp => ?_)
  · obtain ⟨u, rfl, hp'⟩ := hv _ _ _ hp
    exact az_iret C rfl dL_convoySize_5 (Nat.le_of_eq (Nat.zero_add _)) (Nat.le_of_eq (Nat.zero_add _)) hp'
  · rcases hx _ _ _ hp with ⟨rfl, hp'⟩
    · refine az_catch C hG [] ⟨0, 5, 6, 28⟩ [] rfl (fun z hz => absurd hz List.not_mem_nil) (by decide +kernel) (by decide) wk_L_28 nx_IOB (fun q => ?_)
      refine az_astore_n C (lv' := [(2, .ref q), (0, .ref (ρ.1 0)), (1, .int p0)]) (j := 2) rfl dL_convoySize_6 (by decide) rfl ?_
      refine az_sipush C (v := (-1001)) dL_convoySize_7 (by decide) ?_
      exact az_iret C rfl dL_convoySize_10 (Nat.le_of_eq (Nat.zero_add _)) (Nat.le_of_eq (Nat.zero_add _)) hp'
set_option maxHeartbeats 4000000 in
set_option maxRecDepth 100000 in
theorem H_convoyAt (hG : az_okS l G) (p0 p1 : Int32) {d mc ms : Nat} {post post' : az_O → az_A → az_K → Prop} (hd : d ≤ 9) (hM : az_M l G yX3_convoyAt (az_ws yX3_convoyAt cX3_convoyAt 5 (some FieldType.int)) d (.ref (ρ.1 0) :: [.int p0, .int p1]) (AD ρ) (KK G ρ x m ou) mc ms post) (hv : ∀ (v : Option Value) (ad' : az_A) (K' : az_K), post (.inl v) ad' K' → ∃ u : Int32, v = some (.int u) ∧ post' (.inl (some (.int u))) ad' K') (hx : ∀ (E : String) (ad' : az_A) (K' : az_K), post (.inr E) ad' K' → (E = "java/lang/IndexOutOfBoundsException" ∧ post' (.inl (some (.int (-1001)))) ad' K') ∨ (E = "java/util/NoSuchElementException" ∧ post' (.inl (some (.int (-1002)))) ad' K')) : az_M l G yL_convoyAt (az_wsH yL_convoyAt cL_convoyAt 4 (some FieldType.int) [(0, 6, 7, 28), (0, 6, 12, 92)]) 10 (.ref (ρ.1 0) :: [.int p0, .int p1]) (AD ρ) (KK G ρ x m ou) mc ms post' := by
  refine az_startH hG.1 (by decide +kernel) (Nat.le_of_ble_eq_true rfl) ?_
  intro p e s mm args below meth c C
  show az_W l G 4 _ p e _ s mm args below meth c _ _ 0 0 0 [(0, .ref (ρ.1 0)), (1, .int p0), (2, .int p1)] []
  refine az_aload_n C 0 dL_convoyAt_0 rfl ?_
  refine az_iload_n C 1 dL_convoyAt_1 rfl ?_
  refine az_iload_n C 2 dL_convoyAt_2 rfl ?_
  refine az_callV C Y_X3_convoyAt cX3 0 0 [.int p0, .int p1] [] wm_L_89 wi_X3_convoyAt wse_X3_convoyAt dL_convoyAt_3 rfl rfl rfl hM rfl (Nat.le_of_ble_eq_true rfl) (by show d + 1 ≤ 10; omega) (by show 19 + 5 + 40 * d ≤ 400; omega) (Nat.le_of_eq (Nat.zero_add _)) (Nat.le_of_eq (Nat.zero_add _)) (fun v ad9 K9 hp => ?_) (fun E ad9 K9 hp => ?_)
  · obtain ⟨u, rfl, hp'⟩ := hv _ _ _ hp
    exact az_iret C rfl dL_convoyAt_6 (Nat.le_of_eq (Nat.zero_add _)) (Nat.le_of_eq (Nat.zero_add _)) hp'
  · rcases hx _ _ _ hp with ⟨rfl, hp'⟩ | ⟨rfl, hp'⟩
    · refine az_catch C hG [] ⟨0, 6, 7, 28⟩ [⟨0, 6, 12, 92⟩] rfl (fun z hz => absurd hz List.not_mem_nil) (by decide +kernel) (by decide) wk_L_28 nx_IOB (fun q => ?_)
      refine az_astore_n C (lv' := [(3, .ref q), (0, .ref (ρ.1 0)), (1, .int p0), (2, .int p1)]) (j := 3) rfl dL_convoyAt_7 (by decide) rfl ?_
      refine az_sipush C (v := (-1001)) dL_convoyAt_8 (by decide) ?_
      exact az_iret C rfl dL_convoyAt_11 (Nat.le_of_eq (Nat.zero_add _)) (Nat.le_of_eq (Nat.zero_add _)) hp'
    · refine az_catch C hG [⟨0, 6, 7, 28⟩] ⟨0, 6, 12, 92⟩ [] rfl (List.forall_mem_cons.mpr ⟨⟨(show (28 : Nat) ≠ 0 by decide), "java/lang/IndexOutOfBoundsException", wk_L_28, az_ncs_mem (by decide +kernel)⟩, (fun z hz => absurd hz List.not_mem_nil)⟩) (by decide +kernel) (by decide) wk_L_92 nx_NSE (fun q => ?_)
      refine az_astore_n C (lv' := [(3, .ref q), (0, .ref (ρ.1 0)), (1, .int p0), (2, .int p1)]) (j := 3) rfl dL_convoyAt_12 (by decide) rfl ?_
      refine az_sipush C (v := (-1002)) dL_convoyAt_13 (by decide) ?_
      exact az_iret C rfl dL_convoyAt_16 (Nat.le_of_eq (Nat.zero_add _)) (Nat.le_of_eq (Nat.zero_add _)) hp'
set_option maxHeartbeats 4000000 in
set_option maxRecDepth 100000 in
theorem H_partsFor (hG : az_okS l G) (p0 p1 : Int32) {d mc ms : Nat} {post post' : az_O → az_A → az_K → Prop} (hd : d ≤ 9) (hM : az_M l G yX3_partsFor (az_ws yX3_partsFor cX3_partsFor 4 (some FieldType.int)) d (.ref (ρ.1 0) :: [.int p0, .int p1]) (AD ρ) (KK G ρ x m ou) mc ms post) (hv : ∀ (v : Option Value) (ad' : az_A) (K' : az_K), post (.inl v) ad' K' → ∃ u : Int32, v = some (.int u) ∧ post' (.inl (some (.int u))) ad' K') (hx : ∀ (E : String) (ad' : az_A) (K' : az_K), post (.inr E) ad' K' → (E = "java/lang/IndexOutOfBoundsException" ∧ post' (.inl (some (.int (-1001)))) ad' K') ∨ (E = "java/lang/UnsupportedOperationException" ∧ post' (.inl (some (.int (-1002)))) ad' K')) : az_M l G yL_partsFor (az_wsH yL_partsFor cL_partsFor 4 (some FieldType.int) [(0, 6, 7, 28), (0, 6, 12, 55)]) 10 (.ref (ρ.1 0) :: [.int p0, .int p1]) (AD ρ) (KK G ρ x m ou) mc ms post' := by
  refine az_startH hG.1 (by decide +kernel) (Nat.le_of_ble_eq_true rfl) ?_
  intro p e s mm args below meth c C
  show az_W l G 4 _ p e _ s mm args below meth c _ _ 0 0 0 [(0, .ref (ρ.1 0)), (1, .int p0), (2, .int p1)] []
  refine az_aload_n C 0 dL_partsFor_0 rfl ?_
  refine az_iload_n C 1 dL_partsFor_1 rfl ?_
  refine az_iload_n C 2 dL_partsFor_2 rfl ?_
  refine az_callV C Y_X3_partsFor cX3 0 0 [.int p0, .int p1] [] wm_L_94 wi_X3_partsFor wse_X3_partsFor dL_partsFor_3 rfl rfl rfl hM rfl (Nat.le_of_ble_eq_true rfl) (by show d + 1 ≤ 10; omega) (by show 19 + 4 + 40 * d ≤ 400; omega) (Nat.le_of_eq (Nat.zero_add _)) (Nat.le_of_eq (Nat.zero_add _)) (fun v ad9 K9 hp => ?_) (fun E ad9 K9 hp => ?_)
  · obtain ⟨u, rfl, hp'⟩ := hv _ _ _ hp
    exact az_iret C rfl dL_partsFor_6 (Nat.le_of_eq (Nat.zero_add _)) (Nat.le_of_eq (Nat.zero_add _)) hp'
  · rcases hx _ _ _ hp with ⟨rfl, hp'⟩ | ⟨rfl, hp'⟩
    · refine az_catch C hG [] ⟨0, 6, 7, 28⟩ [⟨0, 6, 12, 55⟩] rfl (fun z hz => absurd hz List.not_mem_nil) (by decide +kernel) (by decide) wk_L_28 nx_IOB (fun q => ?_)
      refine az_astore_n C (lv' := [(3, .ref q), (0, .ref (ρ.1 0)), (1, .int p0), (2, .int p1)]) (j := 3) rfl dL_partsFor_7 (by decide) rfl ?_
      refine az_sipush C (v := (-1001)) dL_partsFor_8 (by decide) ?_
      exact az_iret C rfl dL_partsFor_11 (Nat.le_of_eq (Nat.zero_add _)) (Nat.le_of_eq (Nat.zero_add _)) hp'
    · refine az_catch C hG [⟨0, 6, 7, 28⟩] ⟨0, 6, 12, 55⟩ [] rfl (List.forall_mem_cons.mpr ⟨⟨(show (28 : Nat) ≠ 0 by decide), "java/lang/IndexOutOfBoundsException", wk_L_28, az_ncs_mem (by decide +kernel)⟩, (fun z hz => absurd hz List.not_mem_nil)⟩) (by decide +kernel) (by decide) wk_L_55 nx_UOE (fun q => ?_)
      refine az_astore_n C (lv' := [(3, .ref q), (0, .ref (ρ.1 0)), (1, .int p0), (2, .int p1)]) (j := 3) rfl dL_partsFor_12 (by decide) rfl ?_
      refine az_sipush C (v := (-1002)) dL_partsFor_13 (by decide) ?_
      exact az_iret C rfl dL_partsFor_16 (Nat.le_of_eq (Nat.zero_add _)) (Nat.le_of_eq (Nat.zero_add _)) hp'
set_option maxHeartbeats 4000000 in
set_option maxRecDepth 100000 in
theorem H_pass (hG : az_okS l G) (p0 p1 : Int32) {d mc ms : Nat} {post post' : az_O → az_A → az_K → Prop} (hd : d ≤ 9) (hM : az_M l G yX3_pass (az_ws yX3_pass cX3_pass 5 (some FieldType.int)) d (.ref (ρ.1 0) :: [.int p0, .int p1]) (AD ρ) (KK G ρ x m ou) mc ms post) (hv : ∀ (v : Option Value) (ad' : az_A) (K' : az_K), post (.inl v) ad' K' → ∃ u : Int32, v = some (.int u) ∧ post' (.inl (some (.int u))) ad' K') (hx : ∀ (E : String) (ad' : az_A) (K' : az_K), post (.inr E) ad' K' → (E = "java/lang/IndexOutOfBoundsException" ∧ post' (.inl (some (.int (-1001)))) ad' K') ∨ (E = "java/util/NoSuchElementException" ∧ post' (.inl (some (.int (-1002)))) ad' K') ∨ (E = "java/lang/UnsupportedOperationException" ∧ post' (.inl (some (.int (-1003)))) ad' K')) : az_M l G yL_pass (az_wsH yL_pass cL_pass 4 (some FieldType.int) [(0, 6, 7, 28), (0, 6, 12, 92), (0, 6, 17, 55)]) 10 (.ref (ρ.1 0) :: [.int p0, .int p1]) (AD ρ) (KK G ρ x m ou) mc ms post' := by
  refine az_startH hG.1 (by decide +kernel) (Nat.le_of_ble_eq_true rfl) ?_
  intro p e s mm args below meth c C
  show az_W l G 4 _ p e _ s mm args below meth c _ _ 0 0 0 [(0, .ref (ρ.1 0)), (1, .int p0), (2, .int p1)] []
  refine az_aload_n C 0 dL_pass_0 rfl ?_
  refine az_iload_n C 1 dL_pass_1 rfl ?_
  refine az_iload_n C 2 dL_pass_2 rfl ?_
  refine az_callV C Y_X3_pass cX3 0 0 [.int p0, .int p1] [] wm_L_97 wi_X3_pass wse_X3_pass dL_pass_3 rfl rfl rfl hM rfl (Nat.le_of_ble_eq_true rfl) (by show d + 1 ≤ 10; omega) (by show 19 + 5 + 40 * d ≤ 400; omega) (Nat.le_of_eq (Nat.zero_add _)) (Nat.le_of_eq (Nat.zero_add _)) (fun v ad9 K9 hp => ?_) (fun E ad9 K9 hp => ?_)
  · obtain ⟨u, rfl, hp'⟩ := hv _ _ _ hp
    exact az_iret C rfl dL_pass_6 (Nat.le_of_eq (Nat.zero_add _)) (Nat.le_of_eq (Nat.zero_add _)) hp'
  · rcases hx _ _ _ hp with ⟨rfl, hp'⟩ | ⟨rfl, hp'⟩ | ⟨rfl, hp'⟩
    · refine az_catch C hG [] ⟨0, 6, 7, 28⟩ [⟨0, 6, 12, 92⟩, ⟨0, 6, 17, 55⟩] rfl (fun z hz => absurd hz List.not_mem_nil) (by decide +kernel) (by decide) wk_L_28 nx_IOB (fun q => ?_)
      refine az_astore_n C (lv' := [(3, .ref q), (0, .ref (ρ.1 0)), (1, .int p0), (2, .int p1)]) (j := 3) rfl dL_pass_7 (by decide) rfl ?_
      refine az_sipush C (v := (-1001)) dL_pass_8 (by decide) ?_
      exact az_iret C rfl dL_pass_11 (Nat.le_of_eq (Nat.zero_add _)) (Nat.le_of_eq (Nat.zero_add _)) hp'
    · refine az_catch C hG [⟨0, 6, 7, 28⟩] ⟨0, 6, 12, 92⟩ [⟨0, 6, 17, 55⟩] rfl (List.forall_mem_cons.mpr ⟨⟨(show (28 : Nat) ≠ 0 by decide), "java/lang/IndexOutOfBoundsException", wk_L_28, az_ncs_mem (by decide +kernel)⟩, (fun z hz => absurd hz List.not_mem_nil)⟩) (by decide +kernel) (by decide) wk_L_92 nx_NSE (fun q => ?_)
      refine az_astore_n C (lv' := [(3, .ref q), (0, .ref (ρ.1 0)), (1, .int p0), (2, .int p1)]) (j := 3) rfl dL_pass_12 (by decide) rfl ?_
      refine az_sipush C (v := (-1002)) dL_pass_13 (by decide) ?_
      exact az_iret C rfl dL_pass_16 (Nat.le_of_eq (Nat.zero_add _)) (Nat.le_of_eq (Nat.zero_add _)) hp'
    · refine az_catch C hG [⟨0, 6, 7, 28⟩, ⟨0, 6, 12, 92⟩] ⟨0, 6, 17, 55⟩ [] rfl (List.forall_mem_cons.mpr ⟨⟨(show (28 : Nat) ≠ 0 by decide), "java/lang/IndexOutOfBoundsException", wk_L_28, az_ncs_mem (by decide +kernel)⟩, (List.forall_mem_cons.mpr ⟨⟨(show (92 : Nat) ≠ 0 by decide), "java/util/NoSuchElementException", wk_L_92, az_ncs_mem (by decide +kernel)⟩, (fun z hz => absurd hz List.not_mem_nil)⟩)⟩) (by decide +kernel) (by decide) wk_L_55 nx_UOE (fun q => ?_)
      refine az_astore_n C (lv' := [(3, .ref q), (0, .ref (ρ.1 0)), (1, .int p0), (2, .int p1)]) (j := 3) rfl dL_pass_17 (by decide) rfl ?_
      refine az_sipush C (v := (-1003)) dL_pass_18 (by decide) ?_
      exact az_iret C rfl dL_pass_21 (Nat.le_of_eq (Nat.zero_add _)) (Nat.le_of_eq (Nat.zero_add _)) hp'
set_option maxHeartbeats 4000000 in
set_option maxRecDepth 100000 in
theorem H_voyage (hG : az_okS l G) (p0 p1 : Int32) {d mc ms : Nat} {post post' : az_O → az_A → az_K → Prop} (hd : d ≤ 9) (hM : az_M l G yX3_voyage (az_ws yX3_voyage cX3_voyage 4 (some FieldType.int)) d (.ref (ρ.1 0) :: [.int p0, .int p1]) (AD ρ) (KK G ρ x m ou) mc ms post) (hv : ∀ (v : Option Value) (ad' : az_A) (K' : az_K), post (.inl v) ad' K' → ∃ u : Int32, v = some (.int u) ∧ post' (.inl (some (.int u))) ad' K') (hx : ∀ (E : String) (ad' : az_A) (K' : az_K), post (.inr E) ad' K' → (E = "java/lang/IndexOutOfBoundsException" ∧ post' (.inl (some (.int (-1001)))) ad' K') ∨ (E = "java/lang/IllegalStateException" ∧ post' (.inl (some (.int (-1002)))) ad' K') ∨ (E = "java/lang/UnsupportedOperationException" ∧ post' (.inl (some (.int (-1003)))) ad' K')) : az_M l G yL_voyage (az_wsH yL_voyage cL_voyage 4 (some FieldType.int) [(0, 6, 7, 28), (0, 6, 12, 22), (0, 6, 17, 55)]) 10 (.ref (ρ.1 0) :: [.int p0, .int p1]) (AD ρ) (KK G ρ x m ou) mc ms post' := by
  refine az_startH hG.1 (by decide +kernel) (Nat.le_of_ble_eq_true rfl) ?_
  intro p e s mm args below meth c C
  show az_W l G 4 _ p e _ s mm args below meth c _ _ 0 0 0 [(0, .ref (ρ.1 0)), (1, .int p0), (2, .int p1)] []
  refine az_aload_n C 0 dL_voyage_0 rfl ?_
  refine az_iload_n C 1 dL_voyage_1 rfl ?_
  refine az_iload_n C 2 dL_voyage_2 rfl ?_
  refine az_callV C Y_X3_voyage cX3 0 0 [.int p0, .int p1] [] wm_L_101 wi_X3_voyage wse_X3_voyage dL_voyage_3 rfl rfl rfl hM rfl (Nat.le_of_ble_eq_true rfl) (by show d + 1 ≤ 10; omega) (by show 19 + 4 + 40 * d ≤ 400; omega) (Nat.le_of_eq (Nat.zero_add _)) (Nat.le_of_eq (Nat.zero_add _)) (fun v ad9 K9 hp => ?_) (fun E ad9 K9 hp => ?_)
  · obtain ⟨u, rfl, hp'⟩ := hv _ _ _ hp
    exact az_iret C rfl dL_voyage_6 (Nat.le_of_eq (Nat.zero_add _)) (Nat.le_of_eq (Nat.zero_add _)) hp'
  · rcases hx _ _ _ hp with ⟨rfl, hp'⟩ | ⟨rfl, hp'⟩ | ⟨rfl, hp'⟩
    · refine az_catch C hG [] ⟨0, 6, 7, 28⟩ [⟨0, 6, 12, 22⟩, ⟨0, 6, 17, 55⟩] rfl (fun z hz => absurd hz List.not_mem_nil) (by decide +kernel) (by decide) wk_L_28 nx_IOB (fun q => ?_)
      refine az_astore_n C (lv' := [(3, .ref q), (0, .ref (ρ.1 0)), (1, .int p0), (2, .int p1)]) (j := 3) rfl dL_voyage_7 (by decide) rfl ?_
      refine az_sipush C (v := (-1001)) dL_voyage_8 (by decide) ?_
      exact az_iret C rfl dL_voyage_11 (Nat.le_of_eq (Nat.zero_add _)) (Nat.le_of_eq (Nat.zero_add _)) hp'
    · refine az_catch C hG [⟨0, 6, 7, 28⟩] ⟨0, 6, 12, 22⟩ [⟨0, 6, 17, 55⟩] rfl (List.forall_mem_cons.mpr ⟨⟨(show (28 : Nat) ≠ 0 by decide), "java/lang/IndexOutOfBoundsException", wk_L_28, az_ncs_mem (by decide +kernel)⟩, (fun z hz => absurd hz List.not_mem_nil)⟩) (by decide +kernel) (by decide) wk_L_22 nx_ISE (fun q => ?_)
      refine az_astore_n C (lv' := [(3, .ref q), (0, .ref (ρ.1 0)), (1, .int p0), (2, .int p1)]) (j := 3) rfl dL_voyage_12 (by decide) rfl ?_
      refine az_sipush C (v := (-1002)) dL_voyage_13 (by decide) ?_
      exact az_iret C rfl dL_voyage_16 (Nat.le_of_eq (Nat.zero_add _)) (Nat.le_of_eq (Nat.zero_add _)) hp'
    · refine az_catch C hG [⟨0, 6, 7, 28⟩, ⟨0, 6, 12, 22⟩] ⟨0, 6, 17, 55⟩ [] rfl (List.forall_mem_cons.mpr ⟨⟨(show (28 : Nat) ≠ 0 by decide), "java/lang/IndexOutOfBoundsException", wk_L_28, az_ncs_mem (by decide +kernel)⟩, (List.forall_mem_cons.mpr ⟨⟨(show (22 : Nat) ≠ 0 by decide), "java/lang/IllegalStateException", wk_L_22, az_ncs_mem (by decide +kernel)⟩, (fun z hz => absurd hz List.not_mem_nil)⟩)⟩) (by decide +kernel) (by decide) wk_L_55 nx_UOE (fun q => ?_)
      refine az_astore_n C (lv' := [(3, .ref q), (0, .ref (ρ.1 0)), (1, .int p0), (2, .int p1)]) (j := 3) rfl dL_voyage_17 (by decide) rfl ?_
      refine az_sipush C (v := (-1003)) dL_voyage_18 (by decide) ?_
      exact az_iret C rfl dL_voyage_21 (Nat.le_of_eq (Nat.zero_add _)) (Nat.le_of_eq (Nat.zero_add _)) hp'
set_option maxHeartbeats 4000000 in
set_option maxRecDepth 100000 in
theorem H_isPossible (hG : az_okS l G) (p0 p1 : Int32) {d mc ms : Nat} {post post' : az_O → az_A → az_K → Prop} (hd : d ≤ 9) (hM : az_M l G yX3_isPossible (az_ws yX3_isPossible cX3_isPossible 4 (some FieldType.boolean)) d (.ref (ρ.1 0) :: [.int p0, .int p1]) (AD ρ) (KK G ρ x m ou) mc ms post) (hv : ∀ (v : Option Value) (ad' : az_A) (K' : az_K), post (.inl v) ad' K' → ∃ u : Int32, v = some (.int u) ∧ post' (.inl (some (.int (if u = 0 then 0 else 1)))) ad' K') (hx : ∀ (E : String) (ad' : az_A) (K' : az_K), post (.inr E) ad' K' → (E = "java/lang/IndexOutOfBoundsException" ∧ post' (.inl (some (.int (-1001)))) ad' K')) : az_M l G yL_isPossible (az_wsH yL_isPossible cL_isPossible 4 (some FieldType.int) [(0, 14, 15, 28)]) 10 (.ref (ρ.1 0) :: [.int p0, .int p1]) (AD ρ) (KK G ρ x m ou) mc ms post' := by
  refine az_startH hG.1 (by decide +kernel) (Nat.le_of_ble_eq_true rfl) ?_
  intro p e s mm args below meth c C
  show az_W l G 4 _ p e _ s mm args below meth c _ _ 0 0 0 [(0, .ref (ρ.1 0)), (1, .int p0), (2, .int p1)] []
  refine az_aload_n C 0 dL_isPossible_0 rfl ?_
  refine az_iload_n C 1 dL_isPossible_1 rfl ?_
  refine az_iload_n C 2 dL_isPossible_2 rfl ?_
  refine az_callV C Y_X3_isPossible cX3 0 0 [.int p0, .int p1] [] wm_L_104 wi_X3_isPossible wse_X3_isPossible dL_isPossible_3 rfl rfl rfl hM rfl (Nat.le_of_ble_eq_true rfl) (by show d + 1 ≤ 10; omega) (by show 19 + 4 + 40 * d ≤ 400; omega) (Nat.le_of_eq (Nat.zero_add _)) (Nat.le_of_eq (Nat.zero_add _)) (fun v ad9 K9 hp => ?_) (fun E ad9 K9 hp => ?_)
  · obtain ⟨u, rfl, hp'⟩ := hv _ _ _ hp
    refine az_if_eq C 13 dL_isPossible_6 (by decide) (fun h0 => ?_) (fun h0 => ?_)
    · rw [if_pos h0] at hp'
      refine az_iconst C (v := 0) dL_isPossible_13 (by decide) ?_
      exact az_iret C rfl dL_isPossible_14 (Nat.le_of_eq (Nat.zero_add _)) (Nat.le_of_eq (Nat.zero_add _)) hp'
    · rw [if_neg h0] at hp'
      refine az_iconst C (v := 1) dL_isPossible_9 (by decide) ?_
      refine az_goto C 14 dL_isPossible_10 (by decide) ?_
      exact az_iret C rfl dL_isPossible_14 (Nat.le_of_eq (Nat.zero_add _)) (Nat.le_of_eq (Nat.zero_add _)) hp'
  · rcases hx _ _ _ hp with ⟨rfl, hp'⟩
    · refine az_catch C hG [] ⟨0, 14, 15, 28⟩ [] rfl (fun z hz => absurd hz List.not_mem_nil) (by decide +kernel) (by decide) wk_L_28 nx_IOB (fun q => ?_)
      refine az_astore_n C (lv' := [(3, .ref q), (0, .ref (ρ.1 0)), (1, .int p0), (2, .int p1)]) (j := 3) rfl dL_isPossible_15 (by decide) rfl ?_
      refine az_sipush C (v := (-1001)) dL_isPossible_16 (by decide) ?_
      exact az_iret C rfl dL_isPossible_19 (Nat.le_of_eq (Nat.zero_add _)) (Nat.le_of_eq (Nat.zero_add _)) hp'
set_option maxHeartbeats 4000000 in
set_option maxRecDepth 100000 in
theorem H_waterFor (hG : az_okS l G) (p0 p1 : Int32) {d mc ms : Nat} {post post' : az_O → az_A → az_K → Prop} (hd : d ≤ 9) (hM : az_M l G yX3_waterFor (az_ws yX3_waterFor cX3_waterFor 7 (some FieldType.int)) d (.ref (ρ.1 0) :: [.int p0, .int p1]) (AD ρ) (KK G ρ x m ou) mc ms post) (hv : ∀ (v : Option Value) (ad' : az_A) (K' : az_K), post (.inl v) ad' K' → ∃ u : Int32, v = some (.int u) ∧ post' (.inl (some (.int u))) ad' K') (hx : ∀ (E : String) (ad' : az_A) (K' : az_K), post (.inr E) ad' K' → (E = "java/lang/IndexOutOfBoundsException" ∧ post' (.inl (some (.int (-1001)))) ad' K') ∨ (E = "java/lang/UnsupportedOperationException" ∧ post' (.inl (some (.int (-1002)))) ad' K')) : az_M l G yL_waterFor (az_wsH yL_waterFor cL_waterFor 4 (some FieldType.int) [(0, 6, 7, 28), (0, 6, 12, 55)]) 10 (.ref (ρ.1 0) :: [.int p0, .int p1]) (AD ρ) (KK G ρ x m ou) mc ms post' := by
  refine az_startH hG.1 (by decide +kernel) (Nat.le_of_ble_eq_true rfl) ?_
  intro p e s mm args below meth c C
  show az_W l G 4 _ p e _ s mm args below meth c _ _ 0 0 0 [(0, .ref (ρ.1 0)), (1, .int p0), (2, .int p1)] []
  refine az_aload_n C 0 dL_waterFor_0 rfl ?_
  refine az_iload_n C 1 dL_waterFor_1 rfl ?_
  refine az_iload_n C 2 dL_waterFor_2 rfl ?_
  refine az_callV C Y_X3_waterFor cX3 0 0 [.int p0, .int p1] [] wm_L_108 wi_X3_waterFor wse_X3_waterFor dL_waterFor_3 rfl rfl rfl hM rfl (Nat.le_of_ble_eq_true rfl) (by show d + 1 ≤ 10; omega) (by show 19 + 7 + 40 * d ≤ 400; omega) (Nat.le_of_eq (Nat.zero_add _)) (Nat.le_of_eq (Nat.zero_add _)) (fun v ad9 K9 hp => ?_) (fun E ad9 K9 hp => ?_)
  · obtain ⟨u, rfl, hp'⟩ := hv _ _ _ hp
    exact az_iret C rfl dL_waterFor_6 (Nat.le_of_eq (Nat.zero_add _)) (Nat.le_of_eq (Nat.zero_add _)) hp'
  · rcases hx _ _ _ hp with ⟨rfl, hp'⟩ | ⟨rfl, hp'⟩
    · refine az_catch C hG [] ⟨0, 6, 7, 28⟩ [⟨0, 6, 12, 55⟩] rfl (fun z hz => absurd hz List.not_mem_nil) (by decide +kernel) (by decide) wk_L_28 nx_IOB (fun q => ?_)
      refine az_astore_n C (lv' := [(3, .ref q), (0, .ref (ρ.1 0)), (1, .int p0), (2, .int p1)]) (j := 3) rfl dL_waterFor_7 (by decide) rfl ?_
      refine az_sipush C (v := (-1001)) dL_waterFor_8 (by decide) ?_
      exact az_iret C rfl dL_waterFor_11 (Nat.le_of_eq (Nat.zero_add _)) (Nat.le_of_eq (Nat.zero_add _)) hp'
    · refine az_catch C hG [⟨0, 6, 7, 28⟩] ⟨0, 6, 12, 55⟩ [] rfl (List.forall_mem_cons.mpr ⟨⟨(show (28 : Nat) ≠ 0 by decide), "java/lang/IndexOutOfBoundsException", wk_L_28, az_ncs_mem (by decide +kernel)⟩, (fun z hz => absurd hz List.not_mem_nil)⟩) (by decide +kernel) (by decide) wk_L_55 nx_UOE (fun q => ?_)
      refine az_astore_n C (lv' := [(3, .ref q), (0, .ref (ρ.1 0)), (1, .int p0), (2, .int p1)]) (j := 3) rfl dL_waterFor_12 (by decide) rfl ?_
      refine az_sipush C (v := (-1002)) dL_waterFor_13 (by decide) ?_
      exact az_iret C rfl dL_waterFor_16 (Nat.le_of_eq (Nat.zero_add _)) (Nat.le_of_eq (Nat.zero_add _)) hp'
set_option maxHeartbeats 4000000 in
set_option maxRecDepth 100000 in
theorem H_refusalReason (hG : az_okS l G) {d mc ms : Nat} {post post' : az_O → az_A → az_K → Prop} (hd : d ≤ 9) (hM : az_M l G yX3_refusalReason (az_ws yX3_refusalReason cX3_refusalReason 1 (some FieldType.int)) d (.ref (ρ.1 0) :: []) (AD ρ) (KK G ρ x m ou) mc ms post) (hv : ∀ (v : Option Value) (ad' : az_A) (K' : az_K), post (.inl v) ad' K' → ∃ u : Int32, v = some (.int u) ∧ post' (.inl (some (.int u))) ad' K') (hx : ∀ (E : String) (ad' : az_A) (K' : az_K), post (.inr E) ad' K' → (E = "java/util/NoSuchElementException" ∧ post' (.inl (some (.int (-1001)))) ad' K')) : az_M l G yL_refusalReason (az_wsH yL_refusalReason cL_refusalReason 2 (some FieldType.int) [(0, 4, 5, 92)]) 10 (.ref (ρ.1 0) :: []) (AD ρ) (KK G ρ x m ou) mc ms post' := by
  refine az_startH hG.1 (by decide +kernel) (Nat.le_of_ble_eq_true rfl) ?_
  intro p e s mm args below meth c C
  show az_W l G 2 _ p e _ s mm args below meth c _ _ 0 0 0 [(0, .ref (ρ.1 0))] []
  refine az_aload_n C 0 dL_refusalReason_0 rfl ?_
  refine az_callV C Y_X3_refusalReason cX3 0 0 [] [] wm_L_111 wi_X3_refusalReason wse_X3_refusalReason dL_refusalReason_1 rfl rfl rfl hM rfl (Nat.le_of_ble_eq_true rfl) (by show d + 1 ≤ 10; omega) (by show 19 + 1 + 40 * d ≤ 400; omega) (Nat.le_of_eq (Nat.zero_add _)) (Nat.le_of_eq (Nat.zero_add _)) (fun v ad9 K9 hp => ?_) (fun E ad9 K9 hp => ?_)
  · obtain ⟨u, rfl, hp'⟩ := hv _ _ _ hp
    exact az_iret C rfl dL_refusalReason_4 (Nat.le_of_eq (Nat.zero_add _)) (Nat.le_of_eq (Nat.zero_add _)) hp'
  · rcases hx _ _ _ hp with ⟨rfl, hp'⟩
    · refine az_catch C hG [] ⟨0, 4, 5, 92⟩ [] rfl (fun z hz => absurd hz List.not_mem_nil) (by decide +kernel) (by decide) wk_L_92 nx_NSE (fun q => ?_)
      refine az_astore_n C (lv' := [(1, .ref q), (0, .ref (ρ.1 0))]) (j := 1) rfl dL_refusalReason_5 (by decide) rfl ?_
      refine az_sipush C (v := (-1001)) dL_refusalReason_6 (by decide) ?_
      exact az_iret C rfl dL_refusalReason_9 (Nat.le_of_eq (Nat.zero_add _)) (Nat.le_of_eq (Nat.zero_add _)) hp'
set_option maxHeartbeats 4000000 in
set_option maxRecDepth 100000 in
theorem H_refusalLock (hG : az_okS l G) {d mc ms : Nat} {post post' : az_O → az_A → az_K → Prop} (hd : d ≤ 9) (hM : az_M l G yX3_refusalLock (az_ws yX3_refusalLock cX3_refusalLock 1 (some FieldType.int)) d (.ref (ρ.1 0) :: []) (AD ρ) (KK G ρ x m ou) mc ms post) (hv : ∀ (v : Option Value) (ad' : az_A) (K' : az_K), post (.inl v) ad' K' → ∃ u : Int32, v = some (.int u) ∧ post' (.inl (some (.int u))) ad' K') (hx : ∀ (E : String) (ad' : az_A) (K' : az_K), post (.inr E) ad' K' → (E = "java/util/NoSuchElementException" ∧ post' (.inl (some (.int (-1001)))) ad' K')) : az_M l G yL_refusalLock (az_wsH yL_refusalLock cL_refusalLock 2 (some FieldType.int) [(0, 4, 5, 92)]) 10 (.ref (ρ.1 0) :: []) (AD ρ) (KK G ρ x m ou) mc ms post' := by
  refine az_startH hG.1 (by decide +kernel) (Nat.le_of_ble_eq_true rfl) ?_
  intro p e s mm args below meth c C
  show az_W l G 2 _ p e _ s mm args below meth c _ _ 0 0 0 [(0, .ref (ρ.1 0))] []
  refine az_aload_n C 0 dL_refusalLock_0 rfl ?_
  refine az_callV C Y_X3_refusalLock cX3 0 0 [] [] wm_L_115 wi_X3_refusalLock wse_X3_refusalLock dL_refusalLock_1 rfl rfl rfl hM rfl (Nat.le_of_ble_eq_true rfl) (by show d + 1 ≤ 10; omega) (by show 19 + 1 + 40 * d ≤ 400; omega) (Nat.le_of_eq (Nat.zero_add _)) (Nat.le_of_eq (Nat.zero_add _)) (fun v ad9 K9 hp => ?_) (fun E ad9 K9 hp => ?_)
  · obtain ⟨u, rfl, hp'⟩ := hv _ _ _ hp
    exact az_iret C rfl dL_refusalLock_4 (Nat.le_of_eq (Nat.zero_add _)) (Nat.le_of_eq (Nat.zero_add _)) hp'
  · rcases hx _ _ _ hp with ⟨rfl, hp'⟩
    · refine az_catch C hG [] ⟨0, 4, 5, 92⟩ [] rfl (fun z hz => absurd hz List.not_mem_nil) (by decide +kernel) (by decide) wk_L_92 nx_NSE (fun q => ?_)
      refine az_astore_n C (lv' := [(1, .ref q), (0, .ref (ρ.1 0))]) (j := 1) rfl dL_refusalLock_5 (by decide) rfl ?_
      refine az_sipush C (v := (-1001)) dL_refusalLock_6 (by decide) ?_
      exact az_iret C rfl dL_refusalLock_9 (Nat.le_of_eq (Nat.zero_add _)) (Nat.le_of_eq (Nat.zero_add _)) hp'
set_option maxHeartbeats 4000000 in
set_option maxRecDepth 100000 in
theorem H_priceIn (hG : az_okS l G) (p0 : Int32) {d mc ms : Nat} {post post' : az_O → az_A → az_K → Prop} (hd : d ≤ 9) (hM : az_M l G yX3_priceIn (az_ws yX3_priceIn cX3_priceIn 2 (some FieldType.int)) d (.ref (ρ.1 0) :: [.int p0]) (AD ρ) (KK G ρ x m ou) mc ms post) (hv : ∀ (v : Option Value) (ad' : az_A) (K' : az_K), post (.inl v) ad' K' → ∃ u : Int32, v = some (.int u) ∧ post' (.inl (some (.int u))) ad' K') (hx : ∀ (E : String) (ad' : az_A) (K' : az_K), post (.inr E) ad' K' → (E = "java/lang/IndexOutOfBoundsException" ∧ post' (.inl (some (.int (-1001)))) ad' K')) : az_M l G yL_priceIn (az_wsH yL_priceIn cL_priceIn 3 (some FieldType.int) [(0, 5, 6, 28)]) 10 (.ref (ρ.1 0) :: [.int p0]) (AD ρ) (KK G ρ x m ou) mc ms post' := by
  refine az_startH hG.1 (by decide +kernel) (Nat.le_of_ble_eq_true rfl) ?_
  intro p e s mm args below meth c C
  show az_W l G 3 _ p e _ s mm args below meth c _ _ 0 0 0 [(0, .ref (ρ.1 0)), (1, .int p0)] []
  refine az_aload_n C 0 dL_priceIn_0 rfl ?_
  refine az_iload_n C 1 dL_priceIn_1 rfl ?_
  refine az_callV C Y_X3_priceIn cX3 0 0 [.int p0] [] wm_L_118 wi_X3_priceIn wse_X3_priceIn dL_priceIn_2 rfl rfl rfl hM rfl (Nat.le_of_ble_eq_true rfl) (by show d + 1 ≤ 10; omega) (by show 19 + 2 + 40 * d ≤ 400; omega) (Nat.le_of_eq (Nat.zero_add _)) (Nat.le_of_eq (Nat.zero_add _)) (fun v ad9 K9 hp => ?_) (fun E ad9 K9 hp => ?_)
  · obtain ⟨u, rfl, hp'⟩ := hv _ _ _ hp
    exact az_iret C rfl dL_priceIn_5 (Nat.le_of_eq (Nat.zero_add _)) (Nat.le_of_eq (Nat.zero_add _)) hp'
  · rcases hx _ _ _ hp with ⟨rfl, hp'⟩
    · refine az_catch C hG [] ⟨0, 5, 6, 28⟩ [] rfl (fun z hz => absurd hz List.not_mem_nil) (by decide +kernel) (by decide) wk_L_28 nx_IOB (fun q => ?_)
      refine az_astore_n C (lv' := [(2, .ref q), (0, .ref (ρ.1 0)), (1, .int p0)]) (j := 2) rfl dL_priceIn_6 (by decide) rfl ?_
      refine az_sipush C (v := (-1001)) dL_priceIn_7 (by decide) ?_
      exact az_iret C rfl dL_priceIn_10 (Nat.le_of_eq (Nat.zero_add _)) (Nat.le_of_eq (Nat.zero_add _)) hp'
set_option maxHeartbeats 4000000 in
set_option maxRecDepth 100000 in
theorem H_buy (hG : az_okS l G) (p0 p1 : Int32) {d mc ms : Nat} {post post' : az_O → az_A → az_K → Prop} (hd : d ≤ 9) (hM : az_M l G yX3_buy (az_ws yX3_buy cX3_buy 6 (some FieldType.long)) d (.ref (ρ.1 0) :: [.int p0, .int p1]) (AD ρ) (KK G ρ x m ou) mc ms post) (hv : ∀ (v : Option Value) (ad' : az_A) (K' : az_K), post (.inl v) ad' K' → ∃ u : Int64, v = some (.long u) ∧ post' (.inl (some (.long u))) ad' K') (hx : ∀ (E : String) (ad' : az_A) (K' : az_K), post (.inr E) ad' K' → (E = "java/lang/IndexOutOfBoundsException" ∧ post' (.inl (some (.long (-1001)))) ad' K') ∨ (E = "java/lang/IllegalArgumentException" ∧ post' (.inl (some (.long (-1002)))) ad' K') ∨ (E = "java/lang/UnsupportedOperationException" ∧ post' (.inl (some (.long (-1003)))) ad' K') ∨ (E = "java/lang/IllegalStateException" ∧ post' (.inl (some (.long (-1004)))) ad' K')) : az_M l G yL_buy (az_wsH yL_buy cL_buy 4 (some FieldType.long) [(0, 6, 7, 28), (0, 6, 12, 20), (0, 6, 17, 55), (0, 6, 22, 22)]) 10 (.ref (ρ.1 0) :: [.int p0, .int p1]) (AD ρ) (KK G ρ x m ou) mc ms post' := by
  refine az_startH hG.1 (by decide +kernel) (Nat.le_of_ble_eq_true rfl) ?_
  intro p e s mm args below meth c C
  show az_W l G 4 _ p e _ s mm args below meth c _ _ 0 0 0 [(0, .ref (ρ.1 0)), (1, .int p0), (2, .int p1)] []
  refine az_aload_n C 0 dL_buy_0 rfl ?_
  refine az_iload_n C 1 dL_buy_1 rfl ?_
  refine az_iload_n C 2 dL_buy_2 rfl ?_
  refine az_callV C Y_X3_buy cX3 0 0 [.int p0, .int p1] [] wm_L_121 wi_X3_buy wse_X3_buy dL_buy_3 rfl rfl rfl hM rfl (Nat.le_of_ble_eq_true rfl) (by show d + 1 ≤ 10; omega) (by show 19 + 6 + 40 * d ≤ 400; omega) (Nat.le_of_eq (Nat.zero_add _)) (Nat.le_of_eq (Nat.zero_add _)) (fun v ad9 K9 hp => ?_) (fun E ad9 K9 hp => ?_)
  · obtain ⟨u, rfl, hp'⟩ := hv _ _ _ hp
    exact az_lret C rfl dL_buy_6 (Nat.le_of_eq (Nat.zero_add _)) (Nat.le_of_eq (Nat.zero_add _)) hp'
  · rcases hx _ _ _ hp with ⟨rfl, hp'⟩ | ⟨rfl, hp'⟩ | ⟨rfl, hp'⟩ | ⟨rfl, hp'⟩
    · refine az_catch C hG [] ⟨0, 6, 7, 28⟩ [⟨0, 6, 12, 20⟩, ⟨0, 6, 17, 55⟩, ⟨0, 6, 22, 22⟩] rfl (fun z hz => absurd hz List.not_mem_nil) (by decide +kernel) (by decide) wk_L_28 nx_IOB (fun q => ?_)
      refine az_astore_n C (lv' := [(3, .ref q), (0, .ref (ρ.1 0)), (1, .int p0), (2, .int p1)]) (j := 3) rfl dL_buy_7 (by decide) rfl ?_
      refine az_ldc2 C (v := (-1001)) wn_L_125 dL_buy_8 ?_
      exact az_lret C rfl dL_buy_11 (Nat.le_of_eq (Nat.zero_add _)) (Nat.le_of_eq (Nat.zero_add _)) hp'
    · refine az_catch C hG [⟨0, 6, 7, 28⟩] ⟨0, 6, 12, 20⟩ [⟨0, 6, 17, 55⟩, ⟨0, 6, 22, 22⟩] rfl (List.forall_mem_cons.mpr ⟨⟨(show (28 : Nat) ≠ 0 by decide), "java/lang/IndexOutOfBoundsException", wk_L_28, az_ncs_mem (by decide +kernel)⟩, (fun z hz => absurd hz List.not_mem_nil)⟩) (by decide +kernel) (by decide) wk_L_20 nx_IAE (fun q => ?_)
      refine az_astore_n C (lv' := [(3, .ref q), (0, .ref (ρ.1 0)), (1, .int p0), (2, .int p1)]) (j := 3) rfl dL_buy_12 (by decide) rfl ?_
      refine az_ldc2 C (v := (-1002)) wn_L_127 dL_buy_13 ?_
      exact az_lret C rfl dL_buy_16 (Nat.le_of_eq (Nat.zero_add _)) (Nat.le_of_eq (Nat.zero_add _)) hp'
    · refine az_catch C hG [⟨0, 6, 7, 28⟩, ⟨0, 6, 12, 20⟩] ⟨0, 6, 17, 55⟩ [⟨0, 6, 22, 22⟩] rfl (List.forall_mem_cons.mpr ⟨⟨(show (28 : Nat) ≠ 0 by decide), "java/lang/IndexOutOfBoundsException", wk_L_28, az_ncs_mem (by decide +kernel)⟩, (List.forall_mem_cons.mpr ⟨⟨(show (20 : Nat) ≠ 0 by decide), "java/lang/IllegalArgumentException", wk_L_20, az_ncs_mem (by decide +kernel)⟩, (fun z hz => absurd hz List.not_mem_nil)⟩)⟩) (by decide +kernel) (by decide) wk_L_55 nx_UOE (fun q => ?_)
      refine az_astore_n C (lv' := [(3, .ref q), (0, .ref (ρ.1 0)), (1, .int p0), (2, .int p1)]) (j := 3) rfl dL_buy_17 (by decide) rfl ?_
      refine az_ldc2 C (v := (-1003)) wn_L_129 dL_buy_18 ?_
      exact az_lret C rfl dL_buy_21 (Nat.le_of_eq (Nat.zero_add _)) (Nat.le_of_eq (Nat.zero_add _)) hp'
    · refine az_catch C hG [⟨0, 6, 7, 28⟩, ⟨0, 6, 12, 20⟩, ⟨0, 6, 17, 55⟩] ⟨0, 6, 22, 22⟩ [] rfl (List.forall_mem_cons.mpr ⟨⟨(show (28 : Nat) ≠ 0 by decide), "java/lang/IndexOutOfBoundsException", wk_L_28, az_ncs_mem (by decide +kernel)⟩, (List.forall_mem_cons.mpr ⟨⟨(show (20 : Nat) ≠ 0 by decide), "java/lang/IllegalArgumentException", wk_L_20, az_ncs_mem (by decide +kernel)⟩, (List.forall_mem_cons.mpr ⟨⟨(show (55 : Nat) ≠ 0 by decide), "java/lang/UnsupportedOperationException", wk_L_55, az_ncs_mem (by decide +kernel)⟩, (fun z hz => absurd hz List.not_mem_nil)⟩)⟩)⟩) (by decide +kernel) (by decide) wk_L_22 nx_ISE (fun q => ?_)
      refine az_astore_n C (lv' := [(3, .ref q), (0, .ref (ρ.1 0)), (1, .int p0), (2, .int p1)]) (j := 3) rfl dL_buy_22 (by decide) rfl ?_
      refine az_ldc2 C (v := (-1004)) wn_L_131 dL_buy_23 ?_
      exact az_lret C rfl dL_buy_26 (Nat.le_of_eq (Nat.zero_add _)) (Nat.le_of_eq (Nat.zero_add _)) hp'
set_option maxHeartbeats 4000000 in
set_option maxRecDepth 100000 in
theorem H_sell (hG : az_okS l G) (p0 p1 : Int32) {d mc ms : Nat} {post post' : az_O → az_A → az_K → Prop} (hd : d ≤ 9) (hM : az_M l G yX3_sell (az_ws yX3_sell cX3_sell 4 (some FieldType.long)) d (.ref (ρ.1 0) :: [.int p0, .int p1]) (AD ρ) (KK G ρ x m ou) mc ms post) (hv : ∀ (v : Option Value) (ad' : az_A) (K' : az_K), post (.inl v) ad' K' → ∃ u : Int64, v = some (.long u) ∧ post' (.inl (some (.long u))) ad' K') (hx : ∀ (E : String) (ad' : az_A) (K' : az_K), post (.inr E) ad' K' → (E = "java/lang/IndexOutOfBoundsException" ∧ post' (.inl (some (.long (-1001)))) ad' K') ∨ (E = "java/lang/IllegalArgumentException" ∧ post' (.inl (some (.long (-1002)))) ad' K') ∨ (E = "java/lang/IllegalStateException" ∧ post' (.inl (some (.long (-1003)))) ad' K')) : az_M l G yL_sell (az_wsH yL_sell cL_sell 4 (some FieldType.long) [(0, 6, 7, 28), (0, 6, 12, 20), (0, 6, 17, 22)]) 10 (.ref (ρ.1 0) :: [.int p0, .int p1]) (AD ρ) (KK G ρ x m ou) mc ms post' := by
  refine az_startH hG.1 (by decide +kernel) (Nat.le_of_ble_eq_true rfl) ?_
  intro p e s mm args below meth c C
  show az_W l G 4 _ p e _ s mm args below meth c _ _ 0 0 0 [(0, .ref (ρ.1 0)), (1, .int p0), (2, .int p1)] []
  refine az_aload_n C 0 dL_sell_0 rfl ?_
  refine az_iload_n C 1 dL_sell_1 rfl ?_
  refine az_iload_n C 2 dL_sell_2 rfl ?_
  refine az_callV C Y_X3_sell cX3 0 0 [.int p0, .int p1] [] wm_L_133 wi_X3_sell wse_X3_sell dL_sell_3 rfl rfl rfl hM rfl (Nat.le_of_ble_eq_true rfl) (by show d + 1 ≤ 10; omega) (by show 19 + 4 + 40 * d ≤ 400; omega) (Nat.le_of_eq (Nat.zero_add _)) (Nat.le_of_eq (Nat.zero_add _)) (fun v ad9 K9 hp => ?_) (fun E ad9 K9 hp => ?_)
  · obtain ⟨u, rfl, hp'⟩ := hv _ _ _ hp
    exact az_lret C rfl dL_sell_6 (Nat.le_of_eq (Nat.zero_add _)) (Nat.le_of_eq (Nat.zero_add _)) hp'
  · rcases hx _ _ _ hp with ⟨rfl, hp'⟩ | ⟨rfl, hp'⟩ | ⟨rfl, hp'⟩
    · refine az_catch C hG [] ⟨0, 6, 7, 28⟩ [⟨0, 6, 12, 20⟩, ⟨0, 6, 17, 22⟩] rfl (fun z hz => absurd hz List.not_mem_nil) (by decide +kernel) (by decide) wk_L_28 nx_IOB (fun q => ?_)
      refine az_astore_n C (lv' := [(3, .ref q), (0, .ref (ρ.1 0)), (1, .int p0), (2, .int p1)]) (j := 3) rfl dL_sell_7 (by decide) rfl ?_
      refine az_ldc2 C (v := (-1001)) wn_L_125 dL_sell_8 ?_
      exact az_lret C rfl dL_sell_11 (Nat.le_of_eq (Nat.zero_add _)) (Nat.le_of_eq (Nat.zero_add _)) hp'
    · refine az_catch C hG [⟨0, 6, 7, 28⟩] ⟨0, 6, 12, 20⟩ [⟨0, 6, 17, 22⟩] rfl (List.forall_mem_cons.mpr ⟨⟨(show (28 : Nat) ≠ 0 by decide), "java/lang/IndexOutOfBoundsException", wk_L_28, az_ncs_mem (by decide +kernel)⟩, (fun z hz => absurd hz List.not_mem_nil)⟩) (by decide +kernel) (by decide) wk_L_20 nx_IAE (fun q => ?_)
      refine az_astore_n C (lv' := [(3, .ref q), (0, .ref (ρ.1 0)), (1, .int p0), (2, .int p1)]) (j := 3) rfl dL_sell_12 (by decide) rfl ?_
      refine az_ldc2 C (v := (-1002)) wn_L_127 dL_sell_13 ?_
      exact az_lret C rfl dL_sell_16 (Nat.le_of_eq (Nat.zero_add _)) (Nat.le_of_eq (Nat.zero_add _)) hp'
    · refine az_catch C hG [⟨0, 6, 7, 28⟩, ⟨0, 6, 12, 20⟩] ⟨0, 6, 17, 22⟩ [] rfl (List.forall_mem_cons.mpr ⟨⟨(show (28 : Nat) ≠ 0 by decide), "java/lang/IndexOutOfBoundsException", wk_L_28, az_ncs_mem (by decide +kernel)⟩, (List.forall_mem_cons.mpr ⟨⟨(show (20 : Nat) ≠ 0 by decide), "java/lang/IllegalArgumentException", wk_L_20, az_ncs_mem (by decide +kernel)⟩, (fun z hz => absurd hz List.not_mem_nil)⟩)⟩) (by decide +kernel) (by decide) wk_L_22 nx_ISE (fun q => ?_)
      refine az_astore_n C (lv' := [(3, .ref q), (0, .ref (ρ.1 0)), (1, .int p0), (2, .int p1)]) (j := 3) rfl dL_sell_17 (by decide) rfl ?_
      refine az_ldc2 C (v := (-1003)) wn_L_129 dL_sell_18 ?_
      exact az_lret C rfl dL_sell_21 (Nat.le_of_eq (Nat.zero_add _)) (Nat.le_of_eq (Nat.zero_add _)) hp'
set_option maxHeartbeats 4000000 in
set_option maxRecDepth 100000 in
theorem H_sellToDraught (hG : az_okS l G) (p0 p1 : Int32) {d mc ms : Nat} {post post' : az_O → az_A → az_K → Prop} (hd : d ≤ 9) (hM : az_M l G yX3_sellToDraught (az_ws yX3_sellToDraught cX3_sellToDraught 5 (some FieldType.int)) d (.ref (ρ.1 0) :: [.int p0, .int p1]) (AD ρ) (KK G ρ x m ou) mc ms post) (hv : ∀ (v : Option Value) (ad' : az_A) (K' : az_K), post (.inl v) ad' K' → ∃ u : Int32, v = some (.int u) ∧ post' (.inl (some (.int u))) ad' K') (hx : ∀ (E : String) (ad' : az_A) (K' : az_K), post (.inr E) ad' K' → (E = "java/lang/IndexOutOfBoundsException" ∧ post' (.inl (some (.int (-1001)))) ad' K') ∨ (E = "java/lang/IllegalArgumentException" ∧ post' (.inl (some (.int (-1002)))) ad' K') ∨ (E = "java/lang/IllegalStateException" ∧ post' (.inl (some (.int (-1003)))) ad' K')) : az_M l G yL_sellToDraught (az_wsH yL_sellToDraught cL_sellToDraught 4 (some FieldType.int) [(0, 6, 7, 28), (0, 6, 12, 20), (0, 6, 17, 22)]) 10 (.ref (ρ.1 0) :: [.int p0, .int p1]) (AD ρ) (KK G ρ x m ou) mc ms post' := by
  refine az_startH hG.1 (by decide +kernel) (Nat.le_of_ble_eq_true rfl) ?_
  intro p e s mm args below meth c C
  show az_W l G 4 _ p e _ s mm args below meth c _ _ 0 0 0 [(0, .ref (ρ.1 0)), (1, .int p0), (2, .int p1)] []
  refine az_aload_n C 0 dL_sellToDraught_0 rfl ?_
  refine az_iload_n C 1 dL_sellToDraught_1 rfl ?_
  refine az_iload_n C 2 dL_sellToDraught_2 rfl ?_
  refine az_callV C Y_X3_sellToDraught cX3 0 0 [.int p0, .int p1] [] wm_L_136 wi_X3_sellToDraught wse_X3_sellToDraught dL_sellToDraught_3 rfl rfl rfl hM rfl (Nat.le_of_ble_eq_true rfl) (by show d + 1 ≤ 10; omega) (by show 19 + 5 + 40 * d ≤ 400; omega) (Nat.le_of_eq (Nat.zero_add _)) (Nat.le_of_eq (Nat.zero_add _)) (fun v ad9 K9 hp => ?_) (fun E ad9 K9 hp => ?_)
  · obtain ⟨u, rfl, hp'⟩ := hv _ _ _ hp
    exact az_iret C rfl dL_sellToDraught_6 (Nat.le_of_eq (Nat.zero_add _)) (Nat.le_of_eq (Nat.zero_add _)) hp'
  · rcases hx _ _ _ hp with ⟨rfl, hp'⟩ | ⟨rfl, hp'⟩ | ⟨rfl, hp'⟩
    · refine az_catch C hG [] ⟨0, 6, 7, 28⟩ [⟨0, 6, 12, 20⟩, ⟨0, 6, 17, 22⟩] rfl (fun z hz => absurd hz List.not_mem_nil) (by decide +kernel) (by decide) wk_L_28 nx_IOB (fun q => ?_)
      refine az_astore_n C (lv' := [(3, .ref q), (0, .ref (ρ.1 0)), (1, .int p0), (2, .int p1)]) (j := 3) rfl dL_sellToDraught_7 (by decide) rfl ?_
      refine az_sipush C (v := (-1001)) dL_sellToDraught_8 (by decide) ?_
      exact az_iret C rfl dL_sellToDraught_11 (Nat.le_of_eq (Nat.zero_add _)) (Nat.le_of_eq (Nat.zero_add _)) hp'
    · refine az_catch C hG [⟨0, 6, 7, 28⟩] ⟨0, 6, 12, 20⟩ [⟨0, 6, 17, 22⟩] rfl (List.forall_mem_cons.mpr ⟨⟨(show (28 : Nat) ≠ 0 by decide), "java/lang/IndexOutOfBoundsException", wk_L_28, az_ncs_mem (by decide +kernel)⟩, (fun z hz => absurd hz List.not_mem_nil)⟩) (by decide +kernel) (by decide) wk_L_20 nx_IAE (fun q => ?_)
      refine az_astore_n C (lv' := [(3, .ref q), (0, .ref (ρ.1 0)), (1, .int p0), (2, .int p1)]) (j := 3) rfl dL_sellToDraught_12 (by decide) rfl ?_
      refine az_sipush C (v := (-1002)) dL_sellToDraught_13 (by decide) ?_
      exact az_iret C rfl dL_sellToDraught_16 (Nat.le_of_eq (Nat.zero_add _)) (Nat.le_of_eq (Nat.zero_add _)) hp'
    · refine az_catch C hG [⟨0, 6, 7, 28⟩, ⟨0, 6, 12, 20⟩] ⟨0, 6, 17, 22⟩ [] rfl (List.forall_mem_cons.mpr ⟨⟨(show (28 : Nat) ≠ 0 by decide), "java/lang/IndexOutOfBoundsException", wk_L_28, az_ncs_mem (by decide +kernel)⟩, (List.forall_mem_cons.mpr ⟨⟨(show (20 : Nat) ≠ 0 by decide), "java/lang/IllegalArgumentException", wk_L_20, az_ncs_mem (by decide +kernel)⟩, (fun z hz => absurd hz List.not_mem_nil)⟩)⟩) (by decide +kernel) (by decide) wk_L_22 nx_ISE (fun q => ?_)
      refine az_astore_n C (lv' := [(3, .ref q), (0, .ref (ρ.1 0)), (1, .int p0), (2, .int p1)]) (j := 3) rfl dL_sellToDraught_17 (by decide) rfl ?_
      refine az_sipush C (v := (-1003)) dL_sellToDraught_18 (by decide) ?_
      exact az_iret C rfl dL_sellToDraught_21 (Nat.le_of_eq (Nat.zero_add _)) (Nat.le_of_eq (Nat.zero_add _)) hp'
set_option maxHeartbeats 4000000 in
set_option maxRecDepth 100000 in
theorem H_greatestLoad (hG : az_okS l G) (p0 : Int32) {d mc ms : Nat} {post post' : az_O → az_A → az_K → Prop} (hd : d ≤ 9) (hM : az_M l G yX3_greatestLoad (az_ws yX3_greatestLoad cX3_greatestLoad 3 (some FieldType.int)) d (.ref (ρ.1 0) :: [.int p0]) (AD ρ) (KK G ρ x m ou) mc ms post) (hv : ∀ (v : Option Value) (ad' : az_A) (K' : az_K), post (.inl v) ad' K' → ∃ u : Int32, v = some (.int u) ∧ post' (.inl (some (.int u))) ad' K') (hx : ∀ (E : String) (ad' : az_A) (K' : az_K), post (.inr E) ad' K' → (E = "java/lang/IndexOutOfBoundsException" ∧ post' (.inl (some (.int (-1001)))) ad' K')) : az_M l G yL_greatestLoad (az_wsH yL_greatestLoad cL_greatestLoad 3 (some FieldType.int) [(0, 5, 6, 28)]) 10 (.ref (ρ.1 0) :: [.int p0]) (AD ρ) (KK G ρ x m ou) mc ms post' := by
  refine az_startH hG.1 (by decide +kernel) (Nat.le_of_ble_eq_true rfl) ?_
  intro p e s mm args below meth c C
  show az_W l G 3 _ p e _ s mm args below meth c _ _ 0 0 0 [(0, .ref (ρ.1 0)), (1, .int p0)] []
  refine az_aload_n C 0 dL_greatestLoad_0 rfl ?_
  refine az_iload_n C 1 dL_greatestLoad_1 rfl ?_
  refine az_callV C Y_X3_greatestLoad cX3 0 0 [.int p0] [] wm_L_139 wi_X3_greatestLoad wse_X3_greatestLoad dL_greatestLoad_2 rfl rfl rfl hM rfl (Nat.le_of_ble_eq_true rfl) (by show d + 1 ≤ 10; omega) (by show 19 + 3 + 40 * d ≤ 400; omega) (Nat.le_of_eq (Nat.zero_add _)) (Nat.le_of_eq (Nat.zero_add _)) (fun v ad9 K9 hp => ?_) (fun E ad9 K9 hp => ?_)
  · obtain ⟨u, rfl, hp'⟩ := hv _ _ _ hp
    exact az_iret C rfl dL_greatestLoad_5 (Nat.le_of_eq (Nat.zero_add _)) (Nat.le_of_eq (Nat.zero_add _)) hp'
  · rcases hx _ _ _ hp with ⟨rfl, hp'⟩
    · refine az_catch C hG [] ⟨0, 5, 6, 28⟩ [] rfl (fun z hz => absurd hz List.not_mem_nil) (by decide +kernel) (by decide) wk_L_28 nx_IOB (fun q => ?_)
      refine az_astore_n C (lv' := [(2, .ref q), (0, .ref (ρ.1 0)), (1, .int p0)]) (j := 2) rfl dL_greatestLoad_6 (by decide) rfl ?_
      refine az_sipush C (v := (-1001)) dL_greatestLoad_7 (by decide) ?_
      exact az_iret C rfl dL_greatestLoad_10 (Nat.le_of_eq (Nat.zero_add _)) (Nat.le_of_eq (Nat.zero_add _)) hp'
set_option maxHeartbeats 4000000 in
set_option maxRecDepth 100000 in
theorem H_worthIn (hG : az_okS l G) (p0 p1 : Int32) {d mc ms : Nat} {post post' : az_O → az_A → az_K → Prop} (hd : d ≤ 9) (hM : az_M l G yX3_worthIn (az_ws yX3_worthIn cX3_worthIn 4 (some FieldType.int)) d (.ref (ρ.1 0) :: [.int p0, .int p1]) (AD ρ) (KK G ρ x m ou) mc ms post) (hv : ∀ (v : Option Value) (ad' : az_A) (K' : az_K), post (.inl v) ad' K' → ∃ u : Int32, v = some (.int u) ∧ post' (.inl (some (.int u))) ad' K') (hx : ∀ (E : String) (ad' : az_A) (K' : az_K), post (.inr E) ad' K' → (E = "java/lang/IndexOutOfBoundsException" ∧ post' (.inl (some (.int (-1001)))) ad' K')) : az_M l G yL_worthIn (az_wsH yL_worthIn cL_worthIn 4 (some FieldType.int) [(0, 6, 7, 28)]) 10 (.ref (ρ.1 0) :: [.int p0, .int p1]) (AD ρ) (KK G ρ x m ou) mc ms post' := by
  refine az_startH hG.1 (by decide +kernel) (Nat.le_of_ble_eq_true rfl) ?_
  intro p e s mm args below meth c C
  show az_W l G 4 _ p e _ s mm args below meth c _ _ 0 0 0 [(0, .ref (ρ.1 0)), (1, .int p0), (2, .int p1)] []
  refine az_aload_n C 0 dL_worthIn_0 rfl ?_
  refine az_iload_n C 1 dL_worthIn_1 rfl ?_
  refine az_iload_n C 2 dL_worthIn_2 rfl ?_
  refine az_callV C Y_X3_worthIn cX3 0 0 [.int p0, .int p1] [] wm_L_142 wi_X3_worthIn wse_X3_worthIn dL_worthIn_3 rfl rfl rfl hM rfl (Nat.le_of_ble_eq_true rfl) (by show d + 1 ≤ 10; omega) (by show 19 + 4 + 40 * d ≤ 400; omega) (Nat.le_of_eq (Nat.zero_add _)) (Nat.le_of_eq (Nat.zero_add _)) (fun v ad9 K9 hp => ?_) (fun E ad9 K9 hp => ?_)
  · obtain ⟨u, rfl, hp'⟩ := hv _ _ _ hp
    exact az_iret C rfl dL_worthIn_6 (Nat.le_of_eq (Nat.zero_add _)) (Nat.le_of_eq (Nat.zero_add _)) hp'
  · rcases hx _ _ _ hp with ⟨rfl, hp'⟩
    · refine az_catch C hG [] ⟨0, 6, 7, 28⟩ [] rfl (fun z hz => absurd hz List.not_mem_nil) (by decide +kernel) (by decide) wk_L_28 nx_IOB (fun q => ?_)
      refine az_astore_n C (lv' := [(3, .ref q), (0, .ref (ρ.1 0)), (1, .int p0), (2, .int p1)]) (j := 3) rfl dL_worthIn_7 (by decide) rfl ?_
      refine az_sipush C (v := (-1001)) dL_worthIn_8 (by decide) ?_
      exact az_iret C rfl dL_worthIn_11 (Nat.le_of_eq (Nat.zero_add _)) (Nat.le_of_eq (Nat.zero_add _)) hp'
set_option maxHeartbeats 4000000 in
set_option maxRecDepth 100000 in
theorem H_bestReach (hG : az_okS l G) (p0 : Int32) {d mc ms : Nat} {post post' : az_O → az_A → az_K → Prop} (hd : d ≤ 9) (hM : az_M l G yX3_bestReach (az_ws yX3_bestReach cX3_bestReach 8 (some FieldType.int)) d (.ref (ρ.1 0) :: [.int p0]) (AD ρ) (KK G ρ x m ou) mc ms post) (hv : ∀ (v : Option Value) (ad' : az_A) (K' : az_K), post (.inl v) ad' K' → ∃ u : Int32, v = some (.int u) ∧ post' (.inl (some (.int u))) ad' K') (hx : ∀ (E : String) (ad' : az_A) (K' : az_K), post (.inr E) ad' K' → (E = "java/lang/IndexOutOfBoundsException" ∧ post' (.inl (some (.int (-1001)))) ad' K')) : az_M l G yL_bestReach (az_wsH yL_bestReach cL_bestReach 3 (some FieldType.int) [(0, 5, 6, 28)]) 10 (.ref (ρ.1 0) :: [.int p0]) (AD ρ) (KK G ρ x m ou) mc ms post' := by
  refine az_startH hG.1 (by decide +kernel) (Nat.le_of_ble_eq_true rfl) ?_
  intro p e s mm args below meth c C
  show az_W l G 3 _ p e _ s mm args below meth c _ _ 0 0 0 [(0, .ref (ρ.1 0)), (1, .int p0)] []
  refine az_aload_n C 0 dL_bestReach_0 rfl ?_
  refine az_iload_n C 1 dL_bestReach_1 rfl ?_
  refine az_callV C Y_X3_bestReach cX3 0 0 [.int p0] [] wm_L_145 wi_X3_bestReach wse_X3_bestReach dL_bestReach_2 rfl rfl rfl hM rfl (Nat.le_of_ble_eq_true rfl) (by show d + 1 ≤ 10; omega) (by show 19 + 8 + 40 * d ≤ 400; omega) (Nat.le_of_eq (Nat.zero_add _)) (Nat.le_of_eq (Nat.zero_add _)) (fun v ad9 K9 hp => ?_) (fun E ad9 K9 hp => ?_)
  · obtain ⟨u, rfl, hp'⟩ := hv _ _ _ hp
    exact az_iret C rfl dL_bestReach_5 (Nat.le_of_eq (Nat.zero_add _)) (Nat.le_of_eq (Nat.zero_add _)) hp'
  · rcases hx _ _ _ hp with ⟨rfl, hp'⟩
    · refine az_catch C hG [] ⟨0, 5, 6, 28⟩ [] rfl (fun z hz => absurd hz List.not_mem_nil) (by decide +kernel) (by decide) wk_L_28 nx_IOB (fun q => ?_)
      refine az_astore_n C (lv' := [(2, .ref q), (0, .ref (ρ.1 0)), (1, .int p0)]) (j := 2) rfl dL_bestReach_6 (by decide) rfl ?_
      refine az_sipush C (v := (-1001)) dL_bestReach_7 (by decide) ?_
      exact az_iret C rfl dL_bestReach_10 (Nat.le_of_eq (Nat.zero_add _)) (Nat.le_of_eq (Nat.zero_add _)) hp'
set_option maxHeartbeats 4000000 in
set_option maxRecDepth 100000 in
theorem H_movementFrom (hG : az_okS l G) (p0 : Int32) {d mc ms : Nat} {post post' : az_O → az_A → az_K → Prop} (hd : d ≤ 9) (hM : az_M l G yX3_movementFrom (az_ws yX3_movementFrom cX3_movementFrom 2 (some FieldType.int)) d (.ref (ρ.1 0) :: [.int p0]) (AD ρ) (KK G ρ x m ou) mc ms post) (hv : ∀ (v : Option Value) (ad' : az_A) (K' : az_K), post (.inl v) ad' K' → ∃ u : Int32, v = some (.int u) ∧ post' (.inl (some (.int u))) ad' K') (hx : ∀ (E : String) (ad' : az_A) (K' : az_K), post (.inr E) ad' K' → (E = "java/lang/IndexOutOfBoundsException" ∧ post' (.inl (some (.int (-1001)))) ad' K')) : az_M l G yL_movementFrom (az_wsH yL_movementFrom cL_movementFrom 3 (some FieldType.int) [(0, 5, 6, 28)]) 10 (.ref (ρ.1 0) :: [.int p0]) (AD ρ) (KK G ρ x m ou) mc ms post' := by
  refine az_startH hG.1 (by decide +kernel) (Nat.le_of_ble_eq_true rfl) ?_
  intro p e s mm args below meth c C
  show az_W l G 3 _ p e _ s mm args below meth c _ _ 0 0 0 [(0, .ref (ρ.1 0)), (1, .int p0)] []
  refine az_aload_n C 0 dL_movementFrom_0 rfl ?_
  refine az_iload_n C 1 dL_movementFrom_1 rfl ?_
  refine az_callV C Y_X3_movementFrom cX3 0 0 [.int p0] [] wm_L_148 wi_X3_movementFrom wse_X3_movementFrom dL_movementFrom_2 rfl rfl rfl hM rfl (Nat.le_of_ble_eq_true rfl) (by show d + 1 ≤ 10; omega) (by show 19 + 2 + 40 * d ≤ 400; omega) (Nat.le_of_eq (Nat.zero_add _)) (Nat.le_of_eq (Nat.zero_add _)) (fun v ad9 K9 hp => ?_) (fun E ad9 K9 hp => ?_)
  · obtain ⟨u, rfl, hp'⟩ := hv _ _ _ hp
    exact az_iret C rfl dL_movementFrom_5 (Nat.le_of_eq (Nat.zero_add _)) (Nat.le_of_eq (Nat.zero_add _)) hp'
  · rcases hx _ _ _ hp with ⟨rfl, hp'⟩
    · refine az_catch C hG [] ⟨0, 5, 6, 28⟩ [] rfl (fun z hz => absurd hz List.not_mem_nil) (by decide +kernel) (by decide) wk_L_28 nx_IOB (fun q => ?_)
      refine az_astore_n C (lv' := [(2, .ref q), (0, .ref (ρ.1 0)), (1, .int p0)]) (j := 2) rfl dL_movementFrom_6 (by decide) rfl ?_
      refine az_sipush C (v := (-1001)) dL_movementFrom_7 (by decide) ?_
      exact az_iret C rfl dL_movementFrom_10 (Nat.le_of_eq (Nat.zero_add _)) (Nat.le_of_eq (Nat.zero_add _)) hp'
set_option maxHeartbeats 4000000 in
set_option maxRecDepth 100000 in
theorem H_movementTo (hG : az_okS l G) (p0 : Int32) {d mc ms : Nat} {post post' : az_O → az_A → az_K → Prop} (hd : d ≤ 9) (hM : az_M l G yX3_movementTo (az_ws yX3_movementTo cX3_movementTo 2 (some FieldType.int)) d (.ref (ρ.1 0) :: [.int p0]) (AD ρ) (KK G ρ x m ou) mc ms post) (hv : ∀ (v : Option Value) (ad' : az_A) (K' : az_K), post (.inl v) ad' K' → ∃ u : Int32, v = some (.int u) ∧ post' (.inl (some (.int u))) ad' K') (hx : ∀ (E : String) (ad' : az_A) (K' : az_K), post (.inr E) ad' K' → (E = "java/lang/IndexOutOfBoundsException" ∧ post' (.inl (some (.int (-1001)))) ad' K')) : az_M l G yL_movementTo (az_wsH yL_movementTo cL_movementTo 3 (some FieldType.int) [(0, 5, 6, 28)]) 10 (.ref (ρ.1 0) :: [.int p0]) (AD ρ) (KK G ρ x m ou) mc ms post' := by
  refine az_startH hG.1 (by decide +kernel) (Nat.le_of_ble_eq_true rfl) ?_
  intro p e s mm args below meth c C
  show az_W l G 3 _ p e _ s mm args below meth c _ _ 0 0 0 [(0, .ref (ρ.1 0)), (1, .int p0)] []
  refine az_aload_n C 0 dL_movementTo_0 rfl ?_
  refine az_iload_n C 1 dL_movementTo_1 rfl ?_
  refine az_callV C Y_X3_movementTo cX3 0 0 [.int p0] [] wm_L_151 wi_X3_movementTo wse_X3_movementTo dL_movementTo_2 rfl rfl rfl hM rfl (Nat.le_of_ble_eq_true rfl) (by show d + 1 ≤ 10; omega) (by show 19 + 2 + 40 * d ≤ 400; omega) (Nat.le_of_eq (Nat.zero_add _)) (Nat.le_of_eq (Nat.zero_add _)) (fun v ad9 K9 hp => ?_) (fun E ad9 K9 hp => ?_)
  · obtain ⟨u, rfl, hp'⟩ := hv _ _ _ hp
    exact az_iret C rfl dL_movementTo_5 (Nat.le_of_eq (Nat.zero_add _)) (Nat.le_of_eq (Nat.zero_add _)) hp'
  · rcases hx _ _ _ hp with ⟨rfl, hp'⟩
    · refine az_catch C hG [] ⟨0, 5, 6, 28⟩ [] rfl (fun z hz => absurd hz List.not_mem_nil) (by decide +kernel) (by decide) wk_L_28 nx_IOB (fun q => ?_)
      refine az_astore_n C (lv' := [(2, .ref q), (0, .ref (ρ.1 0)), (1, .int p0)]) (j := 2) rfl dL_movementTo_6 (by decide) rfl ?_
      refine az_sipush C (v := (-1001)) dL_movementTo_7 (by decide) ?_
      exact az_iret C rfl dL_movementTo_10 (Nat.le_of_eq (Nat.zero_add _)) (Nat.le_of_eq (Nat.zero_add _)) hp'
set_option maxHeartbeats 4000000 in
set_option maxRecDepth 100000 in
theorem H_movementVolume (hG : az_okS l G) (p0 : Int32) {d mc ms : Nat} {post post' : az_O → az_A → az_K → Prop} (hd : d ≤ 9) (hM : az_M l G yX3_movementVolume (az_ws yX3_movementVolume cX3_movementVolume 2 (some FieldType.int)) d (.ref (ρ.1 0) :: [.int p0]) (AD ρ) (KK G ρ x m ou) mc ms post) (hv : ∀ (v : Option Value) (ad' : az_A) (K' : az_K), post (.inl v) ad' K' → ∃ u : Int32, v = some (.int u) ∧ post' (.inl (some (.int u))) ad' K') (hx : ∀ (E : String) (ad' : az_A) (K' : az_K), post (.inr E) ad' K' → (E = "java/lang/IndexOutOfBoundsException" ∧ post' (.inl (some (.int (-1001)))) ad' K')) : az_M l G yL_movementVolume (az_wsH yL_movementVolume cL_movementVolume 3 (some FieldType.int) [(0, 5, 6, 28)]) 10 (.ref (ρ.1 0) :: [.int p0]) (AD ρ) (KK G ρ x m ou) mc ms post' := by
  refine az_startH hG.1 (by decide +kernel) (Nat.le_of_ble_eq_true rfl) ?_
  intro p e s mm args below meth c C
  show az_W l G 3 _ p e _ s mm args below meth c _ _ 0 0 0 [(0, .ref (ρ.1 0)), (1, .int p0)] []
  refine az_aload_n C 0 dL_movementVolume_0 rfl ?_
  refine az_iload_n C 1 dL_movementVolume_1 rfl ?_
  refine az_callV C Y_X3_movementVolume cX3 0 0 [.int p0] [] wm_L_154 wi_X3_movementVolume wse_X3_movementVolume dL_movementVolume_2 rfl rfl rfl hM rfl (Nat.le_of_ble_eq_true rfl) (by show d + 1 ≤ 10; omega) (by show 19 + 2 + 40 * d ≤ 400; omega) (Nat.le_of_eq (Nat.zero_add _)) (Nat.le_of_eq (Nat.zero_add _)) (fun v ad9 K9 hp => ?_) (fun E ad9 K9 hp => ?_)
  · obtain ⟨u, rfl, hp'⟩ := hv _ _ _ hp
    exact az_iret C rfl dL_movementVolume_5 (Nat.le_of_eq (Nat.zero_add _)) (Nat.le_of_eq (Nat.zero_add _)) hp'
  · rcases hx _ _ _ hp with ⟨rfl, hp'⟩
    · refine az_catch C hG [] ⟨0, 5, 6, 28⟩ [] rfl (fun z hz => absurd hz List.not_mem_nil) (by decide +kernel) (by decide) wk_L_28 nx_IOB (fun q => ?_)
      refine az_astore_n C (lv' := [(2, .ref q), (0, .ref (ρ.1 0)), (1, .int p0)]) (j := 2) rfl dL_movementVolume_6 (by decide) rfl ?_
      refine az_sipush C (v := (-1001)) dL_movementVolume_7 (by decide) ?_
      exact az_iret C rfl dL_movementVolume_10 (Nat.le_of_eq (Nat.zero_add _)) (Nat.le_of_eq (Nat.zero_add _)) hp'
end
