section
variable {l : Launch} {G : az_G} {ρ : Rp} {x : Xs} {m : Ms} {ou : Nat → Int64}
theorem KK_3 : KK G ρ x m ou 3 0 = some (.inl (G.2.2.1 4, 1, .inr (.inl ou))) := rfl
theorem vi_01 : vp_in 0 1 := by unfold vp_in; decide
theorem az_ncs_mem {q : String × String} (h : az_ncs.contains q = true) : q ∈ az_ncs := List.contains_iff_mem.mp h
set_option maxHeartbeats 4000000 in
set_option maxRecDepth 100000 in
theorem H_addReach (hG : az_okS l G) (p0 p1 p2 p3 p4 : Int32) {MT : OpR} (hX : XO l G ρ x m yX3_addReach cX3_addReach 7 (some FieldType.int) [.int p0, .int p1, .int p2, .int p3, .int p4] [("java/lang/IllegalArgumentException", 1), ("java/lang/IllegalStateException", 2)] cvI MT) : HO l G ρ x m yL_addReach cL_addReach 8 [(0, 16, 19, 13), (0, 16, 23, 15)] [.int p0, .int p1, .int p2, .int p3, .int p4] MT := by
  intro ou
  obtain ⟨mc, ms, d, hd, hgm, post, hM, hpost⟩ := hX ou
  refine ⟨mc, ms, hgm, ?_⟩
  refine az_startH hG.1 (by decide +kernel) (Nat.le_of_ble_eq_true rfl) ?_
  intro p e s mm args below meth c C
  show az_W l G 8 _ p e _ s mm args below meth c _ _ 0 0 0 [(0, .ref (ρ.1 0)), (1, .int p0), (2, .int p1), (3, .int p2), (4, .int p3), (5, .int p4), (6, .ref (ρ.1 90))] []
  refine az_aload C 6 dL_addReach_0 rfl ?_
  refine az_iconst C (v := 0) dL_addReach_2 (by decide) ?_
  refine az_aload_n C 0 dL_addReach_3 rfl ?_
  refine az_iload_n C 1 dL_addReach_4 rfl ?_
  refine az_iload_n C 2 dL_addReach_5 rfl ?_
  refine az_iload_n C 3 dL_addReach_6 rfl ?_
  refine az_iload C 4 dL_addReach_7 rfl ?_
  refine az_iload C 5 dL_addReach_9 rfl ?_
  refine az_callV C Y_X3_addReach cX3 0 0 [.int p0, .int p1, .int p2, .int p3, .int p4] [.int 0, .ref (ρ.1 90)] wm_L_7 wi_X3_addReach wse_X3_addReach dL_addReach_11 rfl rfl rfl hM rfl (Nat.le_of_ble_eq_true rfl) (by show d + 1 ≤ 10; omega) (by show 19 + 7 + 40 * d ≤ 400; omega) (Nat.le_of_eq (Nat.zero_add _)) (Nat.le_of_eq (Nat.zero_add _)) (fun v ad9 K9 hp => ?_) (fun E ad9 K9 hp => ?_)
  · obtain ⟨ρ', x', rfl, rfl, hρ, hg, hp⟩ := hpost _ _ _ hp
    rcases hp with ⟨v9, w, h9, hcv, hMT⟩ | ⟨_, _, h9, _⟩
    · cases h9
      obtain ⟨u, rfl, rfl⟩ := hcv
      refine az_i2l C dL_addReach_14 ?_
      refine az_last C 3 0 (N := 1) (f := ou) dL_addReach_15 (show ρ'.1 90 = ρ.1 90 from congrFun hρ 90) KK_3 vi_01 ?_
      refine az_to rfl KK_ou ?_
      refine az_goto C 27 dL_addReach_16 (by decide) ?_
      refine az_iconst C (v := 0) dL_addReach_27 (by decide) ?_
      exact az_iret C rfl dL_addReach_28 (Nat.le_of_eq (Nat.zero_add _)) (Nat.le_of_eq (Nat.zero_add _)) ⟨0, ρ', x', _, rfl, rfl, rfl, hρ, hg, hMT _ ou_0⟩
    · cases h9
  · obtain ⟨ρ', x', rfl, rfl, hρ, hg, hp⟩ := hpost _ _ _ hp
    rcases hp with ⟨_, _, h9, _⟩ | ⟨E9, k, h9, hin, hMT⟩
    · cases h9
    · cases h9
      rcases List.mem_cons.mp hin with hz | hin
      · cases hz
        refine az_catch C hG [] ⟨0, 16, 19, 13⟩ [⟨0, 16, 23, 15⟩] rfl (fun z hz => absurd hz List.not_mem_nil) (by decide +kernel) (by decide) wk_L_13 nx_IAE (fun q => ?_)
        refine az_astore C (lv' := [(7, .ref q), (0, .ref (ρ.1 0)), (1, .int p0), (2, .int p1), (3, .int p2), (4, .int p3), (5, .int p4), (6, .ref (ρ.1 90))]) dL_addReach_19 (by decide) rfl ?_
        refine az_iconst C (v := 1) dL_addReach_21 (by decide) ?_
        exact az_iret C rfl dL_addReach_22 (Nat.le_of_eq (Nat.zero_add _)) (Nat.le_of_eq (Nat.zero_add _)) ⟨1, ρ', x', _, rfl, rfl, rfl, hρ, hg, hMT _⟩
      rcases List.mem_cons.mp hin with hz | hin
      · cases hz
        refine az_catch C hG [⟨0, 16, 19, 13⟩] ⟨0, 16, 23, 15⟩ [] rfl (List.forall_mem_cons.mpr ⟨⟨(show (13 : Nat) ≠ 0 by decide), "java/lang/IllegalArgumentException", wk_L_13, az_ncs_mem (by decide +kernel)⟩, (fun z hz => absurd hz List.not_mem_nil)⟩) (by decide +kernel) (by decide) wk_L_15 nx_ISE (fun q => ?_)
        refine az_astore C (lv' := [(7, .ref q), (0, .ref (ρ.1 0)), (1, .int p0), (2, .int p1), (3, .int p2), (4, .int p3), (5, .int p4), (6, .ref (ρ.1 90))]) dL_addReach_23 (by decide) rfl ?_
        refine az_iconst C (v := 2) dL_addReach_25 (by decide) ?_
        exact az_iret C rfl dL_addReach_26 (Nat.le_of_eq (Nat.zero_add _)) (Nat.le_of_eq (Nat.zero_add _)) ⟨2, ρ', x', _, rfl, rfl, rfl, hρ, hg, hMT _⟩
      · exact absurd hin List.not_mem_nil
set_option maxHeartbeats 4000000 in
set_option maxRecDepth 100000 in
theorem H_areaOf (hG : az_okS l G) (p0 : Int32) {MT : OpR} (hX : XO l G ρ x m yX3_areaOf cX3_areaOf 2 (some FieldType.int) [.int p0] [("java/lang/IndexOutOfBoundsException", 1)] cvI MT) : HO l G ρ x m yL_areaOf cL_areaOf 4 [(0, 9, 12, 21)] [.int p0] MT := by
  intro ou
  obtain ⟨mc, ms, d, hd, hgm, post, hM, hpost⟩ := hX ou
  refine ⟨mc, ms, hgm, ?_⟩
  refine az_startH hG.1 (by decide +kernel) (Nat.le_of_ble_eq_true rfl) ?_
  intro p e s mm args below meth c C
  show az_W l G 4 _ p e _ s mm args below meth c _ _ 0 0 0 [(0, .ref (ρ.1 0)), (1, .int p0), (2, .ref (ρ.1 90))] []
  refine az_aload_n C 2 dL_areaOf_0 rfl ?_
  refine az_iconst C (v := 0) dL_areaOf_1 (by decide) ?_
  refine az_aload_n C 0 dL_areaOf_2 rfl ?_
  refine az_iload_n C 1 dL_areaOf_3 rfl ?_
  refine az_callV C Y_X3_areaOf cX3 0 0 [.int p0] [.int 0, .ref (ρ.1 90)] wm_L_17 wi_X3_areaOf wse_X3_areaOf dL_areaOf_4 rfl rfl rfl hM rfl (Nat.le_of_ble_eq_true rfl) (by show d + 1 ≤ 10; omega) (by show 19 + 2 + 40 * d ≤ 400; omega) (Nat.le_of_eq (Nat.zero_add _)) (Nat.le_of_eq (Nat.zero_add _)) (fun v ad9 K9 hp => ?_) (fun E ad9 K9 hp => ?_)
  · obtain ⟨ρ', x', rfl, rfl, hρ, hg, hp⟩ := hpost _ _ _ hp
    rcases hp with ⟨v9, w, h9, hcv, hMT⟩ | ⟨_, _, h9, _⟩
    · cases h9
      obtain ⟨u, rfl, rfl⟩ := hcv
      refine az_i2l C dL_areaOf_7 ?_
      refine az_last C 3 0 (N := 1) (f := ou) dL_areaOf_8 (show ρ'.1 90 = ρ.1 90 from congrFun hρ 90) KK_3 vi_01 ?_
      refine az_to rfl KK_ou ?_
      refine az_goto C 15 dL_areaOf_9 (by decide) ?_
      refine az_iconst C (v := 0) dL_areaOf_15 (by decide) ?_
      exact az_iret C rfl dL_areaOf_16 (Nat.le_of_eq (Nat.zero_add _)) (Nat.le_of_eq (Nat.zero_add _)) ⟨0, ρ', x', _, rfl, rfl, rfl, hρ, hg, hMT _ ou_0⟩
    · cases h9
  · obtain ⟨ρ', x', rfl, rfl, hρ, hg, hp⟩ := hpost _ _ _ hp
    rcases hp with ⟨_, _, h9, _⟩ | ⟨E9, k, h9, hin, hMT⟩
    · cases h9
    · cases h9
      rcases List.mem_cons.mp hin with hz | hin
      · cases hz
        refine az_catch C hG [] ⟨0, 9, 12, 21⟩ [] rfl (fun z hz => absurd hz List.not_mem_nil) (by decide +kernel) (by decide) wk_L_21 nx_IOB (fun q => ?_)
        refine az_astore_n C (lv' := [(3, .ref q), (0, .ref (ρ.1 0)), (1, .int p0), (2, .ref (ρ.1 90))]) (j := 3) rfl dL_areaOf_12 (by decide) rfl ?_
        refine az_iconst C (v := 1) dL_areaOf_13 (by decide) ?_
        exact az_iret C rfl dL_areaOf_14 (Nat.le_of_eq (Nat.zero_add _)) (Nat.le_of_eq (Nat.zero_add _)) ⟨1, ρ', x', _, rfl, rfl, rfl, hρ, hg, hMT _⟩
      · exact absurd hin List.not_mem_nil
set_option maxHeartbeats 4000000 in
set_option maxRecDepth 100000 in
theorem H_volumeOf (hG : az_okS l G) (p0 : Int32) {MT : OpR} (hX : XO l G ρ x m yX3_volumeOf cX3_volumeOf 2 (some FieldType.int) [.int p0] [("java/lang/IndexOutOfBoundsException", 1)] cvI MT) : HO l G ρ x m yL_volumeOf cL_volumeOf 4 [(0, 9, 12, 21)] [.int p0] MT := by
  intro ou
  obtain ⟨mc, ms, d, hd, hgm, post, hM, hpost⟩ := hX ou
  refine ⟨mc, ms, hgm, ?_⟩
  refine az_startH hG.1 (by decide +kernel) (Nat.le_of_ble_eq_true rfl) ?_
  intro p e s mm args below meth c C
  show az_W l G 4 _ p e _ s mm args below meth c _ _ 0 0 0 [(0, .ref (ρ.1 0)), (1, .int p0), (2, .ref (ρ.1 90))] []
  refine az_aload_n C 2 dL_volumeOf_0 rfl ?_
  refine az_iconst C (v := 0) dL_volumeOf_1 (by decide) ?_
  refine az_aload_n C 0 dL_volumeOf_2 rfl ?_
  refine az_iload_n C 1 dL_volumeOf_3 rfl ?_
  refine az_callV C Y_X3_volumeOf cX3 0 0 [.int p0] [.int 0, .ref (ρ.1 90)] wm_L_23 wi_X3_volumeOf wse_X3_volumeOf dL_volumeOf_4 rfl rfl rfl hM rfl (Nat.le_of_ble_eq_true rfl) (by show d + 1 ≤ 10; omega) (by show 19 + 2 + 40 * d ≤ 400; omega) (Nat.le_of_eq (Nat.zero_add _)) (Nat.le_of_eq (Nat.zero_add _)) (fun v ad9 K9 hp => ?_) (fun E ad9 K9 hp => ?_)
  · obtain ⟨ρ', x', rfl, rfl, hρ, hg, hp⟩ := hpost _ _ _ hp
    rcases hp with ⟨v9, w, h9, hcv, hMT⟩ | ⟨_, _, h9, _⟩
    · cases h9
      obtain ⟨u, rfl, rfl⟩ := hcv
      refine az_i2l C dL_volumeOf_7 ?_
      refine az_last C 3 0 (N := 1) (f := ou) dL_volumeOf_8 (show ρ'.1 90 = ρ.1 90 from congrFun hρ 90) KK_3 vi_01 ?_
      refine az_to rfl KK_ou ?_
      refine az_goto C 15 dL_volumeOf_9 (by decide) ?_
      refine az_iconst C (v := 0) dL_volumeOf_15 (by decide) ?_
      exact az_iret C rfl dL_volumeOf_16 (Nat.le_of_eq (Nat.zero_add _)) (Nat.le_of_eq (Nat.zero_add _)) ⟨0, ρ', x', _, rfl, rfl, rfl, hρ, hg, hMT _ ou_0⟩
    · cases h9
  · obtain ⟨ρ', x', rfl, rfl, hρ, hg, hp⟩ := hpost _ _ _ hp
    rcases hp with ⟨_, _, h9, _⟩ | ⟨E9, k, h9, hin, hMT⟩
    · cases h9
    · cases h9
      rcases List.mem_cons.mp hin with hz | hin
      · cases hz
        refine az_catch C hG [] ⟨0, 9, 12, 21⟩ [] rfl (fun z hz => absurd hz List.not_mem_nil) (by decide +kernel) (by decide) wk_L_21 nx_IOB (fun q => ?_)
        refine az_astore_n C (lv' := [(3, .ref q), (0, .ref (ρ.1 0)), (1, .int p0), (2, .ref (ρ.1 90))]) (j := 3) rfl dL_volumeOf_12 (by decide) rfl ?_
        refine az_iconst C (v := 1) dL_volumeOf_13 (by decide) ?_
        exact az_iret C rfl dL_volumeOf_14 (Nat.le_of_eq (Nat.zero_add _)) (Nat.le_of_eq (Nat.zero_add _)) ⟨1, ρ', x', _, rfl, rfl, rfl, hρ, hg, hMT _⟩
      · exact absurd hin List.not_mem_nil
set_option maxHeartbeats 4000000 in
set_option maxRecDepth 100000 in
theorem H_volumeBySteps (hG : az_okS l G) (p0 : Int32) {MT : OpR} (hX : XO l G ρ x m yX3_volumeBySteps cX3_volumeBySteps 2 (some FieldType.int) [.int p0] [("java/lang/IndexOutOfBoundsException", 1)] cvI MT) : HO l G ρ x m yL_volumeBySteps cL_volumeBySteps 4 [(0, 9, 12, 21)] [.int p0] MT := by
  intro ou
  obtain ⟨mc, ms, d, hd, hgm, post, hM, hpost⟩ := hX ou
  refine ⟨mc, ms, hgm, ?_⟩
  refine az_startH hG.1 (by decide +kernel) (Nat.le_of_ble_eq_true rfl) ?_
  intro p e s mm args below meth c C
  show az_W l G 4 _ p e _ s mm args below meth c _ _ 0 0 0 [(0, .ref (ρ.1 0)), (1, .int p0), (2, .ref (ρ.1 90))] []
  refine az_aload_n C 2 dL_volumeBySteps_0 rfl ?_
  refine az_iconst C (v := 0) dL_volumeBySteps_1 (by decide) ?_
  refine az_aload_n C 0 dL_volumeBySteps_2 rfl ?_
  refine az_iload_n C 1 dL_volumeBySteps_3 rfl ?_
  refine az_callV C Y_X3_volumeBySteps cX3 0 0 [.int p0] [.int 0, .ref (ρ.1 90)] wm_L_26 wi_X3_volumeBySteps wse_X3_volumeBySteps dL_volumeBySteps_4 rfl rfl rfl hM rfl (Nat.le_of_ble_eq_true rfl) (by show d + 1 ≤ 10; omega) (by show 19 + 2 + 40 * d ≤ 400; omega) (Nat.le_of_eq (Nat.zero_add _)) (Nat.le_of_eq (Nat.zero_add _)) (fun v ad9 K9 hp => ?_) (fun E ad9 K9 hp => ?_)
  · obtain ⟨ρ', x', rfl, rfl, hρ, hg, hp⟩ := hpost _ _ _ hp
    rcases hp with ⟨v9, w, h9, hcv, hMT⟩ | ⟨_, _, h9, _⟩
    · cases h9
      obtain ⟨u, rfl, rfl⟩ := hcv
      refine az_i2l C dL_volumeBySteps_7 ?_
      refine az_last C 3 0 (N := 1) (f := ou) dL_volumeBySteps_8 (show ρ'.1 90 = ρ.1 90 from congrFun hρ 90) KK_3 vi_01 ?_
      refine az_to rfl KK_ou ?_
      refine az_goto C 15 dL_volumeBySteps_9 (by decide) ?_
      refine az_iconst C (v := 0) dL_volumeBySteps_15 (by decide) ?_
      exact az_iret C rfl dL_volumeBySteps_16 (Nat.le_of_eq (Nat.zero_add _)) (Nat.le_of_eq (Nat.zero_add _)) ⟨0, ρ', x', _, rfl, rfl, rfl, hρ, hg, hMT _ ou_0⟩
    · cases h9
  · obtain ⟨ρ', x', rfl, rfl, hρ, hg, hp⟩ := hpost _ _ _ hp
    rcases hp with ⟨_, _, h9, _⟩ | ⟨E9, k, h9, hin, hMT⟩
    · cases h9
    · cases h9
      rcases List.mem_cons.mp hin with hz | hin
      · cases hz
        refine az_catch C hG [] ⟨0, 9, 12, 21⟩ [] rfl (fun z hz => absurd hz List.not_mem_nil) (by decide +kernel) (by decide) wk_L_21 nx_IOB (fun q => ?_)
        refine az_astore_n C (lv' := [(3, .ref q), (0, .ref (ρ.1 0)), (1, .int p0), (2, .ref (ρ.1 90))]) (j := 3) rfl dL_volumeBySteps_12 (by decide) rfl ?_
        refine az_iconst C (v := 1) dL_volumeBySteps_13 (by decide) ?_
        exact az_iret C rfl dL_volumeBySteps_14 (Nat.le_of_eq (Nat.zero_add _)) (Nat.le_of_eq (Nat.zero_add _)) ⟨1, ρ', x', _, rfl, rfl, rfl, hρ, hg, hMT _⟩
      · exact absurd hin List.not_mem_nil
set_option maxHeartbeats 4000000 in
set_option maxRecDepth 100000 in
theorem H_levelOf (hG : az_okS l G) (p0 : Int32) {MT : OpR} (hX : XO l G ρ x m yX3_levelOf cX3_levelOf 2 (some FieldType.int) [.int p0] [("java/lang/IndexOutOfBoundsException", 1)] cvI MT) : HO l G ρ x m yL_levelOf cL_levelOf 4 [(0, 9, 12, 21)] [.int p0] MT := by
  intro ou
  obtain ⟨mc, ms, d, hd, hgm, post, hM, hpost⟩ := hX ou
  refine ⟨mc, ms, hgm, ?_⟩
  refine az_startH hG.1 (by decide +kernel) (Nat.le_of_ble_eq_true rfl) ?_
  intro p e s mm args below meth c C
  show az_W l G 4 _ p e _ s mm args below meth c _ _ 0 0 0 [(0, .ref (ρ.1 0)), (1, .int p0), (2, .ref (ρ.1 90))] []
  refine az_aload_n C 2 dL_levelOf_0 rfl ?_
  refine az_iconst C (v := 0) dL_levelOf_1 (by decide) ?_
  refine az_aload_n C 0 dL_levelOf_2 rfl ?_
  refine az_iload_n C 1 dL_levelOf_3 rfl ?_
  refine az_callV C Y_X3_levelOf cX3 0 0 [.int p0] [.int 0, .ref (ρ.1 90)] wm_L_29 wi_X3_levelOf wse_X3_levelOf dL_levelOf_4 rfl rfl rfl hM rfl (Nat.le_of_ble_eq_true rfl) (by show d + 1 ≤ 10; omega) (by show 19 + 2 + 40 * d ≤ 400; omega) (Nat.le_of_eq (Nat.zero_add _)) (Nat.le_of_eq (Nat.zero_add _)) (fun v ad9 K9 hp => ?_) (fun E ad9 K9 hp => ?_)
  · obtain ⟨ρ', x', rfl, rfl, hρ, hg, hp⟩ := hpost _ _ _ hp
    rcases hp with ⟨v9, w, h9, hcv, hMT⟩ | ⟨_, _, h9, _⟩
    · cases h9
      obtain ⟨u, rfl, rfl⟩ := hcv
      refine az_i2l C dL_levelOf_7 ?_
      refine az_last C 3 0 (N := 1) (f := ou) dL_levelOf_8 (show ρ'.1 90 = ρ.1 90 from congrFun hρ 90) KK_3 vi_01 ?_
      refine az_to rfl KK_ou ?_
      refine az_goto C 15 dL_levelOf_9 (by decide) ?_
      refine az_iconst C (v := 0) dL_levelOf_15 (by decide) ?_
      exact az_iret C rfl dL_levelOf_16 (Nat.le_of_eq (Nat.zero_add _)) (Nat.le_of_eq (Nat.zero_add _)) ⟨0, ρ', x', _, rfl, rfl, rfl, hρ, hg, hMT _ ou_0⟩
    · cases h9
  · obtain ⟨ρ', x', rfl, rfl, hρ, hg, hp⟩ := hpost _ _ _ hp
    rcases hp with ⟨_, _, h9, _⟩ | ⟨E9, k, h9, hin, hMT⟩
    · cases h9
    · cases h9
      rcases List.mem_cons.mp hin with hz | hin
      · cases hz
        refine az_catch C hG [] ⟨0, 9, 12, 21⟩ [] rfl (fun z hz => absurd hz List.not_mem_nil) (by decide +kernel) (by decide) wk_L_21 nx_IOB (fun q => ?_)
        refine az_astore_n C (lv' := [(3, .ref q), (0, .ref (ρ.1 0)), (1, .int p0), (2, .ref (ρ.1 90))]) (j := 3) rfl dL_levelOf_12 (by decide) rfl ?_
        refine az_iconst C (v := 1) dL_levelOf_13 (by decide) ?_
        exact az_iret C rfl dL_levelOf_14 (Nat.le_of_eq (Nat.zero_add _)) (Nat.le_of_eq (Nat.zero_add _)) ⟨1, ρ', x', _, rfl, rfl, rfl, hρ, hg, hMT _⟩
      · exact absurd hin List.not_mem_nil
set_option maxHeartbeats 4000000 in
set_option maxRecDepth 100000 in
theorem H_lockfulOf (hG : az_okS l G) (p0 : Int32) {MT : OpR} (hX : XO l G ρ x m yX3_lockfulOf cX3_lockfulOf 2 (some FieldType.int) [.int p0] [("java/lang/IndexOutOfBoundsException", 1)] cvI MT) : HO l G ρ x m yL_lockfulOf cL_lockfulOf 4 [(0, 9, 12, 21)] [.int p0] MT := by
  intro ou
  obtain ⟨mc, ms, d, hd, hgm, post, hM, hpost⟩ := hX ou
  refine ⟨mc, ms, hgm, ?_⟩
  refine az_startH hG.1 (by decide +kernel) (Nat.le_of_ble_eq_true rfl) ?_
  intro p e s mm args below meth c C
  show az_W l G 4 _ p e _ s mm args below meth c _ _ 0 0 0 [(0, .ref (ρ.1 0)), (1, .int p0), (2, .ref (ρ.1 90))] []
  refine az_aload_n C 2 dL_lockfulOf_0 rfl ?_
  refine az_iconst C (v := 0) dL_lockfulOf_1 (by decide) ?_
  refine az_aload_n C 0 dL_lockfulOf_2 rfl ?_
  refine az_iload_n C 1 dL_lockfulOf_3 rfl ?_
  refine az_callV C Y_X3_lockfulOf cX3 0 0 [.int p0] [.int 0, .ref (ρ.1 90)] wm_L_32 wi_X3_lockfulOf wse_X3_lockfulOf dL_lockfulOf_4 rfl rfl rfl hM rfl (Nat.le_of_ble_eq_true rfl) (by show d + 1 ≤ 10; omega) (by show 19 + 2 + 40 * d ≤ 400; omega) (Nat.le_of_eq (Nat.zero_add _)) (Nat.le_of_eq (Nat.zero_add _)) (fun v ad9 K9 hp => ?_) (fun E ad9 K9 hp => ?_)
  · obtain ⟨ρ', x', rfl, rfl, hρ, hg, hp⟩ := hpost _ _ _ hp
    rcases hp with ⟨v9, w, h9, hcv, hMT⟩ | ⟨_, _, h9, _⟩
    · cases h9
      obtain ⟨u, rfl, rfl⟩ := hcv
      refine az_i2l C dL_lockfulOf_7 ?_
      refine az_last C 3 0 (N := 1) (f := ou) dL_lockfulOf_8 (show ρ'.1 90 = ρ.1 90 from congrFun hρ 90) KK_3 vi_01 ?_
      refine az_to rfl KK_ou ?_
      refine az_goto C 15 dL_lockfulOf_9 (by decide) ?_
      refine az_iconst C (v := 0) dL_lockfulOf_15 (by decide) ?_
      exact az_iret C rfl dL_lockfulOf_16 (Nat.le_of_eq (Nat.zero_add _)) (Nat.le_of_eq (Nat.zero_add _)) ⟨0, ρ', x', _, rfl, rfl, rfl, hρ, hg, hMT _ ou_0⟩
    · cases h9
  · obtain ⟨ρ', x', rfl, rfl, hρ, hg, hp⟩ := hpost _ _ _ hp
    rcases hp with ⟨_, _, h9, _⟩ | ⟨E9, k, h9, hin, hMT⟩
    · cases h9
    · cases h9
      rcases List.mem_cons.mp hin with hz | hin
      · cases hz
        refine az_catch C hG [] ⟨0, 9, 12, 21⟩ [] rfl (fun z hz => absurd hz List.not_mem_nil) (by decide +kernel) (by decide) wk_L_21 nx_IOB (fun q => ?_)
        refine az_astore_n C (lv' := [(3, .ref q), (0, .ref (ρ.1 0)), (1, .int p0), (2, .ref (ρ.1 90))]) (j := 3) rfl dL_lockfulOf_12 (by decide) rfl ?_
        refine az_iconst C (v := 1) dL_lockfulOf_13 (by decide) ?_
        exact az_iret C rfl dL_lockfulOf_14 (Nat.le_of_eq (Nat.zero_add _)) (Nat.le_of_eq (Nat.zero_add _)) ⟨1, ρ', x', _, rfl, rfl, rfl, hρ, hg, hMT _⟩
      · exact absurd hin List.not_mem_nil
set_option maxHeartbeats 4000000 in
set_option maxRecDepth 100000 in
theorem H_lengthOf (hG : az_okS l G) (p0 : Int32) {MT : OpR} (hX : XO l G ρ x m yX3_lengthOf cX3_lengthOf 2 (some FieldType.int) [.int p0] [("java/lang/IndexOutOfBoundsException", 1)] cvI MT) : HO l G ρ x m yL_lengthOf cL_lengthOf 4 [(0, 9, 12, 21)] [.int p0] MT := by
  intro ou
  obtain ⟨mc, ms, d, hd, hgm, post, hM, hpost⟩ := hX ou
  refine ⟨mc, ms, hgm, ?_⟩
  refine az_startH hG.1 (by decide +kernel) (Nat.le_of_ble_eq_true rfl) ?_
  intro p e s mm args below meth c C
  show az_W l G 4 _ p e _ s mm args below meth c _ _ 0 0 0 [(0, .ref (ρ.1 0)), (1, .int p0), (2, .ref (ρ.1 90))] []
  refine az_aload_n C 2 dL_lengthOf_0 rfl ?_
  refine az_iconst C (v := 0) dL_lengthOf_1 (by decide) ?_
  refine az_aload_n C 0 dL_lengthOf_2 rfl ?_
  refine az_iload_n C 1 dL_lengthOf_3 rfl ?_
  refine az_callV C Y_X3_lengthOf cX3 0 0 [.int p0] [.int 0, .ref (ρ.1 90)] wm_L_35 wi_X3_lengthOf wse_X3_lengthOf dL_lengthOf_4 rfl rfl rfl hM rfl (Nat.le_of_ble_eq_true rfl) (by show d + 1 ≤ 10; omega) (by show 19 + 2 + 40 * d ≤ 400; omega) (Nat.le_of_eq (Nat.zero_add _)) (Nat.le_of_eq (Nat.zero_add _)) (fun v ad9 K9 hp => ?_) (fun E ad9 K9 hp => ?_)
  · obtain ⟨ρ', x', rfl, rfl, hρ, hg, hp⟩ := hpost _ _ _ hp
    rcases hp with ⟨v9, w, h9, hcv, hMT⟩ | ⟨_, _, h9, _⟩
    · cases h9
      obtain ⟨u, rfl, rfl⟩ := hcv
      refine az_i2l C dL_lengthOf_7 ?_
      refine az_last C 3 0 (N := 1) (f := ou) dL_lengthOf_8 (show ρ'.1 90 = ρ.1 90 from congrFun hρ 90) KK_3 vi_01 ?_
      refine az_to rfl KK_ou ?_
      refine az_goto C 15 dL_lengthOf_9 (by decide) ?_
      refine az_iconst C (v := 0) dL_lengthOf_15 (by decide) ?_
      exact az_iret C rfl dL_lengthOf_16 (Nat.le_of_eq (Nat.zero_add _)) (Nat.le_of_eq (Nat.zero_add _)) ⟨0, ρ', x', _, rfl, rfl, rfl, hρ, hg, hMT _ ou_0⟩
    · cases h9
  · obtain ⟨ρ', x', rfl, rfl, hρ, hg, hp⟩ := hpost _ _ _ hp
    rcases hp with ⟨_, _, h9, _⟩ | ⟨E9, k, h9, hin, hMT⟩
    · cases h9
    · cases h9
      rcases List.mem_cons.mp hin with hz | hin
      · cases hz
        refine az_catch C hG [] ⟨0, 9, 12, 21⟩ [] rfl (fun z hz => absurd hz List.not_mem_nil) (by decide +kernel) (by decide) wk_L_21 nx_IOB (fun q => ?_)
        refine az_astore_n C (lv' := [(3, .ref q), (0, .ref (ρ.1 0)), (1, .int p0), (2, .ref (ρ.1 90))]) (j := 3) rfl dL_lengthOf_12 (by decide) rfl ?_
        refine az_iconst C (v := 1) dL_lengthOf_13 (by decide) ?_
        exact az_iret C rfl dL_lengthOf_14 (Nat.le_of_eq (Nat.zero_add _)) (Nat.le_of_eq (Nat.zero_add _)) ⟨1, ρ', x', _, rfl, rfl, rfl, hρ, hg, hMT _⟩
      · exact absurd hin List.not_mem_nil
set_option maxHeartbeats 4000000 in
set_option maxRecDepth 100000 in
theorem H_sillOf (hG : az_okS l G) (p0 : Int32) {MT : OpR} (hX : XO l G ρ x m yX3_sillOf cX3_sillOf 2 (some FieldType.int) [.int p0] [("java/lang/IndexOutOfBoundsException", 1)] cvI MT) : HO l G ρ x m yL_sillOf cL_sillOf 4 [(0, 9, 12, 21)] [.int p0] MT := by
  intro ou
  obtain ⟨mc, ms, d, hd, hgm, post, hM, hpost⟩ := hX ou
  refine ⟨mc, ms, hgm, ?_⟩
  refine az_startH hG.1 (by decide +kernel) (Nat.le_of_ble_eq_true rfl) ?_
  intro p e s mm args below meth c C
  show az_W l G 4 _ p e _ s mm args below meth c _ _ 0 0 0 [(0, .ref (ρ.1 0)), (1, .int p0), (2, .ref (ρ.1 90))] []
  refine az_aload_n C 2 dL_sillOf_0 rfl ?_
  refine az_iconst C (v := 0) dL_sillOf_1 (by decide) ?_
  refine az_aload_n C 0 dL_sillOf_2 rfl ?_
  refine az_iload_n C 1 dL_sillOf_3 rfl ?_
  refine az_callV C Y_X3_sillOf cX3 0 0 [.int p0] [.int 0, .ref (ρ.1 90)] wm_L_38 wi_X3_sillOf wse_X3_sillOf dL_sillOf_4 rfl rfl rfl hM rfl (Nat.le_of_ble_eq_true rfl) (by show d + 1 ≤ 10; omega) (by show 19 + 2 + 40 * d ≤ 400; omega) (Nat.le_of_eq (Nat.zero_add _)) (Nat.le_of_eq (Nat.zero_add _)) (fun v ad9 K9 hp => ?_) (fun E ad9 K9 hp => ?_)
  · obtain ⟨ρ', x', rfl, rfl, hρ, hg, hp⟩ := hpost _ _ _ hp
    rcases hp with ⟨v9, w, h9, hcv, hMT⟩ | ⟨_, _, h9, _⟩
    · cases h9
      obtain ⟨u, rfl, rfl⟩ := hcv
      refine az_i2l C dL_sillOf_7 ?_
      refine az_last C 3 0 (N := 1) (f := ou) dL_sillOf_8 (show ρ'.1 90 = ρ.1 90 from congrFun hρ 90) KK_3 vi_01 ?_
      refine az_to rfl KK_ou ?_
      refine az_goto C 15 dL_sillOf_9 (by decide) ?_
      refine az_iconst C (v := 0) dL_sillOf_15 (by decide) ?_
      exact az_iret C rfl dL_sillOf_16 (Nat.le_of_eq (Nat.zero_add _)) (Nat.le_of_eq (Nat.zero_add _)) ⟨0, ρ', x', _, rfl, rfl, rfl, hρ, hg, hMT _ ou_0⟩
    · cases h9
  · obtain ⟨ρ', x', rfl, rfl, hρ, hg, hp⟩ := hpost _ _ _ hp
    rcases hp with ⟨_, _, h9, _⟩ | ⟨E9, k, h9, hin, hMT⟩
    · cases h9
    · cases h9
      rcases List.mem_cons.mp hin with hz | hin
      · cases hz
        refine az_catch C hG [] ⟨0, 9, 12, 21⟩ [] rfl (fun z hz => absurd hz List.not_mem_nil) (by decide +kernel) (by decide) wk_L_21 nx_IOB (fun q => ?_)
        refine az_astore_n C (lv' := [(3, .ref q), (0, .ref (ρ.1 0)), (1, .int p0), (2, .ref (ρ.1 90))]) (j := 3) rfl dL_sillOf_12 (by decide) rfl ?_
        refine az_iconst C (v := 1) dL_sillOf_13 (by decide) ?_
        exact az_iret C rfl dL_sillOf_14 (Nat.le_of_eq (Nat.zero_add _)) (Nat.le_of_eq (Nat.zero_add _)) ⟨1, ρ', x', _, rfl, rfl, rfl, hρ, hg, hMT _⟩
      · exact absurd hin List.not_mem_nil
set_option maxHeartbeats 4000000 in
set_option maxRecDepth 100000 in
theorem H_isFull (hG : az_okS l G) (p0 : Int32) {MT : OpR} (hX : XO l G ρ x m yX3_isFull cX3_isFull 2 (some FieldType.boolean) [.int p0] [("java/lang/IndexOutOfBoundsException", 1)] cvZ MT) : HO l G ρ x m yL_isFull cL_isFull 4 [(0, 16, 19, 21)] [.int p0] MT := by
  intro ou
  obtain ⟨mc, ms, d, hd, hgm, post, hM, hpost⟩ := hX ou
  refine ⟨mc, ms, hgm, ?_⟩
  refine az_startH hG.1 (by decide +kernel) (Nat.le_of_ble_eq_true rfl) ?_
  intro p e s mm args below meth c C
  show az_W l G 4 _ p e _ s mm args below meth c _ _ 0 0 0 [(0, .ref (ρ.1 0)), (1, .int p0), (2, .ref (ρ.1 90))] []
  refine az_aload_n C 2 dL_isFull_0 rfl ?_
  refine az_iconst C (v := 0) dL_isFull_1 (by decide) ?_
  refine az_aload_n C 0 dL_isFull_2 rfl ?_
  refine az_iload_n C 1 dL_isFull_3 rfl ?_
  refine az_callV C Y_X3_isFull cX3 0 0 [.int p0] [.int 0, .ref (ρ.1 90)] wm_L_41 wi_X3_isFull wse_X3_isFull dL_isFull_4 rfl rfl rfl hM rfl (Nat.le_of_ble_eq_true rfl) (by show d + 1 ≤ 10; omega) (by show 19 + 2 + 40 * d ≤ 400; omega) (Nat.le_of_eq (Nat.zero_add _)) (Nat.le_of_eq (Nat.zero_add _)) (fun v ad9 K9 hp => ?_) (fun E ad9 K9 hp => ?_)
  · obtain ⟨ρ', x', rfl, rfl, hρ, hg, hp⟩ := hpost _ _ _ hp
    rcases hp with ⟨v9, w, h9, hcv, hMT⟩ | ⟨_, _, h9, _⟩
    · cases h9
      obtain ⟨u, rfl, rfl⟩ := hcv
      refine az_if_eq C 14 dL_isFull_7 (by decide) (fun h0 => ?_) (fun h0 => ?_)
      · rw [if_pos h0] at hMT
        refine az_lconst C (v := 0) dL_isFull_14 (by decide) ?_
        refine az_last C 3 0 (N := 1) (f := ou) dL_isFull_15 (show ρ'.1 90 = ρ.1 90 from congrFun hρ 90) KK_3 vi_01 ?_
        refine az_to rfl KK_ou ?_
        refine az_goto C 22 dL_isFull_16 (by decide) ?_
        refine az_iconst C (v := 0) dL_isFull_22 (by decide) ?_
        exact az_iret C rfl dL_isFull_23 (Nat.le_of_eq (Nat.zero_add _)) (Nat.le_of_eq (Nat.zero_add _)) ⟨0, ρ', x', _, rfl, rfl, rfl, hρ, hg, hMT _ ou_0⟩
      · rw [if_neg h0] at hMT
        refine az_lconst C (v := 1) dL_isFull_10 (by decide) ?_
        refine az_goto C 15 dL_isFull_11 (by decide) ?_
        refine az_last C 3 0 (N := 1) (f := ou) dL_isFull_15 (show ρ'.1 90 = ρ.1 90 from congrFun hρ 90) KK_3 vi_01 ?_
        refine az_to rfl KK_ou ?_
        refine az_goto C 22 dL_isFull_16 (by decide) ?_
        refine az_iconst C (v := 0) dL_isFull_22 (by decide) ?_
        exact az_iret C rfl dL_isFull_23 (Nat.le_of_eq (Nat.zero_add _)) (Nat.le_of_eq (Nat.zero_add _)) ⟨0, ρ', x', _, rfl, rfl, rfl, hρ, hg, hMT _ ou_0⟩
    · cases h9
  · obtain ⟨ρ', x', rfl, rfl, hρ, hg, hp⟩ := hpost _ _ _ hp
    rcases hp with ⟨_, _, h9, _⟩ | ⟨E9, k, h9, hin, hMT⟩
    · cases h9
    · cases h9
      rcases List.mem_cons.mp hin with hz | hin
      · cases hz
        refine az_catch C hG [] ⟨0, 16, 19, 21⟩ [] rfl (fun z hz => absurd hz List.not_mem_nil) (by decide +kernel) (by decide) wk_L_21 nx_IOB (fun q => ?_)
        refine az_astore_n C (lv' := [(3, .ref q), (0, .ref (ρ.1 0)), (1, .int p0), (2, .ref (ρ.1 90))]) (j := 3) rfl dL_isFull_19 (by decide) rfl ?_
        refine az_iconst C (v := 1) dL_isFull_20 (by decide) ?_
        exact az_iret C rfl dL_isFull_21 (Nat.le_of_eq (Nat.zero_add _)) (Nat.le_of_eq (Nat.zero_add _)) ⟨1, ρ', x', _, rfl, rfl, rfl, hρ, hg, hMT _⟩
      · exact absurd hin List.not_mem_nil
set_option maxHeartbeats 4000000 in
set_option maxRecDepth 100000 in
theorem H_turn (hG : az_okS l G) (p0 : Int32) {MT : OpR} (hX : XO l G ρ x m yX3_turn cX3_turn 2 (some FieldType.boolean) [.int p0] [("java/lang/IndexOutOfBoundsException", 1), ("java/lang/UnsupportedOperationException", 2)] cvZ MT) : HO l G ρ x m yL_turn cL_turn 4 [(0, 16, 19, 21), (0, 16, 22, 48)] [.int p0] MT := by
  intro ou
  obtain ⟨mc, ms, d, hd, hgm, post, hM, hpost⟩ := hX ou
  refine ⟨mc, ms, hgm, ?_⟩
  refine az_startH hG.1 (by decide +kernel) (Nat.le_of_ble_eq_true rfl) ?_
  intro p e s mm args below meth c C
  show az_W l G 4 _ p e _ s mm args below meth c _ _ 0 0 0 [(0, .ref (ρ.1 0)), (1, .int p0), (2, .ref (ρ.1 90))] []
  refine az_aload_n C 2 dL_turn_0 rfl ?_
  refine az_iconst C (v := 0) dL_turn_1 (by decide) ?_
  refine az_aload_n C 0 dL_turn_2 rfl ?_
  refine az_iload_n C 1 dL_turn_3 rfl ?_
  refine az_callV C Y_X3_turn cX3 0 0 [.int p0] [.int 0, .ref (ρ.1 90)] wm_L_45 wi_X3_turn wse_X3_turn dL_turn_4 rfl rfl rfl hM rfl (Nat.le_of_ble_eq_true rfl) (by show d + 1 ≤ 10; omega) (by show 19 + 2 + 40 * d ≤ 400; omega) (Nat.le_of_eq (Nat.zero_add _)) (Nat.le_of_eq (Nat.zero_add _)) (fun v ad9 K9 hp => ?_) (fun E ad9 K9 hp => ?_)
  · obtain ⟨ρ', x', rfl, rfl, hρ, hg, hp⟩ := hpost _ _ _ hp
    rcases hp with ⟨v9, w, h9, hcv, hMT⟩ | ⟨_, _, h9, _⟩
    · cases h9
      obtain ⟨u, rfl, rfl⟩ := hcv
      refine az_if_eq C 14 dL_turn_7 (by decide) (fun h0 => ?_) (fun h0 => ?_)
      · rw [if_pos h0] at hMT
        refine az_lconst C (v := 0) dL_turn_14 (by decide) ?_
        refine az_last C 3 0 (N := 1) (f := ou) dL_turn_15 (show ρ'.1 90 = ρ.1 90 from congrFun hρ 90) KK_3 vi_01 ?_
        refine az_to rfl KK_ou ?_
        refine az_goto C 25 dL_turn_16 (by decide) ?_
        refine az_iconst C (v := 0) dL_turn_25 (by decide) ?_
        exact az_iret C rfl dL_turn_26 (Nat.le_of_eq (Nat.zero_add _)) (Nat.le_of_eq (Nat.zero_add _)) ⟨0, ρ', x', _, rfl, rfl, rfl, hρ, hg, hMT _ ou_0⟩
      · rw [if_neg h0] at hMT
        refine az_lconst C (v := 1) dL_turn_10 (by decide) ?_
        refine az_goto C 15 dL_turn_11 (by decide) ?_
        refine az_last C 3 0 (N := 1) (f := ou) dL_turn_15 (show ρ'.1 90 = ρ.1 90 from congrFun hρ 90) KK_3 vi_01 ?_
        refine az_to rfl KK_ou ?_
        refine az_goto C 25 dL_turn_16 (by decide) ?_
        refine az_iconst C (v := 0) dL_turn_25 (by decide) ?_
        exact az_iret C rfl dL_turn_26 (Nat.le_of_eq (Nat.zero_add _)) (Nat.le_of_eq (Nat.zero_add _)) ⟨0, ρ', x', _, rfl, rfl, rfl, hρ, hg, hMT _ ou_0⟩
    · cases h9
  · obtain ⟨ρ', x', rfl, rfl, hρ, hg, hp⟩ := hpost _ _ _ hp
    rcases hp with ⟨_, _, h9, _⟩ | ⟨E9, k, h9, hin, hMT⟩
    · cases h9
    · cases h9
      rcases List.mem_cons.mp hin with hz | hin
      · cases hz
        refine az_catch C hG [] ⟨0, 16, 19, 21⟩ [⟨0, 16, 22, 48⟩] rfl (fun z hz => absurd hz List.not_mem_nil) (by decide +kernel) (by decide) wk_L_21 nx_IOB (fun q => ?_)
        refine az_astore_n C (lv' := [(3, .ref q), (0, .ref (ρ.1 0)), (1, .int p0), (2, .ref (ρ.1 90))]) (j := 3) rfl dL_turn_19 (by decide) rfl ?_
        refine az_iconst C (v := 1) dL_turn_20 (by decide) ?_
        exact az_iret C rfl dL_turn_21 (Nat.le_of_eq (Nat.zero_add _)) (Nat.le_of_eq (Nat.zero_add _)) ⟨1, ρ', x', _, rfl, rfl, rfl, hρ, hg, hMT _⟩
      rcases List.mem_cons.mp hin with hz | hin
      · cases hz
        refine az_catch C hG [⟨0, 16, 19, 21⟩] ⟨0, 16, 22, 48⟩ [] rfl (List.forall_mem_cons.mpr ⟨⟨(show (21 : Nat) ≠ 0 by decide), "java/lang/IndexOutOfBoundsException", wk_L_21, az_ncs_mem (by decide +kernel)⟩, (fun z hz => absurd hz List.not_mem_nil)⟩) (by decide +kernel) (by decide) wk_L_48 nx_UOE (fun q => ?_)
        refine az_astore_n C (lv' := [(3, .ref q), (0, .ref (ρ.1 0)), (1, .int p0), (2, .ref (ρ.1 90))]) (j := 3) rfl dL_turn_22 (by decide) rfl ?_
        refine az_iconst C (v := 2) dL_turn_23 (by decide) ?_
        exact az_iret C rfl dL_turn_24 (Nat.le_of_eq (Nat.zero_add _)) (Nat.le_of_eq (Nat.zero_add _)) ⟨2, ρ', x', _, rfl, rfl, rfl, hρ, hg, hMT _⟩
      · exact absurd hin List.not_mem_nil
set_option maxHeartbeats 4000000 in
set_option maxRecDepth 100000 in
theorem H_waterThrough (hG : az_okS l G) (p0 : Int32) {MT : OpR} (hX : XO l G ρ x m yX3_waterThrough cX3_waterThrough 2 (some FieldType.int) [.int p0] [("java/lang/IndexOutOfBoundsException", 1)] cvI MT) : HO l G ρ x m yL_waterThrough cL_waterThrough 4 [(0, 9, 12, 21)] [.int p0] MT := by
  intro ou
  obtain ⟨mc, ms, d, hd, hgm, post, hM, hpost⟩ := hX ou
  refine ⟨mc, ms, hgm, ?_⟩
  refine az_startH hG.1 (by decide +kernel) (Nat.le_of_ble_eq_true rfl) ?_
  intro p e s mm args below meth c C
  show az_W l G 4 _ p e _ s mm args below meth c _ _ 0 0 0 [(0, .ref (ρ.1 0)), (1, .int p0), (2, .ref (ρ.1 90))] []
  refine az_aload_n C 2 dL_waterThrough_0 rfl ?_
  refine az_iconst C (v := 0) dL_waterThrough_1 (by decide) ?_
  refine az_aload_n C 0 dL_waterThrough_2 rfl ?_
  refine az_iload_n C 1 dL_waterThrough_3 rfl ?_
  refine az_callV C Y_X3_waterThrough cX3 0 0 [.int p0] [.int 0, .ref (ρ.1 90)] wm_L_50 wi_X3_waterThrough wse_X3_waterThrough dL_waterThrough_4 rfl rfl rfl hM rfl (Nat.le_of_ble_eq_true rfl) (by show d + 1 ≤ 10; omega) (by show 19 + 2 + 40 * d ≤ 400; omega) (Nat.le_of_eq (Nat.zero_add _)) (Nat.le_of_eq (Nat.zero_add _)) (fun v ad9 K9 hp => ?_) (fun E ad9 K9 hp => ?_)
  · obtain ⟨ρ', x', rfl, rfl, hρ, hg, hp⟩ := hpost _ _ _ hp
    rcases hp with ⟨v9, w, h9, hcv, hMT⟩ | ⟨_, _, h9, _⟩
    · cases h9
      obtain ⟨u, rfl, rfl⟩ := hcv
      refine az_i2l C dL_waterThrough_7 ?_
      refine az_last C 3 0 (N := 1) (f := ou) dL_waterThrough_8 (show ρ'.1 90 = ρ.1 90 from congrFun hρ 90) KK_3 vi_01 ?_
      refine az_to rfl KK_ou ?_
      refine az_goto C 15 dL_waterThrough_9 (by decide) ?_
      refine az_iconst C (v := 0) dL_waterThrough_15 (by decide) ?_
      exact az_iret C rfl dL_waterThrough_16 (Nat.le_of_eq (Nat.zero_add _)) (Nat.le_of_eq (Nat.zero_add _)) ⟨0, ρ', x', _, rfl, rfl, rfl, hρ, hg, hMT _ ou_0⟩
    · cases h9
  · obtain ⟨ρ', x', rfl, rfl, hρ, hg, hp⟩ := hpost _ _ _ hp
    rcases hp with ⟨_, _, h9, _⟩ | ⟨E9, k, h9, hin, hMT⟩
    · cases h9
    · cases h9
      rcases List.mem_cons.mp hin with hz | hin
      · cases hz
        refine az_catch C hG [] ⟨0, 9, 12, 21⟩ [] rfl (fun z hz => absurd hz List.not_mem_nil) (by decide +kernel) (by decide) wk_L_21 nx_IOB (fun q => ?_)
        refine az_astore_n C (lv' := [(3, .ref q), (0, .ref (ρ.1 0)), (1, .int p0), (2, .ref (ρ.1 90))]) (j := 3) rfl dL_waterThrough_12 (by decide) rfl ?_
        refine az_iconst C (v := 1) dL_waterThrough_13 (by decide) ?_
        exact az_iret C rfl dL_waterThrough_14 (Nat.le_of_eq (Nat.zero_add _)) (Nat.le_of_eq (Nat.zero_add _)) ⟨1, ρ', x', _, rfl, rfl, rfl, hρ, hg, hMT _⟩
      · exact absurd hin List.not_mem_nil
set_option maxHeartbeats 4000000 in
set_option maxRecDepth 100000 in
theorem H_rain (hG : az_okS l G) (p0 p1 : Int32) {MT : OpR} (hX : XO l G ρ x m yX3_rain cX3_rain 4 (some FieldType.int) [.int p0, .int p1] [("java/lang/IndexOutOfBoundsException", 1), ("java/lang/IllegalArgumentException", 2)] cvI MT) : HO l G ρ x m yL_rain cL_rain 5 [(0, 10, 13, 21), (0, 10, 17, 13)] [.int p0, .int p1] MT := by
  intro ou
  obtain ⟨mc, ms, d, hd, hgm, post, hM, hpost⟩ := hX ou
  refine ⟨mc, ms, hgm, ?_⟩
  refine az_startH hG.1 (by decide +kernel) (Nat.le_of_ble_eq_true rfl) ?_
  intro p e s mm args below meth c C
  show az_W l G 5 _ p e _ s mm args below meth c _ _ 0 0 0 [(0, .ref (ρ.1 0)), (1, .int p0), (2, .int p1), (3, .ref (ρ.1 90))] []
  refine az_aload_n C 3 dL_rain_0 rfl ?_
  refine az_iconst C (v := 0) dL_rain_1 (by decide) ?_
  refine az_aload_n C 0 dL_rain_2 rfl ?_
  refine az_iload_n C 1 dL_rain_3 rfl ?_
  refine az_iload_n C 2 dL_rain_4 rfl ?_
  refine az_callV C Y_X3_rain cX3 0 0 [.int p0, .int p1] [.int 0, .ref (ρ.1 90)] wm_L_53 wi_X3_rain wse_X3_rain dL_rain_5 rfl rfl rfl hM rfl (Nat.le_of_ble_eq_true rfl) (by show d + 1 ≤ 10; omega) (by show 19 + 4 + 40 * d ≤ 400; omega) (Nat.le_of_eq (Nat.zero_add _)) (Nat.le_of_eq (Nat.zero_add _)) (fun v ad9 K9 hp => ?_) (fun E ad9 K9 hp => ?_)
  · obtain ⟨ρ', x', rfl, rfl, hρ, hg, hp⟩ := hpost _ _ _ hp
    rcases hp with ⟨v9, w, h9, hcv, hMT⟩ | ⟨_, _, h9, _⟩
    · cases h9
      obtain ⟨u, rfl, rfl⟩ := hcv
      refine az_i2l C dL_rain_8 ?_
      refine az_last C 3 0 (N := 1) (f := ou) dL_rain_9 (show ρ'.1 90 = ρ.1 90 from congrFun hρ 90) KK_3 vi_01 ?_
      refine az_to rfl KK_ou ?_
      refine az_goto C 21 dL_rain_10 (by decide) ?_
      refine az_iconst C (v := 0) dL_rain_21 (by decide) ?_
      exact az_iret C rfl dL_rain_22 (Nat.le_of_eq (Nat.zero_add _)) (Nat.le_of_eq (Nat.zero_add _)) ⟨0, ρ', x', _, rfl, rfl, rfl, hρ, hg, hMT _ ou_0⟩
    · cases h9
  · obtain ⟨ρ', x', rfl, rfl, hρ, hg, hp⟩ := hpost _ _ _ hp
    rcases hp with ⟨_, _, h9, _⟩ | ⟨E9, k, h9, hin, hMT⟩
    · cases h9
    · cases h9
      rcases List.mem_cons.mp hin with hz | hin
      · cases hz
        refine az_catch C hG [] ⟨0, 10, 13, 21⟩ [⟨0, 10, 17, 13⟩] rfl (fun z hz => absurd hz List.not_mem_nil) (by decide +kernel) (by decide) wk_L_21 nx_IOB (fun q => ?_)
        refine az_astore C (lv' := [(4, .ref q), (0, .ref (ρ.1 0)), (1, .int p0), (2, .int p1), (3, .ref (ρ.1 90))]) dL_rain_13 (by decide) rfl ?_
        refine az_iconst C (v := 1) dL_rain_15 (by decide) ?_
        exact az_iret C rfl dL_rain_16 (Nat.le_of_eq (Nat.zero_add _)) (Nat.le_of_eq (Nat.zero_add _)) ⟨1, ρ', x', _, rfl, rfl, rfl, hρ, hg, hMT _⟩
      rcases List.mem_cons.mp hin with hz | hin
      · cases hz
        refine az_catch C hG [⟨0, 10, 13, 21⟩] ⟨0, 10, 17, 13⟩ [] rfl (List.forall_mem_cons.mpr ⟨⟨(show (21 : Nat) ≠ 0 by decide), "java/lang/IndexOutOfBoundsException", wk_L_21, az_ncs_mem (by decide +kernel)⟩, (fun z hz => absurd hz List.not_mem_nil)⟩) (by decide +kernel) (by decide) wk_L_13 nx_IAE (fun q => ?_)
        refine az_astore C (lv' := [(4, .ref q), (0, .ref (ρ.1 0)), (1, .int p0), (2, .int p1), (3, .ref (ρ.1 90))]) dL_rain_17 (by decide) rfl ?_
        refine az_iconst C (v := 2) dL_rain_19 (by decide) ?_
        exact az_iret C rfl dL_rain_20 (Nat.le_of_eq (Nat.zero_add _)) (Nat.le_of_eq (Nat.zero_add _)) ⟨2, ρ', x', _, rfl, rfl, rfl, hρ, hg, hMT _⟩
      · exact absurd hin List.not_mem_nil
set_option maxHeartbeats 4000000 in
set_option maxRecDepth 100000 in
theorem H_addBarge (hG : az_okS l G) (p0 p1 p2 p3 : Int32) {MT : OpR} (hX : XO l G ρ x m yX3_addBarge cX3_addBarge 6 (some FieldType.int) [.int p0, .int p1, .int p2, .int p3] [("java/lang/IndexOutOfBoundsException", 1), ("java/lang/IllegalArgumentException", 2), ("java/lang/IllegalStateException", 3), ("java/lang/UnsupportedOperationException", 4)] cvI MT) : HO l G ρ x m yL_addBarge cL_addBarge 7 [(0, 14, 17, 21), (0, 14, 21, 13), (0, 14, 25, 15), (0, 14, 29, 48)] [.int p0, .int p1, .int p2, .int p3] MT := by
  intro ou
  obtain ⟨mc, ms, d, hd, hgm, post, hM, hpost⟩ := hX ou
  refine ⟨mc, ms, hgm, ?_⟩
  refine az_startH hG.1 (by decide +kernel) (Nat.le_of_ble_eq_true rfl) ?_
  intro p e s mm args below meth c C
  show az_W l G 7 _ p e _ s mm args below meth c _ _ 0 0 0 [(0, .ref (ρ.1 0)), (1, .int p0), (2, .int p1), (3, .int p2), (4, .int p3), (5, .ref (ρ.1 90))] []
  refine az_aload C 5 dL_addBarge_0 rfl ?_
  refine az_iconst C (v := 0) dL_addBarge_2 (by decide) ?_
  refine az_aload_n C 0 dL_addBarge_3 rfl ?_
  refine az_iload_n C 1 dL_addBarge_4 rfl ?_
  refine az_iload_n C 2 dL_addBarge_5 rfl ?_
  refine az_iload_n C 3 dL_addBarge_6 rfl ?_
  refine az_iload C 4 dL_addBarge_7 rfl ?_
  refine az_callV C Y_X3_addBarge cX3 0 0 [.int p0, .int p1, .int p2, .int p3] [.int 0, .ref (ρ.1 90)] wm_L_57 wi_X3_addBarge wse_X3_addBarge dL_addBarge_9 rfl rfl rfl hM rfl (Nat.le_of_ble_eq_true rfl) (by show d + 1 ≤ 10; omega) (by show 19 + 6 + 40 * d ≤ 400; omega) (Nat.le_of_eq (Nat.zero_add _)) (Nat.le_of_eq (Nat.zero_add _)) (fun v ad9 K9 hp => ?_) (fun E ad9 K9 hp => ?_)
  · obtain ⟨ρ', x', rfl, rfl, hρ, hg, hp⟩ := hpost _ _ _ hp
    rcases hp with ⟨v9, w, h9, hcv, hMT⟩ | ⟨_, _, h9, _⟩
    · cases h9
      obtain ⟨u, rfl, rfl⟩ := hcv
      refine az_i2l C dL_addBarge_12 ?_
      refine az_last C 3 0 (N := 1) (f := ou) dL_addBarge_13 (show ρ'.1 90 = ρ.1 90 from congrFun hρ 90) KK_3 vi_01 ?_
      refine az_to rfl KK_ou ?_
      refine az_goto C 33 dL_addBarge_14 (by decide) ?_
      refine az_iconst C (v := 0) dL_addBarge_33 (by decide) ?_
      exact az_iret C rfl dL_addBarge_34 (Nat.le_of_eq (Nat.zero_add _)) (Nat.le_of_eq (Nat.zero_add _)) ⟨0, ρ', x', _, rfl, rfl, rfl, hρ, hg, hMT _ ou_0⟩
    · cases h9
  · obtain ⟨ρ', x', rfl, rfl, hρ, hg, hp⟩ := hpost _ _ _ hp
    rcases hp with ⟨_, _, h9, _⟩ | ⟨E9, k, h9, hin, hMT⟩
    · cases h9
    · cases h9
      rcases List.mem_cons.mp hin with hz | hin
      · cases hz
        refine az_catch C hG [] ⟨0, 14, 17, 21⟩ [⟨0, 14, 21, 13⟩, ⟨0, 14, 25, 15⟩, ⟨0, 14, 29, 48⟩] rfl (fun z hz => absurd hz List.not_mem_nil) (by decide +kernel) (by decide) wk_L_21 nx_IOB (fun q => ?_)
        refine az_astore C (lv' := [(6, .ref q), (0, .ref (ρ.1 0)), (1, .int p0), (2, .int p1), (3, .int p2), (4, .int p3), (5, .ref (ρ.1 90))]) dL_addBarge_17 (by decide) rfl ?_
        refine az_iconst C (v := 1) dL_addBarge_19 (by decide) ?_
        exact az_iret C rfl dL_addBarge_20 (Nat.le_of_eq (Nat.zero_add _)) (Nat.le_of_eq (Nat.zero_add _)) ⟨1, ρ', x', _, rfl, rfl, rfl, hρ, hg, hMT _⟩
      rcases List.mem_cons.mp hin with hz | hin
      · cases hz
        refine az_catch C hG [⟨0, 14, 17, 21⟩] ⟨0, 14, 21, 13⟩ [⟨0, 14, 25, 15⟩, ⟨0, 14, 29, 48⟩] rfl (List.forall_mem_cons.mpr ⟨⟨(show (21 : Nat) ≠ 0 by decide), "java/lang/IndexOutOfBoundsException", wk_L_21, az_ncs_mem (by decide +kernel)⟩, (fun z hz => absurd hz List.not_mem_nil)⟩) (by decide +kernel) (by decide) wk_L_13 nx_IAE (fun q => ?_)
        refine az_astore C (lv' := [(6, .ref q), (0, .ref (ρ.1 0)), (1, .int p0), (2, .int p1), (3, .int p2), (4, .int p3), (5, .ref (ρ.1 90))]) dL_addBarge_21 (by decide) rfl ?_
        refine az_iconst C (v := 2) dL_addBarge_23 (by decide) ?_
        exact az_iret C rfl dL_addBarge_24 (Nat.le_of_eq (Nat.zero_add _)) (Nat.le_of_eq (Nat.zero_add _)) ⟨2, ρ', x', _, rfl, rfl, rfl, hρ, hg, hMT _⟩
      rcases List.mem_cons.mp hin with hz | hin
      · cases hz
        refine az_catch C hG [⟨0, 14, 17, 21⟩, ⟨0, 14, 21, 13⟩] ⟨0, 14, 25, 15⟩ [⟨0, 14, 29, 48⟩] rfl (List.forall_mem_cons.mpr ⟨⟨(show (21 : Nat) ≠ 0 by decide), "java/lang/IndexOutOfBoundsException", wk_L_21, az_ncs_mem (by decide +kernel)⟩, (List.forall_mem_cons.mpr ⟨⟨(show (13 : Nat) ≠ 0 by decide), "java/lang/IllegalArgumentException", wk_L_13, az_ncs_mem (by decide +kernel)⟩, (fun z hz => absurd hz List.not_mem_nil)⟩)⟩) (by decide +kernel) (by decide) wk_L_15 nx_ISE (fun q => ?_)
        refine az_astore C (lv' := [(6, .ref q), (0, .ref (ρ.1 0)), (1, .int p0), (2, .int p1), (3, .int p2), (4, .int p3), (5, .ref (ρ.1 90))]) dL_addBarge_25 (by decide) rfl ?_
        refine az_iconst C (v := 3) dL_addBarge_27 (by decide) ?_
        exact az_iret C rfl dL_addBarge_28 (Nat.le_of_eq (Nat.zero_add _)) (Nat.le_of_eq (Nat.zero_add _)) ⟨3, ρ', x', _, rfl, rfl, rfl, hρ, hg, hMT _⟩
      rcases List.mem_cons.mp hin with hz | hin
      · cases hz
        refine az_catch C hG [⟨0, 14, 17, 21⟩, ⟨0, 14, 21, 13⟩, ⟨0, 14, 25, 15⟩] ⟨0, 14, 29, 48⟩ [] rfl (List.forall_mem_cons.mpr ⟨⟨(show (21 : Nat) ≠ 0 by decide), "java/lang/IndexOutOfBoundsException", wk_L_21, az_ncs_mem (by decide +kernel)⟩, (List.forall_mem_cons.mpr ⟨⟨(show (13 : Nat) ≠ 0 by decide), "java/lang/IllegalArgumentException", wk_L_13, az_ncs_mem (by decide +kernel)⟩, (List.forall_mem_cons.mpr ⟨⟨(show (15 : Nat) ≠ 0 by decide), "java/lang/IllegalStateException", wk_L_15, az_ncs_mem (by decide +kernel)⟩, (fun z hz => absurd hz List.not_mem_nil)⟩)⟩)⟩) (by decide +kernel) (by decide) wk_L_48 nx_UOE (fun q => ?_)
        refine az_astore C (lv' := [(6, .ref q), (0, .ref (ρ.1 0)), (1, .int p0), (2, .int p1), (3, .int p2), (4, .int p3), (5, .ref (ρ.1 90))]) dL_addBarge_29 (by decide) rfl ?_
        refine az_iconst C (v := 4) dL_addBarge_31 (by decide) ?_
        exact az_iret C rfl dL_addBarge_32 (Nat.le_of_eq (Nat.zero_add _)) (Nat.le_of_eq (Nat.zero_add _)) ⟨4, ρ', x', _, rfl, rfl, rfl, hρ, hg, hMT _⟩
      · exact absurd hin List.not_mem_nil
set_option maxHeartbeats 4000000 in
set_option maxRecDepth 100000 in
theorem H_reachOf (hG : az_okS l G) (p0 : Int32) {MT : OpR} (hX : XO l G ρ x m yX3_reachOf cX3_reachOf 2 (some FieldType.int) [.int p0] [("java/lang/IndexOutOfBoundsException", 1)] cvI MT) : HO l G ρ x m yL_reachOf cL_reachOf 4 [(0, 9, 12, 21)] [.int p0] MT := by
  intro ou
  obtain ⟨mc, ms, d, hd, hgm, post, hM, hpost⟩ := hX ou
  refine ⟨mc, ms, hgm, ?_⟩
  refine az_startH hG.1 (by decide +kernel) (Nat.le_of_ble_eq_true rfl) ?_
  intro p e s mm args below meth c C
  show az_W l G 4 _ p e _ s mm args below meth c _ _ 0 0 0 [(0, .ref (ρ.1 0)), (1, .int p0), (2, .ref (ρ.1 90))] []
  refine az_aload_n C 2 dL_reachOf_0 rfl ?_
  refine az_iconst C (v := 0) dL_reachOf_1 (by decide) ?_
  refine az_aload_n C 0 dL_reachOf_2 rfl ?_
  refine az_iload_n C 1 dL_reachOf_3 rfl ?_
  refine az_callV C Y_X3_reachOf cX3 0 0 [.int p0] [.int 0, .ref (ρ.1 90)] wm_L_61 wi_X3_reachOf wse_X3_reachOf dL_reachOf_4 rfl rfl rfl hM rfl (Nat.le_of_ble_eq_true rfl) (by show d + 1 ≤ 10; omega) (by show 19 + 2 + 40 * d ≤ 400; omega) (Nat.le_of_eq (Nat.zero_add _)) (Nat.le_of_eq (Nat.zero_add _)) (fun v ad9 K9 hp => ?_) (fun E ad9 K9 hp => ?_)
  · obtain ⟨ρ', x', rfl, rfl, hρ, hg, hp⟩ := hpost _ _ _ hp
    rcases hp with ⟨v9, w, h9, hcv, hMT⟩ | ⟨_, _, h9, _⟩
    · cases h9
      obtain ⟨u, rfl, rfl⟩ := hcv
      refine az_i2l C dL_reachOf_7 ?_
      refine az_last C 3 0 (N := 1) (f := ou) dL_reachOf_8 (show ρ'.1 90 = ρ.1 90 from congrFun hρ 90) KK_3 vi_01 ?_
      refine az_to rfl KK_ou ?_
      refine az_goto C 15 dL_reachOf_9 (by decide) ?_
      refine az_iconst C (v := 0) dL_reachOf_15 (by decide) ?_
      exact az_iret C rfl dL_reachOf_16 (Nat.le_of_eq (Nat.zero_add _)) (Nat.le_of_eq (Nat.zero_add _)) ⟨0, ρ', x', _, rfl, rfl, rfl, hρ, hg, hMT _ ou_0⟩
    · cases h9
  · obtain ⟨ρ', x', rfl, rfl, hρ, hg, hp⟩ := hpost _ _ _ hp
    rcases hp with ⟨_, _, h9, _⟩ | ⟨E9, k, h9, hin, hMT⟩
    · cases h9
    · cases h9
      rcases List.mem_cons.mp hin with hz | hin
      · cases hz
        refine az_catch C hG [] ⟨0, 9, 12, 21⟩ [] rfl (fun z hz => absurd hz List.not_mem_nil) (by decide +kernel) (by decide) wk_L_21 nx_IOB (fun q => ?_)
        refine az_astore_n C (lv' := [(3, .ref q), (0, .ref (ρ.1 0)), (1, .int p0), (2, .ref (ρ.1 90))]) (j := 3) rfl dL_reachOf_12 (by decide) rfl ?_
        refine az_iconst C (v := 1) dL_reachOf_13 (by decide) ?_
        exact az_iret C rfl dL_reachOf_14 (Nat.le_of_eq (Nat.zero_add _)) (Nat.le_of_eq (Nat.zero_add _)) ⟨1, ρ', x', _, rfl, rfl, rfl, hρ, hg, hMT _⟩
      · exact absurd hin List.not_mem_nil
set_option maxHeartbeats 4000000 in
set_option maxRecDepth 100000 in
theorem H_cargoOf (hG : az_okS l G) (p0 : Int32) {MT : OpR} (hX : XO l G ρ x m yX3_cargoOf cX3_cargoOf 2 (some FieldType.int) [.int p0] [("java/lang/IndexOutOfBoundsException", 1)] cvI MT) : HO l G ρ x m yL_cargoOf cL_cargoOf 4 [(0, 9, 12, 21)] [.int p0] MT := by
  intro ou
  obtain ⟨mc, ms, d, hd, hgm, post, hM, hpost⟩ := hX ou
  refine ⟨mc, ms, hgm, ?_⟩
  refine az_startH hG.1 (by decide +kernel) (Nat.le_of_ble_eq_true rfl) ?_
  intro p e s mm args below meth c C
  show az_W l G 4 _ p e _ s mm args below meth c _ _ 0 0 0 [(0, .ref (ρ.1 0)), (1, .int p0), (2, .ref (ρ.1 90))] []
  refine az_aload_n C 2 dL_cargoOf_0 rfl ?_
  refine az_iconst C (v := 0) dL_cargoOf_1 (by decide) ?_
  refine az_aload_n C 0 dL_cargoOf_2 rfl ?_
  refine az_iload_n C 1 dL_cargoOf_3 rfl ?_
  refine az_callV C Y_X3_cargoOf cX3 0 0 [.int p0] [.int 0, .ref (ρ.1 90)] wm_L_64 wi_X3_cargoOf wse_X3_cargoOf dL_cargoOf_4 rfl rfl rfl hM rfl (Nat.le_of_ble_eq_true rfl) (by show d + 1 ≤ 10; omega) (by show 19 + 2 + 40 * d ≤ 400; omega) (Nat.le_of_eq (Nat.zero_add _)) (Nat.le_of_eq (Nat.zero_add _)) (fun v ad9 K9 hp => ?_) (fun E ad9 K9 hp => ?_)
  · obtain ⟨ρ', x', rfl, rfl, hρ, hg, hp⟩ := hpost _ _ _ hp
    rcases hp with ⟨v9, w, h9, hcv, hMT⟩ | ⟨_, _, h9, _⟩
    · cases h9
      obtain ⟨u, rfl, rfl⟩ := hcv
      refine az_i2l C dL_cargoOf_7 ?_
      refine az_last C 3 0 (N := 1) (f := ou) dL_cargoOf_8 (show ρ'.1 90 = ρ.1 90 from congrFun hρ 90) KK_3 vi_01 ?_
      refine az_to rfl KK_ou ?_
      refine az_goto C 15 dL_cargoOf_9 (by decide) ?_
      refine az_iconst C (v := 0) dL_cargoOf_15 (by decide) ?_
      exact az_iret C rfl dL_cargoOf_16 (Nat.le_of_eq (Nat.zero_add _)) (Nat.le_of_eq (Nat.zero_add _)) ⟨0, ρ', x', _, rfl, rfl, rfl, hρ, hg, hMT _ ou_0⟩
    · cases h9
  · obtain ⟨ρ', x', rfl, rfl, hρ, hg, hp⟩ := hpost _ _ _ hp
    rcases hp with ⟨_, _, h9, _⟩ | ⟨E9, k, h9, hin, hMT⟩
    · cases h9
    · cases h9
      rcases List.mem_cons.mp hin with hz | hin
      · cases hz
        refine az_catch C hG [] ⟨0, 9, 12, 21⟩ [] rfl (fun z hz => absurd hz List.not_mem_nil) (by decide +kernel) (by decide) wk_L_21 nx_IOB (fun q => ?_)
        refine az_astore_n C (lv' := [(3, .ref q), (0, .ref (ρ.1 0)), (1, .int p0), (2, .ref (ρ.1 90))]) (j := 3) rfl dL_cargoOf_12 (by decide) rfl ?_
        refine az_iconst C (v := 1) dL_cargoOf_13 (by decide) ?_
        exact az_iret C rfl dL_cargoOf_14 (Nat.le_of_eq (Nat.zero_add _)) (Nat.le_of_eq (Nat.zero_add _)) ⟨1, ρ', x', _, rfl, rfl, rfl, hρ, hg, hMT _⟩
      · exact absurd hin List.not_mem_nil
set_option maxHeartbeats 4000000 in
set_option maxRecDepth 100000 in
theorem H_draughtOf (hG : az_okS l G) (p0 : Int32) {MT : OpR} (hX : XO l G ρ x m yX3_draughtOf cX3_draughtOf 2 (some FieldType.int) [.int p0] [("java/lang/IndexOutOfBoundsException", 1)] cvI MT) : HO l G ρ x m yL_draughtOf cL_draughtOf 4 [(0, 9, 12, 21)] [.int p0] MT := by
  intro ou
  obtain ⟨mc, ms, d, hd, hgm, post, hM, hpost⟩ := hX ou
  refine ⟨mc, ms, hgm, ?_⟩
  refine az_startH hG.1 (by decide +kernel) (Nat.le_of_ble_eq_true rfl) ?_
  intro p e s mm args below meth c C
  show az_W l G 4 _ p e _ s mm args below meth c _ _ 0 0 0 [(0, .ref (ρ.1 0)), (1, .int p0), (2, .ref (ρ.1 90))] []
  refine az_aload_n C 2 dL_draughtOf_0 rfl ?_
  refine az_iconst C (v := 0) dL_draughtOf_1 (by decide) ?_
  refine az_aload_n C 0 dL_draughtOf_2 rfl ?_
  refine az_iload_n C 1 dL_draughtOf_3 rfl ?_
  refine az_callV C Y_X3_draughtOf cX3 0 0 [.int p0] [.int 0, .ref (ρ.1 90)] wm_L_67 wi_X3_draughtOf wse_X3_draughtOf dL_draughtOf_4 rfl rfl rfl hM rfl (Nat.le_of_ble_eq_true rfl) (by show d + 1 ≤ 10; omega) (by show 19 + 2 + 40 * d ≤ 400; omega) (Nat.le_of_eq (Nat.zero_add _)) (Nat.le_of_eq (Nat.zero_add _)) (fun v ad9 K9 hp => ?_) (fun E ad9 K9 hp => ?_)
  · obtain ⟨ρ', x', rfl, rfl, hρ, hg, hp⟩ := hpost _ _ _ hp
    rcases hp with ⟨v9, w, h9, hcv, hMT⟩ | ⟨_, _, h9, _⟩
    · cases h9
      obtain ⟨u, rfl, rfl⟩ := hcv
      refine az_i2l C dL_draughtOf_7 ?_
      refine az_last C 3 0 (N := 1) (f := ou) dL_draughtOf_8 (show ρ'.1 90 = ρ.1 90 from congrFun hρ 90) KK_3 vi_01 ?_
      refine az_to rfl KK_ou ?_
      refine az_goto C 15 dL_draughtOf_9 (by decide) ?_
      refine az_iconst C (v := 0) dL_draughtOf_15 (by decide) ?_
      exact az_iret C rfl dL_draughtOf_16 (Nat.le_of_eq (Nat.zero_add _)) (Nat.le_of_eq (Nat.zero_add _)) ⟨0, ρ', x', _, rfl, rfl, rfl, hρ, hg, hMT _ ou_0⟩
    · cases h9
  · obtain ⟨ρ', x', rfl, rfl, hρ, hg, hp⟩ := hpost _ _ _ hp
    rcases hp with ⟨_, _, h9, _⟩ | ⟨E9, k, h9, hin, hMT⟩
    · cases h9
    · cases h9
      rcases List.mem_cons.mp hin with hz | hin
      · cases hz
        refine az_catch C hG [] ⟨0, 9, 12, 21⟩ [] rfl (fun z hz => absurd hz List.not_mem_nil) (by decide +kernel) (by decide) wk_L_21 nx_IOB (fun q => ?_)
        refine az_astore_n C (lv' := [(3, .ref q), (0, .ref (ρ.1 0)), (1, .int p0), (2, .ref (ρ.1 90))]) (j := 3) rfl dL_draughtOf_12 (by decide) rfl ?_
        refine az_iconst C (v := 1) dL_draughtOf_13 (by decide) ?_
        exact az_iret C rfl dL_draughtOf_14 (Nat.le_of_eq (Nat.zero_add _)) (Nat.le_of_eq (Nat.zero_add _)) ⟨1, ρ', x', _, rfl, rfl, rfl, hρ, hg, hMT _⟩
      · exact absurd hin List.not_mem_nil
set_option maxHeartbeats 4000000 in
set_option maxRecDepth 100000 in
theorem H_isAfloat (hG : az_okS l G) (p0 : Int32) {MT : OpR} (hX : XO l G ρ x m yX3_isAfloat cX3_isAfloat 2 (some FieldType.boolean) [.int p0] [("java/lang/IndexOutOfBoundsException", 1)] cvZ MT) : HO l G ρ x m yL_isAfloat cL_isAfloat 4 [(0, 16, 19, 21)] [.int p0] MT := by
  intro ou
  obtain ⟨mc, ms, d, hd, hgm, post, hM, hpost⟩ := hX ou
  refine ⟨mc, ms, hgm, ?_⟩
  refine az_startH hG.1 (by decide +kernel) (Nat.le_of_ble_eq_true rfl) ?_
  intro p e s mm args below meth c C
  show az_W l G 4 _ p e _ s mm args below meth c _ _ 0 0 0 [(0, .ref (ρ.1 0)), (1, .int p0), (2, .ref (ρ.1 90))] []
  refine az_aload_n C 2 dL_isAfloat_0 rfl ?_
  refine az_iconst C (v := 0) dL_isAfloat_1 (by decide) ?_
  refine az_aload_n C 0 dL_isAfloat_2 rfl ?_
  refine az_iload_n C 1 dL_isAfloat_3 rfl ?_
  refine az_callV C Y_X3_isAfloat cX3 0 0 [.int p0] [.int 0, .ref (ρ.1 90)] wm_L_70 wi_X3_isAfloat wse_X3_isAfloat dL_isAfloat_4 rfl rfl rfl hM rfl (Nat.le_of_ble_eq_true rfl) (by show d + 1 ≤ 10; omega) (by show 19 + 2 + 40 * d ≤ 400; omega) (Nat.le_of_eq (Nat.zero_add _)) (Nat.le_of_eq (Nat.zero_add _)) (fun v ad9 K9 hp => ?_) (fun E ad9 K9 hp => ?_)
  · obtain ⟨ρ', x', rfl, rfl, hρ, hg, hp⟩ := hpost _ _ _ hp
    rcases hp with ⟨v9, w, h9, hcv, hMT⟩ | ⟨_, _, h9, _⟩
    · cases h9
      obtain ⟨u, rfl, rfl⟩ := hcv
      refine az_if_eq C 14 dL_isAfloat_7 (by decide) (fun h0 => ?_) (fun h0 => ?_)
      · rw [if_pos h0] at hMT
        refine az_lconst C (v := 0) dL_isAfloat_14 (by decide) ?_
        refine az_last C 3 0 (N := 1) (f := ou) dL_isAfloat_15 (show ρ'.1 90 = ρ.1 90 from congrFun hρ 90) KK_3 vi_01 ?_
        refine az_to rfl KK_ou ?_
        refine az_goto C 22 dL_isAfloat_16 (by decide) ?_
        refine az_iconst C (v := 0) dL_isAfloat_22 (by decide) ?_
        exact az_iret C rfl dL_isAfloat_23 (Nat.le_of_eq (Nat.zero_add _)) (Nat.le_of_eq (Nat.zero_add _)) ⟨0, ρ', x', _, rfl, rfl, rfl, hρ, hg, hMT _ ou_0⟩
      · rw [if_neg h0] at hMT
        refine az_lconst C (v := 1) dL_isAfloat_10 (by decide) ?_
        refine az_goto C 15 dL_isAfloat_11 (by decide) ?_
        refine az_last C 3 0 (N := 1) (f := ou) dL_isAfloat_15 (show ρ'.1 90 = ρ.1 90 from congrFun hρ 90) KK_3 vi_01 ?_
        refine az_to rfl KK_ou ?_
        refine az_goto C 22 dL_isAfloat_16 (by decide) ?_
        refine az_iconst C (v := 0) dL_isAfloat_22 (by decide) ?_
        exact az_iret C rfl dL_isAfloat_23 (Nat.le_of_eq (Nat.zero_add _)) (Nat.le_of_eq (Nat.zero_add _)) ⟨0, ρ', x', _, rfl, rfl, rfl, hρ, hg, hMT _ ou_0⟩
    · cases h9
  · obtain ⟨ρ', x', rfl, rfl, hρ, hg, hp⟩ := hpost _ _ _ hp
    rcases hp with ⟨_, _, h9, _⟩ | ⟨E9, k, h9, hin, hMT⟩
    · cases h9
    · cases h9
      rcases List.mem_cons.mp hin with hz | hin
      · cases hz
        refine az_catch C hG [] ⟨0, 16, 19, 21⟩ [] rfl (fun z hz => absurd hz List.not_mem_nil) (by decide +kernel) (by decide) wk_L_21 nx_IOB (fun q => ?_)
        refine az_astore_n C (lv' := [(3, .ref q), (0, .ref (ρ.1 0)), (1, .int p0), (2, .ref (ρ.1 90))]) (j := 3) rfl dL_isAfloat_19 (by decide) rfl ?_
        refine az_iconst C (v := 1) dL_isAfloat_20 (by decide) ?_
        exact az_iret C rfl dL_isAfloat_21 (Nat.le_of_eq (Nat.zero_add _)) (Nat.le_of_eq (Nat.zero_add _)) ⟨1, ρ', x', _, rfl, rfl, rfl, hρ, hg, hMT _⟩
      · exact absurd hin List.not_mem_nil
set_option maxHeartbeats 4000000 in
set_option maxRecDepth 100000 in
theorem H_couple (hG : az_okS l G) (p0 p1 : Int32) {MT : OpR} (hX : XO l G ρ x m yX3_couple cX3_couple 7 (some FieldType.int) [.int p0, .int p1] [("java/lang/IndexOutOfBoundsException", 1), ("java/lang/IllegalArgumentException", 2), ("java/lang/IllegalStateException", 3)] cvI MT) : HO l G ρ x m yL_couple cL_couple 5 [(0, 10, 13, 21), (0, 10, 17, 13), (0, 10, 21, 15)] [.int p0, .int p1] MT := by
  intro ou
  obtain ⟨mc, ms, d, hd, hgm, post, hM, hpost⟩ := hX ou
  refine ⟨mc, ms, hgm, ?_⟩
  refine az_startH hG.1 (by decide +kernel) (Nat.le_of_ble_eq_true rfl) ?_
  intro p e s mm args below meth c C
  show az_W l G 5 _ p e _ s mm args below meth c _ _ 0 0 0 [(0, .ref (ρ.1 0)), (1, .int p0), (2, .int p1), (3, .ref (ρ.1 90))] []
  refine az_aload_n C 3 dL_couple_0 rfl ?_
  refine az_iconst C (v := 0) dL_couple_1 (by decide) ?_
  refine az_aload_n C 0 dL_couple_2 rfl ?_
  refine az_iload_n C 1 dL_couple_3 rfl ?_
  refine az_iload_n C 2 dL_couple_4 rfl ?_
  refine az_callV C Y_X3_couple cX3 0 0 [.int p0, .int p1] [.int 0, .ref (ρ.1 90)] wm_L_73 wi_X3_couple wse_X3_couple dL_couple_5 rfl rfl rfl hM rfl (Nat.le_of_ble_eq_true rfl) (by show d + 1 ≤ 10; omega) (by show 19 + 7 + 40 * d ≤ 400; omega) (Nat.le_of_eq (Nat.zero_add _)) (Nat.le_of_eq (Nat.zero_add _)) (fun v ad9 K9 hp => ?_) (fun E ad9 K9 hp => ?_)
  · obtain ⟨ρ', x', rfl, rfl, hρ, hg, hp⟩ := hpost _ _ _ hp
    rcases hp with ⟨v9, w, h9, hcv, hMT⟩ | ⟨_, _, h9, _⟩
    · cases h9
      obtain ⟨u, rfl, rfl⟩ := hcv
      refine az_i2l C dL_couple_8 ?_
      refine az_last C 3 0 (N := 1) (f := ou) dL_couple_9 (show ρ'.1 90 = ρ.1 90 from congrFun hρ 90) KK_3 vi_01 ?_
      refine az_to rfl KK_ou ?_
      refine az_goto C 25 dL_couple_10 (by decide) ?_
      refine az_iconst C (v := 0) dL_couple_25 (by decide) ?_
      exact az_iret C rfl dL_couple_26 (Nat.le_of_eq (Nat.zero_add _)) (Nat.le_of_eq (Nat.zero_add _)) ⟨0, ρ', x', _, rfl, rfl, rfl, hρ, hg, hMT _ ou_0⟩
    · cases h9
  · obtain ⟨ρ', x', rfl, rfl, hρ, hg, hp⟩ := hpost _ _ _ hp
    rcases hp with ⟨_, _, h9, _⟩ | ⟨E9, k, h9, hin, hMT⟩
    · cases h9
    · cases h9
      rcases List.mem_cons.mp hin with hz | hin
      · cases hz
        refine az_catch C hG [] ⟨0, 10, 13, 21⟩ [⟨0, 10, 17, 13⟩, ⟨0, 10, 21, 15⟩] rfl (fun z hz => absurd hz List.not_mem_nil) (by decide +kernel) (by decide) wk_L_21 nx_IOB (fun q => ?_)
        refine az_astore C (lv' := [(4, .ref q), (0, .ref (ρ.1 0)), (1, .int p0), (2, .int p1), (3, .ref (ρ.1 90))]) dL_couple_13 (by decide) rfl ?_
        refine az_iconst C (v := 1) dL_couple_15 (by decide) ?_
        exact az_iret C rfl dL_couple_16 (Nat.le_of_eq (Nat.zero_add _)) (Nat.le_of_eq (Nat.zero_add _)) ⟨1, ρ', x', _, rfl, rfl, rfl, hρ, hg, hMT _⟩
      rcases List.mem_cons.mp hin with hz | hin
      · cases hz
        refine az_catch C hG [⟨0, 10, 13, 21⟩] ⟨0, 10, 17, 13⟩ [⟨0, 10, 21, 15⟩] rfl (List.forall_mem_cons.mpr ⟨⟨(show (21 : Nat) ≠ 0 by decide), "java/lang/IndexOutOfBoundsException", wk_L_21, az_ncs_mem (by decide +kernel)⟩, (fun z hz => absurd hz List.not_mem_nil)⟩) (by decide +kernel) (by decide) wk_L_13 nx_IAE (fun q => ?_)
        refine az_astore C (lv' := [(4, .ref q), (0, .ref (ρ.1 0)), (1, .int p0), (2, .int p1), (3, .ref (ρ.1 90))]) dL_couple_17 (by decide) rfl ?_
        refine az_iconst C (v := 2) dL_couple_19 (by decide) ?_
        exact az_iret C rfl dL_couple_20 (Nat.le_of_eq (Nat.zero_add _)) (Nat.le_of_eq (Nat.zero_add _)) ⟨2, ρ', x', _, rfl, rfl, rfl, hρ, hg, hMT _⟩
      rcases List.mem_cons.mp hin with hz | hin
      · cases hz
        refine az_catch C hG [⟨0, 10, 13, 21⟩, ⟨0, 10, 17, 13⟩] ⟨0, 10, 21, 15⟩ [] rfl (List.forall_mem_cons.mpr ⟨⟨(show (21 : Nat) ≠ 0 by decide), "java/lang/IndexOutOfBoundsException", wk_L_21, az_ncs_mem (by decide +kernel)⟩, (List.forall_mem_cons.mpr ⟨⟨(show (13 : Nat) ≠ 0 by decide), "java/lang/IllegalArgumentException", wk_L_13, az_ncs_mem (by decide +kernel)⟩, (fun z hz => absurd hz List.not_mem_nil)⟩)⟩) (by decide +kernel) (by decide) wk_L_15 nx_ISE (fun q => ?_)
        refine az_astore C (lv' := [(4, .ref q), (0, .ref (ρ.1 0)), (1, .int p0), (2, .int p1), (3, .ref (ρ.1 90))]) dL_couple_21 (by decide) rfl ?_
        refine az_iconst C (v := 3) dL_couple_23 (by decide) ?_
        exact az_iret C rfl dL_couple_24 (Nat.le_of_eq (Nat.zero_add _)) (Nat.le_of_eq (Nat.zero_add _)) ⟨3, ρ', x', _, rfl, rfl, rfl, hρ, hg, hMT _⟩
      · exact absurd hin List.not_mem_nil
set_option maxHeartbeats 4000000 in
set_option maxRecDepth 100000 in
theorem H_uncouple (hG : az_okS l G) (p0 : Int32) {MT : OpR} (hX : XO l G ρ x m yX3_uncouple cX3_uncouple 4 (some FieldType.int) [.int p0] [("java/lang/IndexOutOfBoundsException", 1), ("java/lang/IllegalStateException", 2)] cvI MT) : HO l G ρ x m yL_uncouple cL_uncouple 4 [(0, 9, 12, 21), (0, 9, 15, 15)] [.int p0] MT := by
  intro ou
  obtain ⟨mc, ms, d, hd, hgm, post, hM, hpost⟩ := hX ou
  refine ⟨mc, ms, hgm, ?_⟩
  refine az_startH hG.1 (by decide +kernel) (Nat.le_of_ble_eq_true rfl) ?_
  intro p e s mm args below meth c C
  show az_W l G 4 _ p e _ s mm args below meth c _ _ 0 0 0 [(0, .ref (ρ.1 0)), (1, .int p0), (2, .ref (ρ.1 90))] []
  refine az_aload_n C 2 dL_uncouple_0 rfl ?_
  refine az_iconst C (v := 0) dL_uncouple_1 (by decide) ?_
  refine az_aload_n C 0 dL_uncouple_2 rfl ?_
  refine az_iload_n C 1 dL_uncouple_3 rfl ?_
  refine az_callV C Y_X3_uncouple cX3 0 0 [.int p0] [.int 0, .ref (ρ.1 90)] wm_L_76 wi_X3_uncouple wse_X3_uncouple dL_uncouple_4 rfl rfl rfl hM rfl (Nat.le_of_ble_eq_true rfl) (by show d + 1 ≤ 10; omega) (by show 19 + 4 + 40 * d ≤ 400; omega) (Nat.le_of_eq (Nat.zero_add _)) (Nat.le_of_eq (Nat.zero_add _)) (fun v ad9 K9 hp => ?_) (fun E ad9 K9 hp => ?_)
  · obtain ⟨ρ', x', rfl, rfl, hρ, hg, hp⟩ := hpost _ _ _ hp
    rcases hp with ⟨v9, w, h9, hcv, hMT⟩ | ⟨_, _, h9, _⟩
    · cases h9
      obtain ⟨u, rfl, rfl⟩ := hcv
      refine az_i2l C dL_uncouple_7 ?_
      refine az_last C 3 0 (N := 1) (f := ou) dL_uncouple_8 (show ρ'.1 90 = ρ.1 90 from congrFun hρ 90) KK_3 vi_01 ?_
      refine az_to rfl KK_ou ?_
      refine az_goto C 18 dL_uncouple_9 (by decide) ?_
      refine az_iconst C (v := 0) dL_uncouple_18 (by decide) ?_
      exact az_iret C rfl dL_uncouple_19 (Nat.le_of_eq (Nat.zero_add _)) (Nat.le_of_eq (Nat.zero_add _)) ⟨0, ρ', x', _, rfl, rfl, rfl, hρ, hg, hMT _ ou_0⟩
    · cases h9
  · obtain ⟨ρ', x', rfl, rfl, hρ, hg, hp⟩ := hpost _ _ _ hp
    rcases hp with ⟨_, _, h9, _⟩ | ⟨E9, k, h9, hin, hMT⟩
    · cases h9
    · cases h9
      rcases List.mem_cons.mp hin with hz | hin
      · cases hz
        refine az_catch C hG [] ⟨0, 9, 12, 21⟩ [⟨0, 9, 15, 15⟩] rfl (fun z hz => absurd hz List.not_mem_nil) (by decide +kernel) (by decide) wk_L_21 nx_IOB (fun q => ?_)
        refine az_astore_n C (lv' := [(3, .ref q), (0, .ref (ρ.1 0)), (1, .int p0), (2, .ref (ρ.1 90))]) (j := 3) rfl dL_uncouple_12 (by decide) rfl ?_
        refine az_iconst C (v := 1) dL_uncouple_13 (by decide) ?_
        exact az_iret C rfl dL_uncouple_14 (Nat.le_of_eq (Nat.zero_add _)) (Nat.le_of_eq (Nat.zero_add _)) ⟨1, ρ', x', _, rfl, rfl, rfl, hρ, hg, hMT _⟩
      rcases List.mem_cons.mp hin with hz | hin
      · cases hz
        refine az_catch C hG [⟨0, 9, 12, 21⟩] ⟨0, 9, 15, 15⟩ [] rfl (List.forall_mem_cons.mpr ⟨⟨(show (21 : Nat) ≠ 0 by decide), "java/lang/IndexOutOfBoundsException", wk_L_21, az_ncs_mem (by decide +kernel)⟩, (fun z hz => absurd hz List.not_mem_nil)⟩) (by decide +kernel) (by decide) wk_L_15 nx_ISE (fun q => ?_)
        refine az_astore_n C (lv' := [(3, .ref q), (0, .ref (ρ.1 0)), (1, .int p0), (2, .ref (ρ.1 90))]) (j := 3) rfl dL_uncouple_15 (by decide) rfl ?_
        refine az_iconst C (v := 2) dL_uncouple_16 (by decide) ?_
        exact az_iret C rfl dL_uncouple_17 (Nat.le_of_eq (Nat.zero_add _)) (Nat.le_of_eq (Nat.zero_add _)) ⟨2, ρ', x', _, rfl, rfl, rfl, hρ, hg, hMT _⟩
      · exact absurd hin List.not_mem_nil
set_option maxHeartbeats 4000000 in
set_option maxRecDepth 100000 in
theorem H_convoySize (hG : az_okS l G) (p0 : Int32) {MT : OpR} (hX : XO l G ρ x m yX3_convoySize cX3_convoySize 2 (some FieldType.int) [.int p0] [("java/lang/IndexOutOfBoundsException", 1)] cvI MT) : HO l G ρ x m yL_convoySize cL_convoySize 4 [(0, 9, 12, 21)] [.int p0] MT := by
  intro ou
  obtain ⟨mc, ms, d, hd, hgm, post, hM, hpost⟩ := hX ou
  refine ⟨mc, ms, hgm, ?_⟩
  refine az_startH hG.1 (by decide +kernel) (Nat.le_of_ble_eq_true rfl) ?_
  intro p e s mm args below meth c C
  show az_W l G 4 _ p e _ s mm args below meth c _ _ 0 0 0 [(0, .ref (ρ.1 0)), (1, .int p0), (2, .ref (ρ.1 90))] []
  refine az_aload_n C 2 dL_convoySize_0 rfl ?_
  refine az_iconst C (v := 0) dL_convoySize_1 (by decide) ?_
  refine az_aload_n C 0 dL_convoySize_2 rfl ?_
  refine az_iload_n C 1 dL_convoySize_3 rfl ?_
  refine az_callV C Y_X3_convoySize cX3 0 0 [.int p0] [.int 0, .ref (ρ.1 90)] wm_L_79 wi_X3_convoySize wse_X3_convoySize dL_convoySize_4 rfl rfl rfl hM rfl (Nat.le_of_ble_eq_true rfl) (by show d + 1 ≤ 10; omega) (by show 19 + 2 + 40 * d ≤ 400; omega) (Nat.le_of_eq (Nat.zero_add _)) (Nat.le_of_eq (Nat.zero_add _)) (fun v ad9 K9 hp => ?_) (fun E ad9 K9 hp => ?_)
  · obtain ⟨ρ', x', rfl, rfl, hρ, hg, hp⟩ := hpost _ _ _ hp
    rcases hp with ⟨v9, w, h9, hcv, hMT⟩ | ⟨_, _, h9, _⟩
    · cases h9
      obtain ⟨u, rfl, rfl⟩ := hcv
      refine az_i2l C dL_convoySize_7 ?_
      refine az_last C 3 0 (N := 1) (f := ou) dL_convoySize_8 (show ρ'.1 90 = ρ.1 90 from congrFun hρ 90) KK_3 vi_01 ?_
      refine az_to rfl KK_ou ?_
      refine az_goto C 15 dL_convoySize_9 (by decide) ?_
      refine az_iconst C (v := 0) dL_convoySize_15 (by decide) ?_
      exact az_iret C rfl dL_convoySize_16 (Nat.le_of_eq (Nat.zero_add _)) (Nat.le_of_eq (Nat.zero_add _)) ⟨0, ρ', x', _, rfl, rfl, rfl, hρ, hg, hMT _ ou_0⟩
    · cases h9
  · obtain ⟨ρ', x', rfl, rfl, hρ, hg, hp⟩ := hpost _ _ _ hp
    rcases hp with ⟨_, _, h9, _⟩ | ⟨E9, k, h9, hin, hMT⟩
    · cases h9
    · cases h9
      rcases List.mem_cons.mp hin with hz | hin
      · cases hz
        refine az_catch C hG [] ⟨0, 9, 12, 21⟩ [] rfl (fun z hz => absurd hz List.not_mem_nil) (by decide +kernel) (by decide) wk_L_21 nx_IOB (fun q => ?_)
        refine az_astore_n C (lv' := [(3, .ref q), (0, .ref (ρ.1 0)), (1, .int p0), (2, .ref (ρ.1 90))]) (j := 3) rfl dL_convoySize_12 (by decide) rfl ?_
        refine az_iconst C (v := 1) dL_convoySize_13 (by decide) ?_
        exact az_iret C rfl dL_convoySize_14 (Nat.le_of_eq (Nat.zero_add _)) (Nat.le_of_eq (Nat.zero_add _)) ⟨1, ρ', x', _, rfl, rfl, rfl, hρ, hg, hMT _⟩
      · exact absurd hin List.not_mem_nil
set_option maxHeartbeats 4000000 in
set_option maxRecDepth 100000 in
theorem H_convoyAt (hG : az_okS l G) (p0 p1 : Int32) {MT : OpR} (hX : XO l G ρ x m yX3_convoyAt cX3_convoyAt 5 (some FieldType.int) [.int p0, .int p1] [("java/lang/IndexOutOfBoundsException", 1), ("java/util/NoSuchElementException", 2)] cvI MT) : HO l G ρ x m yL_convoyAt cL_convoyAt 5 [(0, 10, 13, 21), (0, 10, 17, 85)] [.int p0, .int p1] MT := by
  intro ou
  obtain ⟨mc, ms, d, hd, hgm, post, hM, hpost⟩ := hX ou
  refine ⟨mc, ms, hgm, ?_⟩
  refine az_startH hG.1 (by decide +kernel) (Nat.le_of_ble_eq_true rfl) ?_
  intro p e s mm args below meth c C
  show az_W l G 5 _ p e _ s mm args below meth c _ _ 0 0 0 [(0, .ref (ρ.1 0)), (1, .int p0), (2, .int p1), (3, .ref (ρ.1 90))] []
  refine az_aload_n C 3 dL_convoyAt_0 rfl ?_
  refine az_iconst C (v := 0) dL_convoyAt_1 (by decide) ?_
  refine az_aload_n C 0 dL_convoyAt_2 rfl ?_
  refine az_iload_n C 1 dL_convoyAt_3 rfl ?_
  refine az_iload_n C 2 dL_convoyAt_4 rfl ?_
  refine az_callV C Y_X3_convoyAt cX3 0 0 [.int p0, .int p1] [.int 0, .ref (ρ.1 90)] wm_L_82 wi_X3_convoyAt wse_X3_convoyAt dL_convoyAt_5 rfl rfl rfl hM rfl (Nat.le_of_ble_eq_true rfl) (by show d + 1 ≤ 10; omega) (by show 19 + 5 + 40 * d ≤ 400; omega) (Nat.le_of_eq (Nat.zero_add _)) (Nat.le_of_eq (Nat.zero_add _)) (fun v ad9 K9 hp => ?_) (fun E ad9 K9 hp => ?_)
  · obtain ⟨ρ', x', rfl, rfl, hρ, hg, hp⟩ := hpost _ _ _ hp
    rcases hp with ⟨v9, w, h9, hcv, hMT⟩ | ⟨_, _, h9, _⟩
    · cases h9
      obtain ⟨u, rfl, rfl⟩ := hcv
      refine az_i2l C dL_convoyAt_8 ?_
      refine az_last C 3 0 (N := 1) (f := ou) dL_convoyAt_9 (show ρ'.1 90 = ρ.1 90 from congrFun hρ 90) KK_3 vi_01 ?_
      refine az_to rfl KK_ou ?_
      refine az_goto C 21 dL_convoyAt_10 (by decide) ?_
      refine az_iconst C (v := 0) dL_convoyAt_21 (by decide) ?_
      exact az_iret C rfl dL_convoyAt_22 (Nat.le_of_eq (Nat.zero_add _)) (Nat.le_of_eq (Nat.zero_add _)) ⟨0, ρ', x', _, rfl, rfl, rfl, hρ, hg, hMT _ ou_0⟩
    · cases h9
  · obtain ⟨ρ', x', rfl, rfl, hρ, hg, hp⟩ := hpost _ _ _ hp
    rcases hp with ⟨_, _, h9, _⟩ | ⟨E9, k, h9, hin, hMT⟩
    · cases h9
    · cases h9
      rcases List.mem_cons.mp hin with hz | hin
      · cases hz
        refine az_catch C hG [] ⟨0, 10, 13, 21⟩ [⟨0, 10, 17, 85⟩] rfl (fun z hz => absurd hz List.not_mem_nil) (by decide +kernel) (by decide) wk_L_21 nx_IOB (fun q => ?_)
        refine az_astore C (lv' := [(4, .ref q), (0, .ref (ρ.1 0)), (1, .int p0), (2, .int p1), (3, .ref (ρ.1 90))]) dL_convoyAt_13 (by decide) rfl ?_
        refine az_iconst C (v := 1) dL_convoyAt_15 (by decide) ?_
        exact az_iret C rfl dL_convoyAt_16 (Nat.le_of_eq (Nat.zero_add _)) (Nat.le_of_eq (Nat.zero_add _)) ⟨1, ρ', x', _, rfl, rfl, rfl, hρ, hg, hMT _⟩
      rcases List.mem_cons.mp hin with hz | hin
      · cases hz
        refine az_catch C hG [⟨0, 10, 13, 21⟩] ⟨0, 10, 17, 85⟩ [] rfl (List.forall_mem_cons.mpr ⟨⟨(show (21 : Nat) ≠ 0 by decide), "java/lang/IndexOutOfBoundsException", wk_L_21, az_ncs_mem (by decide +kernel)⟩, (fun z hz => absurd hz List.not_mem_nil)⟩) (by decide +kernel) (by decide) wk_L_85 nx_NSE (fun q => ?_)
        refine az_astore C (lv' := [(4, .ref q), (0, .ref (ρ.1 0)), (1, .int p0), (2, .int p1), (3, .ref (ρ.1 90))]) dL_convoyAt_17 (by decide) rfl ?_
        refine az_iconst C (v := 2) dL_convoyAt_19 (by decide) ?_
        exact az_iret C rfl dL_convoyAt_20 (Nat.le_of_eq (Nat.zero_add _)) (Nat.le_of_eq (Nat.zero_add _)) ⟨2, ρ', x', _, rfl, rfl, rfl, hρ, hg, hMT _⟩
      · exact absurd hin List.not_mem_nil
set_option maxHeartbeats 4000000 in
set_option maxRecDepth 100000 in
theorem H_partsFor (hG : az_okS l G) (p0 p1 : Int32) {MT : OpR} (hX : XO l G ρ x m yX3_partsFor cX3_partsFor 4 (some FieldType.int) [.int p0, .int p1] [("java/lang/IndexOutOfBoundsException", 1), ("java/lang/UnsupportedOperationException", 2)] cvI MT) : HO l G ρ x m yL_partsFor cL_partsFor 5 [(0, 10, 13, 21), (0, 10, 17, 48)] [.int p0, .int p1] MT := by
  intro ou
  obtain ⟨mc, ms, d, hd, hgm, post, hM, hpost⟩ := hX ou
  refine ⟨mc, ms, hgm, ?_⟩
  refine az_startH hG.1 (by decide +kernel) (Nat.le_of_ble_eq_true rfl) ?_
  intro p e s mm args below meth c C
  show az_W l G 5 _ p e _ s mm args below meth c _ _ 0 0 0 [(0, .ref (ρ.1 0)), (1, .int p0), (2, .int p1), (3, .ref (ρ.1 90))] []
  refine az_aload_n C 3 dL_partsFor_0 rfl ?_
  refine az_iconst C (v := 0) dL_partsFor_1 (by decide) ?_
  refine az_aload_n C 0 dL_partsFor_2 rfl ?_
  refine az_iload_n C 1 dL_partsFor_3 rfl ?_
  refine az_iload_n C 2 dL_partsFor_4 rfl ?_
  refine az_callV C Y_X3_partsFor cX3 0 0 [.int p0, .int p1] [.int 0, .ref (ρ.1 90)] wm_L_87 wi_X3_partsFor wse_X3_partsFor dL_partsFor_5 rfl rfl rfl hM rfl (Nat.le_of_ble_eq_true rfl) (by show d + 1 ≤ 10; omega) (by show 19 + 4 + 40 * d ≤ 400; omega) (Nat.le_of_eq (Nat.zero_add _)) (Nat.le_of_eq (Nat.zero_add _)) (fun v ad9 K9 hp => ?_) (fun E ad9 K9 hp => ?_)
  · obtain ⟨ρ', x', rfl, rfl, hρ, hg, hp⟩ := hpost _ _ _ hp
    rcases hp with ⟨v9, w, h9, hcv, hMT⟩ | ⟨_, _, h9, _⟩
    · cases h9
      obtain ⟨u, rfl, rfl⟩ := hcv
      refine az_i2l C dL_partsFor_8 ?_
      refine az_last C 3 0 (N := 1) (f := ou) dL_partsFor_9 (show ρ'.1 90 = ρ.1 90 from congrFun hρ 90) KK_3 vi_01 ?_
      refine az_to rfl KK_ou ?_
      refine az_goto C 21 dL_partsFor_10 (by decide) ?_
      refine az_iconst C (v := 0) dL_partsFor_21 (by decide) ?_
      exact az_iret C rfl dL_partsFor_22 (Nat.le_of_eq (Nat.zero_add _)) (Nat.le_of_eq (Nat.zero_add _)) ⟨0, ρ', x', _, rfl, rfl, rfl, hρ, hg, hMT _ ou_0⟩
    · cases h9
  · obtain ⟨ρ', x', rfl, rfl, hρ, hg, hp⟩ := hpost _ _ _ hp
    rcases hp with ⟨_, _, h9, _⟩ | ⟨E9, k, h9, hin, hMT⟩
    · cases h9
    · cases h9
      rcases List.mem_cons.mp hin with hz | hin
      · cases hz
        refine az_catch C hG [] ⟨0, 10, 13, 21⟩ [⟨0, 10, 17, 48⟩] rfl (fun z hz => absurd hz List.not_mem_nil) (by decide +kernel) (by decide) wk_L_21 nx_IOB (fun q => ?_)
        refine az_astore C (lv' := [(4, .ref q), (0, .ref (ρ.1 0)), (1, .int p0), (2, .int p1), (3, .ref (ρ.1 90))]) dL_partsFor_13 (by decide) rfl ?_
        refine az_iconst C (v := 1) dL_partsFor_15 (by decide) ?_
        exact az_iret C rfl dL_partsFor_16 (Nat.le_of_eq (Nat.zero_add _)) (Nat.le_of_eq (Nat.zero_add _)) ⟨1, ρ', x', _, rfl, rfl, rfl, hρ, hg, hMT _⟩
      rcases List.mem_cons.mp hin with hz | hin
      · cases hz
        refine az_catch C hG [⟨0, 10, 13, 21⟩] ⟨0, 10, 17, 48⟩ [] rfl (List.forall_mem_cons.mpr ⟨⟨(show (21 : Nat) ≠ 0 by decide), "java/lang/IndexOutOfBoundsException", wk_L_21, az_ncs_mem (by decide +kernel)⟩, (fun z hz => absurd hz List.not_mem_nil)⟩) (by decide +kernel) (by decide) wk_L_48 nx_UOE (fun q => ?_)
        refine az_astore C (lv' := [(4, .ref q), (0, .ref (ρ.1 0)), (1, .int p0), (2, .int p1), (3, .ref (ρ.1 90))]) dL_partsFor_17 (by decide) rfl ?_
        refine az_iconst C (v := 2) dL_partsFor_19 (by decide) ?_
        exact az_iret C rfl dL_partsFor_20 (Nat.le_of_eq (Nat.zero_add _)) (Nat.le_of_eq (Nat.zero_add _)) ⟨2, ρ', x', _, rfl, rfl, rfl, hρ, hg, hMT _⟩
      · exact absurd hin List.not_mem_nil
set_option maxHeartbeats 4000000 in
set_option maxRecDepth 100000 in
theorem H_pass (hG : az_okS l G) (p0 p1 : Int32) {MT : OpR} (hX : XO l G ρ x m yX3_pass cX3_pass 5 (some FieldType.int) [.int p0, .int p1] [("java/lang/IndexOutOfBoundsException", 1), ("java/util/NoSuchElementException", 2), ("java/lang/UnsupportedOperationException", 3)] cvI MT) : HO l G ρ x m yL_pass cL_pass 5 [(0, 10, 13, 21), (0, 10, 17, 85), (0, 10, 21, 48)] [.int p0, .int p1] MT := by
  intro ou
  obtain ⟨mc, ms, d, hd, hgm, post, hM, hpost⟩ := hX ou
  refine ⟨mc, ms, hgm, ?_⟩
  refine az_startH hG.1 (by decide +kernel) (Nat.le_of_ble_eq_true rfl) ?_
  intro p e s mm args below meth c C
  show az_W l G 5 _ p e _ s mm args below meth c _ _ 0 0 0 [(0, .ref (ρ.1 0)), (1, .int p0), (2, .int p1), (3, .ref (ρ.1 90))] []
  refine az_aload_n C 3 dL_pass_0 rfl ?_
  refine az_iconst C (v := 0) dL_pass_1 (by decide) ?_
  refine az_aload_n C 0 dL_pass_2 rfl ?_
  refine az_iload_n C 1 dL_pass_3 rfl ?_
  refine az_iload_n C 2 dL_pass_4 rfl ?_
  refine az_callV C Y_X3_pass cX3 0 0 [.int p0, .int p1] [.int 0, .ref (ρ.1 90)] wm_L_90 wi_X3_pass wse_X3_pass dL_pass_5 rfl rfl rfl hM rfl (Nat.le_of_ble_eq_true rfl) (by show d + 1 ≤ 10; omega) (by show 19 + 5 + 40 * d ≤ 400; omega) (Nat.le_of_eq (Nat.zero_add _)) (Nat.le_of_eq (Nat.zero_add _)) (fun v ad9 K9 hp => ?_) (fun E ad9 K9 hp => ?_)
  · obtain ⟨ρ', x', rfl, rfl, hρ, hg, hp⟩ := hpost _ _ _ hp
    rcases hp with ⟨v9, w, h9, hcv, hMT⟩ | ⟨_, _, h9, _⟩
    · cases h9
      obtain ⟨u, rfl, rfl⟩ := hcv
      refine az_i2l C dL_pass_8 ?_
      refine az_last C 3 0 (N := 1) (f := ou) dL_pass_9 (show ρ'.1 90 = ρ.1 90 from congrFun hρ 90) KK_3 vi_01 ?_
      refine az_to rfl KK_ou ?_
      refine az_goto C 25 dL_pass_10 (by decide) ?_
      refine az_iconst C (v := 0) dL_pass_25 (by decide) ?_
      exact az_iret C rfl dL_pass_26 (Nat.le_of_eq (Nat.zero_add _)) (Nat.le_of_eq (Nat.zero_add _)) ⟨0, ρ', x', _, rfl, rfl, rfl, hρ, hg, hMT _ ou_0⟩
    · cases h9
  · obtain ⟨ρ', x', rfl, rfl, hρ, hg, hp⟩ := hpost _ _ _ hp
    rcases hp with ⟨_, _, h9, _⟩ | ⟨E9, k, h9, hin, hMT⟩
    · cases h9
    · cases h9
      rcases List.mem_cons.mp hin with hz | hin
      · cases hz
        refine az_catch C hG [] ⟨0, 10, 13, 21⟩ [⟨0, 10, 17, 85⟩, ⟨0, 10, 21, 48⟩] rfl (fun z hz => absurd hz List.not_mem_nil) (by decide +kernel) (by decide) wk_L_21 nx_IOB (fun q => ?_)
        refine az_astore C (lv' := [(4, .ref q), (0, .ref (ρ.1 0)), (1, .int p0), (2, .int p1), (3, .ref (ρ.1 90))]) dL_pass_13 (by decide) rfl ?_
        refine az_iconst C (v := 1) dL_pass_15 (by decide) ?_
        exact az_iret C rfl dL_pass_16 (Nat.le_of_eq (Nat.zero_add _)) (Nat.le_of_eq (Nat.zero_add _)) ⟨1, ρ', x', _, rfl, rfl, rfl, hρ, hg, hMT _⟩
      rcases List.mem_cons.mp hin with hz | hin
      · cases hz
        refine az_catch C hG [⟨0, 10, 13, 21⟩] ⟨0, 10, 17, 85⟩ [⟨0, 10, 21, 48⟩] rfl (List.forall_mem_cons.mpr ⟨⟨(show (21 : Nat) ≠ 0 by decide), "java/lang/IndexOutOfBoundsException", wk_L_21, az_ncs_mem (by decide +kernel)⟩, (fun z hz => absurd hz List.not_mem_nil)⟩) (by decide +kernel) (by decide) wk_L_85 nx_NSE (fun q => ?_)
        refine az_astore C (lv' := [(4, .ref q), (0, .ref (ρ.1 0)), (1, .int p0), (2, .int p1), (3, .ref (ρ.1 90))]) dL_pass_17 (by decide) rfl ?_
        refine az_iconst C (v := 2) dL_pass_19 (by decide) ?_
        exact az_iret C rfl dL_pass_20 (Nat.le_of_eq (Nat.zero_add _)) (Nat.le_of_eq (Nat.zero_add _)) ⟨2, ρ', x', _, rfl, rfl, rfl, hρ, hg, hMT _⟩
      rcases List.mem_cons.mp hin with hz | hin
      · cases hz
        refine az_catch C hG [⟨0, 10, 13, 21⟩, ⟨0, 10, 17, 85⟩] ⟨0, 10, 21, 48⟩ [] rfl (List.forall_mem_cons.mpr ⟨⟨(show (21 : Nat) ≠ 0 by decide), "java/lang/IndexOutOfBoundsException", wk_L_21, az_ncs_mem (by decide +kernel)⟩, (List.forall_mem_cons.mpr ⟨⟨(show (85 : Nat) ≠ 0 by decide), "java/util/NoSuchElementException", wk_L_85, az_ncs_mem (by decide +kernel)⟩, (fun z hz => absurd hz List.not_mem_nil)⟩)⟩) (by decide +kernel) (by decide) wk_L_48 nx_UOE (fun q => ?_)
        refine az_astore C (lv' := [(4, .ref q), (0, .ref (ρ.1 0)), (1, .int p0), (2, .int p1), (3, .ref (ρ.1 90))]) dL_pass_21 (by decide) rfl ?_
        refine az_iconst C (v := 3) dL_pass_23 (by decide) ?_
        exact az_iret C rfl dL_pass_24 (Nat.le_of_eq (Nat.zero_add _)) (Nat.le_of_eq (Nat.zero_add _)) ⟨3, ρ', x', _, rfl, rfl, rfl, hρ, hg, hMT _⟩
      · exact absurd hin List.not_mem_nil
set_option maxHeartbeats 4000000 in
set_option maxRecDepth 100000 in
theorem H_voyage (hG : az_okS l G) (p0 p1 : Int32) {MT : OpR} (hX : XO l G ρ x m yX3_voyage cX3_voyage 4 (some FieldType.int) [.int p0, .int p1] [("java/lang/IndexOutOfBoundsException", 1), ("java/lang/IllegalStateException", 2), ("java/lang/UnsupportedOperationException", 3)] cvI MT) : HO l G ρ x m yL_voyage cL_voyage 5 [(0, 10, 13, 21), (0, 10, 17, 15), (0, 10, 21, 48)] [.int p0, .int p1] MT := by
  intro ou
  obtain ⟨mc, ms, d, hd, hgm, post, hM, hpost⟩ := hX ou
  refine ⟨mc, ms, hgm, ?_⟩
  refine az_startH hG.1 (by decide +kernel) (Nat.le_of_ble_eq_true rfl) ?_
  intro p e s mm args below meth c C
  show az_W l G 5 _ p e _ s mm args below meth c _ _ 0 0 0 [(0, .ref (ρ.1 0)), (1, .int p0), (2, .int p1), (3, .ref (ρ.1 90))] []
  refine az_aload_n C 3 dL_voyage_0 rfl ?_
  refine az_iconst C (v := 0) dL_voyage_1 (by decide) ?_
  refine az_aload_n C 0 dL_voyage_2 rfl ?_
  refine az_iload_n C 1 dL_voyage_3 rfl ?_
  refine az_iload_n C 2 dL_voyage_4 rfl ?_
  refine az_callV C Y_X3_voyage cX3 0 0 [.int p0, .int p1] [.int 0, .ref (ρ.1 90)] wm_L_94 wi_X3_voyage wse_X3_voyage dL_voyage_5 rfl rfl rfl hM rfl (Nat.le_of_ble_eq_true rfl) (by show d + 1 ≤ 10; omega) (by show 19 + 4 + 40 * d ≤ 400; omega) (Nat.le_of_eq (Nat.zero_add _)) (Nat.le_of_eq (Nat.zero_add _)) (fun v ad9 K9 hp => ?_) (fun E ad9 K9 hp => ?_)
  · obtain ⟨ρ', x', rfl, rfl, hρ, hg, hp⟩ := hpost _ _ _ hp
    rcases hp with ⟨v9, w, h9, hcv, hMT⟩ | ⟨_, _, h9, _⟩
    · cases h9
      obtain ⟨u, rfl, rfl⟩ := hcv
      refine az_i2l C dL_voyage_8 ?_
      refine az_last C 3 0 (N := 1) (f := ou) dL_voyage_9 (show ρ'.1 90 = ρ.1 90 from congrFun hρ 90) KK_3 vi_01 ?_
      refine az_to rfl KK_ou ?_
      refine az_goto C 25 dL_voyage_10 (by decide) ?_
      refine az_iconst C (v := 0) dL_voyage_25 (by decide) ?_
      exact az_iret C rfl dL_voyage_26 (Nat.le_of_eq (Nat.zero_add _)) (Nat.le_of_eq (Nat.zero_add _)) ⟨0, ρ', x', _, rfl, rfl, rfl, hρ, hg, hMT _ ou_0⟩
    · cases h9
  · obtain ⟨ρ', x', rfl, rfl, hρ, hg, hp⟩ := hpost _ _ _ hp
    rcases hp with ⟨_, _, h9, _⟩ | ⟨E9, k, h9, hin, hMT⟩
    · cases h9
    · cases h9
      rcases List.mem_cons.mp hin with hz | hin
      · cases hz
        refine az_catch C hG [] ⟨0, 10, 13, 21⟩ [⟨0, 10, 17, 15⟩, ⟨0, 10, 21, 48⟩] rfl (fun z hz => absurd hz List.not_mem_nil) (by decide +kernel) (by decide) wk_L_21 nx_IOB (fun q => ?_)
        refine az_astore C (lv' := [(4, .ref q), (0, .ref (ρ.1 0)), (1, .int p0), (2, .int p1), (3, .ref (ρ.1 90))]) dL_voyage_13 (by decide) rfl ?_
        refine az_iconst C (v := 1) dL_voyage_15 (by decide) ?_
        exact az_iret C rfl dL_voyage_16 (Nat.le_of_eq (Nat.zero_add _)) (Nat.le_of_eq (Nat.zero_add _)) ⟨1, ρ', x', _, rfl, rfl, rfl, hρ, hg, hMT _⟩
      rcases List.mem_cons.mp hin with hz | hin
      · cases hz
        refine az_catch C hG [⟨0, 10, 13, 21⟩] ⟨0, 10, 17, 15⟩ [⟨0, 10, 21, 48⟩] rfl (List.forall_mem_cons.mpr ⟨⟨(show (21 : Nat) ≠ 0 by decide), "java/lang/IndexOutOfBoundsException", wk_L_21, az_ncs_mem (by decide +kernel)⟩, (fun z hz => absurd hz List.not_mem_nil)⟩) (by decide +kernel) (by decide) wk_L_15 nx_ISE (fun q => ?_)
        refine az_astore C (lv' := [(4, .ref q), (0, .ref (ρ.1 0)), (1, .int p0), (2, .int p1), (3, .ref (ρ.1 90))]) dL_voyage_17 (by decide) rfl ?_
        refine az_iconst C (v := 2) dL_voyage_19 (by decide) ?_
        exact az_iret C rfl dL_voyage_20 (Nat.le_of_eq (Nat.zero_add _)) (Nat.le_of_eq (Nat.zero_add _)) ⟨2, ρ', x', _, rfl, rfl, rfl, hρ, hg, hMT _⟩
      rcases List.mem_cons.mp hin with hz | hin
      · cases hz
        refine az_catch C hG [⟨0, 10, 13, 21⟩, ⟨0, 10, 17, 15⟩] ⟨0, 10, 21, 48⟩ [] rfl (List.forall_mem_cons.mpr ⟨⟨(show (21 : Nat) ≠ 0 by decide), "java/lang/IndexOutOfBoundsException", wk_L_21, az_ncs_mem (by decide +kernel)⟩, (List.forall_mem_cons.mpr ⟨⟨(show (15 : Nat) ≠ 0 by decide), "java/lang/IllegalStateException", wk_L_15, az_ncs_mem (by decide +kernel)⟩, (fun z hz => absurd hz List.not_mem_nil)⟩)⟩) (by decide +kernel) (by decide) wk_L_48 nx_UOE (fun q => ?_)
        refine az_astore C (lv' := [(4, .ref q), (0, .ref (ρ.1 0)), (1, .int p0), (2, .int p1), (3, .ref (ρ.1 90))]) dL_voyage_21 (by decide) rfl ?_
        refine az_iconst C (v := 3) dL_voyage_23 (by decide) ?_
        exact az_iret C rfl dL_voyage_24 (Nat.le_of_eq (Nat.zero_add _)) (Nat.le_of_eq (Nat.zero_add _)) ⟨3, ρ', x', _, rfl, rfl, rfl, hρ, hg, hMT _⟩
      · exact absurd hin List.not_mem_nil
set_option maxHeartbeats 4000000 in
set_option maxRecDepth 100000 in
theorem H_isPossible (hG : az_okS l G) (p0 p1 : Int32) {MT : OpR} (hX : XO l G ρ x m yX3_isPossible cX3_isPossible 4 (some FieldType.boolean) [.int p0, .int p1] [("java/lang/IndexOutOfBoundsException", 1)] cvZ MT) : HO l G ρ x m yL_isPossible cL_isPossible 5 [(0, 17, 20, 21)] [.int p0, .int p1] MT := by
  intro ou
  obtain ⟨mc, ms, d, hd, hgm, post, hM, hpost⟩ := hX ou
  refine ⟨mc, ms, hgm, ?_⟩
  refine az_startH hG.1 (by decide +kernel) (Nat.le_of_ble_eq_true rfl) ?_
  intro p e s mm args below meth c C
  show az_W l G 5 _ p e _ s mm args below meth c _ _ 0 0 0 [(0, .ref (ρ.1 0)), (1, .int p0), (2, .int p1), (3, .ref (ρ.1 90))] []
  refine az_aload_n C 3 dL_isPossible_0 rfl ?_
  refine az_iconst C (v := 0) dL_isPossible_1 (by decide) ?_
  refine az_aload_n C 0 dL_isPossible_2 rfl ?_
  refine az_iload_n C 1 dL_isPossible_3 rfl ?_
  refine az_iload_n C 2 dL_isPossible_4 rfl ?_
  refine az_callV C Y_X3_isPossible cX3 0 0 [.int p0, .int p1] [.int 0, .ref (ρ.1 90)] wm_L_97 wi_X3_isPossible wse_X3_isPossible dL_isPossible_5 rfl rfl rfl hM rfl (Nat.le_of_ble_eq_true rfl) (by show d + 1 ≤ 10; omega) (by show 19 + 4 + 40 * d ≤ 400; omega) (Nat.le_of_eq (Nat.zero_add _)) (Nat.le_of_eq (Nat.zero_add _)) (fun v ad9 K9 hp => ?_) (fun E ad9 K9 hp => ?_)
  · obtain ⟨ρ', x', rfl, rfl, hρ, hg, hp⟩ := hpost _ _ _ hp
    rcases hp with ⟨v9, w, h9, hcv, hMT⟩ | ⟨_, _, h9, _⟩
    · cases h9
      obtain ⟨u, rfl, rfl⟩ := hcv
      refine az_if_eq C 15 dL_isPossible_8 (by decide) (fun h0 => ?_) (fun h0 => ?_)
      · rw [if_pos h0] at hMT
        refine az_lconst C (v := 0) dL_isPossible_15 (by decide) ?_
        refine az_last C 3 0 (N := 1) (f := ou) dL_isPossible_16 (show ρ'.1 90 = ρ.1 90 from congrFun hρ 90) KK_3 vi_01 ?_
        refine az_to rfl KK_ou ?_
        refine az_goto C 24 dL_isPossible_17 (by decide) ?_
        refine az_iconst C (v := 0) dL_isPossible_24 (by decide) ?_
        exact az_iret C rfl dL_isPossible_25 (Nat.le_of_eq (Nat.zero_add _)) (Nat.le_of_eq (Nat.zero_add _)) ⟨0, ρ', x', _, rfl, rfl, rfl, hρ, hg, hMT _ ou_0⟩
      · rw [if_neg h0] at hMT
        refine az_lconst C (v := 1) dL_isPossible_11 (by decide) ?_
        refine az_goto C 16 dL_isPossible_12 (by decide) ?_
        refine az_last C 3 0 (N := 1) (f := ou) dL_isPossible_16 (show ρ'.1 90 = ρ.1 90 from congrFun hρ 90) KK_3 vi_01 ?_
        refine az_to rfl KK_ou ?_
        refine az_goto C 24 dL_isPossible_17 (by decide) ?_
        refine az_iconst C (v := 0) dL_isPossible_24 (by decide) ?_
        exact az_iret C rfl dL_isPossible_25 (Nat.le_of_eq (Nat.zero_add _)) (Nat.le_of_eq (Nat.zero_add _)) ⟨0, ρ', x', _, rfl, rfl, rfl, hρ, hg, hMT _ ou_0⟩
    · cases h9
  · obtain ⟨ρ', x', rfl, rfl, hρ, hg, hp⟩ := hpost _ _ _ hp
    rcases hp with ⟨_, _, h9, _⟩ | ⟨E9, k, h9, hin, hMT⟩
    · cases h9
    · cases h9
      rcases List.mem_cons.mp hin with hz | hin
      · cases hz
        refine az_catch C hG [] ⟨0, 17, 20, 21⟩ [] rfl (fun z hz => absurd hz List.not_mem_nil) (by decide +kernel) (by decide) wk_L_21 nx_IOB (fun q => ?_)
        refine az_astore C (lv' := [(4, .ref q), (0, .ref (ρ.1 0)), (1, .int p0), (2, .int p1), (3, .ref (ρ.1 90))]) dL_isPossible_20 (by decide) rfl ?_
        refine az_iconst C (v := 1) dL_isPossible_22 (by decide) ?_
        exact az_iret C rfl dL_isPossible_23 (Nat.le_of_eq (Nat.zero_add _)) (Nat.le_of_eq (Nat.zero_add _)) ⟨1, ρ', x', _, rfl, rfl, rfl, hρ, hg, hMT _⟩
      · exact absurd hin List.not_mem_nil
set_option maxHeartbeats 4000000 in
set_option maxRecDepth 100000 in
theorem H_waterFor (hG : az_okS l G) (p0 p1 : Int32) {MT : OpR} (hX : XO l G ρ x m yX3_waterFor cX3_waterFor 7 (some FieldType.int) [.int p0, .int p1] [("java/lang/IndexOutOfBoundsException", 1), ("java/lang/UnsupportedOperationException", 2)] cvI MT) : HO l G ρ x m yL_waterFor cL_waterFor 5 [(0, 10, 13, 21), (0, 10, 17, 48)] [.int p0, .int p1] MT := by
  intro ou
  obtain ⟨mc, ms, d, hd, hgm, post, hM, hpost⟩ := hX ou
  refine ⟨mc, ms, hgm, ?_⟩
  refine az_startH hG.1 (by decide +kernel) (Nat.le_of_ble_eq_true rfl) ?_
  intro p e s mm args below meth c C
  show az_W l G 5 _ p e _ s mm args below meth c _ _ 0 0 0 [(0, .ref (ρ.1 0)), (1, .int p0), (2, .int p1), (3, .ref (ρ.1 90))] []
  refine az_aload_n C 3 dL_waterFor_0 rfl ?_
  refine az_iconst C (v := 0) dL_waterFor_1 (by decide) ?_
  refine az_aload_n C 0 dL_waterFor_2 rfl ?_
  refine az_iload_n C 1 dL_waterFor_3 rfl ?_
  refine az_iload_n C 2 dL_waterFor_4 rfl ?_
  refine az_callV C Y_X3_waterFor cX3 0 0 [.int p0, .int p1] [.int 0, .ref (ρ.1 90)] wm_L_101 wi_X3_waterFor wse_X3_waterFor dL_waterFor_5 rfl rfl rfl hM rfl (Nat.le_of_ble_eq_true rfl) (by show d + 1 ≤ 10; omega) (by show 19 + 7 + 40 * d ≤ 400; omega) (Nat.le_of_eq (Nat.zero_add _)) (Nat.le_of_eq (Nat.zero_add _)) (fun v ad9 K9 hp => ?_) (fun E ad9 K9 hp => ?_)
  · obtain ⟨ρ', x', rfl, rfl, hρ, hg, hp⟩ := hpost _ _ _ hp
    rcases hp with ⟨v9, w, h9, hcv, hMT⟩ | ⟨_, _, h9, _⟩
    · cases h9
      obtain ⟨u, rfl, rfl⟩ := hcv
      refine az_i2l C dL_waterFor_8 ?_
      refine az_last C 3 0 (N := 1) (f := ou) dL_waterFor_9 (show ρ'.1 90 = ρ.1 90 from congrFun hρ 90) KK_3 vi_01 ?_
      refine az_to rfl KK_ou ?_
      refine az_goto C 21 dL_waterFor_10 (by decide) ?_
      refine az_iconst C (v := 0) dL_waterFor_21 (by decide) ?_
      exact az_iret C rfl dL_waterFor_22 (Nat.le_of_eq (Nat.zero_add _)) (Nat.le_of_eq (Nat.zero_add _)) ⟨0, ρ', x', _, rfl, rfl, rfl, hρ, hg, hMT _ ou_0⟩
    · cases h9
  · obtain ⟨ρ', x', rfl, rfl, hρ, hg, hp⟩ := hpost _ _ _ hp
    rcases hp with ⟨_, _, h9, _⟩ | ⟨E9, k, h9, hin, hMT⟩
    · cases h9
    · cases h9
      rcases List.mem_cons.mp hin with hz | hin
      · cases hz
        refine az_catch C hG [] ⟨0, 10, 13, 21⟩ [⟨0, 10, 17, 48⟩] rfl (fun z hz => absurd hz List.not_mem_nil) (by decide +kernel) (by decide) wk_L_21 nx_IOB (fun q => ?_)
        refine az_astore C (lv' := [(4, .ref q), (0, .ref (ρ.1 0)), (1, .int p0), (2, .int p1), (3, .ref (ρ.1 90))]) dL_waterFor_13 (by decide) rfl ?_
        refine az_iconst C (v := 1) dL_waterFor_15 (by decide) ?_
        exact az_iret C rfl dL_waterFor_16 (Nat.le_of_eq (Nat.zero_add _)) (Nat.le_of_eq (Nat.zero_add _)) ⟨1, ρ', x', _, rfl, rfl, rfl, hρ, hg, hMT _⟩
      rcases List.mem_cons.mp hin with hz | hin
      · cases hz
        refine az_catch C hG [⟨0, 10, 13, 21⟩] ⟨0, 10, 17, 48⟩ [] rfl (List.forall_mem_cons.mpr ⟨⟨(show (21 : Nat) ≠ 0 by decide), "java/lang/IndexOutOfBoundsException", wk_L_21, az_ncs_mem (by decide +kernel)⟩, (fun z hz => absurd hz List.not_mem_nil)⟩) (by decide +kernel) (by decide) wk_L_48 nx_UOE (fun q => ?_)
        refine az_astore C (lv' := [(4, .ref q), (0, .ref (ρ.1 0)), (1, .int p0), (2, .int p1), (3, .ref (ρ.1 90))]) dL_waterFor_17 (by decide) rfl ?_
        refine az_iconst C (v := 2) dL_waterFor_19 (by decide) ?_
        exact az_iret C rfl dL_waterFor_20 (Nat.le_of_eq (Nat.zero_add _)) (Nat.le_of_eq (Nat.zero_add _)) ⟨2, ρ', x', _, rfl, rfl, rfl, hρ, hg, hMT _⟩
      · exact absurd hin List.not_mem_nil
set_option maxHeartbeats 4000000 in
set_option maxRecDepth 100000 in
theorem H_refusalReason (hG : az_okS l G) {MT : OpR} (hX : XO l G ρ x m yX3_refusalReason cX3_refusalReason 1 (some FieldType.int) [] [("java/util/NoSuchElementException", 1)] cvI MT) : HO l G ρ x m yL_refusalReason cL_refusalReason 3 [(0, 8, 11, 85)] [] MT := by
  intro ou
  obtain ⟨mc, ms, d, hd, hgm, post, hM, hpost⟩ := hX ou
  refine ⟨mc, ms, hgm, ?_⟩
  refine az_startH hG.1 (by decide +kernel) (Nat.le_of_ble_eq_true rfl) ?_
  intro p e s mm args below meth c C
  show az_W l G 3 _ p e _ s mm args below meth c _ _ 0 0 0 [(0, .ref (ρ.1 0)), (1, .ref (ρ.1 90))] []
  refine az_aload_n C 1 dL_refusalReason_0 rfl ?_
  refine az_iconst C (v := 0) dL_refusalReason_1 (by decide) ?_
  refine az_aload_n C 0 dL_refusalReason_2 rfl ?_
  refine az_callV C Y_X3_refusalReason cX3 0 0 [] [.int 0, .ref (ρ.1 90)] wm_L_104 wi_X3_refusalReason wse_X3_refusalReason dL_refusalReason_3 rfl rfl rfl hM rfl (Nat.le_of_ble_eq_true rfl) (by show d + 1 ≤ 10; omega) (by show 19 + 1 + 40 * d ≤ 400; omega) (Nat.le_of_eq (Nat.zero_add _)) (Nat.le_of_eq (Nat.zero_add _)) (fun v ad9 K9 hp => ?_) (fun E ad9 K9 hp => ?_)
  · obtain ⟨ρ', x', rfl, rfl, hρ, hg, hp⟩ := hpost _ _ _ hp
    rcases hp with ⟨v9, w, h9, hcv, hMT⟩ | ⟨_, _, h9, _⟩
    · cases h9
      obtain ⟨u, rfl, rfl⟩ := hcv
      refine az_i2l C dL_refusalReason_6 ?_
      refine az_last C 3 0 (N := 1) (f := ou) dL_refusalReason_7 (show ρ'.1 90 = ρ.1 90 from congrFun hρ 90) KK_3 vi_01 ?_
      refine az_to rfl KK_ou ?_
      refine az_goto C 14 dL_refusalReason_8 (by decide) ?_
      refine az_iconst C (v := 0) dL_refusalReason_14 (by decide) ?_
      exact az_iret C rfl dL_refusalReason_15 (Nat.le_of_eq (Nat.zero_add _)) (Nat.le_of_eq (Nat.zero_add _)) ⟨0, ρ', x', _, rfl, rfl, rfl, hρ, hg, hMT _ ou_0⟩
    · cases h9
  · obtain ⟨ρ', x', rfl, rfl, hρ, hg, hp⟩ := hpost _ _ _ hp
    rcases hp with ⟨_, _, h9, _⟩ | ⟨E9, k, h9, hin, hMT⟩
    · cases h9
    · cases h9
      rcases List.mem_cons.mp hin with hz | hin
      · cases hz
        refine az_catch C hG [] ⟨0, 8, 11, 85⟩ [] rfl (fun z hz => absurd hz List.not_mem_nil) (by decide +kernel) (by decide) wk_L_85 nx_NSE (fun q => ?_)
        refine az_astore_n C (lv' := [(2, .ref q), (0, .ref (ρ.1 0)), (1, .ref (ρ.1 90))]) (j := 2) rfl dL_refusalReason_11 (by decide) rfl ?_
        refine az_iconst C (v := 1) dL_refusalReason_12 (by decide) ?_
        exact az_iret C rfl dL_refusalReason_13 (Nat.le_of_eq (Nat.zero_add _)) (Nat.le_of_eq (Nat.zero_add _)) ⟨1, ρ', x', _, rfl, rfl, rfl, hρ, hg, hMT _⟩
      · exact absurd hin List.not_mem_nil
set_option maxHeartbeats 4000000 in
set_option maxRecDepth 100000 in
theorem H_refusalLock (hG : az_okS l G) {MT : OpR} (hX : XO l G ρ x m yX3_refusalLock cX3_refusalLock 1 (some FieldType.int) [] [("java/util/NoSuchElementException", 1)] cvI MT) : HO l G ρ x m yL_refusalLock cL_refusalLock 3 [(0, 8, 11, 85)] [] MT := by
  intro ou
  obtain ⟨mc, ms, d, hd, hgm, post, hM, hpost⟩ := hX ou
  refine ⟨mc, ms, hgm, ?_⟩
  refine az_startH hG.1 (by decide +kernel) (Nat.le_of_ble_eq_true rfl) ?_
  intro p e s mm args below meth c C
  show az_W l G 3 _ p e _ s mm args below meth c _ _ 0 0 0 [(0, .ref (ρ.1 0)), (1, .ref (ρ.1 90))] []
  refine az_aload_n C 1 dL_refusalLock_0 rfl ?_
  refine az_iconst C (v := 0) dL_refusalLock_1 (by decide) ?_
  refine az_aload_n C 0 dL_refusalLock_2 rfl ?_
  refine az_callV C Y_X3_refusalLock cX3 0 0 [] [.int 0, .ref (ρ.1 90)] wm_L_108 wi_X3_refusalLock wse_X3_refusalLock dL_refusalLock_3 rfl rfl rfl hM rfl (Nat.le_of_ble_eq_true rfl) (by show d + 1 ≤ 10; omega) (by show 19 + 1 + 40 * d ≤ 400; omega) (Nat.le_of_eq (Nat.zero_add _)) (Nat.le_of_eq (Nat.zero_add _)) (fun v ad9 K9 hp => ?_) (fun E ad9 K9 hp => ?_)
  · obtain ⟨ρ', x', rfl, rfl, hρ, hg, hp⟩ := hpost _ _ _ hp
    rcases hp with ⟨v9, w, h9, hcv, hMT⟩ | ⟨_, _, h9, _⟩
    · cases h9
      obtain ⟨u, rfl, rfl⟩ := hcv
      refine az_i2l C dL_refusalLock_6 ?_
      refine az_last C 3 0 (N := 1) (f := ou) dL_refusalLock_7 (show ρ'.1 90 = ρ.1 90 from congrFun hρ 90) KK_3 vi_01 ?_
      refine az_to rfl KK_ou ?_
      refine az_goto C 14 dL_refusalLock_8 (by decide) ?_
      refine az_iconst C (v := 0) dL_refusalLock_14 (by decide) ?_
      exact az_iret C rfl dL_refusalLock_15 (Nat.le_of_eq (Nat.zero_add _)) (Nat.le_of_eq (Nat.zero_add _)) ⟨0, ρ', x', _, rfl, rfl, rfl, hρ, hg, hMT _ ou_0⟩
    · cases h9
  · obtain ⟨ρ', x', rfl, rfl, hρ, hg, hp⟩ := hpost _ _ _ hp
    rcases hp with ⟨_, _, h9, _⟩ | ⟨E9, k, h9, hin, hMT⟩
    · cases h9
    · cases h9
      rcases List.mem_cons.mp hin with hz | hin
      · cases hz
        refine az_catch C hG [] ⟨0, 8, 11, 85⟩ [] rfl (fun z hz => absurd hz List.not_mem_nil) (by decide +kernel) (by decide) wk_L_85 nx_NSE (fun q => ?_)
        refine az_astore_n C (lv' := [(2, .ref q), (0, .ref (ρ.1 0)), (1, .ref (ρ.1 90))]) (j := 2) rfl dL_refusalLock_11 (by decide) rfl ?_
        refine az_iconst C (v := 1) dL_refusalLock_12 (by decide) ?_
        exact az_iret C rfl dL_refusalLock_13 (Nat.le_of_eq (Nat.zero_add _)) (Nat.le_of_eq (Nat.zero_add _)) ⟨1, ρ', x', _, rfl, rfl, rfl, hρ, hg, hMT _⟩
      · exact absurd hin List.not_mem_nil
set_option maxHeartbeats 4000000 in
set_option maxRecDepth 100000 in
theorem H_priceIn (hG : az_okS l G) (p0 : Int32) {MT : OpR} (hX : XO l G ρ x m yX3_priceIn cX3_priceIn 2 (some FieldType.int) [.int p0] [("java/lang/IndexOutOfBoundsException", 1)] cvI MT) : HO l G ρ x m yL_priceIn cL_priceIn 4 [(0, 9, 12, 21)] [.int p0] MT := by
  intro ou
  obtain ⟨mc, ms, d, hd, hgm, post, hM, hpost⟩ := hX ou
  refine ⟨mc, ms, hgm, ?_⟩
  refine az_startH hG.1 (by decide +kernel) (Nat.le_of_ble_eq_true rfl) ?_
  intro p e s mm args below meth c C
  show az_W l G 4 _ p e _ s mm args below meth c _ _ 0 0 0 [(0, .ref (ρ.1 0)), (1, .int p0), (2, .ref (ρ.1 90))] []
  refine az_aload_n C 2 dL_priceIn_0 rfl ?_
  refine az_iconst C (v := 0) dL_priceIn_1 (by decide) ?_
  refine az_aload_n C 0 dL_priceIn_2 rfl ?_
  refine az_iload_n C 1 dL_priceIn_3 rfl ?_
  refine az_callV C Y_X3_priceIn cX3 0 0 [.int p0] [.int 0, .ref (ρ.1 90)] wm_L_111 wi_X3_priceIn wse_X3_priceIn dL_priceIn_4 rfl rfl rfl hM rfl (Nat.le_of_ble_eq_true rfl) (by show d + 1 ≤ 10; omega) (by show 19 + 2 + 40 * d ≤ 400; omega) (Nat.le_of_eq (Nat.zero_add _)) (Nat.le_of_eq (Nat.zero_add _)) (fun v ad9 K9 hp => ?_) (fun E ad9 K9 hp => ?_)
  · obtain ⟨ρ', x', rfl, rfl, hρ, hg, hp⟩ := hpost _ _ _ hp
    rcases hp with ⟨v9, w, h9, hcv, hMT⟩ | ⟨_, _, h9, _⟩
    · cases h9
      obtain ⟨u, rfl, rfl⟩ := hcv
      refine az_i2l C dL_priceIn_7 ?_
      refine az_last C 3 0 (N := 1) (f := ou) dL_priceIn_8 (show ρ'.1 90 = ρ.1 90 from congrFun hρ 90) KK_3 vi_01 ?_
      refine az_to rfl KK_ou ?_
      refine az_goto C 15 dL_priceIn_9 (by decide) ?_
      refine az_iconst C (v := 0) dL_priceIn_15 (by decide) ?_
      exact az_iret C rfl dL_priceIn_16 (Nat.le_of_eq (Nat.zero_add _)) (Nat.le_of_eq (Nat.zero_add _)) ⟨0, ρ', x', _, rfl, rfl, rfl, hρ, hg, hMT _ ou_0⟩
    · cases h9
  · obtain ⟨ρ', x', rfl, rfl, hρ, hg, hp⟩ := hpost _ _ _ hp
    rcases hp with ⟨_, _, h9, _⟩ | ⟨E9, k, h9, hin, hMT⟩
    · cases h9
    · cases h9
      rcases List.mem_cons.mp hin with hz | hin
      · cases hz
        refine az_catch C hG [] ⟨0, 9, 12, 21⟩ [] rfl (fun z hz => absurd hz List.not_mem_nil) (by decide +kernel) (by decide) wk_L_21 nx_IOB (fun q => ?_)
        refine az_astore_n C (lv' := [(3, .ref q), (0, .ref (ρ.1 0)), (1, .int p0), (2, .ref (ρ.1 90))]) (j := 3) rfl dL_priceIn_12 (by decide) rfl ?_
        refine az_iconst C (v := 1) dL_priceIn_13 (by decide) ?_
        exact az_iret C rfl dL_priceIn_14 (Nat.le_of_eq (Nat.zero_add _)) (Nat.le_of_eq (Nat.zero_add _)) ⟨1, ρ', x', _, rfl, rfl, rfl, hρ, hg, hMT _⟩
      · exact absurd hin List.not_mem_nil
set_option maxHeartbeats 4000000 in
set_option maxRecDepth 100000 in
theorem H_buy (hG : az_okS l G) (p0 p1 : Int32) {MT : OpR} (hX : XO l G ρ x m yX3_buy cX3_buy 6 (some FieldType.long) [.int p0, .int p1] [("java/lang/IndexOutOfBoundsException", 1), ("java/lang/IllegalArgumentException", 2), ("java/lang/UnsupportedOperationException", 3), ("java/lang/IllegalStateException", 4)] cvJ MT) : HO l G ρ x m yL_buy cL_buy 5 [(0, 9, 12, 21), (0, 9, 16, 13), (0, 9, 20, 48), (0, 9, 24, 15)] [.int p0, .int p1] MT := by
  intro ou
  obtain ⟨mc, ms, d, hd, hgm, post, hM, hpost⟩ := hX ou
  refine ⟨mc, ms, hgm, ?_⟩
  refine az_startH hG.1 (by decide +kernel) (Nat.le_of_ble_eq_true rfl) ?_
  intro p e s mm args below meth c C
  show az_W l G 5 _ p e _ s mm args below meth c _ _ 0 0 0 [(0, .ref (ρ.1 0)), (1, .int p0), (2, .int p1), (3, .ref (ρ.1 90))] []
  refine az_aload_n C 3 dL_buy_0 rfl ?_
  refine az_iconst C (v := 0) dL_buy_1 (by decide) ?_
  refine az_aload_n C 0 dL_buy_2 rfl ?_
  refine az_iload_n C 1 dL_buy_3 rfl ?_
  refine az_iload_n C 2 dL_buy_4 rfl ?_
  refine az_callV C Y_X3_buy cX3 0 0 [.int p0, .int p1] [.int 0, .ref (ρ.1 90)] wm_L_114 wi_X3_buy wse_X3_buy dL_buy_5 rfl rfl rfl hM rfl (Nat.le_of_ble_eq_true rfl) (by show d + 1 ≤ 10; omega) (by show 19 + 6 + 40 * d ≤ 400; omega) (Nat.le_of_eq (Nat.zero_add _)) (Nat.le_of_eq (Nat.zero_add _)) (fun v ad9 K9 hp => ?_) (fun E ad9 K9 hp => ?_)
  · obtain ⟨ρ', x', rfl, rfl, hρ, hg, hp⟩ := hpost _ _ _ hp
    rcases hp with ⟨v9, w, h9, hcv, hMT⟩ | ⟨_, _, h9, _⟩
    · cases h9
      cases hcv
      refine az_last C 3 0 (N := 1) (f := ou) dL_buy_8 (show ρ'.1 90 = ρ.1 90 from congrFun hρ 90) KK_3 vi_01 ?_
      refine az_to rfl KK_ou ?_
      refine az_goto C 28 dL_buy_9 (by decide) ?_
      refine az_iconst C (v := 0) dL_buy_28 (by decide) ?_
      exact az_iret C rfl dL_buy_29 (Nat.le_of_eq (Nat.zero_add _)) (Nat.le_of_eq (Nat.zero_add _)) ⟨0, ρ', x', _, rfl, rfl, rfl, hρ, hg, hMT _ ou_0⟩
    · cases h9
  · obtain ⟨ρ', x', rfl, rfl, hρ, hg, hp⟩ := hpost _ _ _ hp
    rcases hp with ⟨_, _, h9, _⟩ | ⟨E9, k, h9, hin, hMT⟩
    · cases h9
    · cases h9
      rcases List.mem_cons.mp hin with hz | hin
      · cases hz
        refine az_catch C hG [] ⟨0, 9, 12, 21⟩ [⟨0, 9, 16, 13⟩, ⟨0, 9, 20, 48⟩, ⟨0, 9, 24, 15⟩] rfl (fun z hz => absurd hz List.not_mem_nil) (by decide +kernel) (by decide) wk_L_21 nx_IOB (fun q => ?_)
        refine az_astore C (lv' := [(4, .ref q), (0, .ref (ρ.1 0)), (1, .int p0), (2, .int p1), (3, .ref (ρ.1 90))]) dL_buy_12 (by decide) rfl ?_
        refine az_iconst C (v := 1) dL_buy_14 (by decide) ?_
        exact az_iret C rfl dL_buy_15 (Nat.le_of_eq (Nat.zero_add _)) (Nat.le_of_eq (Nat.zero_add _)) ⟨1, ρ', x', _, rfl, rfl, rfl, hρ, hg, hMT _⟩
      rcases List.mem_cons.mp hin with hz | hin
      · cases hz
        refine az_catch C hG [⟨0, 9, 12, 21⟩] ⟨0, 9, 16, 13⟩ [⟨0, 9, 20, 48⟩, ⟨0, 9, 24, 15⟩] rfl (List.forall_mem_cons.mpr ⟨⟨(show (21 : Nat) ≠ 0 by decide), "java/lang/IndexOutOfBoundsException", wk_L_21, az_ncs_mem (by decide +kernel)⟩, (fun z hz => absurd hz List.not_mem_nil)⟩) (by decide +kernel) (by decide) wk_L_13 nx_IAE (fun q => ?_)
        refine az_astore C (lv' := [(4, .ref q), (0, .ref (ρ.1 0)), (1, .int p0), (2, .int p1), (3, .ref (ρ.1 90))]) dL_buy_16 (by decide) rfl ?_
        refine az_iconst C (v := 2) dL_buy_18 (by decide) ?_
        exact az_iret C rfl dL_buy_19 (Nat.le_of_eq (Nat.zero_add _)) (Nat.le_of_eq (Nat.zero_add _)) ⟨2, ρ', x', _, rfl, rfl, rfl, hρ, hg, hMT _⟩
      rcases List.mem_cons.mp hin with hz | hin
      · cases hz
        refine az_catch C hG [⟨0, 9, 12, 21⟩, ⟨0, 9, 16, 13⟩] ⟨0, 9, 20, 48⟩ [⟨0, 9, 24, 15⟩] rfl (List.forall_mem_cons.mpr ⟨⟨(show (21 : Nat) ≠ 0 by decide), "java/lang/IndexOutOfBoundsException", wk_L_21, az_ncs_mem (by decide +kernel)⟩, (List.forall_mem_cons.mpr ⟨⟨(show (13 : Nat) ≠ 0 by decide), "java/lang/IllegalArgumentException", wk_L_13, az_ncs_mem (by decide +kernel)⟩, (fun z hz => absurd hz List.not_mem_nil)⟩)⟩) (by decide +kernel) (by decide) wk_L_48 nx_UOE (fun q => ?_)
        refine az_astore C (lv' := [(4, .ref q), (0, .ref (ρ.1 0)), (1, .int p0), (2, .int p1), (3, .ref (ρ.1 90))]) dL_buy_20 (by decide) rfl ?_
        refine az_iconst C (v := 3) dL_buy_22 (by decide) ?_
        exact az_iret C rfl dL_buy_23 (Nat.le_of_eq (Nat.zero_add _)) (Nat.le_of_eq (Nat.zero_add _)) ⟨3, ρ', x', _, rfl, rfl, rfl, hρ, hg, hMT _⟩
      rcases List.mem_cons.mp hin with hz | hin
      · cases hz
        refine az_catch C hG [⟨0, 9, 12, 21⟩, ⟨0, 9, 16, 13⟩, ⟨0, 9, 20, 48⟩] ⟨0, 9, 24, 15⟩ [] rfl (List.forall_mem_cons.mpr ⟨⟨(show (21 : Nat) ≠ 0 by decide), "java/lang/IndexOutOfBoundsException", wk_L_21, az_ncs_mem (by decide +kernel)⟩, (List.forall_mem_cons.mpr ⟨⟨(show (13 : Nat) ≠ 0 by decide), "java/lang/IllegalArgumentException", wk_L_13, az_ncs_mem (by decide +kernel)⟩, (List.forall_mem_cons.mpr ⟨⟨(show (48 : Nat) ≠ 0 by decide), "java/lang/UnsupportedOperationException", wk_L_48, az_ncs_mem (by decide +kernel)⟩, (fun z hz => absurd hz List.not_mem_nil)⟩)⟩)⟩) (by decide +kernel) (by decide) wk_L_15 nx_ISE (fun q => ?_)
        refine az_astore C (lv' := [(4, .ref q), (0, .ref (ρ.1 0)), (1, .int p0), (2, .int p1), (3, .ref (ρ.1 90))]) dL_buy_24 (by decide) rfl ?_
        refine az_iconst C (v := 4) dL_buy_26 (by decide) ?_
        exact az_iret C rfl dL_buy_27 (Nat.le_of_eq (Nat.zero_add _)) (Nat.le_of_eq (Nat.zero_add _)) ⟨4, ρ', x', _, rfl, rfl, rfl, hρ, hg, hMT _⟩
      · exact absurd hin List.not_mem_nil
set_option maxHeartbeats 4000000 in
set_option maxRecDepth 100000 in
theorem H_sell (hG : az_okS l G) (p0 p1 : Int32) {MT : OpR} (hX : XO l G ρ x m yX3_sell cX3_sell 4 (some FieldType.long) [.int p0, .int p1] [("java/lang/IndexOutOfBoundsException", 1), ("java/lang/IllegalArgumentException", 2), ("java/lang/IllegalStateException", 3)] cvJ MT) : HO l G ρ x m yL_sell cL_sell 5 [(0, 9, 12, 21), (0, 9, 16, 13), (0, 9, 20, 15)] [.int p0, .int p1] MT := by
  intro ou
  obtain ⟨mc, ms, d, hd, hgm, post, hM, hpost⟩ := hX ou
  refine ⟨mc, ms, hgm, ?_⟩
  refine az_startH hG.1 (by decide +kernel) (Nat.le_of_ble_eq_true rfl) ?_
  intro p e s mm args below meth c C
  show az_W l G 5 _ p e _ s mm args below meth c _ _ 0 0 0 [(0, .ref (ρ.1 0)), (1, .int p0), (2, .int p1), (3, .ref (ρ.1 90))] []
  refine az_aload_n C 3 dL_sell_0 rfl ?_
  refine az_iconst C (v := 0) dL_sell_1 (by decide) ?_
  refine az_aload_n C 0 dL_sell_2 rfl ?_
  refine az_iload_n C 1 dL_sell_3 rfl ?_
  refine az_iload_n C 2 dL_sell_4 rfl ?_
  refine az_callV C Y_X3_sell cX3 0 0 [.int p0, .int p1] [.int 0, .ref (ρ.1 90)] wm_L_118 wi_X3_sell wse_X3_sell dL_sell_5 rfl rfl rfl hM rfl (Nat.le_of_ble_eq_true rfl) (by show d + 1 ≤ 10; omega) (by show 19 + 4 + 40 * d ≤ 400; omega) (Nat.le_of_eq (Nat.zero_add _)) (Nat.le_of_eq (Nat.zero_add _)) (fun v ad9 K9 hp => ?_) (fun E ad9 K9 hp => ?_)
  · obtain ⟨ρ', x', rfl, rfl, hρ, hg, hp⟩ := hpost _ _ _ hp
    rcases hp with ⟨v9, w, h9, hcv, hMT⟩ | ⟨_, _, h9, _⟩
    · cases h9
      cases hcv
      refine az_last C 3 0 (N := 1) (f := ou) dL_sell_8 (show ρ'.1 90 = ρ.1 90 from congrFun hρ 90) KK_3 vi_01 ?_
      refine az_to rfl KK_ou ?_
      refine az_goto C 24 dL_sell_9 (by decide) ?_
      refine az_iconst C (v := 0) dL_sell_24 (by decide) ?_
      exact az_iret C rfl dL_sell_25 (Nat.le_of_eq (Nat.zero_add _)) (Nat.le_of_eq (Nat.zero_add _)) ⟨0, ρ', x', _, rfl, rfl, rfl, hρ, hg, hMT _ ou_0⟩
    · cases h9
  · obtain ⟨ρ', x', rfl, rfl, hρ, hg, hp⟩ := hpost _ _ _ hp
    rcases hp with ⟨_, _, h9, _⟩ | ⟨E9, k, h9, hin, hMT⟩
    · cases h9
    · cases h9
      rcases List.mem_cons.mp hin with hz | hin
      · cases hz
        refine az_catch C hG [] ⟨0, 9, 12, 21⟩ [⟨0, 9, 16, 13⟩, ⟨0, 9, 20, 15⟩] rfl (fun z hz => absurd hz List.not_mem_nil) (by decide +kernel) (by decide) wk_L_21 nx_IOB (fun q => ?_)
        refine az_astore C (lv' := [(4, .ref q), (0, .ref (ρ.1 0)), (1, .int p0), (2, .int p1), (3, .ref (ρ.1 90))]) dL_sell_12 (by decide) rfl ?_
        refine az_iconst C (v := 1) dL_sell_14 (by decide) ?_
        exact az_iret C rfl dL_sell_15 (Nat.le_of_eq (Nat.zero_add _)) (Nat.le_of_eq (Nat.zero_add _)) ⟨1, ρ', x', _, rfl, rfl, rfl, hρ, hg, hMT _⟩
      rcases List.mem_cons.mp hin with hz | hin
      · cases hz
        refine az_catch C hG [⟨0, 9, 12, 21⟩] ⟨0, 9, 16, 13⟩ [⟨0, 9, 20, 15⟩] rfl (List.forall_mem_cons.mpr ⟨⟨(show (21 : Nat) ≠ 0 by decide), "java/lang/IndexOutOfBoundsException", wk_L_21, az_ncs_mem (by decide +kernel)⟩, (fun z hz => absurd hz List.not_mem_nil)⟩) (by decide +kernel) (by decide) wk_L_13 nx_IAE (fun q => ?_)
        refine az_astore C (lv' := [(4, .ref q), (0, .ref (ρ.1 0)), (1, .int p0), (2, .int p1), (3, .ref (ρ.1 90))]) dL_sell_16 (by decide) rfl ?_
        refine az_iconst C (v := 2) dL_sell_18 (by decide) ?_
        exact az_iret C rfl dL_sell_19 (Nat.le_of_eq (Nat.zero_add _)) (Nat.le_of_eq (Nat.zero_add _)) ⟨2, ρ', x', _, rfl, rfl, rfl, hρ, hg, hMT _⟩
      rcases List.mem_cons.mp hin with hz | hin
      · cases hz
        refine az_catch C hG [⟨0, 9, 12, 21⟩, ⟨0, 9, 16, 13⟩] ⟨0, 9, 20, 15⟩ [] rfl (List.forall_mem_cons.mpr ⟨⟨(show (21 : Nat) ≠ 0 by decide), "java/lang/IndexOutOfBoundsException", wk_L_21, az_ncs_mem (by decide +kernel)⟩, (List.forall_mem_cons.mpr ⟨⟨(show (13 : Nat) ≠ 0 by decide), "java/lang/IllegalArgumentException", wk_L_13, az_ncs_mem (by decide +kernel)⟩, (fun z hz => absurd hz List.not_mem_nil)⟩)⟩) (by decide +kernel) (by decide) wk_L_15 nx_ISE (fun q => ?_)
        refine az_astore C (lv' := [(4, .ref q), (0, .ref (ρ.1 0)), (1, .int p0), (2, .int p1), (3, .ref (ρ.1 90))]) dL_sell_20 (by decide) rfl ?_
        refine az_iconst C (v := 3) dL_sell_22 (by decide) ?_
        exact az_iret C rfl dL_sell_23 (Nat.le_of_eq (Nat.zero_add _)) (Nat.le_of_eq (Nat.zero_add _)) ⟨3, ρ', x', _, rfl, rfl, rfl, hρ, hg, hMT _⟩
      · exact absurd hin List.not_mem_nil
set_option maxHeartbeats 4000000 in
set_option maxRecDepth 100000 in
theorem H_sellToDraught (hG : az_okS l G) (p0 p1 : Int32) {MT : OpR} (hX : XO l G ρ x m yX3_sellToDraught cX3_sellToDraught 5 (some FieldType.int) [.int p0, .int p1] [("java/lang/IndexOutOfBoundsException", 1), ("java/lang/IllegalArgumentException", 2), ("java/lang/IllegalStateException", 3)] cvI MT) : HO l G ρ x m yL_sellToDraught cL_sellToDraught 5 [(0, 10, 13, 21), (0, 10, 17, 13), (0, 10, 21, 15)] [.int p0, .int p1] MT := by
  intro ou
  obtain ⟨mc, ms, d, hd, hgm, post, hM, hpost⟩ := hX ou
  refine ⟨mc, ms, hgm, ?_⟩
  refine az_startH hG.1 (by decide +kernel) (Nat.le_of_ble_eq_true rfl) ?_
  intro p e s mm args below meth c C
  show az_W l G 5 _ p e _ s mm args below meth c _ _ 0 0 0 [(0, .ref (ρ.1 0)), (1, .int p0), (2, .int p1), (3, .ref (ρ.1 90))] []
  refine az_aload_n C 3 dL_sellToDraught_0 rfl ?_
  refine az_iconst C (v := 0) dL_sellToDraught_1 (by decide) ?_
  refine az_aload_n C 0 dL_sellToDraught_2 rfl ?_
  refine az_iload_n C 1 dL_sellToDraught_3 rfl ?_
  refine az_iload_n C 2 dL_sellToDraught_4 rfl ?_
  refine az_callV C Y_X3_sellToDraught cX3 0 0 [.int p0, .int p1] [.int 0, .ref (ρ.1 90)] wm_L_121 wi_X3_sellToDraught wse_X3_sellToDraught dL_sellToDraught_5 rfl rfl rfl hM rfl (Nat.le_of_ble_eq_true rfl) (by show d + 1 ≤ 10; omega) (by show 19 + 5 + 40 * d ≤ 400; omega) (Nat.le_of_eq (Nat.zero_add _)) (Nat.le_of_eq (Nat.zero_add _)) (fun v ad9 K9 hp => ?_) (fun E ad9 K9 hp => ?_)
  · obtain ⟨ρ', x', rfl, rfl, hρ, hg, hp⟩ := hpost _ _ _ hp
    rcases hp with ⟨v9, w, h9, hcv, hMT⟩ | ⟨_, _, h9, _⟩
    · cases h9
      obtain ⟨u, rfl, rfl⟩ := hcv
      refine az_i2l C dL_sellToDraught_8 ?_
      refine az_last C 3 0 (N := 1) (f := ou) dL_sellToDraught_9 (show ρ'.1 90 = ρ.1 90 from congrFun hρ 90) KK_3 vi_01 ?_
      refine az_to rfl KK_ou ?_
      refine az_goto C 25 dL_sellToDraught_10 (by decide) ?_
      refine az_iconst C (v := 0) dL_sellToDraught_25 (by decide) ?_
      exact az_iret C rfl dL_sellToDraught_26 (Nat.le_of_eq (Nat.zero_add _)) (Nat.le_of_eq (Nat.zero_add _)) ⟨0, ρ', x', _, rfl, rfl, rfl, hρ, hg, hMT _ ou_0⟩
    · cases h9
  · obtain ⟨ρ', x', rfl, rfl, hρ, hg, hp⟩ := hpost _ _ _ hp
    rcases hp with ⟨_, _, h9, _⟩ | ⟨E9, k, h9, hin, hMT⟩
    · cases h9
    · cases h9
      rcases List.mem_cons.mp hin with hz | hin
      · cases hz
        refine az_catch C hG [] ⟨0, 10, 13, 21⟩ [⟨0, 10, 17, 13⟩, ⟨0, 10, 21, 15⟩] rfl (fun z hz => absurd hz List.not_mem_nil) (by decide +kernel) (by decide) wk_L_21 nx_IOB (fun q => ?_)
        refine az_astore C (lv' := [(4, .ref q), (0, .ref (ρ.1 0)), (1, .int p0), (2, .int p1), (3, .ref (ρ.1 90))]) dL_sellToDraught_13 (by decide) rfl ?_
        refine az_iconst C (v := 1) dL_sellToDraught_15 (by decide) ?_
        exact az_iret C rfl dL_sellToDraught_16 (Nat.le_of_eq (Nat.zero_add _)) (Nat.le_of_eq (Nat.zero_add _)) ⟨1, ρ', x', _, rfl, rfl, rfl, hρ, hg, hMT _⟩
      rcases List.mem_cons.mp hin with hz | hin
      · cases hz
        refine az_catch C hG [⟨0, 10, 13, 21⟩] ⟨0, 10, 17, 13⟩ [⟨0, 10, 21, 15⟩] rfl (List.forall_mem_cons.mpr ⟨⟨(show (21 : Nat) ≠ 0 by decide), "java/lang/IndexOutOfBoundsException", wk_L_21, az_ncs_mem (by decide +kernel)⟩, (fun z hz => absurd hz List.not_mem_nil)⟩) (by decide +kernel) (by decide) wk_L_13 nx_IAE (fun q => ?_)
        refine az_astore C (lv' := [(4, .ref q), (0, .ref (ρ.1 0)), (1, .int p0), (2, .int p1), (3, .ref (ρ.1 90))]) dL_sellToDraught_17 (by decide) rfl ?_
        refine az_iconst C (v := 2) dL_sellToDraught_19 (by decide) ?_
        exact az_iret C rfl dL_sellToDraught_20 (Nat.le_of_eq (Nat.zero_add _)) (Nat.le_of_eq (Nat.zero_add _)) ⟨2, ρ', x', _, rfl, rfl, rfl, hρ, hg, hMT _⟩
      rcases List.mem_cons.mp hin with hz | hin
      · cases hz
        refine az_catch C hG [⟨0, 10, 13, 21⟩, ⟨0, 10, 17, 13⟩] ⟨0, 10, 21, 15⟩ [] rfl (List.forall_mem_cons.mpr ⟨⟨(show (21 : Nat) ≠ 0 by decide), "java/lang/IndexOutOfBoundsException", wk_L_21, az_ncs_mem (by decide +kernel)⟩, (List.forall_mem_cons.mpr ⟨⟨(show (13 : Nat) ≠ 0 by decide), "java/lang/IllegalArgumentException", wk_L_13, az_ncs_mem (by decide +kernel)⟩, (fun z hz => absurd hz List.not_mem_nil)⟩)⟩) (by decide +kernel) (by decide) wk_L_15 nx_ISE (fun q => ?_)
        refine az_astore C (lv' := [(4, .ref q), (0, .ref (ρ.1 0)), (1, .int p0), (2, .int p1), (3, .ref (ρ.1 90))]) dL_sellToDraught_21 (by decide) rfl ?_
        refine az_iconst C (v := 3) dL_sellToDraught_23 (by decide) ?_
        exact az_iret C rfl dL_sellToDraught_24 (Nat.le_of_eq (Nat.zero_add _)) (Nat.le_of_eq (Nat.zero_add _)) ⟨3, ρ', x', _, rfl, rfl, rfl, hρ, hg, hMT _⟩
      · exact absurd hin List.not_mem_nil
set_option maxHeartbeats 4000000 in
set_option maxRecDepth 100000 in
theorem H_greatestLoad (hG : az_okS l G) (p0 : Int32) {MT : OpR} (hX : XO l G ρ x m yX3_greatestLoad cX3_greatestLoad 3 (some FieldType.int) [.int p0] [("java/lang/IndexOutOfBoundsException", 1)] cvI MT) : HO l G ρ x m yL_greatestLoad cL_greatestLoad 4 [(0, 9, 12, 21)] [.int p0] MT := by
  intro ou
  obtain ⟨mc, ms, d, hd, hgm, post, hM, hpost⟩ := hX ou
  refine ⟨mc, ms, hgm, ?_⟩
  refine az_startH hG.1 (by decide +kernel) (Nat.le_of_ble_eq_true rfl) ?_
  intro p e s mm args below meth c C
  show az_W l G 4 _ p e _ s mm args below meth c _ _ 0 0 0 [(0, .ref (ρ.1 0)), (1, .int p0), (2, .ref (ρ.1 90))] []
  refine az_aload_n C 2 dL_greatestLoad_0 rfl ?_
  refine az_iconst C (v := 0) dL_greatestLoad_1 (by decide) ?_
  refine az_aload_n C 0 dL_greatestLoad_2 rfl ?_
  refine az_iload_n C 1 dL_greatestLoad_3 rfl ?_
  refine az_callV C Y_X3_greatestLoad cX3 0 0 [.int p0] [.int 0, .ref (ρ.1 90)] wm_L_124 wi_X3_greatestLoad wse_X3_greatestLoad dL_greatestLoad_4 rfl rfl rfl hM rfl (Nat.le_of_ble_eq_true rfl) (by show d + 1 ≤ 10; omega) (by show 19 + 3 + 40 * d ≤ 400; omega) (Nat.le_of_eq (Nat.zero_add _)) (Nat.le_of_eq (Nat.zero_add _)) (fun v ad9 K9 hp => ?_) (fun E ad9 K9 hp => ?_)
  · obtain ⟨ρ', x', rfl, rfl, hρ, hg, hp⟩ := hpost _ _ _ hp
    rcases hp with ⟨v9, w, h9, hcv, hMT⟩ | ⟨_, _, h9, _⟩
    · cases h9
      obtain ⟨u, rfl, rfl⟩ := hcv
      refine az_i2l C dL_greatestLoad_7 ?_
      refine az_last C 3 0 (N := 1) (f := ou) dL_greatestLoad_8 (show ρ'.1 90 = ρ.1 90 from congrFun hρ 90) KK_3 vi_01 ?_
      refine az_to rfl KK_ou ?_
      refine az_goto C 15 dL_greatestLoad_9 (by decide) ?_
      refine az_iconst C (v := 0) dL_greatestLoad_15 (by decide) ?_
      exact az_iret C rfl dL_greatestLoad_16 (Nat.le_of_eq (Nat.zero_add _)) (Nat.le_of_eq (Nat.zero_add _)) ⟨0, ρ', x', _, rfl, rfl, rfl, hρ, hg, hMT _ ou_0⟩
    · cases h9
  · obtain ⟨ρ', x', rfl, rfl, hρ, hg, hp⟩ := hpost _ _ _ hp
    rcases hp with ⟨_, _, h9, _⟩ | ⟨E9, k, h9, hin, hMT⟩
    · cases h9
    · cases h9
      rcases List.mem_cons.mp hin with hz | hin
      · cases hz
        refine az_catch C hG [] ⟨0, 9, 12, 21⟩ [] rfl (fun z hz => absurd hz List.not_mem_nil) (by decide +kernel) (by decide) wk_L_21 nx_IOB (fun q => ?_)
        refine az_astore_n C (lv' := [(3, .ref q), (0, .ref (ρ.1 0)), (1, .int p0), (2, .ref (ρ.1 90))]) (j := 3) rfl dL_greatestLoad_12 (by decide) rfl ?_
        refine az_iconst C (v := 1) dL_greatestLoad_13 (by decide) ?_
        exact az_iret C rfl dL_greatestLoad_14 (Nat.le_of_eq (Nat.zero_add _)) (Nat.le_of_eq (Nat.zero_add _)) ⟨1, ρ', x', _, rfl, rfl, rfl, hρ, hg, hMT _⟩
      · exact absurd hin List.not_mem_nil
set_option maxHeartbeats 4000000 in
set_option maxRecDepth 100000 in
theorem H_worthIn (hG : az_okS l G) (p0 p1 : Int32) {MT : OpR} (hX : XO l G ρ x m yX3_worthIn cX3_worthIn 4 (some FieldType.int) [.int p0, .int p1] [("java/lang/IndexOutOfBoundsException", 1)] cvI MT) : HO l G ρ x m yL_worthIn cL_worthIn 5 [(0, 10, 13, 21)] [.int p0, .int p1] MT := by
  intro ou
  obtain ⟨mc, ms, d, hd, hgm, post, hM, hpost⟩ := hX ou
  refine ⟨mc, ms, hgm, ?_⟩
  refine az_startH hG.1 (by decide +kernel) (Nat.le_of_ble_eq_true rfl) ?_
  intro p e s mm args below meth c C
  show az_W l G 5 _ p e _ s mm args below meth c _ _ 0 0 0 [(0, .ref (ρ.1 0)), (1, .int p0), (2, .int p1), (3, .ref (ρ.1 90))] []
  refine az_aload_n C 3 dL_worthIn_0 rfl ?_
  refine az_iconst C (v := 0) dL_worthIn_1 (by decide) ?_
  refine az_aload_n C 0 dL_worthIn_2 rfl ?_
  refine az_iload_n C 1 dL_worthIn_3 rfl ?_
  refine az_iload_n C 2 dL_worthIn_4 rfl ?_
  refine az_callV C Y_X3_worthIn cX3 0 0 [.int p0, .int p1] [.int 0, .ref (ρ.1 90)] wm_L_127 wi_X3_worthIn wse_X3_worthIn dL_worthIn_5 rfl rfl rfl hM rfl (Nat.le_of_ble_eq_true rfl) (by show d + 1 ≤ 10; omega) (by show 19 + 4 + 40 * d ≤ 400; omega) (Nat.le_of_eq (Nat.zero_add _)) (Nat.le_of_eq (Nat.zero_add _)) (fun v ad9 K9 hp => ?_) (fun E ad9 K9 hp => ?_)
  · obtain ⟨ρ', x', rfl, rfl, hρ, hg, hp⟩ := hpost _ _ _ hp
    rcases hp with ⟨v9, w, h9, hcv, hMT⟩ | ⟨_, _, h9, _⟩
    · cases h9
      obtain ⟨u, rfl, rfl⟩ := hcv
      refine az_i2l C dL_worthIn_8 ?_
      refine az_last C 3 0 (N := 1) (f := ou) dL_worthIn_9 (show ρ'.1 90 = ρ.1 90 from congrFun hρ 90) KK_3 vi_01 ?_
      refine az_to rfl KK_ou ?_
      refine az_goto C 17 dL_worthIn_10 (by decide) ?_
      refine az_iconst C (v := 0) dL_worthIn_17 (by decide) ?_
      exact az_iret C rfl dL_worthIn_18 (Nat.le_of_eq (Nat.zero_add _)) (Nat.le_of_eq (Nat.zero_add _)) ⟨0, ρ', x', _, rfl, rfl, rfl, hρ, hg, hMT _ ou_0⟩
    · cases h9
  · obtain ⟨ρ', x', rfl, rfl, hρ, hg, hp⟩ := hpost _ _ _ hp
    rcases hp with ⟨_, _, h9, _⟩ | ⟨E9, k, h9, hin, hMT⟩
    · cases h9
    · cases h9
      rcases List.mem_cons.mp hin with hz | hin
      · cases hz
        refine az_catch C hG [] ⟨0, 10, 13, 21⟩ [] rfl (fun z hz => absurd hz List.not_mem_nil) (by decide +kernel) (by decide) wk_L_21 nx_IOB (fun q => ?_)
        refine az_astore C (lv' := [(4, .ref q), (0, .ref (ρ.1 0)), (1, .int p0), (2, .int p1), (3, .ref (ρ.1 90))]) dL_worthIn_13 (by decide) rfl ?_
        refine az_iconst C (v := 1) dL_worthIn_15 (by decide) ?_
        exact az_iret C rfl dL_worthIn_16 (Nat.le_of_eq (Nat.zero_add _)) (Nat.le_of_eq (Nat.zero_add _)) ⟨1, ρ', x', _, rfl, rfl, rfl, hρ, hg, hMT _⟩
      · exact absurd hin List.not_mem_nil
set_option maxHeartbeats 4000000 in
set_option maxRecDepth 100000 in
theorem H_bestReach (hG : az_okS l G) (p0 : Int32) {MT : OpR} (hX : XO l G ρ x m yX3_bestReach cX3_bestReach 8 (some FieldType.int) [.int p0] [("java/lang/IndexOutOfBoundsException", 1)] cvI MT) : HO l G ρ x m yL_bestReach cL_bestReach 4 [(0, 9, 12, 21)] [.int p0] MT := by
  intro ou
  obtain ⟨mc, ms, d, hd, hgm, post, hM, hpost⟩ := hX ou
  refine ⟨mc, ms, hgm, ?_⟩
  refine az_startH hG.1 (by decide +kernel) (Nat.le_of_ble_eq_true rfl) ?_
  intro p e s mm args below meth c C
  show az_W l G 4 _ p e _ s mm args below meth c _ _ 0 0 0 [(0, .ref (ρ.1 0)), (1, .int p0), (2, .ref (ρ.1 90))] []
  refine az_aload_n C 2 dL_bestReach_0 rfl ?_
  refine az_iconst C (v := 0) dL_bestReach_1 (by decide) ?_
  refine az_aload_n C 0 dL_bestReach_2 rfl ?_
  refine az_iload_n C 1 dL_bestReach_3 rfl ?_
  refine az_callV C Y_X3_bestReach cX3 0 0 [.int p0] [.int 0, .ref (ρ.1 90)] wm_L_130 wi_X3_bestReach wse_X3_bestReach dL_bestReach_4 rfl rfl rfl hM rfl (Nat.le_of_ble_eq_true rfl) (by show d + 1 ≤ 10; omega) (by show 19 + 8 + 40 * d ≤ 400; omega) (Nat.le_of_eq (Nat.zero_add _)) (Nat.le_of_eq (Nat.zero_add _)) (fun v ad9 K9 hp => ?_) (fun E ad9 K9 hp => ?_)
  · obtain ⟨ρ', x', rfl, rfl, hρ, hg, hp⟩ := hpost _ _ _ hp
    rcases hp with ⟨v9, w, h9, hcv, hMT⟩ | ⟨_, _, h9, _⟩
    · cases h9
      obtain ⟨u, rfl, rfl⟩ := hcv
      refine az_i2l C dL_bestReach_7 ?_
      refine az_last C 3 0 (N := 1) (f := ou) dL_bestReach_8 (show ρ'.1 90 = ρ.1 90 from congrFun hρ 90) KK_3 vi_01 ?_
      refine az_to rfl KK_ou ?_
      refine az_goto C 15 dL_bestReach_9 (by decide) ?_
      refine az_iconst C (v := 0) dL_bestReach_15 (by decide) ?_
      exact az_iret C rfl dL_bestReach_16 (Nat.le_of_eq (Nat.zero_add _)) (Nat.le_of_eq (Nat.zero_add _)) ⟨0, ρ', x', _, rfl, rfl, rfl, hρ, hg, hMT _ ou_0⟩
    · cases h9
  · obtain ⟨ρ', x', rfl, rfl, hρ, hg, hp⟩ := hpost _ _ _ hp
    rcases hp with ⟨_, _, h9, _⟩ | ⟨E9, k, h9, hin, hMT⟩
    · cases h9
    · cases h9
      rcases List.mem_cons.mp hin with hz | hin
      · cases hz
        refine az_catch C hG [] ⟨0, 9, 12, 21⟩ [] rfl (fun z hz => absurd hz List.not_mem_nil) (by decide +kernel) (by decide) wk_L_21 nx_IOB (fun q => ?_)
        refine az_astore_n C (lv' := [(3, .ref q), (0, .ref (ρ.1 0)), (1, .int p0), (2, .ref (ρ.1 90))]) (j := 3) rfl dL_bestReach_12 (by decide) rfl ?_
        refine az_iconst C (v := 1) dL_bestReach_13 (by decide) ?_
        exact az_iret C rfl dL_bestReach_14 (Nat.le_of_eq (Nat.zero_add _)) (Nat.le_of_eq (Nat.zero_add _)) ⟨1, ρ', x', _, rfl, rfl, rfl, hρ, hg, hMT _⟩
      · exact absurd hin List.not_mem_nil
set_option maxHeartbeats 4000000 in
set_option maxRecDepth 100000 in
theorem H_movementFrom (hG : az_okS l G) (p0 : Int32) {MT : OpR} (hX : XO l G ρ x m yX3_movementFrom cX3_movementFrom 2 (some FieldType.int) [.int p0] [("java/lang/IndexOutOfBoundsException", 1)] cvI MT) : HO l G ρ x m yL_movementFrom cL_movementFrom 4 [(0, 9, 12, 21)] [.int p0] MT := by
  intro ou
  obtain ⟨mc, ms, d, hd, hgm, post, hM, hpost⟩ := hX ou
  refine ⟨mc, ms, hgm, ?_⟩
  refine az_startH hG.1 (by decide +kernel) (Nat.le_of_ble_eq_true rfl) ?_
  intro p e s mm args below meth c C
  show az_W l G 4 _ p e _ s mm args below meth c _ _ 0 0 0 [(0, .ref (ρ.1 0)), (1, .int p0), (2, .ref (ρ.1 90))] []
  refine az_aload_n C 2 dL_movementFrom_0 rfl ?_
  refine az_iconst C (v := 0) dL_movementFrom_1 (by decide) ?_
  refine az_aload_n C 0 dL_movementFrom_2 rfl ?_
  refine az_iload_n C 1 dL_movementFrom_3 rfl ?_
  refine az_callV C Y_X3_movementFrom cX3 0 0 [.int p0] [.int 0, .ref (ρ.1 90)] wm_L_133 wi_X3_movementFrom wse_X3_movementFrom dL_movementFrom_4 rfl rfl rfl hM rfl (Nat.le_of_ble_eq_true rfl) (by show d + 1 ≤ 10; omega) (by show 19 + 2 + 40 * d ≤ 400; omega) (Nat.le_of_eq (Nat.zero_add _)) (Nat.le_of_eq (Nat.zero_add _)) (fun v ad9 K9 hp => ?_) (fun E ad9 K9 hp => ?_)
  · obtain ⟨ρ', x', rfl, rfl, hρ, hg, hp⟩ := hpost _ _ _ hp
    rcases hp with ⟨v9, w, h9, hcv, hMT⟩ | ⟨_, _, h9, _⟩
    · cases h9
      obtain ⟨u, rfl, rfl⟩ := hcv
      refine az_i2l C dL_movementFrom_7 ?_
      refine az_last C 3 0 (N := 1) (f := ou) dL_movementFrom_8 (show ρ'.1 90 = ρ.1 90 from congrFun hρ 90) KK_3 vi_01 ?_
      refine az_to rfl KK_ou ?_
      refine az_goto C 15 dL_movementFrom_9 (by decide) ?_
      refine az_iconst C (v := 0) dL_movementFrom_15 (by decide) ?_
      exact az_iret C rfl dL_movementFrom_16 (Nat.le_of_eq (Nat.zero_add _)) (Nat.le_of_eq (Nat.zero_add _)) ⟨0, ρ', x', _, rfl, rfl, rfl, hρ, hg, hMT _ ou_0⟩
    · cases h9
  · obtain ⟨ρ', x', rfl, rfl, hρ, hg, hp⟩ := hpost _ _ _ hp
    rcases hp with ⟨_, _, h9, _⟩ | ⟨E9, k, h9, hin, hMT⟩
    · cases h9
    · cases h9
      rcases List.mem_cons.mp hin with hz | hin
      · cases hz
        refine az_catch C hG [] ⟨0, 9, 12, 21⟩ [] rfl (fun z hz => absurd hz List.not_mem_nil) (by decide +kernel) (by decide) wk_L_21 nx_IOB (fun q => ?_)
        refine az_astore_n C (lv' := [(3, .ref q), (0, .ref (ρ.1 0)), (1, .int p0), (2, .ref (ρ.1 90))]) (j := 3) rfl dL_movementFrom_12 (by decide) rfl ?_
        refine az_iconst C (v := 1) dL_movementFrom_13 (by decide) ?_
        exact az_iret C rfl dL_movementFrom_14 (Nat.le_of_eq (Nat.zero_add _)) (Nat.le_of_eq (Nat.zero_add _)) ⟨1, ρ', x', _, rfl, rfl, rfl, hρ, hg, hMT _⟩
      · exact absurd hin List.not_mem_nil
set_option maxHeartbeats 4000000 in
set_option maxRecDepth 100000 in
theorem H_movementTo (hG : az_okS l G) (p0 : Int32) {MT : OpR} (hX : XO l G ρ x m yX3_movementTo cX3_movementTo 2 (some FieldType.int) [.int p0] [("java/lang/IndexOutOfBoundsException", 1)] cvI MT) : HO l G ρ x m yL_movementTo cL_movementTo 4 [(0, 9, 12, 21)] [.int p0] MT := by
  intro ou
  obtain ⟨mc, ms, d, hd, hgm, post, hM, hpost⟩ := hX ou
  refine ⟨mc, ms, hgm, ?_⟩
  refine az_startH hG.1 (by decide +kernel) (Nat.le_of_ble_eq_true rfl) ?_
  intro p e s mm args below meth c C
  show az_W l G 4 _ p e _ s mm args below meth c _ _ 0 0 0 [(0, .ref (ρ.1 0)), (1, .int p0), (2, .ref (ρ.1 90))] []
  refine az_aload_n C 2 dL_movementTo_0 rfl ?_
  refine az_iconst C (v := 0) dL_movementTo_1 (by decide) ?_
  refine az_aload_n C 0 dL_movementTo_2 rfl ?_
  refine az_iload_n C 1 dL_movementTo_3 rfl ?_
  refine az_callV C Y_X3_movementTo cX3 0 0 [.int p0] [.int 0, .ref (ρ.1 90)] wm_L_136 wi_X3_movementTo wse_X3_movementTo dL_movementTo_4 rfl rfl rfl hM rfl (Nat.le_of_ble_eq_true rfl) (by show d + 1 ≤ 10; omega) (by show 19 + 2 + 40 * d ≤ 400; omega) (Nat.le_of_eq (Nat.zero_add _)) (Nat.le_of_eq (Nat.zero_add _)) (fun v ad9 K9 hp => ?_) (fun E ad9 K9 hp => ?_)
  · obtain ⟨ρ', x', rfl, rfl, hρ, hg, hp⟩ := hpost _ _ _ hp
    rcases hp with ⟨v9, w, h9, hcv, hMT⟩ | ⟨_, _, h9, _⟩
    · cases h9
      obtain ⟨u, rfl, rfl⟩ := hcv
      refine az_i2l C dL_movementTo_7 ?_
      refine az_last C 3 0 (N := 1) (f := ou) dL_movementTo_8 (show ρ'.1 90 = ρ.1 90 from congrFun hρ 90) KK_3 vi_01 ?_
      refine az_to rfl KK_ou ?_
      refine az_goto C 15 dL_movementTo_9 (by decide) ?_
      refine az_iconst C (v := 0) dL_movementTo_15 (by decide) ?_
      exact az_iret C rfl dL_movementTo_16 (Nat.le_of_eq (Nat.zero_add _)) (Nat.le_of_eq (Nat.zero_add _)) ⟨0, ρ', x', _, rfl, rfl, rfl, hρ, hg, hMT _ ou_0⟩
    · cases h9
  · obtain ⟨ρ', x', rfl, rfl, hρ, hg, hp⟩ := hpost _ _ _ hp
    rcases hp with ⟨_, _, h9, _⟩ | ⟨E9, k, h9, hin, hMT⟩
    · cases h9
    · cases h9
      rcases List.mem_cons.mp hin with hz | hin
      · cases hz
        refine az_catch C hG [] ⟨0, 9, 12, 21⟩ [] rfl (fun z hz => absurd hz List.not_mem_nil) (by decide +kernel) (by decide) wk_L_21 nx_IOB (fun q => ?_)
        refine az_astore_n C (lv' := [(3, .ref q), (0, .ref (ρ.1 0)), (1, .int p0), (2, .ref (ρ.1 90))]) (j := 3) rfl dL_movementTo_12 (by decide) rfl ?_
        refine az_iconst C (v := 1) dL_movementTo_13 (by decide) ?_
        exact az_iret C rfl dL_movementTo_14 (Nat.le_of_eq (Nat.zero_add _)) (Nat.le_of_eq (Nat.zero_add _)) ⟨1, ρ', x', _, rfl, rfl, rfl, hρ, hg, hMT _⟩
      · exact absurd hin List.not_mem_nil
set_option maxHeartbeats 4000000 in
set_option maxRecDepth 100000 in
theorem H_movementVolume (hG : az_okS l G) (p0 : Int32) {MT : OpR} (hX : XO l G ρ x m yX3_movementVolume cX3_movementVolume 2 (some FieldType.int) [.int p0] [("java/lang/IndexOutOfBoundsException", 1)] cvI MT) : HO l G ρ x m yL_movementVolume cL_movementVolume 4 [(0, 9, 12, 21)] [.int p0] MT := by
  intro ou
  obtain ⟨mc, ms, d, hd, hgm, post, hM, hpost⟩ := hX ou
  refine ⟨mc, ms, hgm, ?_⟩
  refine az_startH hG.1 (by decide +kernel) (Nat.le_of_ble_eq_true rfl) ?_
  intro p e s mm args below meth c C
  show az_W l G 4 _ p e _ s mm args below meth c _ _ 0 0 0 [(0, .ref (ρ.1 0)), (1, .int p0), (2, .ref (ρ.1 90))] []
  refine az_aload_n C 2 dL_movementVolume_0 rfl ?_
  refine az_iconst C (v := 0) dL_movementVolume_1 (by decide) ?_
  refine az_aload_n C 0 dL_movementVolume_2 rfl ?_
  refine az_iload_n C 1 dL_movementVolume_3 rfl ?_
  refine az_callV C Y_X3_movementVolume cX3 0 0 [.int p0] [.int 0, .ref (ρ.1 90)] wm_L_139 wi_X3_movementVolume wse_X3_movementVolume dL_movementVolume_4 rfl rfl rfl hM rfl (Nat.le_of_ble_eq_true rfl) (by show d + 1 ≤ 10; omega) (by show 19 + 2 + 40 * d ≤ 400; omega) (Nat.le_of_eq (Nat.zero_add _)) (Nat.le_of_eq (Nat.zero_add _)) (fun v ad9 K9 hp => ?_) (fun E ad9 K9 hp => ?_)
  · obtain ⟨ρ', x', rfl, rfl, hρ, hg, hp⟩ := hpost _ _ _ hp
    rcases hp with ⟨v9, w, h9, hcv, hMT⟩ | ⟨_, _, h9, _⟩
    · cases h9
      obtain ⟨u, rfl, rfl⟩ := hcv
      refine az_i2l C dL_movementVolume_7 ?_
      refine az_last C 3 0 (N := 1) (f := ou) dL_movementVolume_8 (show ρ'.1 90 = ρ.1 90 from congrFun hρ 90) KK_3 vi_01 ?_
      refine az_to rfl KK_ou ?_
      refine az_goto C 15 dL_movementVolume_9 (by decide) ?_
      refine az_iconst C (v := 0) dL_movementVolume_15 (by decide) ?_
      exact az_iret C rfl dL_movementVolume_16 (Nat.le_of_eq (Nat.zero_add _)) (Nat.le_of_eq (Nat.zero_add _)) ⟨0, ρ', x', _, rfl, rfl, rfl, hρ, hg, hMT _ ou_0⟩
    · cases h9
  · obtain ⟨ρ', x', rfl, rfl, hρ, hg, hp⟩ := hpost _ _ _ hp
    rcases hp with ⟨_, _, h9, _⟩ | ⟨E9, k, h9, hin, hMT⟩
    · cases h9
    · cases h9
      rcases List.mem_cons.mp hin with hz | hin
      · cases hz
        refine az_catch C hG [] ⟨0, 9, 12, 21⟩ [] rfl (fun z hz => absurd hz List.not_mem_nil) (by decide +kernel) (by decide) wk_L_21 nx_IOB (fun q => ?_)
        refine az_astore_n C (lv' := [(3, .ref q), (0, .ref (ρ.1 0)), (1, .int p0), (2, .ref (ρ.1 90))]) (j := 3) rfl dL_movementVolume_12 (by decide) rfl ?_
        refine az_iconst C (v := 1) dL_movementVolume_13 (by decide) ?_
        exact az_iret C rfl dL_movementVolume_14 (Nat.le_of_eq (Nat.zero_add _)) (Nat.le_of_eq (Nat.zero_add _)) ⟨1, ρ', x', _, rfl, rfl, rfl, hρ, hg, hMT _⟩
      · exact absurd hin List.not_mem_nil
set_option maxHeartbeats 4000000 in
set_option maxRecDepth 100000 in
theorem H_writeReach (hG : az_okS l G) (p0 : Int32) {MT : OpR} (hX : XO l G ρ x m yX3_writeReach cX3_writeReach 6 (some FieldType.int) [.int p0] [("java/lang/IndexOutOfBoundsException", 1)] cvI MT) : HO l G ρ x m yL_writeReach cL_writeReach 4 [(0, 9, 12, 21)] [.int p0] MT := by
  intro ou
  obtain ⟨mc, ms, d, hd, hgm, post, hM, hpost⟩ := hX ou
  refine ⟨mc, ms, hgm, ?_⟩
  refine az_startH hG.1 (by decide +kernel) (Nat.le_of_ble_eq_true rfl) ?_
  intro p e s mm args below meth c C
  show az_W l G 4 _ p e _ s mm args below meth c _ _ 0 0 0 [(0, .ref (ρ.1 0)), (1, .int p0), (2, .ref (ρ.1 90))] []
  refine az_aload_n C 2 dL_writeReach_0 rfl ?_
  refine az_iconst C (v := 0) dL_writeReach_1 (by decide) ?_
  refine az_aload_n C 0 dL_writeReach_2 rfl ?_
  refine az_iload_n C 1 dL_writeReach_3 rfl ?_
  refine az_callV C Y_X3_writeReach cX3 0 0 [.int p0] [.int 0, .ref (ρ.1 90)] wm_L_142 wi_X3_writeReach wse_X3_writeReach dL_writeReach_4 rfl rfl rfl hM rfl (Nat.le_of_ble_eq_true rfl) (by show d + 1 ≤ 10; omega) (by show 19 + 6 + 40 * d ≤ 400; omega) (Nat.le_of_eq (Nat.zero_add _)) (Nat.le_of_eq (Nat.zero_add _)) (fun v ad9 K9 hp => ?_) (fun E ad9 K9 hp => ?_)
  · obtain ⟨ρ', x', rfl, rfl, hρ, hg, hp⟩ := hpost _ _ _ hp
    rcases hp with ⟨v9, w, h9, hcv, hMT⟩ | ⟨_, _, h9, _⟩
    · cases h9
      obtain ⟨u, rfl, rfl⟩ := hcv
      refine az_i2l C dL_writeReach_7 ?_
      refine az_last C 3 0 (N := 1) (f := ou) dL_writeReach_8 (show ρ'.1 90 = ρ.1 90 from congrFun hρ 90) KK_3 vi_01 ?_
      refine az_to rfl KK_ou ?_
      refine az_goto C 15 dL_writeReach_9 (by decide) ?_
      refine az_iconst C (v := 0) dL_writeReach_15 (by decide) ?_
      exact az_iret C rfl dL_writeReach_16 (Nat.le_of_eq (Nat.zero_add _)) (Nat.le_of_eq (Nat.zero_add _)) ⟨0, ρ', x', _, rfl, rfl, rfl, hρ, hg, hMT _ ou_0⟩
    · cases h9
  · obtain ⟨ρ', x', rfl, rfl, hρ, hg, hp⟩ := hpost _ _ _ hp
    rcases hp with ⟨_, _, h9, _⟩ | ⟨E9, k, h9, hin, hMT⟩
    · cases h9
    · cases h9
      rcases List.mem_cons.mp hin with hz | hin
      · cases hz
        refine az_catch C hG [] ⟨0, 9, 12, 21⟩ [] rfl (fun z hz => absurd hz List.not_mem_nil) (by decide +kernel) (by decide) wk_L_21 nx_IOB (fun q => ?_)
        refine az_astore_n C (lv' := [(3, .ref q), (0, .ref (ρ.1 0)), (1, .int p0), (2, .ref (ρ.1 90))]) (j := 3) rfl dL_writeReach_12 (by decide) rfl ?_
        refine az_iconst C (v := 1) dL_writeReach_13 (by decide) ?_
        exact az_iret C rfl dL_writeReach_14 (Nat.le_of_eq (Nat.zero_add _)) (Nat.le_of_eq (Nat.zero_add _)) ⟨1, ρ', x', _, rfl, rfl, rfl, hρ, hg, hMT _⟩
      · exact absurd hin List.not_mem_nil
set_option maxHeartbeats 4000000 in
set_option maxRecDepth 100000 in
theorem H_lineAt (hG : az_okS l G) (p0 : Int32) {MT : OpR} (hX : XO l G ρ x m yX3_lineAt cX3_lineAt 2 (some FieldType.char) [.int p0] [("java/lang/IndexOutOfBoundsException", 1)] cvI MT) : HO l G ρ x m yL_lineAt cL_lineAt 4 [(0, 9, 12, 21)] [.int p0] MT := by
  intro ou
  obtain ⟨mc, ms, d, hd, hgm, post, hM, hpost⟩ := hX ou
  refine ⟨mc, ms, hgm, ?_⟩
  refine az_startH hG.1 (by decide +kernel) (Nat.le_of_ble_eq_true rfl) ?_
  intro p e s mm args below meth c C
  show az_W l G 4 _ p e _ s mm args below meth c _ _ 0 0 0 [(0, .ref (ρ.1 0)), (1, .int p0), (2, .ref (ρ.1 90))] []
  refine az_aload_n C 2 dL_lineAt_0 rfl ?_
  refine az_iconst C (v := 0) dL_lineAt_1 (by decide) ?_
  refine az_aload_n C 0 dL_lineAt_2 rfl ?_
  refine az_iload_n C 1 dL_lineAt_3 rfl ?_
  refine az_callV C Y_X3_lineAt cX3 0 0 [.int p0] [.int 0, .ref (ρ.1 90)] wm_L_145 wi_X3_lineAt wse_X3_lineAt dL_lineAt_4 rfl rfl rfl hM rfl (Nat.le_of_ble_eq_true rfl) (by show d + 1 ≤ 10; omega) (by show 19 + 2 + 40 * d ≤ 400; omega) (Nat.le_of_eq (Nat.zero_add _)) (Nat.le_of_eq (Nat.zero_add _)) (fun v ad9 K9 hp => ?_) (fun E ad9 K9 hp => ?_)
  · obtain ⟨ρ', x', rfl, rfl, hρ, hg, hp⟩ := hpost _ _ _ hp
    rcases hp with ⟨v9, w, h9, hcv, hMT⟩ | ⟨_, _, h9, _⟩
    · cases h9
      obtain ⟨u, rfl, rfl⟩ := hcv
      refine az_i2l C dL_lineAt_7 ?_
      refine az_last C 3 0 (N := 1) (f := ou) dL_lineAt_8 (show ρ'.1 90 = ρ.1 90 from congrFun hρ 90) KK_3 vi_01 ?_
      refine az_to rfl KK_ou ?_
      refine az_goto C 15 dL_lineAt_9 (by decide) ?_
      refine az_iconst C (v := 0) dL_lineAt_15 (by decide) ?_
      exact az_iret C rfl dL_lineAt_16 (Nat.le_of_eq (Nat.zero_add _)) (Nat.le_of_eq (Nat.zero_add _)) ⟨0, ρ', x', _, rfl, rfl, rfl, hρ, hg, hMT _ ou_0⟩
    · cases h9
  · obtain ⟨ρ', x', rfl, rfl, hρ, hg, hp⟩ := hpost _ _ _ hp
    rcases hp with ⟨_, _, h9, _⟩ | ⟨E9, k, h9, hin, hMT⟩
    · cases h9
    · cases h9
      rcases List.mem_cons.mp hin with hz | hin
      · cases hz
        refine az_catch C hG [] ⟨0, 9, 12, 21⟩ [] rfl (fun z hz => absurd hz List.not_mem_nil) (by decide +kernel) (by decide) wk_L_21 nx_IOB (fun q => ?_)
        refine az_astore_n C (lv' := [(3, .ref q), (0, .ref (ρ.1 0)), (1, .int p0), (2, .ref (ρ.1 90))]) (j := 3) rfl dL_lineAt_12 (by decide) rfl ?_
        refine az_iconst C (v := 1) dL_lineAt_13 (by decide) ?_
        exact az_iret C rfl dL_lineAt_14 (Nat.le_of_eq (Nat.zero_add _)) (Nat.le_of_eq (Nat.zero_add _)) ⟨1, ρ', x', _, rfl, rfl, rfl, hρ, hg, hMT _⟩
      · exact absurd hin List.not_mem_nil
end
