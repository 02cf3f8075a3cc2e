section
variable {l : Launch} {G : az_G} {ρ : Rp} {x x' : Xs} {m m' : Ms} {ou : Nat → Int64}
theorem lo_hi {r dst : Nat} (h1 : r < 6) (h2 : dst < 6) : (if nI dst < nI r then nI dst else nI r) = nI (min r dst) ∧ (if nI r < nI dst then nI dst else nI r) = nI (max r dst) := by
  rcases Nat.lt_trichotomy r dst with z | z | z
  · rw [if_neg (fun q => nlt_nle z (by omega) (Int32.le_of_lt q)), if_pos (Int32.not_le.mp (nlt_nle z (by omega))), show min r dst = r by omega, show max r dst = dst by omega]
    exact ⟨rfl, rfl⟩
  · subst z
    rw [if_neg (Int32.lt_irrefl (a := nI r)), Nat.min_self, Nat.max_self]
    exact ⟨rfl, rfl⟩
  · rw [if_neg (fun q => nlt_nle z (by omega) (Int32.le_of_lt q)), if_pos (Int32.not_le.mp (nlt_nle z (by omega))), show min r dst = dst by omega, show max r dst = r by omega]
    exact ⟨rfl, rfl⟩
theorem one_ne : ¬ (1 : Int32) = 0 := by decide
theorem ends_0 {v : Int32} : (endsM m v).1 0 0 = v := by
  unfold endsM
  exact mI_s
theorem O_voyage (hG : az_okS l G) {c : Nat} (hc : c < 512) (h : Nx c ρ x m) (p0 p1 : Int32) : XO l G ρ x m yX3_voyage cX3_voyage 4 (some FieldType.int) [.int p0, .int p1] [("java/lang/IndexOutOfBoundsException", 1), ("java/lang/IllegalStateException", 2), ("java/lang/UnsupportedOperationException", 3)] cvI (MO l G yX4_voyage cX4_voyage 3 (some FieldType.int) [.int p0, .int p1] cvI (c + 1) m) := by
  obtain ⟨n, nr, nb, N, cs, h⟩ := h
  have h6 := h.n6
  have h1 := h.n1
  have hb8 := h.b8
  rcases oo_or nb (by omega) p0 with hv | ⟨k, hk, rfl⟩
  · exact xo_x (k := 1) (fun ou => Xvoyage_0 hG nb p0 p1 h.xb h.eb h.b8 hv) (by decide) h.cap List.mem_cons_self (fun ou' => mo_r (k := 1) (w := (0 : Int64)) (Mvoyage0 hG nb p0 p1 h.mb h.b8 hv) (by decide) ⟨0, rfl, rfl⟩ mI_s (fun z => absurd z (by decide)) (h.n0))
  · obtain ⟨rl, f, t, r, a1, aS, aP, ef, ek, hr, h4, hnd, hcs, hq, hat, hs⟩ := h.voy hk
    rcases oo_or nr (by omega) p1 with hv | ⟨dst, hd, rfl⟩
    · exact xo_x (k := 1) (fun ou => Xvoyage_00 hG nb k h.xb h.eb h.b8 hk rl f t a1 nr p1 h.xr h.n6 hv) (by decide) h.cap List.mem_cons_self (fun ou' => mo_r (k := 1) (w := (0 : Int64)) (Mvoyage00 hG nb k h.mb h.b8 hk nr p1 h.mr h.n6 hv) (by decide) ⟨0, rfl, rfl⟩ mI_s (fun z => absurd z (by decide)) (h.n0))
    · by_cases he : r = dst
      · exact xo_x (k := 2) (fun ou => Xvoyage_1 hG nb k h.xb h.eb h.b8 hk nr f r dst t rl a1 hr hd ef aP he) (by decide) h.cap (List.mem_cons_of_mem _ List.mem_cons_self) (fun ou' => mo_r (k := 2) (w := (0 : Int64)) (Mvoyage1 hG nr r k rl f t dst hd aS (h.mok hc (b_7 h4 h6)) nb h.mb h.b8 hk he) (by decide) ⟨0, rfl, rfl⟩ mI_s (fun z => absurd z (by decide)) (h.n0))
      · have C1 := h.c1 hc (n' := (tvX (saveX x) n nr f t r dst).1.2) (by have := (tvS_le (x := x) (n := n) (f := f) (t := t) h6 hr hd).2; have := b_6 h4 h6; omega)
        rcases tvX_01 (x := saveX x) (n := n) (nr := nr) (f := f) (r := r) (dst := dst) (t := t) with hz | hz
        · obtain ⟨e, hN⟩ := voy_ref h hc hq hr hd he h4 (by rw [hz]; decide)
          exact xo_gx (k := 3) (fun ou => Xvoyage_3 hG nb k h.xb h.eb h.b8 hk nr f r dst t rl a1 hr hd ef aP he n (h.mv hc (b_6 h4 h6)) hz) (by decide) h.cap C1.1 C1.2 (List.mem_cons_of_mem _ (List.mem_cons_of_mem _ List.mem_cons_self)) (fun a ou' => mo_r (k := 3) (w := (0 : Int64)) (Mvoyage3 hG nr r k rl f t dst hd aS (h.mok hc (b_7 h4 h6)) nb h.mb h.b8 hk he e) (by decide) ⟨0, rfl, rfl⟩ ends_0 (fun z => absurd z (by decide)) (hN a))
        · obtain ⟨e, hp, hN⟩ := voy_done h hc hq hr hd he h4 hs hnd hcs hat hz
          obtain ⟨q1, q2⟩ := lo_hi (r := r) (dst := dst) (by omega) (by omega)
          refine xo_g (fun ou => Xvoyage_2 hG nb k h.xb h.eb h.b8 hk nr f r dst t rl a1 hr hd ef aP he n (h.mv hc (b_6 h4 h6)) (by rw [hz]; exact one_ne) (min r dst) (max r dst) q1 q2 (by omega) (by omega)) (by decide) h.cap C1.1 C1.2 ⟨_, rfl, rfl⟩ (fun a ou' hw => mo_r (Mvoyage2 hG nr r k rl f t dst hd aS (h.mok hc (b_7 h4 h6)) nb h.mb h.b8 hk he hp) (by decide) ⟨_, rfl, rfl⟩ mI_s (fun _ => hw.trans ?_) (hN a))
          rw [e, car_V h hq hr hd hz rfl rfl]
theorem O_isPossible (hG : az_okS l G) {c : Nat} (hc : c < 512) (h : Nx c ρ x m) (p0 p1 : Int32) : XO l G ρ x m yX3_isPossible cX3_isPossible 4 (some FieldType.boolean) [.int p0, .int p1] [("java/lang/IndexOutOfBoundsException", 1)] cvZ (MO l G yX4_isPossible cX4_isPossible 4 (some FieldType.boolean) [.int p0, .int p1] cvZ (c + 1) m) := by
  obtain ⟨n, nr, nb, N, cs, h⟩ := h
  have h6 := h.n6
  have h1 := h.n1
  have hb8 := h.b8
  rcases oo_or nb (by omega) p0 with hv | ⟨k, hk, rfl⟩
  · exact xo_x (k := 1) (fun ou => XisPossible_0 hG nb p0 p1 h.xb h.eb h.b8 hv) (by decide) h.cap List.mem_cons_self (fun ou' => mo_r (k := 1) (w := (0 : Int64)) (MisPossible0 hG nb p0 p1 h.mb h.b8 hv) (by decide) ⟨0, rfl, rfl⟩ mI_s (fun z => absurd z (by decide)) (h.n0))
  · obtain ⟨rl, f, t, r, a1, aS, aP, ef, ek, hr, h4, hnd, hcs, hq, hat, hs⟩ := h.voy hk
    rcases oo_or nr (by omega) p1 with hv | ⟨dst, hd, rfl⟩
    · exact xo_x (k := 1) (fun ou => XisPossible_00 hG nb k h.xb h.eb h.b8 hk rl f t a1 nr p1 h.xr h.n6 hv) (by decide) h.cap List.mem_cons_self (fun ou' => mo_r (k := 1) (w := (0 : Int64)) (MisPossible00 hG nb k h.mb h.b8 hk nr p1 h.mr h.n6 hv) (by decide) ⟨0, rfl, rfl⟩ mI_s (fun z => absurd z (by decide)) (h.n0))
    · have C1 := h.c1 hc (n' := (tvX (saveX x) n nr f t r dst).1.2) (by have := (tvS_le (x := x) (n := n) (f := f) (t := t) h6 hr hd).2; have := b_6 h4 h6; omega)
      have hn2 := h.2.1
      obtain ⟨TT, ec⟩ := Tie_tried (r := r) (dst := dst) h.1 hr hd (by omega) hq (by omega)
      by_cases he : r = dst
      · have eR : canR m nr f t r dst = (m, 1) := if_pos he
        rw [eR] at TT ec
        refine xo_g (fun ou => XisPossible_1 hG nb k h.xb h.eb h.b8 hk nr f r dst t rl a1 hr hd ef aP n (h.mv hc (b_6 h4 h6))) (by decide) h.cap C1.1 C1.2 ⟨_, rfl, rfl⟩ (fun a ou' hw => mo_r (MisPossible1 hG nr r k rl f t dst hd aS (h.mok hc (b_7 h4 h6)) nb h.mb h.b8 hk he) (by decide) ⟨_, rfl, rfl⟩ mI_s (fun _ => hw.trans ?_) (voy_try h hc hr hd h4 TT a))
        rw [← ec]
      · have eR : canR m nr f t r dst = (canS m nr f t r dst, canV m nr f t r dst) := if_neg he
        rw [eR] at TT ec
        refine xo_g (fun ou => XisPossible_1 hG nb k h.xb h.eb h.b8 hk nr f r dst t rl a1 hr hd ef aP n (h.mv hc (b_6 h4 h6))) (by decide) h.cap C1.1 C1.2 ⟨_, rfl, rfl⟩ (fun a ou' hw => mo_r (MisPossible2 hG nr r k rl f t dst hd aS (h.mok hc (b_7 h4 h6)) nb h.mb h.b8 hk he) (by decide) ⟨_, rfl, rfl⟩ mI_s (fun _ => hw.trans ?_) (voy_try h hc hr hd h4 TT a))
        rw [← ec]
        exact ii_zz.symm
theorem O_waterFor (hG : az_okS l G) {c : Nat} (hc : c < 512) (h : Nx c ρ x m) (p0 p1 : Int32) : XO l G ρ x m yX3_waterFor cX3_waterFor 7 (some FieldType.int) [.int p0, .int p1] [("java/lang/IndexOutOfBoundsException", 1), ("java/lang/UnsupportedOperationException", 2)] cvI (MO l G yX4_waterFor cX4_waterFor 7 (some FieldType.int) [.int p0, .int p1] cvI (c + 1) m) := by
  obtain ⟨n, nr, nb, N, cs, h⟩ := h
  have h6 := h.n6
  have h1 := h.n1
  have hb8 := h.b8
  rcases oo_or nb (by omega) p0 with hv | ⟨k, hk, rfl⟩
  · exact xo_x (k := 1) (fun ou => XwaterFor_0 hG nb p0 p1 h.xb h.eb h.b8 hv) (by decide) h.cap List.mem_cons_self (fun ou' => mo_r (k := 1) (w := (0 : Int64)) (MwaterFor0 hG nb p0 p1 h.mb h.b8 hv) (by decide) ⟨0, rfl, rfl⟩ mI_s (fun z => absurd z (by decide)) (h.n0))
  · obtain ⟨rl, f, t, r, a1, aS, aP, ef, ek, hr, h4, hnd, hcs, hq, hat, hs⟩ := h.voy hk
    rcases oo_or nr (by omega) p1 with hv | ⟨dst, hd, rfl⟩
    · exact xo_x (k := 1) (fun ou => XwaterFor_00 hG nb k h.xb h.eb h.b8 hk rl f t a1 nr p1 h.xr h.n6 hv) (by decide) h.cap List.mem_cons_self (fun ou' => mo_r (k := 1) (w := (0 : Int64)) (MwaterFor00 hG nb k h.mb h.b8 hk nr p1 h.mr h.n6 hv) (by decide) ⟨0, rfl, rfl⟩ mI_s (fun z => absurd z (by decide)) (h.n0))
    · have C1 := h.c1 hc (n' := (tvX (saveX x) n nr f t r dst).1.2) (by have := (tvS_le (x := x) (n := n) (f := f) (t := t) h6 hr hd).2; have := b_6 h4 h6; omega)
      have hn2 := h.2.1
      obtain ⟨eA, TT⟩ := voy_all h hc hq hr hd h4
      by_cases he : r = dst
      · have hz : ¬ (tvX (saveX x) n nr f t r dst).2 = 0 := by
          subst he
          rw [tv_rr]
          exact one_ne
        refine xo_g (fun ou => XwaterFor_1 hG nb k h.xb h.eb h.b8 hk nr f r dst t rl a1 hr hd ef aP n (h.mv hc (b_6 h4 h6)) hz) (by decide) h.cap C1.1 C1.2 ⟨_, rfl, rfl⟩ (fun a ou' hw => mo_r (MwaterFor1 hG nr r k rl f t dst hd aS (h.mok hc (b_7 h4 h6)) nb h.mb h.b8 hk he) (by decide) ⟨_, rfl, rfl⟩ mI_s (fun _ => hw.trans ?_) (voy_try h hc hr hd h4 TT a))
        rw [eA]
      · rcases tvX_01 (x := saveX x) (n := n) (nr := nr) (f := f) (r := r) (dst := dst) (t := t) with hz | hz
        · obtain ⟨e, -⟩ := voy_ref h hc hq hr hd he h4 (by rw [hz]; decide)
          exact xo_gx (k := 2) (fun ou => XwaterFor_2 hG nb k h.xb h.eb h.b8 hk nr f r dst t rl a1 hr hd ef aP n (h.mv hc (b_6 h4 h6)) hz) (by decide) h.cap C1.1 C1.2 (List.mem_cons_of_mem _ List.mem_cons_self) (fun a ou' => mo_r (k := 2) (w := (0 : Int64)) (MwaterFor3 hG nr r k rl f t dst hd aS (h.mok hc (b_7 h4 h6)) nb h.mb h.b8 hk he (by rw [e]; decide)) (by decide) ⟨0, rfl, rfl⟩ mI_s (fun z => absurd z (by decide)) (voy_try h hc hr hd h4 TT a))
        · obtain ⟨e, hp, -⟩ := voy_done h hc hq hr hd he h4 hs hnd hcs hat hz
          refine xo_g (fun ou => XwaterFor_1 hG nb k h.xb h.eb h.b8 hk nr f r dst t rl a1 hr hd ef aP n (h.mv hc (b_6 h4 h6)) (by rw [hz]; exact one_ne)) (by decide) h.cap C1.1 C1.2 ⟨_, rfl, rfl⟩ (fun a ou' hw => mo_r (MwaterFor2 hG nr r k rl f t dst hd aS (h.mok hc (b_7 h4 h6)) nb h.mb h.b8 hk he (Int32.not_le.mpr hp)) (by decide) ⟨_, rfl, rfl⟩ mI_s (fun _ => hw.trans ?_) (voy_try h hc hr hd h4 TT a))
          rw [eA]
theorem O_pass (hG : az_okS l G) {c : Nat} (hc : c < 512) (h : Nx c ρ x m) (p0 p1 : Int32) (hb : p1 = 0 ∨ p1 = 1) : XO l G ρ x m yX3_pass cX3_pass 5 (some FieldType.int) [.int p0, .int p1] [("java/lang/IndexOutOfBoundsException", 1), ("java/util/NoSuchElementException", 2), ("java/lang/UnsupportedOperationException", 3)] cvI (MO l G yX4_pass cX4_pass 3 (some FieldType.int) [.int p0, .int p1] cvI (c + 1) m) := by
  obtain ⟨n, nr, nb, N, cs, h⟩ := h
  have h6 := h.n6
  have h1 := h.n1
  have hb8 := h.b8
  rcases oo_or nb (by omega) p0 with hv | ⟨k, hk, rfl⟩
  · exact xo_x (k := 1) (fun ou => Xpass_0 hG nb p0 p1 h.xb h.eb h.b8 hv) (by decide) h.cap List.mem_cons_self (fun ou' => mo_r (k := 1) (w := (0 : Int64)) (Mpass0 hG nb p0 p1 h.mb h.b8 hv) (by decide) ⟨0, rfl, rfl⟩ mI_s (fun z => absurd z (by decide)) (h.n0))
  · obtain ⟨rl, f, t, r, a1, aS, aP, ef, ek, hr, h4, hnd, hcs, hq, hat, hs⟩ := h.voy hk
    rcases hb with rfl | rfl
    · by_cases he : r = 0
      · exact xo_x (k := 2) (fun ou => Xpass0_1 hG nb k h.xb h.eb h.b8 hk nr f r t rl a1 hr ef aP he) (by decide) h.cap (List.mem_cons_of_mem _ List.mem_cons_self) (fun ou' => mo_r (k := 2) (w := (0 : Int64)) (Mpass0_1 hG nr r k rl f t aS (h.mok hc (b_8 h4 h6)) nb h.mb h.b8 hk he) (by decide) ⟨0, rfl, rfl⟩ mI_s (fun z => absurd z (by decide)) (h.n0))
      · have hd : r - 1 < nr := by omega
        have hne : ¬ r = r - 1 := by omega
        have eS := sail_0p (nr := nr) (f := f) (t := t) (m := keepsM m) (r := r) (by omega)
        have C1 := h.c1 hc (n' := (tvX (saveX x) n nr f t r (r - 1)).1.2) (by have := (tvS_le (x := x) (n := n) (f := f) (t := t) h6 hr hd).2; have := b_6 h4 h6; omega)
        rcases tvX_01 (x := saveX x) (n := n) (nr := nr) (f := f) (r := r) (dst := r - 1) (t := t) with hz | hz
        · obtain ⟨e, hN⟩ := voy_ref h hc hq hr hd hne h4 (by rw [hz]; decide)
          rw [eS] at e hN
          exact xo_gx (k := 3) (fun ou => Xpass0_3 hG nb k h.xb h.eb h.b8 hk nr f r t rl a1 hr ef aP (by omega) hd n (h.mv hc (b_6 h4 h6)) hz) (by decide) h.cap C1.1 C1.2 (List.mem_cons_of_mem _ (List.mem_cons_of_mem _ List.mem_cons_self)) (fun a ou' => mo_r (k := 3) (w := (0 : Int64)) (Mpass0_3 hG nr r k rl f t aS (h.mok hc (b_8 h4 h6)) nb h.mb h.b8 hk he e) (by decide) ⟨0, rfl, rfl⟩ ends_0 (fun z => absurd z (by decide)) (hN a))
        · obtain ⟨e, hp, hN⟩ := voy_done h hc hq hr hd hne h4 hs hnd hcs hat hz
          obtain ⟨q1, q2⟩ := lo_hi (r := r) (dst := r - 1) (by omega) (by omega)
          rw [eS] at e hp hN
          refine xo_g (fun ou => Xpass0_2 hG nb k h.xb h.eb h.b8 hk nr f r t rl a1 hr ef aP (by omega) hd n (h.mv hc (b_6 h4 h6)) (by rw [hz]; exact one_ne) (min r (r - 1)) (max r (r - 1)) q1 q2 (by omega) (by omega)) (by decide) h.cap C1.1 C1.2 ⟨_, rfl, rfl⟩ (fun a ou' hw => mo_r (Mpass0_2 hG nr r k rl f t aS (h.mok hc (b_8 h4 h6)) nb h.mb h.b8 hk he hp) (by decide) ⟨_, rfl, rfl⟩ mI_s (fun _ => hw.trans ?_) (hN a))
          rw [e, car_V h hq hr hd hz rfl rfl]
    · by_cases he : r + 1 = nr
      · exact xo_x (k := 2) (fun ou => Xpass1_1 hG nb k h.xb h.eb h.b8 hk nr f r t rl a1 hr ef aP he) (by decide) h.cap (List.mem_cons_of_mem _ List.mem_cons_self) (fun ou' => mo_r (k := 2) (w := (0 : Int64)) (Mpass1_1 hG nr r k rl f t aS (h.mok hc (b_8 h4 h6)) nb h.mb h.b8 hk he) (by decide) ⟨0, rfl, rfl⟩ mI_s (fun z => absurd z (by decide)) (h.n0))
      · have hd : r + 1 < nr := by omega
        have hne : ¬ r = r + 1 := by omega
        have eS := sail_1p (nr := nr) (f := f) (t := t) (m := keepsM m) (r := r)
        have C1 := h.c1 hc (n' := (tvX (saveX x) n nr f t r (r + 1)).1.2) (by have := (tvS_le (x := x) (n := n) (f := f) (t := t) h6 hr hd).2; have := b_6 h4 h6; omega)
        rcases tvX_01 (x := saveX x) (n := n) (nr := nr) (f := f) (r := r) (dst := r + 1) (t := t) with hz | hz
        · obtain ⟨e, hN⟩ := voy_ref h hc hq hr hd hne h4 (by rw [hz]; decide)
          rw [eS] at e hN
          exact xo_gx (k := 3) (fun ou => Xpass1_3 hG nb k h.xb h.eb h.b8 hk nr f r t rl a1 hr ef aP hd n (h.mv hc (b_6 h4 h6)) hz) (by decide) h.cap C1.1 C1.2 (List.mem_cons_of_mem _ (List.mem_cons_of_mem _ List.mem_cons_self)) (fun a ou' => mo_r (k := 3) (w := (0 : Int64)) (Mpass1_3 hG nr r k rl f t aS (h.mok hc (b_8 h4 h6)) nb h.mb h.b8 hk he e) (by decide) ⟨0, rfl, rfl⟩ ends_0 (fun z => absurd z (by decide)) (hN a))
        · obtain ⟨e, hp, hN⟩ := voy_done h hc hq hr hd hne h4 hs hnd hcs hat hz
          obtain ⟨q1, q2⟩ := lo_hi (r := r) (dst := r + 1) (by omega) (by omega)
          rw [eS] at e hp hN
          refine xo_g (fun ou => Xpass1_2 hG nb k h.xb h.eb h.b8 hk nr f r t rl a1 hr ef aP hd n (h.mv hc (b_6 h4 h6)) (by rw [hz]; exact one_ne) (min r (r + 1)) (max r (r + 1)) q1 q2 (by omega) (by omega)) (by decide) h.cap C1.1 C1.2 ⟨_, rfl, rfl⟩ (fun a ou' hw => mo_r (Mpass1_2 hG nr r k rl f t aS (h.mok hc (b_8 h4 h6)) nb h.mb h.b8 hk he hp) (by decide) ⟨_, rfl, rfl⟩ mI_s (fun _ => hw.trans ?_) (hN a))
          rw [e, car_V h hq hr hd hz rfl rfl]
end
