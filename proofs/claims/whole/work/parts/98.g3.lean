section
variable {l : Launch} {G : az_G} {ρ : Rp} {x : Xs} {m : Ms} {ou : Nat → Int64}
theorem NX.tie {c n nr nb N : Nat} {cs cs' : List (List Nat)} {x' : Xs} {m' : Ms} (h : NX c ρ x m n nr nb N cs) (T' : Tie x' n m' nr nb N cs') (hx : x'.1 = x.1) : NX c ρ x' m' n nr nb N cs' := by
  obtain ⟨-, a2, ⟨a3, a4, a5, a6⟩, a7, a8⟩ := h
  refine ⟨T', a2, ⟨a3, a4, a5, ?_⟩, ?_, a8⟩
  · unfold RowZ at a6 ⊢
    rw [hx]
    exact a6
  · unfold TxOK at a7 ⊢
    rw [hx]
    exact a7
theorem NX.t0 {c n nr nb N : Nat} {cs cs' : List (List Nat)} {x' : Xs} {m' : Ms} (h : NX c ρ x m n nr nb N cs) (T' : Tie x' n m' nr nb N cs') (hx : x'.1 = x.1) {v : Int32} : Nx (c + 1) ρ x' (mI m' 0 0 v) := (h.tie T' hx).n0
theorem flX_01 {k r : Nat} {u : Int32} : floatX x k r u = 0 ∨ floatX x k r u = 1 := by
  unfold floatX
  split
  · exact Or.inl rfl
  · exact Or.inr rfl
theorem O_buy (hG : az_okS l G) {c : Nat} (hc : c < 512) (h : Nx c ρ x m) (p0 p1 : Int32) : XO l G ρ x m yX3_buy cX3_buy 6 (some FieldType.long) [.int p0, .int p1] [("java/lang/IndexOutOfBoundsException", 1), ("java/lang/IllegalArgumentException", 2), ("java/lang/UnsupportedOperationException", 3), ("java/lang/IllegalStateException", 4)] cvJ (MO l G yX4_buy cX4_buy 6 (some FieldType.long) [.int p0, .int p1] cvJ (c + 1) m) := by
  obtain ⟨n, nr, nb, N, cs, h⟩ := h
  have h6 := h.n6
  have h1 := h.n1
  have hb8 := h.b8
  rcases oo_or nb (by omega) p0 with hv | ⟨k, hk, rfl⟩
  · exact xo_x (k := 1) (fun ou => Xbuy0 hG nb p0 p1 h.xb h.eb h.b8 hv) (by decide) h.cap List.mem_cons_self (fun ou' => mo_r (k := 1) (w := (0 : Int64)) (Mbuy0 hG nb p0 p1 h.mb h.b8 hv) (by decide) rfl mI_s (fun z => absurd z (by decide)) (h.n0))
  · obtain ⟨r, hr, e1, e2⟩ := h.pl hk
    by_cases hu : inI p1 1 999 = 0
    · exact xo_x (k := 2) (fun ou => Xbuy1 hG nb k h.xb h.eb h.b8 hk p1 hu) (by decide) h.cap (List.mem_cons_of_mem _ List.mem_cons_self) (fun ou' => mo_r (k := 2) (w := (0 : Int64)) (Mbuy1 hG nb k h.mb h.b8 hk p1 hu) (by decide) rfl mI_s (fun z => absurd z (by decide)) (h.n0))
    · have hu2 := inI_n hu
      have hu3 : 1 ≤ p1.toInt ∧ p1.toInt ≤ 999 := ⟨i_le.mp hu2.1, i_le.mp hu2.2⟩
      have ef := float_eq (u := p1) h.1.1 h.1.2.2.1 hk (show r < 6 by omega)
      have ep := (h.1.2.1 r hr).1
      have ec : costX x r p1 = costM m r p1 := by unfold costX costM; rw [ep]
      have em : x.2.2.2 = m.2 := h.1.2.2.2.2.2.1.2.2.2.1
      rcases flX_01 (x := x) (k := k) (r := r) (u := p1) with z | z
      · exact xo_x (k := 3) (fun ou => Xbuy2 hG nb k h.xb h.eb h.b8 hk p1 hu r (by omega) e1 (h.xa hr) (h.xt hk) z) (by decide) h.cap (List.mem_cons_of_mem _ (List.mem_cons_of_mem _ List.mem_cons_self)) (fun ou' => mo_r (k := 3) (w := (0 : Int64)) (Mbuy2 hG nb k h.mb h.b8 hk p1 hu2 r (by omega) (h.mt hk) e2 (h.ma hr) (ef.symm.trans z)) (by decide) rfl mI_s (fun z => absurd z (by decide)) (h.t0 (Tie_buyB h.1 hk) rfl))
      · by_cases hp : lg_cmp (costX x r p1) x.2.2.2 ≤ 0
        · have hq : lg_cmp (costM m r p1) m.2 ≤ 0 := by rw [← ec, ← em]; exact hp
          refine xo_r (fun ou => Xbuy4 hG nb k h.xb h.eb h.b8 hk p1 hu r (by omega) e1 (h.xa hr) (h.xt hk) z hp) (by decide) h.cap rfl (fun ou' hw => mo_r (Mbuy4 hG nb k h.mb h.b8 hk p1 hu2 r (by omega) (h.mt hk) e2 (h.ma hr) (ef.symm.trans z) hq) (by decide) rfl mI_s (fun _ => hw.trans ?_) (h.t0 (Tie_buyT h.1 hk hr hu3 z) rfl))
          show x.2.2.2 - costX x r p1 = m.2 - costM m r p1
          rw [ec, em]
        · have hq : ¬ lg_cmp (costM m r p1) m.2 ≤ 0 := by rw [← ec, ← em]; exact hp
          exact xo_x (k := 4) (fun ou => Xbuy3 hG nb k h.xb h.eb h.b8 hk p1 hu r (by omega) e1 (h.xa hr) (h.xt hk) z hp) (by decide) h.cap (List.mem_cons_of_mem _ (List.mem_cons_of_mem _ (List.mem_cons_of_mem _ List.mem_cons_self))) (fun ou' => mo_r (k := 4) (w := (0 : Int64)) (Mbuy3 hG nb k h.mb h.b8 hk p1 hu2 r (by omega) (h.mt hk) e2 (h.ma hr) (ef.symm.trans z) hq) (by decide) rfl mI_s (fun z => absurd z (by decide)) (h.t0 (Tie_buyB h.1 hk) rfl))
theorem O_sell (hG : az_okS l G) {c : Nat} (hc : c < 512) (h : Nx c ρ x m) (p0 p1 : Int32) : XO l G ρ x m yX3_sell cX3_sell 4 (some FieldType.long) [.int p0, .int p1] [("java/lang/IndexOutOfBoundsException", 1), ("java/lang/IllegalArgumentException", 2), ("java/lang/IllegalStateException", 3)] cvJ (MO l G yX4_sell cX4_sell 3 (some FieldType.long) [.int p0, .int p1] cvJ (c + 1) m) := by
  obtain ⟨n, nr, nb, N, cs, h⟩ := h
  have h6 := h.n6
  have h1 := h.n1
  have hb8 := h.b8
  rcases oo_or nb (by omega) p0 with hv | ⟨k, hk, rfl⟩
  · exact xo_x (k := 1) (fun ou => Xsell0 hG nb p0 p1 h.xb h.eb h.b8 hv) (by decide) h.cap List.mem_cons_self (fun ou' => mo_r (k := 1) (w := (0 : Int64)) (Msell0 hG nb p0 p1 h.mb h.b8 hv) (by decide) rfl mI_s (fun z => absurd z (by decide)) (h.n0))
  · obtain ⟨r, hr, e1, e2⟩ := h.pl hk
    by_cases hu : inI p1 1 999 = 0
    · exact xo_x (k := 2) (fun ou => Xsell1 hG nb k h.xb h.eb h.b8 hk p1 hu) (by decide) h.cap (List.mem_cons_of_mem _ List.mem_cons_self) (fun ou' => mo_r (k := 2) (w := (0 : Int64)) (Msell1 hG nb k h.mb h.b8 hk p1 hu) (by decide) rfl mI_s (fun z => absurd z (by decide)) (h.n0))
    · have hu2 := inI_n hu
      have ec : x.2.1 k 5 = m.1 17 k := (h.1.2.2.1.2 k hk).2.2.2.1
      have ep := (h.1.2.1 r hr).1
      have em : x.2.2.2 = m.2 := h.1.2.2.2.2.2.1.2.2.2.1
      by_cases hq : p1 ≤ m.1 17 k
      · refine xo_r (fun ou => Xsell3 hG nb k h.xb h.eb h.b8 hk p1 hu r (by omega) e1 (by rw [ec]; exact hq)) (by decide) h.cap rfl (fun ou' hw => mo_r (Msell3 hG nb k h.mb h.b8 hk p1 hu2 hq r (by omega) e2) (by decide) rfl mI_s (fun _ => hw.trans ?_) (h.t0 (Tie_sellT h.1 hk hr (i_le.mp hu2.1) hq) rfl))
        show x.2.2.2 + p1.toInt64 * (x.1 11 r).toInt64 = m.2 + p1.toInt64 * (m.1 6 r).toInt64
        rw [ep, em]
      · exact xo_x (k := 3) (fun ou => Xsell2 hG nb k h.xb h.eb h.b8 hk p1 hu (by rw [ec]; exact Int32.not_le.mp hq)) (by decide) h.cap (List.mem_cons_of_mem _ (List.mem_cons_of_mem _ List.mem_cons_self)) (fun ou' => mo_r (k := 3) (w := (0 : Int64)) (Msell2 hG nb k h.mb h.b8 hk p1 hu2 (Int32.not_le.mp hq)) (by decide) rfl mI_s (fun z => absurd z (by decide)) (h.n0))
theorem O_sellToDraught (hG : az_okS l G) {c : Nat} (hc : c < 512) (h : Nx c ρ x m) (p0 p1 : Int32) : XO l G ρ x m yX3_sellToDraught cX3_sellToDraught 5 (some FieldType.int) [.int p0, .int p1] [("java/lang/IndexOutOfBoundsException", 1), ("java/lang/IllegalArgumentException", 2), ("java/lang/IllegalStateException", 3)] cvI (MO l G yX4_sellToDraught cX4_sellToDraught 4 (some FieldType.int) [.int p0, .int p1] cvI (c + 1) m) := by
  obtain ⟨n, nr, nb, N, cs, h⟩ := h
  have h6 := h.n6
  have h1 := h.n1
  have hb8 := h.b8
  rcases oo_or nb (by omega) p0 with hv | ⟨k, hk, rfl⟩
  · exact xo_x (k := 1) (fun ou => XsellTo0 hG nb p0 p1 h.xb h.eb h.b8 hv) (by decide) h.cap List.mem_cons_self (fun ou' => mo_r (k := 1) (w := (0 : Int64)) (MsellTo0 hG nb p0 p1 h.mb h.b8 hv) (by decide) ⟨0, rfl, rfl⟩ mI_s (fun z => absurd z (by decide)) (h.n0))
  · obtain ⟨r, hr, e1, e2⟩ := h.pl hk
    by_cases hu : inI p1 1 60 = 0
    · exact xo_x (k := 2) (fun ou => XsellTo1 hG nb k h.xb h.eb h.b8 hk p1 hu) (by decide) h.cap (List.mem_cons_of_mem _ List.mem_cons_self) (fun ou' => mo_r (k := 2) (w := (0 : Int64)) (MsellTo1 hG nb k h.mb h.b8 hk p1 hu) (by decide) ⟨0, rfl, rfl⟩ mI_s (fun z => absurd z (by decide)) (h.n0))
    · have hu2 := inI_n hu
      have ec : x.2.1 k 2 = m.1 15 k := (h.1.2.2.1.2 k hk).2.1
      by_cases hq : m.1 15 k ≤ p1
      · obtain ⟨M, z1, z2, z3, z4, z5⟩ := Tie_stdT (u := p1) h.1 hk hr ⟨i_le.mp hq, i_le.mp hu2.2⟩
        have hX := fun ou : Nat → Int64 => XsellTo3 (m := m) (ou := ou) hG nb k h.xb h.eb h.b8 hk p1 hu (by rw [ec]; exact hq) r (by omega) e1
        rw [z4] at hX
        refine xo_r (fun ou => hX ou) (by decide) h.cap ⟨_, rfl, rfl⟩ (fun ou' hw => mo_r (MsellTo3 hG nb k h.mb h.b8 hk p1 hu2 hq r M z1 (by omega) e2 (h.mt hk) z2 z3) (by decide) ⟨_, rfl, rfl⟩ mI_s (fun _ => hw.trans ?_) (h.t0 z5 rfl))
        rfl
      · exact xo_x (k := 3) (fun ou => XsellTo2 hG nb k h.xb h.eb h.b8 hk p1 hu (by rw [ec]; exact hq)) (by decide) h.cap (List.mem_cons_of_mem _ (List.mem_cons_of_mem _ List.mem_cons_self)) (fun ou' => mo_r (k := 3) (w := (0 : Int64)) (MsellTo2 hG nb k h.mb h.b8 hk p1 hu2 (Int32.not_le.mp hq)) (by decide) ⟨0, rfl, rfl⟩ mI_s (fun z => absurd z (by decide)) (h.n0))
theorem O_addBarge (hG : az_okS l G) {c : Nat} (hc : c < 512) (h : Nx c ρ x m) (p0 p1 p2 p3 : Int32) : XO l G ρ x m yX3_addBarge cX3_addBarge 6 (some FieldType.int) [.int p0, .int p1, .int p2, .int p3] [("java/lang/IndexOutOfBoundsException", 1), ("java/lang/IllegalArgumentException", 2), ("java/lang/IllegalStateException", 3), ("java/lang/UnsupportedOperationException", 4)] cvI (MO l G yX4_addBarge cX4_addBarge 5 (some FieldType.int) [.int p0, .int p1, .int p2, .int p3] cvI (c + 1) m) := by
  obtain ⟨n, nr, nb, N, cs, h⟩ := h
  have h6 := h.n6
  have h1 := h.n1
  have hb8 := h.b8
  rcases oo_or nr (by omega) p0 with hv | ⟨k, hk, rfl⟩
  · exact xo_x (k := 1) (fun ou => XaddBarge0 hG nr p0 p1 p2 p3 h.xr h.n6 hv) (by decide) h.cap List.mem_cons_self (fun ou' => mo_r (k := 1) (w := (0 : Int64)) (MaddBarge0 hG nr p0 h.mr h.n6 hv p1 p2 p3) (by decide) ⟨0, rfl, rfl⟩ mI_s (fun z => absurd z (by decide)) (h.n0))
  · by_cases z1 : inI p1 5 80 = 0
    · exact xo_x (k := 2) (fun ou => XaddBarge1_0 hG nr k h.xr h.n6 hk p1 p2 p3 z1) (by decide) h.cap (List.mem_cons_of_mem _ List.mem_cons_self) (fun ou' => mo_r (k := 2) (w := (0 : Int64)) (MaddBarge1 hG nr k h.mr h.n6 hk p1 p2 p3 (fun w => w.1 z1)) (by decide) ⟨0, rfl, rfl⟩ mI_s (fun z => absurd z (by decide)) (h.n0))
    · by_cases z2 : inI p2 2 20 = 0
      · exact xo_x (k := 2) (fun ou => XaddBarge1_1 hG nr k h.xr h.n6 hk p1 p2 p3 z1 z2) (by decide) h.cap (List.mem_cons_of_mem _ List.mem_cons_self) (fun ou' => mo_r (k := 2) (w := (0 : Int64)) (MaddBarge1 hG nr k h.mr h.n6 hk p1 p2 p3 (fun w => w.2.1 z2)) (by decide) ⟨0, rfl, rfl⟩ mI_s (fun z => absurd z (by decide)) (h.n0))
      · by_cases z3 : inI p3 1 20 = 0
        · exact xo_x (k := 2) (fun ou => XaddBarge1_2 hG nr k h.xr h.n6 hk p1 p2 p3 z1 z2 z3) (by decide) h.cap (List.mem_cons_of_mem _ List.mem_cons_self) (fun ou' => mo_r (k := 2) (w := (0 : Int64)) (MaddBarge1 hG nr k h.mr h.n6 hk p1 p2 p3 (fun w => w.2.2 z3)) (by decide) ⟨0, rfl, rfl⟩ mI_s (fun z => absurd z (by decide)) (h.n0))
        · have q1 := inI_n z1
          have q2 := inI_n z2
          have q3 := inI_n z3
          by_cases h8 : nb = 8
          · have hx8 : x.1 0 7 = nI 8 := by rw [h.xb, h8]
            have hm8 : m.1 0 12 = 8 := by rw [h.mb, h8]; rfl
            exact xo_x (k := 3) (fun ou => XaddBarge2 hG nr k h.xr h.n6 hk p1 p2 p3 z1 z2 z3 hx8) (by decide) h.cap (List.mem_cons_of_mem _ (List.mem_cons_of_mem _ List.mem_cons_self)) (fun ou' => mo_r (k := 3) (w := (0 : Int64)) (MaddBarge2 hG nr k h.mr h.n6 hk p1 p2 p3 q1 q2 q3 hm8) (by decide) ⟨0, rfl, rfl⟩ mI_s (fun z => absurd z (by decide)) (h.n0))
          · have el := lev_eq h.1.1 (show k < 6 by omega)
            by_cases hf : p2 < levM m k
            · have hlk : ∀ w i j : Nat, i < nb → x.2.2.1 w i = some j → j ≠ nb := fun w i j hi hj => by
                have := (h.1.2.2.1.2 i hi).2.2.2.2.2.2.2 w j hj
                omega
              intro ou
              refine ⟨1, 8, 7, by decide, Grm_0 h.cap (by decide) (by decide), _, XaddBarge4 hG nr k h.xr h.n6 hk p1 p2 p3 z1 z2 z3 nb h.xb (by omega) h.eb (h.xa hk) (by rw [el]; exact hf) hlk, ?_⟩
              rintro o9 ad' K' ⟨q, rfl, rfl, rfl⟩
              refine ⟨bR ρ nb q, _, rfl, rfl, rfl, ⟨?_, ?_, h.cap⟩, Or.inl ⟨_, _, rfl, ⟨_, rfl, rfl⟩, fun ou' hw => ?_⟩⟩
              · show ρ.2.2.2.1 + ρ.2.2.2.2.1 + 1 ≤ ρ.2.2.2.1 + ρ.2.2.2.2.1 + 2
                omega
              · show 6 * ρ.2.2.2.1 + 2 * ρ.2.2.2.2.1 + 8 ≤ 6 * ρ.2.2.2.1 + 2 * ρ.2.2.2.2.1 + 20
                omega
              · refine mo_r (k := 0) (MaddBarge4 hG nr k h.mr h.n6 hk p1 p2 p3 q1 q2 q3 nb h.mb (by omega) (h.ma hk) hf) (by decide) ⟨_, rfl, rfl⟩ ?_ (fun _ => hw) ?_
                · unfold addBargeM
                  exact mI_s
                · have TT := Tie_addT (k := k) h.1 (show nb < 8 by omega) hk (L := p1) (D := p2) (T := p3) ⟨i_le.mp q1.1, i_le.mp q1.2⟩ ⟨i_le.mp q2.1, i_le.mp q2.2⟩ ⟨i_le.mp q3.1, i_le.mp q3.2⟩
                  obtain ⟨-, a2, ⟨a3, a4, a5, a6⟩, a7, a8⟩ := h
                  refine ⟨n, nr, nb + 1, N, [nb] :: cs, TT, by omega, ⟨a3, a4, a5, fun j hj => ?_⟩, ⟨?_, ?_, a7.2.2.1, a7.2.2.2.1, fun j hj => ?_⟩, rfl⟩
                  · rw [xI_p (by decide), xI_p (by decide), xI_p (by decide)]
                    exact a6 j hj
                  · rw [xI_p (by decide)]; exact a7.1
                  · rw [xI_p (by decide)]; exact a7.2.1
                  · rw [xI_p (by decide)]; exact a7.2.2.2.2 j hj
            · exact xo_x (k := 4) (fun ou => XaddBarge3 hG nr k h.xr h.n6 hk p1 p2 p3 z1 z2 z3 nb h.xb (by omega) (h.xa hk) (by rw [el]; exact hf)) (by decide) h.cap (List.mem_cons_of_mem _ (List.mem_cons_of_mem _ (List.mem_cons_of_mem _ List.mem_cons_self))) (fun ou' => mo_r (k := 4) (w := (0 : Int64)) (MaddBarge3 hG nr k h.mr h.n6 hk p1 p2 p3 q1 q2 q3 nb h.mb (by omega) (h.ma hk) (Int32.not_lt.mp hf)) (by decide) ⟨0, rfl, rfl⟩ mI_s (fun z => absurd z (by decide)) (h.n0))
end
