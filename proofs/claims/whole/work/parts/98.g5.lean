section
variable {l : Launch} {G : az_G} {ρ : Rp} {x x' : Xs} {m m' : Ms} {ou : Nat → Int64}
theorem capT_131 {c N : Nat} (hc : c ≤ 131072) (hN : N ≤ 65536) : capT c N ≤ 131072 := by
  unfold capT
  split <;> omega
/-- the rows may have grown: n' movements stand there -/
theorem NX.gr {c n n' nr nr' nb N : Nat} {cs : List (List Nat)} {a : Nat → Nat} {C : Nat} (h : NX c ρ x m n nr nb N cs) (T : Tie x' n' m' nr' nb N cs) (hn : n' ≤ n + 100) (hv : MvX (gR ρ a C) x' n' 0) (h1 : ∀ j, x'.1 14 j = x.1 14 j) (h2 : ∀ j, x'.1 23 j = x.1 23 j) : NX (c + 1) (gR ρ a C) x' m' n' nr' nb N cs := by
  obtain ⟨-, a2, -, a7, a8⟩ := h
  refine ⟨T, by omega, ⟨hv.2.2.1, hv.2.2.2.2.1, hv.2.2.2.2.2.1, hv.2.2.2.2.2.2⟩, ⟨(h1 1).trans a7.1, (h1 3).trans a7.2.1, a7.2.2.1, a7.2.2.2.1, fun j hj => (h2 j).trans (a7.2.2.2.2 j hj)⟩, a8⟩
theorem NX.c1 {c n nr nb N : Nat} {cs : List (List Nat)} (h : NX c ρ x m n nr nb N cs) (hc : c < 512) {n' : Nat} (hn : n' ≤ n + 200) : ρ.2.2.2.1 ≤ capT ρ.2.2.2.1 n' ∧ capT ρ.2.2.2.1 n' ≤ 131072 := ⟨capT_ge, capT_131 h.2.2.1.2.2.1 (by have := h.2.1; omega)⟩
theorem em_le {n nr k : Nat} (hk : k + 1 ≤ nr) : (emptyX x n nr k).2 ≤ n + (nr - k) := by
  have h2 := sendR_le (nr := nr) (nr - (k + 1)) (xI x 5 k (x.1 5 k + x.1 3 k)) n (10 + nI k) (k + 13) (k + 1) ((xI x 5 k (x.1 5 k + x.1 3 k)).1 3 k)
  unfold emptyX
  omega
theorem fi_le {n k : Nat} : (fillX x n k).2 ≤ n + 1 := sendO_ge.2
theorem O_rain (hG : az_okS l G) {c : Nat} (hc : c < 512) (h : Nx c ρ x m) (p0 p1 : Int32) : XO l G ρ x m yX3_rain cX3_rain 4 (some FieldType.int) [.int p0, .int p1] [("java/lang/IndexOutOfBoundsException", 1), ("java/lang/IllegalArgumentException", 2)] cvI (MO l G yX4_rain cX4_rain 4 (some FieldType.int) [.int p0, .int p1] cvI (c + 1) m) := by
  obtain ⟨n, nr, nb, N, cs, h⟩ := h
  have h6 := h.n6
  have h1 := h.n1
  have hb8 := h.b8
  rcases oo_or nr (by omega) p0 with hv | ⟨k, hk, rfl⟩
  · exact xo_x (k := 1) (fun ou => Xrain0 hG nr p0 p1 h.xr h.n6 hv) (by decide) h.cap List.mem_cons_self (fun ou' => mo_r (k := 1) (w := (0 : Int64)) (Mrain0 hG nr p0 p1 h.mr h.n6 hv) (by decide) ⟨0, rfl, rfl⟩ mI_s (fun z => absurd z (by decide)) (h.n0))
  · by_cases hu : inI p1 1 5000 = 0
    · exact xo_x (k := 2) (fun ou => Xrain1 hG nr k h.xr h.n6 hk p1 hu) (by decide) h.cap (List.mem_cons_of_mem _ List.mem_cons_self) (fun ou' => mo_r (k := 2) (w := (0 : Int64)) (Mrain1 hG nr k h.mr h.n6 hk p1 hu) (by decide) ⟨0, rfl, rfl⟩ mI_s (fun z => absurd z (by decide)) (h.n0))
    · have hu2 := inI_n hu
      have hn2 := h.2.1
      have TT := Tie_rainT (k := k) (u := p1) h.1 hk (by omega) hu2
      have hle : (rainX x n nr k p1).2 ≤ n + 8 := Nat.le_trans (sendR_le (nr - k) x n (-1) 2 k p1) (by omega)
      have C1 := h.c1 hc (n' := (rainX x n nr k p1).2) (by omega)
      refine xo_g (fun ou => Xrain2 hG nr k h.xr h.n6 hk p1 hu n (h.mv hc (by omega))) (by decide) h.cap C1.1 C1.2 ⟨_, rfl, rfl⟩ (fun a ou' hw => mo_r (Mrain2 hG nr k h.mr h.n6 hk p1 hu2 (h.mok hc (by omega))) (by decide) ⟨_, rfl, rfl⟩ mI_s (fun _ => hw.trans ?_) ((h.gr TT (by omega) (MvX_R (nr - k) x n 0 (-1) 2 k p1 a (h.mv hc (by omega))) (fun j => sendR_1 (by decide) (by decide) (by decide) (by decide) (by decide) _ _ _ _ _ _ _) (fun j => sendR_1 (by decide) (by decide) (by decide) (by decide) (by decide) _ _ _ _ _ _ _)).f0.nx))
      rw [(x210_eq TT.1).2.1, (x210_eq h.1.1).2.1]
theorem O_turn (hG : az_okS l G) {c : Nat} (hc : c < 512) (h : Nx c ρ x m) (p0 : Int32) : XO l G ρ x m yX3_turn cX3_turn 2 (some FieldType.boolean) [.int p0] [("java/lang/IndexOutOfBoundsException", 1), ("java/lang/UnsupportedOperationException", 2)] cvZ (MO l G yX4_turn cX4_turn 2 (some FieldType.boolean) [.int p0] cvZ (c + 1) m) := by
  obtain ⟨n, nr, nb, N, cs, h⟩ := h
  have h6 := h.n6
  have h1 := h.n1
  have hb8 := h.b8
  rcases oo_or (nr - 1) (by omega) p0 with hv | ⟨k, hk, rfl⟩
  · exact xo_x (k := 1) (fun ou => Xturn0 hG nr p0 h.xr h.n6 h.n1 hv) (by decide) h.cap List.mem_cons_self (fun ou' => mo_r (k := 1) (w := (0 : Int64)) (Mturn0 hG nr p0 h.mr h.n6 h.n1 hv) (by decide) ⟨0, rfl, rfl⟩ mI_s (fun z => absurd z (by decide)) (h.n0))
  · have hn2 := h.2.1
    have L := h.1.1.1.2.2.2.2.2.2.2.2 k (by omega)
    have e4 : x.1 4 (k + 3) = m.1 4 k := x4_eq h.1.1 (by omega)
    have e3 : x.1 3 k = m.1 7 k := L.1
    have ch := ch_le h.1.1 (show k + 1 < nr by omega)
    by_cases z : m.1 11 k = 0
    · by_cases z2 : m.1 7 k ≤ m.1 4 k
      · have TT := Tie_fillT (k := k) h.1 (by omega) (by omega) z (i_le.mp z2)
        have hle := fi_le (x := x) (n := n) (k := k)
        have C1 := h.c1 hc (n' := (fillX x n k).2) (by omega)
        refine xo_g (fun ou => Xturn3 hG nr k h.xr h.n6 (by omega) (ch.mpr z) (by rw [e4, e3]; exact Int32.not_lt.mpr z2) n (h.mv hc (by omega))) (by decide) h.cap C1.1 C1.2 ⟨_, rfl, rfl⟩ (fun a ou' hw => mo_r (Mturn3 hG nr k h.mr h.n6 (by omega) z z2 (h.mok hc (by omega))) (by decide) ⟨_, rfl, rfl⟩ mI_s (fun _ => hw.trans ?_) ((h.gr TT (by omega) (MvX_fi (t := 0) (h.mv hc (by omega))) (fun j => fi_1 (by decide) (by decide) (by decide) (by decide) (by decide)) (fun j => fi_1 (by decide) (by decide) (by decide) (by decide) (by decide))).f0.nx))
        rfl
      · exact xo_x (k := 2) (fun ou => Xturn2 hG nr k h.xr h.n6 (by omega) (ch.mpr z) (by rw [e4, e3]; exact Int32.not_le.mp z2)) (by decide) h.cap (List.mem_cons_of_mem _ List.mem_cons_self) (fun ou' => mo_r (k := 2) (w := (0 : Int64)) (Mturn2 hG nr k h.mr h.n6 (by omega) z z2) (by decide) ⟨0, rfl, rfl⟩ mI_s (fun z => absurd z (by decide)) (h.n0))
    · have TT := Tie_emptyT (k := k) h.1 (by omega) (by omega) z
      have hle := em_le (x := x) (n := n) (nr := nr) (k := k) (by omega)
      have C1 := h.c1 hc (n' := (emptyX x n nr k).2) (by omega)
      refine xo_g (fun ou => Xturn1 hG nr k h.xr h.n6 (by omega) (fun q => z (ch.mp q)) n (h.mv hc (by omega))) (by decide) h.cap C1.1 C1.2 ⟨_, rfl, rfl⟩ (fun a ou' hw => mo_r (Mturn1 hG nr k h.mr h.n6 (by omega) z (h.mok hc (by omega))) (by decide) ⟨_, rfl, rfl⟩ mI_s (fun _ => hw.trans ?_) ((h.gr TT (by omega) (MvX_em (t := 0) (by omega) (h.mv hc (by omega))) (fun j => em_1 (by decide) (by decide) (by decide) (by decide) (by decide) (by decide)) (fun j => em_1 (by decide) (by decide) (by decide) (by decide) (by decide) (by decide))).f0.nx))
      rfl
theorem MvX_open {n nr : Nat} {a1 a2 a3 a4 a5 : Int32} {a : Nat → Nat} (hv : MvX ρ x n 10) : MvX (gR ρ a (capT ρ.2.2.2.1 (addReachX x n nr a1 a2 a3 a4 a5).2)) (addReachX x n nr a1 a2 a3 a4 a5).1 (addReachX x n nr a1 a2 a3 a4 a5).2 0 := by
  have h0 : MvX ρ (bedX (xI (xI (xI x 3 (nr - 1) a3) 9 (nr - 1) a4) 10 (nr - 1) a5) nr a1) n 10 := by
    refine MvX_w hv ?_ (fun j => ?_) (fun j => ?_) (fun j => ?_)
    all_goals
      unfold bedX
      rw [xI_p (by decide), xI_p (by decide), xI_p (by decide), xI_p (by decide), xI_p (by decide)]
  have h1 := MvX_R (nr := nr + 1) (nr + 1 - nr) (bedX (xI (xI (xI x 3 (nr - 1) a3) 9 (nr - 1) a4) 10 (nr - 1) a5) nr a1) n 0 (-1) 2 nr (a1 * a2) a (MvX_le h0 (by omega))
  unfold addReachX openX
  exact MvX_w h1 (by rw [xI_p (by decide), xI_p (by decide)]) (fun j => by rw [xI_p (by decide), xI_p (by decide)]) (fun j => by rw [xI_p (by decide), xI_p (by decide)]) (fun j => by rw [xI_p (by decide), xI_p (by decide)])
theorem op_le {n nr : Nat} {a1 a2 a3 a4 a5 : Int32} : (addReachX x n nr a1 a2 a3 a4 a5).2 ≤ n + 2 := by
  have h1 := sendR_le (nr := nr + 1) (nr + 1 - nr) (bedX (xI (xI (xI x 3 (nr - 1) a3) 9 (nr - 1) a4) 10 (nr - 1) a5) nr a1) n (-1) 2 nr (a1 * a2)
  unfold addReachX openX
  show (sendR (nr + 1) (nr + 1 - nr) _ n _ _ _ _).2 ≤ _
  omega
theorem O_addReach (hG : az_okS l G) {c : Nat} (hc : c < 512) (h : Nx c ρ x m) (p0 p1 p2 p3 p4 : Int32) : XO l G ρ x m yX3_addReach cX3_addReach 7 (some FieldType.int) [.int p0, .int p1, .int p2, .int p3, .int p4] [("java/lang/IllegalArgumentException", 1), ("java/lang/IllegalStateException", 2)] cvI (MO l G yX4_addReach cX4_addReach 7 (some FieldType.int) [.int p0, .int p1, .int p2, .int p3, .int p4] cvI (c + 1) m) := by
  obtain ⟨n, nr, nb, N, cs, h⟩ := h
  have h6 := h.n6
  have h1 := h.n1
  have hb8 := h.b8
  have hn2 := h.2.1
  by_cases hh : (¬ inI p0 1 50 = 0 ∧ ¬ inI p1 0 60 = 0 ∧ ¬ inI p2 1 200 = 0 ∧ ¬ inI p3 10 200 = 0 ∧ ¬ inI p4 5 60 = 0)
  · have q1 := inI_n hh.1
    have q2 := inI_n hh.2.1
    have q3 := inI_n hh.2.2.1
    have q4 := inI_n hh.2.2.2.1
    have q5 := inI_n hh.2.2.2.2
    by_cases z6 : nr = 6
    · have hx6 : x.1 1 8 = 6 := by rw [h.xr, z6]; rfl
      have hm6 : m.1 0 1 = 6 := by rw [h.mr, z6]; rfl
      exact xo_x (k := 2) (fun ou => XaddReach1 hG p0 p1 p2 p3 p4 hh hx6) (by decide) h.cap (List.mem_cons_of_mem _ List.mem_cons_self) (fun ou' => mo_r (k := 2) (w := (0 : Int64)) (MaddReach1 hG p0 p1 p2 p3 p4 q1 q2 q3 q4 q5 hm6) (by decide) ⟨0, rfl, rfl⟩ mI_s (fun z => absurd z (by decide)) (h.n0))
    · have TT := Tie_openT h.1 (show nr < 6 by omega) (a1 := p0) (a2 := p1) (a3 := p2) (a4 := p3) (a5 := p4) ⟨i_le.mp q1.1, i_le.mp q1.2⟩ ⟨i_le.mp q2.1, i_le.mp q2.2⟩ ⟨i_le.mp q3.1, i_le.mp q3.2⟩ (i_le.mp q4.1) (i_le.mp q5.1) (by omega)
      have hle := op_le (x := x) (n := n) (nr := nr) (a1 := p0) (a2 := p1) (a3 := p2) (a4 := p3) (a5 := p4)
      have C1 := h.c1 hc (n' := (addReachX x n nr p0 p1 p2 p3 p4).2) (by omega)
      refine xo_g (fun ou => XaddReach2 hG p0 p1 p2 p3 p4 hh nr h.xr h.n1 (by omega) n (h.mv hc (by omega))) (by decide) h.cap C1.1 C1.2 ⟨_, rfl, rfl⟩ (fun a ou' hw => mo_r (MaddReach2 hG p0 p1 p2 p3 p4 q1 q2 q3 q4 q5 nr h.mr h.n1 (by omega) (h.mok hc (by omega))) (by decide) ⟨_, rfl, rfl⟩ (by unfold addReachM; exact mI_s) (fun _ => hw.trans ?_) ((h.gr TT (by omega) (MvX_open (h.mv hc (by omega))) (fun j => adX_o (by omega)) (fun j => adX_o (by omega))).nx))
      rw [recM_0 (by decide), mI_k (by decide), mI_p (by decide), mI_p (by decide), mI_p (by decide), mI_p (by decide), mI_p (by decide), mI_p (by decide), mI_p (by decide), h.mr, Int32.add_sub_cancel]
  · exact xo_x (k := 1) (fun ou => XaddReach0 hG p0 p1 p2 p3 p4 hh) (by decide) h.cap List.mem_cons_self (fun ou' => mo_r (k := 1) (w := (0 : Int64)) (MaddReach0 hG p0 p1 p2 p3 p4 hh) (by decide) ⟨0, rfl, rfl⟩ mI_s (fun z => absurd z (by decide)) (h.n0))
end
