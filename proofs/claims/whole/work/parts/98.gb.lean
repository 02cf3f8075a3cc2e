section
variable {l : Launch} {G : az_G} {ρ : Rp} {x x' : Xs} {m m' : Ms} {ou : Nat → Int64}
def OpD (G : az_G) (c : Nat) (v : Value) (ρ : Rp) (x : Xs) (ou : Nat → Int64) : az_O → az_A → az_K → Prop := fun o ad' K' => ∃ m' : Ms, o = .inl (some v) ∧ ad' = AD ρ ∧ K' = KK G ρ x m' ou ∧ Nx c ρ x m'
def MD (l : Launch) (G : az_G) (y : MethodName) (b : ByteArray) (nL : Nat) (ret : Option FieldType) (c : Nat) (m : Ms) (v : Value) (ρ : Rp) (x : Xs) (ou : Nat → Int64) : Prop := ∃ d, d ≤ 11 ∧ az_N l G y (az_ws y b nL ret) d [.ref (ρ.1 100)] (AD ρ) (KK G ρ x m ou) 0 0 (OpD G c v ρ x ou)
def OpY (G : az_G) (ρ : Rp) (m : Ms) (ou : Nat → Int64) (mc ms : Nat) (v : Value) (MT : Rp → Xs → (Nat → Int64) → Prop) : az_O → az_A → az_K → Prop := fun o ad' K' => ∃ (ρ' : Rp) (x' : Xs), o = .inl (some v) ∧ ad' = AD ρ' ∧ K' = KK G ρ' x' m ou ∧ ρ'.1 = ρ.1 ∧ Grw ρ ρ' mc ms ∧ MT ρ' x' ou
def XD (l : Launch) (G : az_G) (ρ : Rp) (x : Xs) (m : Ms) (y : MethodName) (b : ByteArray) (nL : Nat) (ret : Option FieldType) (v : Value) (MT : Rp → Xs → (Nat → Int64) → Prop) : Prop := ∀ ou : Nat → Int64, ∃ mc ms d : Nat, d ≤ 9 ∧ Grm ρ mc ms ∧ az_N l G y (az_ws y b nL ret) d [.ref (ρ.1 0)] (AD ρ) (KK G ρ x m ou) mc ms (OpY G ρ m ou mc ms v MT)
section
variable {y : MethodName} {b : ByteArray} {nL d c : Nat} {ret : Option FieldType} {v : Value} {MT : Rp → Xs → (Nat → Int64) → Prop}
theorem md_r (h : az_M l G y (az_ws y b nL ret) d [.ref (ρ.1 100)] (AD ρ) (KK G ρ x m ou) 0 0 (az_r (some v) (AD ρ) (KK G ρ x m' ou))) (hd : d ≤ 11) (hN : Nx c ρ x m') : MD l G y b nL ret c m v ρ x ou := ⟨d, hd, _, h, by rintro o ad' K' ⟨rfl, rfl, rfl⟩; exact ⟨m', rfl, rfl, rfl, hN⟩⟩
theorem xd_r (h : ∀ ou : Nat → Int64, az_M l G y (az_ws y b nL ret) d [.ref (ρ.1 0)] (AD ρ) (KK G ρ x m ou) 0 0 (az_r (some v) (AD ρ) (KK G ρ x' m ou))) (hd : d ≤ 9) (hC : ρ.2.2.2.1 ≤ 131072 ∧ ρ.2.2.2.2.1 ≤ 34) (hM : ∀ ou : Nat → Int64, MT ρ x' ou) : XD l G ρ x m y b nL ret v MT := fun ou => ⟨0, 0, d, hd, Grm_0 hC (by decide) (by decide), _, h ou, by rintro o ad' K' ⟨rfl, rfl, rfl⟩; exact ⟨ρ, x', rfl, rfl, rfl, rfl, Grw_0 hC (by decide) (by decide), hM ou⟩⟩
theorem xd_g {C : Nat} (h : ∀ ou : Nat → Int64, az_M l G y (az_ws y b nL ret) d [.ref (ρ.1 0)] (AD ρ) (KK G ρ x m ou) (C - ρ.2.2.2.1) (6 * (C - ρ.2.2.2.1)) (az_g G (some v) ρ C x' m ou)) (hd : d ≤ 9) (hC : ρ.2.2.2.1 ≤ 131072 ∧ ρ.2.2.2.2.1 ≤ 34) (h1 : ρ.2.2.2.1 ≤ C) (h2 : C ≤ 131072) (hM : ∀ (a : Nat → Nat) (ou : Nat → Int64), MT (gR ρ a C) x' ou) : XD l G ρ x m y b nL ret v MT := fun ou => ⟨C - ρ.2.2.2.1, 6 * (C - ρ.2.2.2.1), d, hd, Grm_g (mc := 0) (ms := 0) hC h2 (by decide) (by decide), _, h ou, by rintro o ad' K' ⟨a, -, rfl, rfl, rfl⟩; exact ⟨gR ρ a C, x', rfl, rfl, rfl, rfl, Grw_g (mc := 0) (ms := 0) hC h1 h2 (by decide) (by decide), hM a ou⟩⟩
end
theorem O_reachCount (hG : az_okS l G) {c : Nat} (hc : c < 512) (h : Nx c ρ x m) : ∃ u : Int32, XD l G ρ x m yX3_reachCount cX3_reachCount 1 (some FieldType.int) (.int u) (MD l G yX4_reachCount cX4_reachCount 1 (some FieldType.int) (c + 1) m (.int u)) := by
  obtain ⟨n, nr, nb, N, cs, h⟩ := h
  have e : x.1 1 8 = m.1 0 1 := h.xr.trans h.mr.symm
  have hX := fun ou : Nat → Int64 => XreachCount (ρ := ρ) (x := x) (m := m) (ou := ou) hG
  rw [e] at hX
  exact ⟨_, xd_r hX (by decide) h.cap (fun ou => md_r (MreachCount hG) (by decide) h.n0)⟩
theorem O_weekCount (hG : az_okS l G) {c : Nat} (hc : c < 512) (h : Nx c ρ x m) : ∃ u : Int32, XD l G ρ x m yX3_weekCount cX3_weekCount 1 (some FieldType.int) (.int u) (MD l G yX4_weekCount cX4_weekCount 1 (some FieldType.int) (c + 1) m (.int u)) := by
  obtain ⟨n, nr, nb, N, cs, h⟩ := h
  have e : x.1 0 8 = m.1 0 2 := h.1.2.2.2.2.2.1.1
  have hX := fun ou : Nat → Int64 => XweekCount (ρ := ρ) (x := x) (m := m) (ou := ou) hG
  rw [e] at hX
  exact ⟨_, xd_r hX (by decide) h.cap (fun ou => md_r (MweekCount hG) (by decide) h.n0)⟩
theorem O_bargeCount (hG : az_okS l G) {c : Nat} (hc : c < 512) (h : Nx c ρ x m) : ∃ u : Int32, XD l G ρ x m yX3_bargeCount cX3_bargeCount 1 (some FieldType.int) (.int u) (MD l G yX4_bargeCount cX4_bargeCount 1 (some FieldType.int) (c + 1) m (.int u)) := by
  obtain ⟨n, nr, nb, N, cs, h⟩ := h
  have e : x.1 0 7 = m.1 0 12 := h.xb.trans h.mb.symm
  have hX := fun ou : Nat → Int64 => XbargeCount (ρ := ρ) (x := x) (m := m) (ou := ou) hG
  rw [e] at hX
  exact ⟨_, xd_r hX (by decide) h.cap (fun ou => md_r (MbargeCount hG) (by decide) h.n0)⟩
theorem O_money (hG : az_okS l G) {c : Nat} (hc : c < 512) (h : Nx c ρ x m) : ∃ u : Int64, XD l G ρ x m yX3_money cX3_money 1 (some FieldType.long) (.long u) (MD l G yX4_money cX4_money 1 (some FieldType.long) (c + 1) m (.long u)) := by
  obtain ⟨n, nr, nb, N, cs, h⟩ := h
  have e : x.2.2.2 = m.2 := h.1.2.2.2.2.2.1.2.2.2.1
  have hX := fun ou : Nat → Int64 => Xmoney (ρ := ρ) (x := x) (m := m) (ou := ou) hG
  rw [e] at hX
  exact ⟨_, xd_r hX (by decide) h.cap (fun ou => md_r (Mmoney hG) (by decide) h.n0)⟩
theorem O_cameTotal (hG : az_okS l G) {c : Nat} (hc : c < 512) (h : Nx c ρ x m) : ∃ u : Int32, XD l G ρ x m yX3_cameTotal cX3_cameTotal 1 (some FieldType.int) (.int u) (MD l G yX4_cameTotal cX4_cameTotal 1 (some FieldType.int) (c + 1) m (.int u)) := by
  obtain ⟨n, nr, nb, N, cs, h⟩ := h
  have e : -x.1 4 2 = m.1 0 21 := by rw [(x210_eq h.1.1).1, Int32.neg_neg]
  have hX := fun ou : Nat → Int64 => XcameTotal (ρ := ρ) (x := x) (m := m) (ou := ou) hG
  rw [e] at hX
  exact ⟨_, xd_r hX (by decide) h.cap (fun ou => md_r (McameTotal hG) (by decide) h.n0)⟩
theorem O_seaTotal (hG : az_okS l G) {c : Nat} (hc : c < 512) (h : Nx c ρ x m) : ∃ u : Int32, XD l G ρ x m yX3_seaTotal cX3_seaTotal 1 (some FieldType.int) (.int u) (MD l G yX4_seaTotal cX4_seaTotal 1 (some FieldType.int) (c + 1) m (.int u)) := by
  obtain ⟨n, nr, nb, N, cs, h⟩ := h
  have e : x.1 4 1 = m.1 0 22 := (x210_eq h.1.1).2.1
  have hX := fun ou : Nat → Int64 => XseaTotal (ρ := ρ) (x := x) (m := m) (ou := ou) hG
  rw [e] at hX
  exact ⟨_, xd_r hX (by decide) h.cap (fun ou => md_r (MseaTotal hG) (by decide) h.n0)⟩
theorem O_airTotal (hG : az_okS l G) {c : Nat} (hc : c < 512) (h : Nx c ρ x m) : ∃ u : Int32, XD l G ρ x m yX3_airTotal cX3_airTotal 1 (some FieldType.int) (.int u) (MD l G yX4_airTotal cX4_airTotal 1 (some FieldType.int) (c + 1) m (.int u)) := by
  obtain ⟨n, nr, nb, N, cs, h⟩ := h
  have e : x.1 4 0 = m.1 0 23 := (x210_eq h.1.1).2.2
  have hX := fun ou : Nat → Int64 => XairTotal (ρ := ρ) (x := x) (m := m) (ou := ou) hG
  rw [e] at hX
  exact ⟨_, xd_r hX (by decide) h.cap (fun ou => md_r (MairTotal hG) (by decide) h.n0)⟩
theorem O_heldTotal (hG : az_okS l G) {c : Nat} (hc : c < 512) (h : Nx c ρ x m) : ∃ u : Int32, XD l G ρ x m yX3_heldTotal cX3_heldTotal 3 (some FieldType.int) (.int u) (MD l G yX4_heldTotal cX4_heldTotal 1 (some FieldType.int) (c + 1) m (.int u)) := by
  obtain ⟨n, nr, nb, N, cs, h⟩ := h
  have e : Xheld2F (nr - 1) m x (Xheld1F nr m x 0 0) 0 = heldM m nr := held_eq (m9 := m) h.1.1
  have hX := fun ou : Nat → Int64 => XheldTotal (ρ := ρ) (x := x) (m := m) (ou := ou) hG nr h.n6 h.n1 h.xr
  rw [e] at hX
  exact ⟨_, xd_r hX (by decide) h.cap (fun ou => md_r (MheldTotal hG nr h.n6 h.mr) (by decide) h.n0)⟩
theorem O_movementCount (hG : az_okS l G) {c : Nat} (hc : c < 512) (h : Nx c ρ x m) : ∃ u : Int32, XD l G ρ x m yX3_movementCount cX3_movementCount 1 (some FieldType.int) (.int u) (MD l G yX4_movementCount cX4_movementCount 1 (some FieldType.int) (c + 1) m (.int u)) := by
  obtain ⟨n, nr, nb, N, cs, h⟩ := h
  have e : x.1 8 3 = m.1 0 24 := h.xn.trans h.mn.symm
  have hX := fun ou : Nat → Int64 => XmovementCount (ρ := ρ) (x := x) (m := m) (ou := ou) hG
  rw [e] at hX
  exact ⟨_, xd_r hX (by decide) h.cap (fun ou => md_r (MmovementCount hG) (by decide) h.n0)⟩
theorem O_meanLevel (hG : az_okS l G) {c : Nat} (hc : c < 512) (h : Nx c ρ x m) : ∃ u : UInt64, XD l G ρ x m yX3_meanLevel cX3_meanLevel 3 (some FieldType.double) (.double u) (MD l G yX4_meanLevel cX4_meanLevel 3 (some FieldType.double) (c + 1) m (.double u)) := by
  obtain ⟨n, nr, nb, N, cs, h⟩ := h
  have e : Xmean_lF nr m x 0 0 = Mmean_lF nr (mI m 0 0 0) 0 0 := mean_eq (m9 := m) (h.f0 (v := 0)).1.1 nr 0 0 (by omega)
  have hX := fun ou : Nat → Int64 => XmeanLevel (ρ := ρ) (x := x) (m := m) (ou := ou) hG nr h.n6 h.xr (fun k hk => h.xa hk) (fun v => dd_out h.n1 h.n6 v)
  rw [e] at hX
  exact ⟨_, xd_r hX (by decide) h.cap (fun ou => md_r (MmeanLevel hG nr h.n6 h.mr (fun k hk => h.ma hk) (fun v => dd_out h.n1 h.n6 v)) (by decide) h.n0)⟩
theorem O_isBalanced (hG : az_okS l G) {c : Nat} (hc : c < 512) (h : Nx c ρ x m) : ∃ u : Int32, XD l G ρ x m yX3_isBalanced cX3_isBalanced 2 (some FieldType.boolean) (.int u) (MD l G yX4_isBalanced cX4_isBalanced 3 (some FieldType.boolean) (c + 1) m (.int u)) := by
  obtain ⟨n, nr, nb, N, cs, h⟩ := h
  have hl := h.nlt hc
  have q := x210_eq h.1.1
  have eh : heldX x m nr = heldM m nr := held_eq (m9 := m) h.1.1
  have hM := fun ou : Nat → Int64 => MisBalanced (ρ := ρ) (x := x) (m := m) (ou := ou) hG nr h.n6 n hl.1 h.mr h.mn
  by_cases he : -x.1 4 2 = heldX x m nr + x.1 4 1 + x.1 4 0
  · have he2 : m.1 0 21 = heldM m nr + m.1 0 22 + m.1 0 23 := by
      rw [q.1, Int32.neg_neg, eh, q.2.1, q.2.2] at he
      exact he
    have hX := fun ou : Nat → Int64 => XisBalanced1 (ρ := ρ) (x := x) (m := m) (ou := ou) hG nr h.n6 h.n1 h.xr n h.xn hl.1 hl.2.1 hl.2.2 he
    rw [balOK_eq (m9 := m) h.1.1 nr 0 (by omega)] at hX
    have ec : (if ¬ m.1 0 21 = heldM m nr + m.1 0 22 + m.1 0 23 then (0 : Int32) else 1) = 1 := if_neg (fun z => z he2)
    rw [ec] at hM
    exact ⟨_, xd_r hX (by decide) h.cap (fun ou => md_r (hM ou) (by decide) h.n0)⟩
  · have he2 : ¬ m.1 0 21 = heldM m nr + m.1 0 22 + m.1 0 23 := by
      rw [q.1, Int32.neg_neg, eh, q.2.1, q.2.2] at he
      exact he
    have hX := fun ou : Nat → Int64 => XisBalanced0 (ρ := ρ) (x := x) (m := m) (ou := ou) hG nr h.n6 h.n1 h.xr he
    have ec : (if ¬ m.1 0 21 = heldM m nr + m.1 0 22 + m.1 0 23 then (0 : Int32) else 1) = 0 := if_pos he2
    rw [ec, Mbal_0, if_pos rfl] at hM
    exact ⟨_, xd_r hX (by decide) h.cap (fun ou => md_r (hM ou) (by decide) h.n0)⟩
theorem MvX_ew {a : Nat → Nat} : ∀ (f : Nat) {ρ : Rp} (x : Xs) (n k t : Nat), MvX ρ x n (f + t) → MvX (gR ρ a (capT ρ.2.2.2.1 (ewS f x n k).2)) (ewS f x n k).1 (ewS f x n k).2 t
  | 0, ρ, x, n, k, t, h => MvX_0 (MvX_le h (by omega))
  | f + 1, ρ, x, n, k, t, h => by
    have h1 := MvX_O (u := nI k) (a := k + 3) (v := -3) (b := 0) (w := ewU x k) (a9 := a) (t := f + t) (MvX_le h (show f + t + 1 ≤ f + 1 + t by omega))
    have g := MvX_ew (a := a) f (sendO x n (nI k) (k + 3) (-3) 0 (ewU x k)).1 (sendO x n (nI k) (k + 3) (-3) 0 (ewU x k)).2 (k + 1) t h1
    have g1 := ewS_ge f (sendO x n (nI k) (k + 3) (-3) 0 (ewU x k)).1 (sendO x n (nI k) (k + 3) (-3) 0 (ewU x k)).2 (k + 1)
    have g2 := (sendO_ge (x := x) (n := n) (u := nI k) (a := k + 3) (v := -3) (b := 0) (w := ewU x k)).2
    have g3 := h.2.2.2.1
    have g4 := MvX_two g g1.1 (show (ewS f (sendO x n (nI k) (k + 3) (-3) 0 (ewU x k)).1 (sendO x n (nI k) (k + 3) (-3) 0 (ewU x k)).2 (k + 1)).2 ≤ 2 * ρ.2.2.2.1 by omega)
    exact g4
theorem O_endWeek (hG : az_okS l G) {c : Nat} (hc : c < 512) (h : Nx c ρ x m) : ∃ u : Int32, XD l G ρ x m yX3_endWeek cX3_endWeek 5 (some FieldType.int) (.int u) (MD l G yX4_endWeek cX4_endWeek 5 (some FieldType.int) (c + 1) m (.int u)) := by
  obtain ⟨n, nr, nb, N, cs, h⟩ := h
  have h6 := h.n6
  have hn2 := h.2.1
  obtain ⟨TT, e⟩ := Tie_week (m9 := m) h.1 (by omega)
  have hle := (ewS_ge nr x n 0).2
  have C1 := h.c1 hc (n' := (ewS nr x n 0).2) (by omega)
  have hX := fun ou : Nat → Int64 => XendWeek (ρ := ρ) (x := x) (m := m) (ou := ou) hG nr h.xr h.n6 (fun k hk => h.xa hk) n (h.mv hc (by omega))
  rw [e] at hX
  have xo : ∀ p j, p ≠ 0 → p ≠ 11 → p ≠ 12 → (endWeekX x m n nr).1 p j = (ewS nr x n 0).1.1 p j := fun p j h0 h1 h2 => by
    unfold endWeekX ewX
    rw [xI_p h0]
    exact Xew2_p9 ⟨h1, h2⟩ nr _ 0 0
  refine ⟨_, xd_g hX (by decide) h.cap C1.1 C1.2 (fun a ou => md_r (MendWeek hG nr h.n6 h.mr (h.mok hc (by omega)) (fun k hk => h.ma hk)) (by decide) ?_)⟩
  exact (h.gr TT (by omega) (MvX_w (MvX_ew (a := a) nr x n 0 0 (h.mv hc (by omega))) (xo 8 3 (by decide) (by decide) (by decide)) (fun j => xo 20 j (by decide) (by decide) (by decide)) (fun j => xo 21 j (by decide) (by decide) (by decide)) (fun j => xo 22 j (by decide) (by decide) (by decide))) (fun j => (xo 14 j (by decide) (by decide) (by decide)).trans (ewS_p (by decide) (by decide) (by decide) (by decide) (by decide) _ _ _ _)) (fun j => (xo 23 j (by decide) (by decide) (by decide)).trans (ewS_p (by decide) (by decide) (by decide) (by decide) (by decide) _ _ _ _))).nx
end
