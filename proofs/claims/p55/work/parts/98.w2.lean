/-! THE LAW'S OTHER CALLS: what each leaves. -/
section
variable {l : Launch} {G : az_G} {ρ : Rp} {x x' : Xs} {m : Mz} {M M' : Ms} {ou : Nat → Int64} {n n' nr nr' nb c N f fa fb ra rb r k a b : Nat} {t ta tb : List Nat} {cs : List (List Nat)}
/-- the end of a call of the law's: an int, and the class's state with P -/
def QV (G : az_G) (ρ : Rp) (m : Mz) (ou : Nat → Int64) (Pv : Rp → Xs → Int32 → Prop) : az_O → az_A → az_K → Prop := fun o ad' K' => ∃ (ρ' : Rp) (x' : Xs) (v : Int32), o = .inl (some (.int v)) ∧ ad' = AD ρ' ∧ K' = KK G ρ' x' m ou ∧ ρ'.1 0 = ρ.1 0 ∧ Pv ρ' x' v
theorem qv_r {v0 : Int32} {Pv : Rp → Xs → Int32 → Prop} (h : Pv ρ x' v0) : ∀ (v : Option Value) (ad' : az_A) (K' : az_K), az_r (some (.int v0)) (AD ρ) (KK G ρ x' m ou) (.inl v) ad' K' → ∃ u : Int32, v = some (.int u) ∧ QV G ρ m ou Pv (.inl (some (.int u))) ad' K' := by
  rintro v ad' K' ⟨e1, e2, e3⟩
  cases e1
  exact ⟨v0, rfl, ρ, x', v0, rfl, e2, e3, rfl, h⟩
theorem qv_x {E0 E : String} {v0 : Int32} {ad' : az_A} {K' : az_K} {Pv : Rp → Xs → Int32 → Prop} (h : Pv ρ x' v0) (z : az_x E0 (AD ρ) (KK G ρ x' m ou) (.inr E) ad' K') : E = E0 ∧ QV G ρ m ou Pv (.inl (some (.int v0))) ad' K' := by
  obtain ⟨e1, e2, e3⟩ := z
  exact ⟨Sum.inr.inj e1, ρ, x', v0, rfl, e2, e3, rfl, h⟩
theorem qv_g {v0 : Int32} {C : Nat} {Pv : Rp → Xs → Int32 → Prop} (h : ∀ a : Nat → Nat, Pv (gR ρ a C) x' v0) : ∀ (v : Option Value) (ad' : az_A) (K' : az_K), az_g G (some (.int v0)) ρ C x' m ou (.inl v) ad' K' → ∃ u : Int32, v = some (.int u) ∧ QV G ρ m ou Pv (.inl (some (.int u))) ad' K' := by
  rintro v ad' K' ⟨a, -, e1, e2, e3⟩
  cases e1
  exact ⟨v0, rfl, _, x', v0, rfl, e2, e3, rfl, h a⟩
theorem qv_b {v0 : Int32} {C : Nat} {Pv : Rp → Xs → Int32 → Prop} (h01 : v0 = 0 ∨ v0 = 1) (h : ∀ a : Nat → Nat, Pv (gR ρ a C) x' v0) : ∀ (v : Option Value) (ad' : az_A) (K' : az_K), az_g G (some (.int v0)) ρ C x' m ou (.inl v) ad' K' → ∃ u : Int32, v = some (.int u) ∧ QV G ρ m ou Pv (.inl (some (.int (if u = 0 then 0 else 1)))) ad' K' := by
  rintro v ad' K' ⟨a, -, e1, e2, e3⟩
  cases e1
  refine ⟨v0, rfl, _, x', v0, ?_, e2, e3, rfl, h a⟩
  rcases h01 with e | e <;> subst e <;> rfl
theorem ST.grw {a : Nat → Nat} {C : Nat} (S : ST c ρ x M n nr nb cs) (T : Tie x' n' M' nr' nb 0 cs) (hn : n' ≤ n + 100) (B : Bal x' n') (hv : MvX (gR ρ a C) x' n' 0) (h1 : ∀ j, x'.1 14 j = x.1 14 j) (h2 : ∀ j, x'.1 23 j = x.1 23 j) (hC : C ≤ 16384) : ST (c + 1) (gR ρ a C) x' M' n' nr' nb cs := ⟨S.1.gr T hn hv h1 h2, B, hC⟩
/-- after a coupling: b's convoy is both -/
def CoupP (c n nr nb : Nat) (ta tb : List Nat) (b rb : Nat) : Rp → Xs → Int32 → Prop := fun ρ' x' v => ∃ (M' : Ms) (cs' : List (List Nat)), ST c ρ' x' M' n nr nb cs' ∧ (v < 0 ∨ (¬ v < 0 ∧ v = nI (ta.length + 1) + nI (tb.length + 1) ∧ ∃ (f : Nat) (t : List Nat), (f :: t) ∈ cs' ∧ b ∈ f :: t ∧ M'.1 13 b = nI rb ∧ t.length + 1 = (ta.length + 1) + (tb.length + 1)))
theorem couple_ok (hG : az_okS l G) (S : ST c ρ x M n nr nb cs) (ka : a < nb) (kb : b < nb) (ha : (fa :: ta) ∈ cs) (ia : a ∈ fa :: ta) (hra : ra < nr) (hata : M.1 13 a = nI ra) (hb : (fb :: tb) ∈ cs) (ib : b ∈ fb :: tb) (hrb : rb < nr) (hatb : M.1 13 b = nI rb) : ∃ mc ms : Nat, mc ≤ 1 ∧ ms ≤ 6 ∧ az_M l G yL_couple (az_wsH yL_couple cL_couple 4 (some FieldType.int) [(0, 6, 7, 28), (0, 6, 12, 20), (0, 6, 17, 22)]) 10 [.ref (ρ.1 0), .int (nI a), .int (nI b)] (AD ρ) (KK G ρ x m ou) mc ms (QV G ρ m ou (CoupP c n nr nb ta tb b rb)) := by
  have h := S.1
  have hb8 := h.b8
  obtain ⟨rla, ca, -, efa, eka, la4, nda, lta, ata, hsa⟩ := h.voyF ka ha ia hra hata
  obtain ⟨rlb, cb, -, efb, ekb, lb4, ndb, ltb, atb, hsb⟩ := h.voyF kb hb ib hrb hatb
  have fa8 := lta fa List.mem_cons_self
  have fb8 := ltb fb List.mem_cons_self
  by_cases he : fa = fb
  · exact ⟨1, 6, Nat.le_refl 1, Nat.le_refl 6, H_couple hG (nI a) (nI b) (by decide) (Xcouple1 hG nb a b h.xb h.eb h.b8 ka kb rla fa ta ca rlb fb tb cb he) (fun _ _ _ z => hx_v z) (fun _ _ _ z => Or.inr (Or.inl (qv_x ⟨M, cs, S, Or.inl (by decide)⟩ z)))⟩
  · by_cases h2 : ¬ x.2.1 fa 4 = x.2.1 fb 4 ∨ ¬ nI (ta.length + 1) + nI (tb.length + 1) ≤ 4
    · exact ⟨1, 6, Nat.le_refl 1, Nat.le_refl 6, H_couple hG (nI a) (nI b) (by decide) (Xcouple2 hG nb a b h.xb h.eb h.b8 ka kb rla fa ta ca rlb fb tb cb he h2) (fun _ _ _ z => hx_v z) (fun _ _ _ z => Or.inr (Or.inr (qv_x ⟨M, cs, S, Or.inl (by decide)⟩ z)))⟩
    · have g1 : x.2.1 fa 4 = x.2.1 fb 4 := Decidable.byContradiction fun z => h2 (Or.inl z)
      have g2 : nI (ta.length + 1) + nI (tb.length + 1) ≤ 4 := Decidable.byContradiction fun z => h2 (Or.inr z)
      have g4 := (le4_iff (a := ta.length + 1) (b := tb.length + 1) (by omega) (by omega)).mp g2
      have la8 := lta (lst fa ta) (lst_mem ta fa)
      have hp1 : cs.Perm ((fa :: ta) :: cs.erase (fa :: ta)) := List.perm_cons_erase ha
      have mb2 : (fb :: tb) ∈ cs.erase (fa :: ta) := (List.mem_erase_of_ne (fun z => he (List.cons.inj z).1.symm)).mpr hb
      have hp2 : (cs.erase (fa :: ta)).Perm ((fb :: tb) :: (cs.erase (fa :: ta)).erase (fb :: tb)) := List.perm_cons_erase mb2
      have TT := h.1.perm (hp1.trans (hp2.cons _))
      have TC := Tie_coupleT TT rfl (show (fa :: ta).length + (fb :: tb).length ≤ 4 from g4) g1
      have S' := S.x1 TC rfl
      have hlen : (ta ++ fb :: tb).length + 1 = (ta.length + 1) + (tb.length + 1) := by rw [List.length_append, List.length_cons]; omega
      refine ⟨0, 0, Nat.zero_le 1, Nat.zero_le 6, H_couple hG (nI a) (nI b) (by decide) (Xcouple3 hG nb a b h.xb h.eb h.b8 ka kb rla fa ta ca rlb fb tb cb he g1 g2 (lst fa ta) (by rw [← h.eb]; exact la8) rfl) (qv_r ⟨_, _, S', Or.inr ⟨?_, rfl, fa, ta ++ fb :: tb, List.mem_cons_self, ?_, ?_, hlen⟩⟩) (fun _ _ _ z => hq_x z)⟩
      · rw [nI_ad9]; exact Int32.not_lt.mpr (nI_pos' (by omega))
      · exact List.mem_append_right (fa :: ta) ib
      · show (mI (mI (mI M 19 (lst fa ta) (nI fb)) 18 fb (nI (lst fa ta))) 0 0 0).1 13 b = nI rb
        rw [mI_p (by decide), mI_p (by decide), mI_p (by decide)]
        exact hatb
def UncP (c n nr nb : Nat) (M : Ms) (cs : List (List Nat)) (f : Nat) (t : List Nat) (k r : Nat) : Rp → Xs → Int32 → Prop := fun ρ' x' v => (v = -1002 ∧ ST c ρ' x' M n nr nb cs ∧ f = k) ∨ (¬ v = -1002 ∧ ∃ (M' : Ms) (cs' : List (List Nat)) (s : List Nat) (g : Nat), ST c ρ' x' M' n nr nb cs' ∧ v = nI g ∧ (k :: s) ∈ cs' ∧ M'.1 13 k = nI r ∧ s.length + 1 + g = t.length + 1)
theorem uncouple_ok (hG : az_okS l G) (S : ST c ρ x M n nr nb cs) (hk : k < nb) (hcs : (f :: t) ∈ cs) (hin : k ∈ f :: t) (hrn : r < nr) (hat : M.1 13 k = nI r) : ∃ mc ms : Nat, mc ≤ 1 ∧ ms ≤ 6 ∧ az_M l G yL_uncouple (az_wsH yL_uncouple cL_uncouple 3 (some FieldType.int) [(0, 5, 6, 28), (0, 5, 11, 22)]) 10 [.ref (ρ.1 0), .int (nI k)] (AD ρ) (KK G ρ x m ou) mc ms (QV G ρ m ou (UncP c n nr nb M cs f t k r)) := by
  have h := S.1
  have hb8 := h.b8
  obtain ⟨rl, aC, -, ef, ek, h4, hnd, hq, hat2, hs⟩ := h.voyF hk hcs hin hrn hat
  have b9 := h.1.2.2.1.2 k hk
  obtain ⟨pk, sk, hsp⟩ := List.append_of_mem hin
  have hL := h.1.2.2.2.2.1.2.2 _ hcs
  have hah := hL.2.2.2.1
  rw [hsp] at hah
  have hx := (ah_split pk none hah).2.1
  rcases List.eq_nil_or_concat pk with z | ⟨p2, d, z⟩
  · subst z
    have hx2 : x.2.2.1 0 k = none := hx
    exact ⟨1, 6, Nat.le_refl 1, Nat.le_refl 6, H_uncouple hG (nI k) (by decide) (Xuncouple1 hG nb k h.xb h.eb h.b8 hk hx2) (fun _ _ _ z => hx_v z) (fun _ _ _ z => Or.inr (qv_x (Or.inl ⟨rfl, S, (List.cons.inj hsp).1⟩) z))⟩
  · have z2 : pk = p2 ++ [d] := by rw [z, List.concat_eq_append]
    have hx2 : x.2.2.1 0 k = some d := by rw [hx, z2, List.getLast?_concat]
    have hd : d < nb := b9.2.2.2.2.2.2.2 0 d hx2
    have hsp2 : f :: t = p2 ++ d :: k :: sk := by rw [hsp, z2, List.append_assoc]; rfl
    have hp1 : cs.Perm ((p2 ++ d :: k :: sk) :: cs.erase (f :: t)) := by rw [← hsp2]; exact List.perm_cons_erase hcs
    have TC := Tie_uncoupleT (h.1.perm hp1)
    have S' := S.x1 TC rfl
    obtain ⟨rc, fc, tc, cc, -, -, -, ic, csc, -, -⟩ := S'.1.cv hd
    have ecv : fc :: tc = p2 ++ [d] := fl_dj _ S'.1.1.2.2.2.2.1.1 _ csc _ List.mem_cons_self d ic (List.mem_append_right _ List.mem_cons_self)
    have e1 : tc.length + 1 = p2.length + 1 := by
      have := congrArg List.length ecv
      rw [List.length_append] at this
      exact this
    have e2 : t.length + 1 = p2.length + (sk.length + 2) := by
      have := congrArg List.length hsp2
      rw [List.length_append] at this
      exact this
    refine ⟨0, 0, Nat.zero_le 1, Nat.zero_le 6, H_uncouple hG (nI k) (by decide) (Xuncouple2 hG nb k h.xb h.eb h.b8 hk d (by rw [← h.eb]; exact hd) hx2 rc fc tc cc) (qv_r (Or.inr ⟨nI_n1002 (by omega), _, _, sk, tc.length + 1, S', rfl, List.mem_cons_of_mem _ List.mem_cons_self, ?_, by omega⟩)) (fun _ _ _ z => hq_x z)⟩
    show (mI (mI (mI M 19 d (-1)) 18 k (-1)) 0 0 0).1 13 k = nI r
    rw [mI_p (by decide), mI_p (by decide), mI_p (by decide)]
    exact hat
/-- what comes reaches the sea or does not -/
theorem comes_sea : ∀ (q : Nat) (m : Ms) (nr : Nat) (src : Int32) (k : Nat) (left : Int32), (comesM q m nr src k left).1 0 22 = m.1 0 22 ∨ ∃ w : Int32, 0 < w ∧ (comesM q m nr src k left).1 0 22 = m.1 0 22 + w
  | 0, _, _, _, _, _ => Or.inl rfl
  | q + 1, m, nr, src, k, left => by
    rw [comesM]
    split
    · exact Or.inl rfl
    · rename_i h0
      split
      · rcases comes_sea q (cnext m src k left) nr (nI k) (k + 1) (cleft m src k left) with g | ⟨w, h1, h2⟩
        · exact Or.inl (g.trans (cnext_0 (by decide)))
        · exact Or.inr ⟨w, h1, by rw [h2, cnext_0 (by decide)]⟩
      · exact Or.inr ⟨left, Int32.not_le.mp h0, by rw [mI_s, recM_0 (by decide)]⟩
theorem rain_ok (hG : az_okS l G) (hc : c ≤ 62) (S : ST c ρ x M n nr nb cs) (hk : k < nr) {u : Int32} (hu : 1 ≤ u ∧ u ≤ 300) : ∃ mc ms : Nat, mc ≤ 16384 ∧ ms ≤ 98304 ∧ az_M l G yL_rain (az_wsH yL_rain cL_rain 4 (some FieldType.int) [(0, 6, 7, 28), (0, 6, 12, 20)]) 10 [.ref (ρ.1 0), .int (nI k), .int u] (AD ρ) (KK G ρ x m ou) mc ms (QV G ρ m ou (fun ρ' x' v => ¬ v < 0 ∧ ∃ (M' : Ms) (n' : Nat), ST (c + 1) ρ' x' M' n' nr nb cs)) := by
  have h := S.1
  have h6 := h.n6
  have hn := S.nle (by omega)
  have hu5 : 1 ≤ u ∧ u ≤ 5000 := ⟨hu.1, Int32.le_trans hu.2 (by decide)⟩
  have hin : ¬ inI u 1 5000 = 0 := by
    unfold inI
    rw [if_neg (Int32.not_lt.mpr hu5.1), if_neg (Int32.not_lt.mpr hu5.2)]
    decide
  have TT := Tie_rainT (k := k) (u := u) h.1 hk (by omega) hu5
  have hle : (rainX x n nr k u).2 ≤ n + 8 := Nat.le_trans (sendR_le (nr - k) x n (-1) 2 k u) (by omega)
  have hC := capT_16 (v := (rainX x n nr k u).2) S.2.2 (by omega)
  have hg := capT_ge (c := ρ.2.2.2.1) (N := (rainX x n nr k u).2)
  refine ⟨_, _, by omega, by omega, H_rain hG (nI k) u (by decide) (Xrain2 hG nr k h.xr h.n6 hk u hin n (h.mv (by omega) (by omega))) (qv_g (fun a => ⟨?_, _, _, S.grw TT (by omega) (Bal_rain S.2.1 hk h6) (MvX_R (nr - k) x n 0 (-1) 2 k u a (h.mv (by omega) (by omega))) (fun j => sendR_1 (by decide) (by decide) (by decide) (by decide) (by decide) _ _ _ _ _ _ _) (fun j => sendR_1 (by decide) (by decide) (by decide) (by decide) (by decide) _ _ _ _ _ _ _) hC⟩)) (fun _ _ _ z => qg_x z)⟩
  rw [(x210_eq TT.1).2.1, (x210_eq h.1.1).2.1]
  rcases comes_sea (nr + 1 - k) (mI M 0 21 (M.1 0 21 + u)) nr (-1) k u with g | ⟨w, h1, h2⟩
  · rw [g, mI_k (by decide), show M.1 0 22 - M.1 0 22 = 0 by grind]
    decide
  · rw [h2, mI_k (by decide), show M.1 0 22 + w - M.1 0 22 = w by grind]
    exact Int32.not_lt.mpr (Int32.le_of_lt h1)
theorem ite_01 {p : Prop} [Decidable p] : (if p then (0 : Int32) else 1) = 0 ∨ (if p then (0 : Int32) else 1) = 1 := by
  split
  · exact Or.inl rfl
  · exact Or.inr rfl
theorem ew_up {m : Ms} {u : Int32} : ∃ z : Int32, (z = 0 ∨ z = 1) ∧ Mew2Fa m u k = u + z := by
  unfold Mew2Fa
  exact ⟨_, ite_01, rfl⟩
theorem ew_cnt : ∀ (q : Nat) (m : Ms) (u k : Nat), ∃ w : Nat, u ≤ w ∧ w ≤ u + q ∧ (Mew2F q m (nI u) k).2 = nI w
  | 0, _, u, _ => ⟨u, Nat.le_refl u, Nat.le_refl u, rfl⟩
  | q + 1, m, u, k => by
    rw [Mew2F]
    obtain ⟨z, hz, e⟩ := ew_up (m := m) (u := nI u) (k := k)
    rcases hz with hz | hz
    · rw [e, hz, Int32.add_zero]
      obtain ⟨w, h1, h2, h3⟩ := ew_cnt q (Mew2Fm m (nI u) k) u (k + 1)
      exact ⟨w, h1, by omega, h3⟩
    · rw [e, hz, show nI u + 1 = nI (u + 1) from nI_ad9 u 1]
      obtain ⟨w, h1, h2, h3⟩ := ew_cnt q (Mew2Fm m (nI u) k) (u + 1) (k + 1)
      exact ⟨w, by omega, by omega, h3⟩
theorem week_ok (hG : az_okS l G) (hc : c ≤ 62) (S : ST c ρ x M n nr nb cs) : ∃ (mc ms w C : Nat) (x9 : Xs), mc ≤ 16384 ∧ ms ≤ 98304 ∧ w ≤ nr ∧ x9.1 0 8 = x.1 0 8 + 1 ∧ (∀ a : Nat → Nat, ∃ (M' : Ms) (n' : Nat), ST (c + 1) (gR ρ a C) x9 M' n' nr nb cs) ∧ az_M l G yX3_endWeek (az_ws yX3_endWeek cX3_endWeek 5 (Option.some FieldType.int)) 6 [.ref (ρ.1 0)] (AD ρ) (KK G ρ x m ou) mc ms (az_g G (some (.int (nI w))) ρ C x9 m ou) := by
  have h := S.1
  have h6 := h.n6
  have hn := S.nle (by omega)
  obtain ⟨TT, e⟩ := Tie_week (m9 := m) h.1 (by omega)
  have hle := (ewS_ge nr x n 0).2
  have hC := capT_16 (v := (ewS nr x n 0).2) S.2.2 (by omega)
  have hg := capT_ge (c := ρ.2.2.2.1) (N := (ewS nr x n 0).2)
  have hX := XendWeek (ρ := ρ) (x := x) (m := m) (ou := ou) hG nr h.xr h.n6 (fun k hk => h.xa hk) n (h.mv (by omega) (by omega))
  obtain ⟨w, -, hw, ew⟩ := ew_cnt nr (Mew1F nr M 0) 0 0
  have ew : (Mew2F nr (Mew1F nr M 0) 0 0).2 = nI w := ew
  rw [e, ew] at hX
  have xo : ∀ p j, p ≠ 0 → p ≠ 11 → p ≠ 12 → (endWeekX x m n nr).1 p j = (ewS nr x n 0).1.1 p j := fun p j h0 h1 h2 => by
    unfold endWeekX ewX
    rw [xI_p h0]
    exact Xew2_p9 ⟨h1, h2⟩ nr _ 0 0
  have x8 : (endWeekX x m n nr).1 0 8 = x.1 0 8 + 1 := by
    unfold endWeekX ewX
    rw [xI_s, Xew2_p9 ⟨by decide, by decide⟩ nr _ 0 0, ewS_p (by decide) (by decide) (by decide) (by decide) (by decide)]
  exact ⟨_, _, w, _, _, by omega, by omega, by omega, x8, fun a => ⟨_, _, S.grw TT (by omega) (Bal_week S.2.1 h6) (MvX_w (MvX_ew (a := a) nr x n 0 0 (h.mv (by omega) (by omega))) (xo 8 3 (by decide) (by decide) (by decide)) (fun j => xo 20 j (by decide) (by decide) (by decide)) (fun j => xo 21 j (by decide) (by decide) (by decide)) (fun j => xo 22 j (by decide) (by decide) (by decide))) (fun j => (xo 14 j (by decide) (by decide) (by decide)).trans (ewS_p (by decide) (by decide) (by decide) (by decide) (by decide) _ _ _ _)) (fun j => (xo 23 j (by decide) (by decide) (by decide)).trans (ewS_p (by decide) (by decide) (by decide) (by decide) (by decide) _ _ _ _)) hC⟩, hX⟩
def TurnP (c n nr nb : Nat) (M : Ms) (cs : List (List Nat)) (k : Nat) : Rp → Xs → Int32 → Prop := fun ρ' x' v => (v = -1002 ∧ ST c ρ' x' M n nr nb cs ∧ fuM M k = 0 ∧ M.1 4 k < M.1 7 k) ∨ (¬ v = -1002 ∧ v = 1 - fuM M k ∧ ∃ (M' : Ms) (n' : Nat), ST (c + 1) ρ' x' M' n' nr nb cs ∧ fuM M' k = v)
theorem turn_ok (hG : az_okS l G) (hc : c ≤ 62) (S : ST c ρ x M n nr nb cs) (hk : k + 1 < nr) : ∃ mc ms : Nat, mc ≤ 16384 ∧ ms ≤ 98304 ∧ az_M l G yL_turn (az_wsH yL_turn cL_turn 3 (some FieldType.int) [(0, 13, 14, 28), (0, 13, 19, 55)]) 10 [.ref (ρ.1 0), .int (nI k)] (AD ρ) (KK G ρ x m ou) mc ms (QV G ρ m ou (TurnP c n nr nb M cs k)) := by
  have h := S.1
  have h6 := h.n6
  have hn := S.nle (by omega)
  have L := h.1.1.1.2.2.2.2.2.2.2.2 k (by omega)
  have e4 : x.1 4 (k + 3) = M.1 4 k := x4_eq h.1.1 (by omega)
  have e3 : x.1 3 k = M.1 7 k := L.1
  have ch := ch_le h.1.1 hk
  by_cases z : M.1 11 k = 0
  · have ef : fuM M k = 0 := if_pos z
    by_cases z2 : M.1 7 k ≤ M.1 4 k
    · have TT := Tie_fillT (k := k) h.1 hk (by omega) z (i_le.mp z2)
      have hle := fi_le (x := x) (n := n) (k := k)
      have hC := capT_16 (v := (fillX x n k).2) S.2.2 (by omega)
      have hg := capT_ge (c := ρ.2.2.2.1) (N := (fillX x n k).2)
      refine ⟨_, _, by omega, by omega, H_turn hG (nI k) (by decide) (Xturn3 hG nr k h.xr h.n6 (by omega) (ch.mpr z) (by rw [e4, e3]; exact Int32.not_lt.mpr z2) n (h.mv (by omega) (by omega))) (qv_b (Or.inr rfl) (fun a => Or.inr ⟨by decide, by rw [ef]; rfl, _, _, S.grw TT (by omega) (Bal_fill S.2.1 (by omega)) (MvX_fi (t := 0) (h.mv (by omega) (by omega))) (fun j => fi_1 (by decide) (by decide) (by decide) (by decide) (by decide)) (fun j => fi_1 (by decide) (by decide) (by decide) (by decide) (by decide)) hC, ?_⟩)) (fun _ _ _ z => qg_x z)⟩
      unfold fuM
      rw [if_neg]
      unfold fillsM
      rw [mI_s, vn_1]
      exact one_ne
    · exact ⟨1, 6, by decide, by decide, H_turn hG (nI k) (by decide) (Xturn2 hG nr k h.xr h.n6 (by omega) (ch.mpr z) (by rw [e4, e3]; exact Int32.not_le.mp z2)) (fun _ _ _ z => hx_v z) (fun _ _ _ z => Or.inr (qv_x (Or.inl ⟨rfl, S, ef, Int32.not_le.mp z2⟩) z))⟩
  · have ef : fuM M k = 1 := if_neg z
    have TT := Tie_emptyT (k := k) h.1 hk (by omega) z
    have hle := em_le (x := x) (n := n) (nr := nr) (k := k) (by omega)
    have hC := capT_16 (v := (emptyX x n nr k).2) S.2.2 (by omega)
    have hg := capT_ge (c := ρ.2.2.2.1) (N := (emptyX x n nr k).2)
    exact ⟨_, _, by omega, by omega, H_turn hG (nI k) (by decide) (Xturn1 hG nr k h.xr h.n6 (by omega) (fun q => z (ch.mp q)) n (h.mv (by omega) (by omega))) (qv_b (Or.inl rfl) (fun a => Or.inr ⟨by decide, by rw [ef]; rfl, _, _, S.grw TT (by omega) (Bal_empty S.2.1 hk h6) (MvX_em (t := 0) (by omega) (h.mv (by omega) (by omega))) (fun j => em_1 (by decide) (by decide) (by decide) (by decide) (by decide) (by decide)) (fun j => em_1 (by decide) (by decide) (by decide) (by decide) (by decide) (by decide)) hC, if_pos emptiesM_f⟩)) (fun _ _ _ z => qg_x z)⟩
theorem stdr_ok (hG : az_okS l G) (S : ST c ρ x M n nr nb cs) (hk : k < nb) (hr : r < nr) (hat : M.1 13 k = nI r) : az_M l G yL_sellToDraught (az_wsH yL_sellToDraught cL_sellToDraught 4 (some FieldType.int) [(0, 6, 7, 28), (0, 6, 12, 20), (0, 6, 17, 22)]) 10 [.ref (ρ.1 0), .int (nI k), .int 20] (AD ρ) (KK G ρ x m ou) 0 0 (QV G ρ m ou (fun ρ' x' v => ∃ (M' : Ms) (q : Nat), q < 2 ^ 30 ∧ v = nI q ∧ ST c ρ' x' M' n nr nb cs ∧ deepM M' k ≤ 20 ∧ (q = 0 ↔ deepM M k ≤ 20))) := by
  have h := S.1
  have h6 := h.n6
  obtain ⟨b1, b2, b3, b4, b5⟩ := (h.1.2.2.1.2 k hk)
  have e1 : x.2.1 k 4 = nI r := (S.at4 hk).trans hat
  have hD := h.bg hk
  have ec : x.2.1 k 2 = M.1 15 k := (h.1.2.2.1.2 k hk).2.1
  have h15 : (M.1 15 k).toInt ≤ (20 : Int32).toInt := by rw [← ec]; exact hD.1.2
  obtain ⟨q, z1, z2, z3, z4, z5⟩ := Tie_stdT (u := 20) h.1 hk hr ⟨h15, by decide⟩
  have hX := XsellTo3 (m := m) (ou := ou) hG nb k h.xb h.eb h.b8 hk 20 (by decide) (by rw [ec]; exact i_le.mpr h15) r (by omega) e1
  rw [z4] at hX
  refine H_sellToDraught hG (nI k) 20 (by decide) hX (qv_r ⟨_, q, z1, rfl, S.x1 z5 rfl, z3, ?_⟩) (fun _ _ _ z => hq_x z)
  constructor
  · intro e; subst e; exact z3
  · intro w
    rcases Nat.eq_zero_or_pos q with e | e
    · exact e
    · exact absurd w (z2 0 e)
theorem addR_ok (hG : az_okS l G) (hc : c ≤ 62) (S : ST c ρ x M n nr nb cs) (h5 : nr < 6) {p0 p1 p2 p3 p4 : Int32} (q1 : 1 ≤ p0 ∧ p0 ≤ 50) (q2 : 0 ≤ p1 ∧ p1 ≤ 60) (q3 : 1 ≤ p2 ∧ p2 ≤ 200) (q4 : 10 ≤ p3 ∧ p3 ≤ 200) (q5 : 5 ≤ p4 ∧ p4 ≤ 60) : ∃ mc ms : Nat, mc ≤ 16384 ∧ ms ≤ 98304 ∧ az_M l G yL_addReach (az_wsH yL_addReach cL_addReach 7 (some FieldType.int) [(0, 11, 12, 20), (0, 11, 18, 22)]) 10 [.ref (ρ.1 0), .int p0, .int p1, .int p2, .int p3, .int p4] (AD ρ) (KK G ρ x m ou) mc ms (QV G ρ m ou (fun ρ' x' v => v = nI nr ∧ ∃ (M' : Ms) (n' : Nat), ST (c + 1) ρ' x' M' n' (nr + 1) nb cs)) := by
  have h := S.1
  have hn := S.nle (by omega)
  have inn : ∀ {v u w : Int32}, u ≤ v ∧ v ≤ w → ¬ inI v u w = 0 := fun {v u w} g => by
    unfold inI
    rw [if_neg (Int32.not_lt.mpr g.1), if_neg (Int32.not_lt.mpr g.2)]
    decide
  have hh : (¬ inI p0 1 50 = 0 ∧ ¬ inI p1 0 60 = 0 ∧ ¬ inI p2 1 200 = 0 ∧ ¬ inI p3 10 200 = 0 ∧ ¬ inI p4 5 60 = 0) := ⟨inn q1, inn q2, inn q3, inn q4, inn q5⟩
  have TT := Tie_openT h.1 h5 (a1 := p0) (a2 := p1) (a3 := p2) (a4 := p3) (a5 := p4) ⟨i_le.mp q1.1, i_le.mp q1.2⟩ ⟨i_le.mp q2.1, i_le.mp q2.2⟩ ⟨i_le.mp q3.1, i_le.mp q3.2⟩ (i_le.mp q4.1) (i_le.mp q5.1) (by omega)
  have hle := op_le (x := x) (n := n) (nr := nr) (a1 := p0) (a2 := p1) (a3 := p2) (a4 := p3) (a5 := p4)
  have hC := capT_16 (v := (addReachX x n nr p0 p1 p2 p3 p4).2) S.2.2 (by omega)
  have hg := capT_ge (c := ρ.2.2.2.1) (N := (addReachX x n nr p0 p1 p2 p3 p4).2)
  exact ⟨_, _, by omega, by omega, H_addReach hG p0 p1 p2 p3 p4 (by decide) (XaddReach2 hG p0 p1 p2 p3 p4 hh nr h.xr h.n1 h5 n (h.mv (by omega) (by omega))) (qv_g (fun a => ⟨rfl, _, _, S.grw TT (by omega) (Bal_open S.2.1 h5) (MvX_open (h.mv (by omega) (by omega))) (fun j => adX_o (by omega)) (fun j => adX_o (by omega)) hC⟩)) (fun _ _ _ z => qg_x z)⟩
theorem addB_ok (hG : az_okS l G) (S : ST c ρ x M n nr nb cs) (h8 : nb < 8) (hk : k < nr) {p1 p2 p3 : Int32} (q1 : 5 ≤ p1 ∧ p1 ≤ 80) (q2 : 2 ≤ p2 ∧ p2 ≤ 20) (q3 : 1 ≤ p3 ∧ p3 ≤ 20) : ∃ mc ms : Nat, mc ≤ 1 ∧ ms ≤ 8 ∧ az_M l G yL_addBarge (az_wsH yL_addBarge cL_addBarge 6 (some FieldType.int) [(0, 9, 10, 28), (0, 9, 16, 20), (0, 9, 22, 22), (0, 9, 28, 55)]) 10 [.ref (ρ.1 0), .int (nI k), .int p1, .int p2, .int p3] (AD ρ) (KK G ρ x m ou) mc ms (QV G ρ m ou (fun ρ' x' v => (v = -1004 ∧ ST c ρ' x' M n nr nb cs) ∨ (v = nI nb ∧ ∃ M' : Ms, ST c ρ' x' M' n nr (nb + 1) ([nb] :: cs)))) := by
  have h := S.1
  have h6 := h.n6
  have inn : ∀ {v u w : Int32}, u ≤ v ∧ v ≤ w → ¬ inI v u w = 0 := fun {v u w} g => by
    unfold inI
    rw [if_neg (Int32.not_lt.mpr g.1), if_neg (Int32.not_lt.mpr g.2)]
    decide
  have el := lev_eq h.1.1 (show k < 6 by omega)
  by_cases hf : p2 < levM M k
  · have hlk : ∀ w i j : Nat, i < nb → x.2.2.1 w i = some j → j ≠ nb := fun w i j hi hj => by
      have := (h.1.2.2.1.2 i hi).2.2.2.2.2.2.2 w j hj
      omega
    refine ⟨1, 8, Nat.le_refl 1, Nat.le_refl 8, H_addBarge hG (nI k) p1 p2 p3 (by decide) (XaddBarge4 hG nr k h.xr h.n6 hk p1 p2 p3 (inn q1) (inn q2) (inn q3) nb h.xb h8 h.eb (h.xa hk) (by rw [el]; exact hf) hlk) ?_ ?_⟩
    · rintro v ad' K' ⟨q, e1, e2, e3⟩
      cases e1
      refine ⟨nI nb, rfl, bR ρ nb q, _, nI nb, rfl, e2, e3, rfl, Or.inr ⟨rfl, addBargeM M k nb p1 p2 p3, ?_⟩⟩
      have TT := Tie_addT (k := k) h.1 h8 hk (L := p1) (D := p2) (T := p3) ⟨i_le.mp q1.1, i_le.mp q1.2⟩ ⟨i_le.mp q2.1, i_le.mp q2.2⟩ ⟨i_le.mp q3.1, i_le.mp q3.2⟩
      obtain ⟨⟨-, a2, ⟨a3, a4, a5, a6⟩, a7, a8⟩, B, hC⟩ := S
      refine ⟨⟨TT, a2, ⟨a3, a4, a5, fun j hj => ?_⟩, ⟨?_, ?_, a7.2.2.1, a7.2.2.2.1, fun j hj => ?_⟩, rfl⟩, B.eqp (fun p hp j => ?_), hC⟩
      · rw [xI_p (by decide), xI_p (by decide), xI_p (by decide)]
        exact a6 j hj
      · rw [xI_p (by decide)]; exact a7.1
      · rw [xI_p (by decide)]; exact a7.2.1
      · rw [xI_p (by decide)]; exact a7.2.2.2.2 j hj
      · rw [xI_p (by omega)]; rfl
    · rintro E ad' K' ⟨q, e1, -⟩
      cases e1
  · exact ⟨1, 6, Nat.le_refl 1, by decide, H_addBarge hG (nI k) p1 p2 p3 (by decide) (XaddBarge3 hG nr k h.xr h.n6 hk p1 p2 p3 (inn q1) (inn q2) (inn q3) nb h.xb h8 (h.xa hk) (by rw [el]; exact hf)) (fun _ _ _ z => hx_v z) (fun _ _ _ z => Or.inr (Or.inr (Or.inr (qv_x (Or.inl ⟨rfl, S⟩) z))))⟩
end
