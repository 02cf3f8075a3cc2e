section
variable {l : Launch} {G : az_G} {ρ : Rp} {x : Xs} {m : Ms} {ou : Nat → Int64}
theorem lst_mid : ∀ (p s : List Nat) (f a : Nat) (t : List Nat), f :: t = p ++ a :: s → lst f t = lst a s
  | [], s, f, a, t, e => by
    cases e
    rfl
  | b :: p, s, f, a, t, e => by
    obtain ⟨rfl, e2⟩ := List.cons.inj e
    match t, e2 with
    | [], e2 => exact absurd e2.symm (by simp)
    | f2 :: t2, e2 => exact lst_mid p s f2 a t2 e2
theorem nI_inj8 {a b : Nat} (ha : a < 8) (hb : b < 8) (e : nI a = nI b) : a = b := by
  rcases Nat.lt_trichotomy a b with z | z | z
  · exact absurd e (nI_ne z (by omega))
  · exact z
  · exact absurd e.symm (nI_ne z (by omega))
theorem TieB.d0 {nb : Nat} {v : Int32} (B : TieB x (mI m 0 0 v) nb) : TieB x m nb := B.meq (fun p hp j => (mI_p (by omega)).symm)
theorem le4_iff {a b : Nat} (ha : a ≤ 8) (hb : b ≤ 8) : nI a + nI b ≤ 4 ↔ a + b ≤ 4 := by
  rw [nI_ad9]
  constructor
  · intro q
    rcases Nat.lt_or_ge 4 (a + b) with z | z
    · exact absurd q (show ¬ nI (a + b) ≤ nI 4 from nlt_nle z (by omega))
    · exact z
  · intro q
    exact show nI (a + b) ≤ nI 4 from nI_leT q (by omega)
theorem O_couple (hG : az_okS l G) {c : Nat} (hc : c < 512) (h : Nx c ρ x m) (p0 p1 : Int32) : XO l G ρ x m yX3_couple cX3_couple 7 (some FieldType.int) [.int p0, .int p1] [("java/lang/IndexOutOfBoundsException", 1), ("java/lang/IllegalArgumentException", 2), ("java/lang/IllegalStateException", 3)] cvI (MO l G yX4_couple cX4_couple 5 (some FieldType.int) [.int p0, .int p1] cvI (c + 1) m) := by
  obtain ⟨n, nr, nb, N, cs, h⟩ := h
  have h6 := h.n6
  have h1 := h.n1
  have hb8 := h.b8
  rcases oo_or nb (by omega) p0 with hv | ⟨a, ka, rfl⟩
  · exact xo_x (k := 1) (fun ou => Xcouple0 hG nb p0 p1 h.xb h.eb h.b8 hv) (by decide) h.cap List.mem_cons_self (fun ou' => mo_r (k := 1) (w := (0 : Int64)) (Mcouple0 hG nb p0 p1 h.mb h.b8 hv) (by decide) ⟨0, rfl, rfl⟩ mI_s (fun z => absurd z (by decide)) (h.n0))
  · obtain ⟨ra, fa, ta, ca, da, na, la4, ia, csa, lta, ata⟩ := h.cv ka
    rcases oo_or nb (by omega) p1 with hv | ⟨b, kb, rfl⟩
    · exact xo_x (k := 1) (fun ou => Xcouple00 hG nb a h.xb h.eb h.b8 ka ra fa ta ca p1 hv) (by decide) h.cap List.mem_cons_self (fun ou' => mo_r (k := 1) (w := (0 : Int64)) (Mcouple00 hG nb a h.mb h.b8 ka p1 hv) (by decide) ⟨0, rfl, rfl⟩ mI_s (fun z => absurd z (by decide)) (h.n0))
    · obtain ⟨rb, fb, tb, cb, db, nb9, lb4, ib, csb, ltb, atb⟩ := h.cv kb
      have fa8 := lta fa List.mem_cons_self
      have fb8 := ltb fb List.mem_cons_self
      by_cases he : fa = fb
      · exact xo_x (k := 2) (fun ou => Xcouple1 hG nb a b h.xb h.eb h.b8 ka kb ra fa ta ca rb fb tb cb he) (by decide) h.cap (List.mem_cons_of_mem _ List.mem_cons_self) (fun ou' => mo_r (k := 2) (w := (0 : Int64)) (Mcouple1 hG nb a b h.mb h.b8 ka kb ra fa ta da rb fb tb db (by rw [he])) (by decide) ⟨0, rfl, rfl⟩ mI_s (fun z => absurd z (by decide)) (h.n0))
      · have he2 : ¬ nI fa = nI fb := fun z => he (nI_inj8 (by omega) (by omega) z)
        have ea : x.2.1 fa 4 = m.1 13 a := (ata a ia).symm.trans (h.1.2.2.2.1 a ka).1
        have eb : x.2.1 fb 4 = m.1 13 b := (atb b ib).symm.trans (h.1.2.2.2.1 b kb).1
        by_cases h2 : ¬ x.2.1 fa 4 = x.2.1 fb 4 ∨ ¬ nI (ta.length + 1) + nI (tb.length + 1) ≤ 4
        · have h3 : ¬ m.1 13 a = m.1 13 b ∨ ¬ nI (ta.length + 1) + nI (tb.length + 1) ≤ 4 := by rw [← ea, ← eb]; exact h2
          exact xo_x (k := 3) (fun ou => Xcouple2 hG nb a b h.xb h.eb h.b8 ka kb ra fa ta ca rb fb tb cb he h2) (by decide) h.cap (List.mem_cons_of_mem _ (List.mem_cons_of_mem _ List.mem_cons_self)) (fun ou' => mo_r (k := 3) (w := (0 : Int64)) (Mcouple2 hG nb a b h.mb h.b8 ka kb ra fa ta da rb fb tb db he2 h3) (by decide) ⟨0, rfl, rfl⟩ mI_s (fun z => absurd z (by decide)) (h.n0))
        · have g1 : x.2.1 fa 4 = x.2.1 fb 4 := Decidable.byContradiction fun z => h2 (Or.inl z)
          have g2 : nI (ta.length + 1) + nI (tb.length + 1) ≤ 4 := Decidable.byContradiction fun z => h2 (Or.inr z)
          have g3 : m.1 13 a = m.1 13 b := by rw [← ea, ← eb]; exact g1
          have g4 := (le4_iff (a := ta.length + 1) (b := tb.length + 1) (by omega) (by omega)).mp g2
          have la8 := lta (lst fa ta) (lst_mem ta fa)
          have hp1 : cs.Perm ((fa :: ta) :: cs.erase (fa :: ta)) := List.perm_cons_erase csa
          have mb2 : (fb :: tb) ∈ cs.erase (fa :: ta) := (List.mem_erase_of_ne (fun z => he (List.cons.inj z).1.symm)).mpr csb
          have hp2 : (cs.erase (fa :: ta)).Perm ((fb :: tb) :: (cs.erase (fa :: ta)).erase (fb :: tb)) := List.perm_cons_erase mb2
          have TT := h.1.perm (hp1.trans (hp2.cons _))
          have TC := Tie_coupleT TT rfl (show (fa :: ta).length + (fb :: tb).length ≤ 4 from g4) g1
          have HN := h.tie TC rfl
          have BC := TC.2.2.1.d0
          obtain ⟨rc, fc, tc, cc, -, -, -, ic, csc, -, -⟩ := HN.cv ka
          have ecv : fc :: tc = fa :: ta ++ fb :: tb := fl_dj _ HN.1.2.2.2.2.1.1 _ csc _ List.mem_cons_self a ic (List.mem_append_left _ ia)
          have elen : tc.length + 1 = (ta.length + 1) + (tb.length + 1) := by
            have := congrArg List.length ecv
            rw [List.length_append] at this
            exact this
          obtain ⟨pa, sa, hsp⟩ := List.append_of_mem ia
          have hsuf : MSuf m (a :: sa) := Suf_M h.1.2.2.1 _ (suf_tail pa (a :: sa) (hsp ▸ (h.1.2.2.2.2.1.2.2 _ csa).2.2.1))
          have hlst : lst a sa = lst fa ta := (lst_mid pa sa fa a ta hsp).symm
          have cM : MCv (mI (mI m 19 (lst fa ta) (nI fb)) 18 fb (nI (lst fa ta))) a rc fc tc := by
            rw [← h.eb] at cc
            exact ⟨Pre_M BC _ cc.1, cc.2.1, Suf_M BC _ cc.2.2⟩
          refine xo_r (fun ou => Xcouple3 hG nb a b h.xb h.eb h.b8 ka kb ra fa ta ca rb fb tb cb he g1 g2 (lst fa ta) (by rw [← h.eb]; exact la8) rfl) (by decide) h.cap ⟨_, rfl, rfl⟩ (fun ou' hw => mo_r (Mcouple3 hG nb a b h.mb h.b8 ka kb ra fa ta da rb fb tb db he2 g3 g2 sa (lst fa ta) hsuf hlst (by omega) rc fc tc cM) (by decide) ⟨_, rfl, rfl⟩ mI_s (fun _ => hw.trans ?_) ((HN.le (Nat.le_succ c)).nx))
          rw [nI_ad9, elen]
theorem O_uncouple (hG : az_okS l G) {c : Nat} (hc : c < 512) (h : Nx c ρ x m) (p0 : Int32) : XO l G ρ x m yX3_uncouple cX3_uncouple 4 (some FieldType.int) [.int p0] [("java/lang/IndexOutOfBoundsException", 1), ("java/lang/IllegalStateException", 2)] cvI (MO l G yX4_uncouple cX4_uncouple 3 (some FieldType.int) [.int p0] cvI (c + 1) m) := by
  obtain ⟨n, nr, nb, N, cs, h⟩ := h
  have h6 := h.n6
  have h1 := h.n1
  have hb8 := h.b8
  rcases oo_or nb (by omega) p0 with hv | ⟨k, hk, rfl⟩
  · exact xo_x (k := 1) (fun ou => Xuncouple0 hG nb p0 h.xb h.eb h.b8 hv) (by decide) h.cap List.mem_cons_self (fun ou' => mo_r (k := 1) (w := (0 : Int64)) (Muncouple0 hG nb p0 h.mb h.b8 hv) (by decide) ⟨0, rfl, rfl⟩ mI_s (fun z => absurd z (by decide)) (h.n0))
  · have b9 := h.1.2.2.1.2 k hk
    obtain ⟨rk, fk, tk, ck, dk, nk, lk4, ik, csk, ltk, atk⟩ := h.cv hk
    obtain ⟨pk, sk, hsp⟩ := List.append_of_mem ik
    have hL := h.1.2.2.2.2.1.2.2 _ csk
    have hah := hL.2.2.2.1
    rw [hsp] at hah
    have hx := (ah_split pk none hah).2.1
    rcases List.eq_nil_or_concat pk with z | ⟨p2, d, z⟩
    · subst z
      have hx2 : x.2.2.1 0 k = none := hx
      have hm2 : m.1 18 k = (-1) := by rw [b9.2.2.2.2.2.1, hx2]; rfl
      exact xo_x (k := 2) (fun ou => Xuncouple1 hG nb k h.xb h.eb h.b8 hk hx2) (by decide) h.cap (List.mem_cons_of_mem _ List.mem_cons_self) (fun ou' => mo_r (k := 2) (w := (0 : Int64)) (Muncouple1 hG nb k h.mb h.b8 hk hm2) (by decide) ⟨0, rfl, rfl⟩ mI_s (fun z => absurd z (by decide)) (h.n0))
    · have z2 : pk = p2 ++ [d] := by rw [z, List.concat_eq_append]
      have hx2 : x.2.2.1 0 k = some d := by rw [hx, z2, List.getLast?_concat]
      have hm2 : m.1 18 k = nI d := by rw [b9.2.2.2.2.2.1, hx2]; rfl
      have hd : d < nb := b9.2.2.2.2.2.2.2 0 d hx2
      have hsp2 : fk :: tk = p2 ++ d :: k :: sk := by rw [hsp, z2, List.append_assoc]; rfl
      have hp1 : cs.Perm ((p2 ++ d :: k :: sk) :: cs.erase (fk :: tk)) := by rw [← hsp2]; exact List.perm_cons_erase csk
      have TC := Tie_uncoupleT (h.1.perm hp1)
      have HN := h.tie TC rfl
      have BC := TC.2.2.1.d0
      obtain ⟨rc, fc, tc, cc, -, -, -, ic, csc, -, -⟩ := HN.cv hd
      have cM : MCv (mI (mI m 19 d (-1)) 18 k (-1)) d rc fc tc := by
        have cc2 := cc
        rw [← h.eb] at cc2
        exact ⟨Pre_M BC _ cc2.1, cc2.2.1, Suf_M BC _ cc2.2.2⟩
      refine xo_r (fun ou => Xuncouple2 hG nb k h.xb h.eb h.b8 hk d (by rw [← h.eb]; exact hd) hx2 rc fc tc cc) (by decide) h.cap ⟨_, rfl, rfl⟩ (fun ou' hw => mo_r (Muncouple2 hG nb k h.mb h.b8 hk d (by omega) hm2 rc fc tc cM) (by decide) ⟨_, rfl, rfl⟩ mI_s (fun _ => hw.trans ?_) ((HN.le (Nat.le_succ c)).nx))
      rfl
end
