section
variable {l : Launch} {G : az_G} {ρ : Rp} {x x' : Xs} {m : Mz} {M M' : Ms} {ou : Nat → Int64} {n nr nb c N f r dst k : Nat} {t : List Nat} {cs : List (List Nat)}
/-- the end of a wrapper's call whose rows may have grown: its answer, the class's state x' with the picture M', n' -/
def QW (G : az_G) (ρ : Rp) (m : Mz) (ou : Nat → Int64) (c : Nat) (x' : Xs) (M' : Ms) (n' nr nb : Nat) (cs : List (List Nat)) (v : Int32) (mc ms : Nat) : az_O → az_A → az_K → Prop := fun o ad' K' => ∃ (a : Nat → Nat) (C : Nat), o = .inl (some (.int v)) ∧ ad' = AD (gR ρ a C) ∧ K' = KK G (gR ρ a C) x' m ou ∧ ρ.2.2.2.1 + mc ≤ C + 1 ∧ 6 * ρ.2.2.2.1 + ms ≤ 6 * C + 6 ∧ C ≤ 16384 ∧ ST c (gR ρ a C) x' M' n' nr nb cs
theorem qb_g {C : Nat} (h1 : ρ.2.2.2.1 ≤ C) (hC : C ≤ 16384) : ρ.2.2.2.1 + (C - ρ.2.2.2.1) ≤ 16385 ∧ 6 * ρ.2.2.2.1 + 6 * (C - ρ.2.2.2.1) ≤ 98310 := by omega
theorem qb_x {C : Nat} (h1 : ρ.2.2.2.1 ≤ C) (hC : C ≤ 16384) : ρ.2.2.2.1 + (C - ρ.2.2.2.1 + 1) ≤ 16385 ∧ 6 * ρ.2.2.2.1 + (6 * (C - ρ.2.2.2.1) + 6) ≤ 98310 := by omega
theorem qw_g {C : Nat} {v v0 : Int32} (h1 : ρ.2.2.2.1 ≤ C) (hC : C ≤ 16384) (hS : ∀ a : Nat → Nat, ST c (gR ρ a C) x' M' n nr nb cs) (hv : v0 = v) : ∀ (w : Option Value) (ad' : az_A) (K' : az_K), az_g G (some (.int v0)) ρ C x' m ou (.inl w) ad' K' → ∃ u : Int32, w = some (.int u) ∧ QW G ρ m ou c x' M' n nr nb cs v (C - ρ.2.2.2.1) (6 * (C - ρ.2.2.2.1)) (.inl (some (.int u))) ad' K' := by
  rintro w ad' K' ⟨a, -, e1, e2, e3⟩
  cases e1
  exact ⟨v0, rfl, a, C, by rw [hv], e2, e3, by omega, by omega, hC, hS a⟩
theorem qw_b {C : Nat} {v v0 : Int32} (h1 : ρ.2.2.2.1 ≤ C) (hC : C ≤ 16384) (hS : ∀ a : Nat → Nat, ST c (gR ρ a C) x' M' n nr nb cs) (hv : (if v0 = 0 then 0 else 1) = v) : ∀ (w : Option Value) (ad' : az_A) (K' : az_K), az_g G (some (.int v0)) ρ C x' m ou (.inl w) ad' K' → ∃ u : Int32, w = some (.int u) ∧ QW G ρ m ou c x' M' n nr nb cs v (C - ρ.2.2.2.1) (6 * (C - ρ.2.2.2.1)) (.inl (some (.int (if u = 0 then 0 else 1)))) ad' K' := by
  rintro w ad' K' ⟨a, -, e1, e2, e3⟩
  cases e1
  exact ⟨v0, rfl, a, C, by rw [hv], e2, e3, by omega, by omega, hC, hS a⟩
theorem qg_x {v : Option Value} {C : Nat} {E : String} {ad' : az_A} {K' : az_K} {P : Prop} (h : az_g G v ρ C x' m ou (.inr E) ad' K') : P := by
  obtain ⟨a, -, e1, -⟩ := h
  cases e1
theorem qgx_v {E0 : String} {C : Nat} {w : Option Value} {ad' : az_A} {K' : az_K} {P : Prop} (h : az_gx G E0 ρ C x' m ou (.inl w) ad' K') : P := by
  obtain ⟨a, -, e1, -⟩ := h
  cases e1
theorem qgx_e {E0 E : String} {C : Nat} {v : Int32} {ad' : az_A} {K' : az_K} (h1 : ρ.2.2.2.1 ≤ C) (hC : C ≤ 16384) (hS : ∀ a : Nat → Nat, ST c (gR ρ a C) x' M' n nr nb cs) (h : az_gx G E0 ρ C x' m ou (.inr E) ad' K') : E = E0 ∧ QW G ρ m ou c x' M' n nr nb cs v (C - ρ.2.2.2.1 + 1) (6 * (C - ρ.2.2.2.1) + 6) (.inl (some (.int v))) ad' K' := by
  obtain ⟨a, -, e1, e2, e3⟩ := h
  exact ⟨Sum.inr.inj e1, a, C, rfl, e2, e3, by omega, by omega, hC, hS a⟩
theorem can_01 (h : (tvX (saveX x) n nr f t r dst).2 = (canR M nr f t r dst).2) : (canR M nr f t r dst).2 = 0 ∨ (canR M nr f t r dst).2 = 1 := by
  rw [← h]
  exact tvX_01
theorem poss_ok (hG : az_okS l G) (hc : c ≤ 64) (S : ST c ρ x M n nr nb cs) (hk : k < nb) (hcs : (f :: t) ∈ cs) (hin : k ∈ f :: t) (hr : r < nr) (hat : M.1 13 k = nI r) (hd : dst < nr) : ∃ mc ms : Nat, ρ.2.2.2.1 + mc ≤ 16385 ∧ 6 * ρ.2.2.2.1 + ms ≤ 98310 ∧ az_M l G yL_isPossible (az_wsH yL_isPossible cL_isPossible 4 (some FieldType.int) [(0, 14, 15, 28)]) 10 [.ref (ρ.1 0), .int (nI k), .int (nI dst)] (AD ρ) (KK G ρ x m ou) mc ms (QW G ρ m ou c (crX x n nr f t r dst) M n nr nb cs (canR M nr f t r dst).2 mc ms) := by
  have h := S.1
  have h6 := h.n6
  have hn := S.nle hc
  obtain ⟨rl, aC, aP, ef, ek, h4, hnd, hq, hat2, hs⟩ := h.voyF hk hcs hin hr hat
  have ec := can_eq S hc hr hd h4 hq
  have hle := tvX_le (x := saveX x) (n := n) (f := f) h6 hr hd h4
  have hC := capT_16 (v := (tvX (saveX x) n nr f t r dst).1.2) S.2.2 (by omega)
  refine ⟨_, _, (qb_g capT_ge hC).1, (qb_g capT_ge hC).2, H_isPossible hG (nI k) (nI dst) (by decide) (XisPossible_1 hG nb k h.xb h.eb h.b8 hk nr f r dst t rl aC hr hd ef aP n (h.mv (by omega) (b_6 h4 h6))) (qw_b capT_ge hC (fun a => S.tr hc hr hd h4 a) ?_) (fun _ _ _ hp => qg_x hp)⟩
  rw [ec]
  rcases can_01 ec with z | z <;> rw [z] <;> rfl
theorem watf_ok (hG : az_okS l G) (hc : c ≤ 64) (S : ST c ρ x M n nr nb cs) (hk : k < nb) (hcs : (f :: t) ∈ cs) (hin : k ∈ f :: t) (hr : r < nr) (hat : M.1 13 k = nI r) (hd : dst < nr) : ∃ mc ms : Nat, ρ.2.2.2.1 + mc ≤ 16385 ∧ 6 * ρ.2.2.2.1 + ms ≤ 98310 ∧ az_M l G yL_waterFor (az_wsH yL_waterFor cL_waterFor 4 (some FieldType.int) [(0, 6, 7, 28), (0, 6, 12, 55)]) 10 [.ref (ρ.1 0), .int (nI k), .int (nI dst)] (AD ρ) (KK G ρ x m ou) mc ms (QW G ρ m ou c (crX x n nr f t r dst) M n nr nb cs (if (canR M nr f t r dst).2 = 0 then -1002 else watM M nr f t r dst) mc ms) := by
  have h := S.1
  have h6 := h.n6
  have hn := S.nle hc
  obtain ⟨rl, aC, aP, ef, ek, h4, hnd, hq, hat2, hs⟩ := h.voyF hk hcs hin hr hat
  have ec := can_eq S hc hr hd h4 hq
  have hle := tvX_le (x := saveX x) (n := n) (f := f) h6 hr hd h4
  have hC := capT_16 (v := (tvX (saveX x) n nr f t r dst).1.2) S.2.2 (by omega)
  by_cases hz : (canR M nr f t r dst).2 = 0
  · rw [if_pos hz]
    exact ⟨_, _, (qb_x capT_ge hC).1, (qb_x capT_ge hC).2, H_waterFor hG (nI k) (nI dst) (by decide) (XwaterFor_2 hG nb k h.xb h.eb h.b8 hk nr f r dst t rl aC hr hd ef aP n (h.mv (by omega) (b_6 h4 h6)) (ec.trans hz)) (fun _ _ _ hp => qgx_v hp) (fun _ _ _ hp => Or.inr (qgx_e capT_ge hC (fun a => S.tr hc hr hd h4 a) hp))⟩
  · rw [if_neg hz]
    exact ⟨_, _, (qb_g capT_ge hC).1, (qb_g capT_ge hC).2, H_waterFor hG (nI k) (nI dst) (by decide) (XwaterFor_1 hG nb k h.xb h.eb h.b8 hk nr f r dst t rl aC hr hd ef aP n (h.mv (by omega) (b_6 h4 h6)) (fun z => hz (ec.symm.trans z))) (qw_g capT_ge hC (fun a => S.tr hc hr hd h4 a) (wat_eq S hc hr hd h4 hq)) (fun _ _ _ hp => qg_x hp)⟩
theorem bestR_ok (hG : az_okS l G) (hc : c ≤ 64) (S : ST c ρ x M n nr nb cs) (hk : k < nb) (hcs : (f :: t) ∈ cs) (hin : k ∈ f :: t) (hr : r < nr) (hat : M.1 13 k = nI r) : ∃ (J : Nat) (x' : Xs) (mc ms : Nat), J < nr ∧ canP M nr f t r J ∧ (∀ j, j < nr → canP M nr f t r j → M.1 17 k * M.1 6 j ≤ M.1 17 k * M.1 6 J) ∧ ρ.2.2.2.1 + mc ≤ 16385 ∧ 6 * ρ.2.2.2.1 + ms ≤ 98310 ∧ az_M l G yL_bestReach (az_wsH yL_bestReach cL_bestReach 3 (some FieldType.int) [(0, 5, 6, 28)]) 10 [.ref (ρ.1 0), .int (nI k)] (AD ρ) (KK G ρ x m ou) mc ms (QW G ρ m ou c x' M n nr nb cs (nI J) mc ms) := by
  have h := S.1
  have h6 := h.n6
  have hn := S.nle hc
  obtain ⟨rl, aC, aP, ef, ek, h4, hnd, hq, hat2, hs⟩ := h.voyF hk hcs hin hr hat
  obtain ⟨⟨J, hJ, eJ, cJ, wJ⟩, T, B, hpj⟩ := best_ok (b := k) hk hr h4 hq hn nr x (nI r) (-1) 0 h.1 S.2.1 (by omega) (Or.inl ⟨rfl, by omega⟩) (fun j hj => absurd hj (Nat.not_lt_zero j))
  have hle := (bestX_le (f := f) (t := t) (k := k) (n := n) h6 hr nr x (nI r) (-1) 0 (by omega)).2
  have hb6 := b_6 h4 h6
  have hC := capT_16 (v := (bestX nr f t r k n nr x (nI r) (-1) 0).1.2) S.2.2 (by omega)
  refine ⟨J, (bestX nr f t r k n nr x (nI r) (-1) 0).1.1, _, _, hJ, cJ, wJ, (qb_g capT_ge hC).1, (qb_g capT_ge hC).2, H_bestReach hG (nI k) (by decide) (XbestReach1 hG nb k h.xb h.eb h.b8 hk nr f r r t rl aC hr ef ek aP n (h.mv (by omega) hb6)) (qw_g capT_ge hC (fun a => ?_) eJ) (fun _ _ _ hp => qg_x hp)⟩
  exact S.gr T B (MvX_best h6 hr a nr x (nI r) (-1) 0 (by omega) (h.mv (by omega) hb6)) (fun j => hpj 14 j (by omega)) (fun j => hpj 23 j (by omega)) hC
/-- carried out: the next picture -/
theorem ST.done (S : ST c ρ x M n nr nb cs) (hc : c ≤ 64) (hr : r < nr) (hd : dst < nr) (hne : ¬ r = dst) (h4 : t.length < 4) (hnd : (f :: t).Nodup) (hcs : (f :: t) ∈ cs) (hq : ∀ d ∈ f :: t, d < nb) (hat : ∀ d ∈ f :: t, M.1 13 d = nI r) (hs : XSuf nb x (f :: t)) (h1 : (tvX (saveX x) n nr f t r dst).2 = 1) (a : Nat → Nat) : ST (c + 1) (gR ρ a (capT ρ.2.2.2.1 (tvX (saveX x) n nr f t r dst).1.2)) (atX (nI dst) (tvX (saveX x) n nr f t r dst).1.1 (f :: t)) (sailM nr f t dst 6 (keepsM M) r 0).1 (tvX (saveX x) n nr f t r dst).1.2 nr nb cs := by
  have h := S.1
  have h6 := h.n6
  have hn := S.nle hc
  obtain ⟨T, -⟩ := Tie_done h.1 hr hd hne (by omega) hs hnd hcs hat (by omega) h1
  have a1 := atX_1 (v := nI dst) (f :: t) (tvX (saveX x) n nr f t r dst).1.1
  have g := MvX_tv (ρ := ρ) (x := saveX x) (n := n) (f := f) (t := t) (z := 0) (a9 := a) h6 hr hd (MvX_s (h.mv (by omega) (by have := b_6 h4 h6; omega)))
  have hle := tvX_le (x := saveX x) (n := n) (f := f) h6 hr hd h4
  refine ⟨h.gr T (by omega) (MvX_w g (by rw [a1.1]) (fun j => by rw [a1.1]) (fun j => by rw [a1.1]) (fun j => by rw [a1.1])) (fun j => ?_) (fun j => ?_), (Bal_V (Bal_save S.2.1) h6 hr hd).eqp (fun p _ j => by rw [a1.1]), capT_16 S.2.2 (by omega)⟩
  · rw [a1.1]; exact tvS_o (by omega)
  · rw [a1.1]; exact tvS_o (by omega)
/-- refused -/
theorem carR_o {p j : Nat} (hp : p ≠ 0) : (carR (tvX (saveX x) n nr f t r dst).1.1).1 p j = (crX x n nr f t r dst).1 p j := by
  unfold carR
  rw [xI_p hp, xI_p hp]
  rfl
theorem ST.ref (S : ST c ρ x M n nr nb cs) (hc : c ≤ 64) (hr : r < nr) (hd : dst < nr) (hne : ¬ r = dst) (h4 : t.length < 4) (hq : ∀ d ∈ f :: t, d < nb) (h0 : (tvX (saveX x) n nr f t r dst).2 = 0) (a : Nat → Nat) : ST c (gR ρ a (capT ρ.2.2.2.1 (tvX (saveX x) n nr f t r dst).1.2)) (carR (tvX (saveX x) n nr f t r dst).1.1) (endsM (sailM nr f t dst 6 (keepsM M) r 0).1 3) n nr nb cs := by
  have h := S.1
  have h6 := h.n6
  have hn := S.nle hc
  obtain ⟨T, -⟩ := Tie_refused h.1 hr hd hne (by omega) hq (by omega) (by rw [h0]; decide)
  have g := crX_g (f := f) (a := a) h6 hr hd h4 (h.mv (by omega) (Nat.le_refl 200))
  have hle := tvX_le (x := saveX x) (n := n) (f := f) h6 hr hd h4
  exact S.gr T ((Bal_cr S.2.1 hr hd).eqp (fun p hp j => carR_o (by omega))) (MvX_w g (carR_o (by decide)) (fun j => carR_o (by decide)) (fun j => carR_o (by decide)) (fun j => carR_o (by decide))) (fun j => (carR_o (by decide)).trans (crX_o (by omega))) (fun j => (carR_o (by decide)).trans (crX_o (by omega))) (capT_16 S.2.2 (by omega))
theorem voy1_ok (hG : az_okS l G) (S : ST c ρ x M n nr nb cs) (hk : k < nb) (hcs : (f :: t) ∈ cs) (hin : k ∈ f :: t) (hr : r < nr) (hat : M.1 13 k = nI r) : az_M l G yL_voyage (az_wsH yL_voyage cL_voyage 4 (some FieldType.int) [(0, 6, 7, 28), (0, 6, 12, 22), (0, 6, 17, 55)]) 10 [.ref (ρ.1 0), .int (nI k), .int (nI r)] (AD ρ) (KK G ρ x m ou) 1 6 (az_r (some (.int (-1002))) (AD ρ) (KK G ρ x m ou)) := by
  have h := S.1
  obtain ⟨rl, aC, aP, ef, ek, h4, hnd, hq, hat2, hs⟩ := h.voyF hk hcs hin hr hat
  exact H_voyage hG (nI k) (nI r) (by decide) (Xvoyage_1 hG nb k h.xb h.eb h.b8 hk nr f r r t rl aC hr hr ef aP rfl) (fun _ _ _ h => hx_v h) (fun _ _ _ h => Or.inr (Or.inl (hx_e h)))
theorem voy0_ok (hG : az_okS l G) (hc : c ≤ 64) (S : ST c ρ x M n nr nb cs) (hk : k < nb) (hcs : (f :: t) ∈ cs) (hin : k ∈ f :: t) (hr : r < nr) (hat : M.1 13 k = nI r) (hd : dst < nr) (hne : ¬ r = dst) (hz : (canR M nr f t r dst).2 = 0) : ∃ mc ms : Nat, ρ.2.2.2.1 + mc ≤ 16385 ∧ 6 * ρ.2.2.2.1 + ms ≤ 98310 ∧ az_M l G yL_voyage (az_wsH yL_voyage cL_voyage 4 (some FieldType.int) [(0, 6, 7, 28), (0, 6, 12, 22), (0, 6, 17, 55)]) 10 [.ref (ρ.1 0), .int (nI k), .int (nI dst)] (AD ρ) (KK G ρ x m ou) mc ms (QW G ρ m ou c (carR (tvX (saveX x) n nr f t r dst).1.1) (endsM (sailM nr f t dst 6 (keepsM M) r 0).1 3) n nr nb cs (-1003) mc ms) := by
  have h := S.1
  have h6 := h.n6
  have hn := S.nle hc
  obtain ⟨rl, aC, aP, ef, ek, h4, hnd, hq, hat2, hs⟩ := h.voyF hk hcs hin hr hat
  have ec := can_eq S hc hr hd h4 hq
  have hle := tvX_le (x := saveX x) (n := n) (f := f) h6 hr hd h4
  have hC := capT_16 (v := (tvX (saveX x) n nr f t r dst).1.2) S.2.2 (by omega)
  exact ⟨_, _, (qb_x capT_ge hC).1, (qb_x capT_ge hC).2, H_voyage hG (nI k) (nI dst) (by decide) (Xvoyage_3 hG nb k h.xb h.eb h.b8 hk nr f r dst t rl aC hr hd ef aP hne n (h.mv (by omega) (b_6 h4 h6)) (ec.trans hz)) (fun _ _ _ hp => qgx_v hp) (fun _ _ _ hp => Or.inr (Or.inr (qgx_e capT_ge hC (fun a => S.ref hc hr hd hne h4 hq (ec.trans hz) a) hp)))⟩
theorem voy2_ok (hG : az_okS l G) (hc : c ≤ 64) (S : ST c ρ x M n nr nb cs) (hk : k < nb) (hcs : (f :: t) ∈ cs) (hin : k ∈ f :: t) (hr : r < nr) (hat : M.1 13 k = nI r) (hd : dst < nr) (hne : ¬ r = dst) (hz : ¬ (canR M nr f t r dst).2 = 0) : ∃ mc ms : Nat, ρ.2.2.2.1 + mc ≤ 16385 ∧ 6 * ρ.2.2.2.1 + ms ≤ 98310 ∧ az_M l G yL_voyage (az_wsH yL_voyage cL_voyage 4 (some FieldType.int) [(0, 6, 7, 28), (0, 6, 12, 22), (0, 6, 17, 55)]) 10 [.ref (ρ.1 0), .int (nI k), .int (nI dst)] (AD ρ) (KK G ρ x m ou) mc ms (QW G ρ m ou (c + 1) (atX (nI dst) (tvX (saveX x) n nr f t r dst).1.1 (f :: t)) (sailM nr f t dst 6 (keepsM M) r 0).1 (tvX (saveX x) n nr f t r dst).1.2 nr nb cs (nI (smV M f t r dst)) mc ms) := by
  have h := S.1
  have h6 := h.n6
  have hn := S.nle hc
  obtain ⟨rl, aC, aP, ef, ek, h4, hnd, hq, hat2, hs⟩ := h.voyF hk hcs hin hr hat
  have ec := can_eq S hc hr hd h4 hq
  have hle := tvX_le (x := saveX x) (n := n) (f := f) h6 hr hd h4
  have hC := capT_16 (v := (tvX (saveX x) n nr f t r dst).1.2) S.2.2 (by omega)
  have h1 : (tvX (saveX x) n nr f t r dst).2 = 1 := tvX_01.resolve_left (fun z => hz (ec.symm.trans z))
  obtain ⟨q1, q2⟩ := lo_hi (r := r) (dst := dst) (by omega) (by omega)
  exact ⟨_, _, (qb_g capT_ge hC).1, (qb_g capT_ge hC).2, H_voyage hG (nI k) (nI dst) (by decide) (Xvoyage_2 hG nb k h.xb h.eb h.b8 hk nr f r dst t rl aC hr hd ef aP hne n (h.mv (by omega) (b_6 h4 h6)) (by rw [h1]; exact one_ne) (min r dst) (max r dst) q1 q2 (by omega) (by omega)) (qw_g capT_ge hC (fun a => S.done hc hr hd hne h4 hnd hcs hq hat2 hs h1 a) (car_V h hq hr hd h1 rfl rfl)) (fun _ _ _ hp => qg_x hp)⟩
theorem pas11_ok (hG : az_okS l G) (S : ST c ρ x M n nr nb cs) (hk : k < nb) (hcs : (f :: t) ∈ cs) (hin : k ∈ f :: t) (hr : r < nr) (hat : M.1 13 k = nI r) (he : r + 1 = nr) : az_M l G yL_pass (az_wsH yL_pass cL_pass 4 (some FieldType.int) [(0, 6, 7, 28), (0, 6, 12, 92), (0, 6, 17, 55)]) 10 [.ref (ρ.1 0), .int (nI k), .int 1] (AD ρ) (KK G ρ x m ou) 1 6 (az_r (some (.int (-1002))) (AD ρ) (KK G ρ x m ou)) := by
  have h := S.1
  obtain ⟨rl, aC, aP, ef, ek, h4, hnd, hq, hat2, hs⟩ := h.voyF hk hcs hin hr hat
  exact H_pass hG (nI k) 1 (by decide) (Xpass1_1 hG nb k h.xb h.eb h.b8 hk nr f r t rl aC hr ef aP he) (fun _ _ _ h => hx_v h) (fun _ _ _ h => Or.inr (Or.inl (hx_e h)))
theorem pas10_ok (hG : az_okS l G) (hc : c ≤ 64) (S : ST c ρ x M n nr nb cs) (hk : k < nb) (hcs : (f :: t) ∈ cs) (hin : k ∈ f :: t) (hr : r < nr) (hat : M.1 13 k = nI r) (hd : r + 1 < nr) (hz : (canR M nr f t r (r + 1)).2 = 0) : ∃ mc ms : Nat, ρ.2.2.2.1 + mc ≤ 16385 ∧ 6 * ρ.2.2.2.1 + ms ≤ 98310 ∧ az_M l G yL_pass (az_wsH yL_pass cL_pass 4 (some FieldType.int) [(0, 6, 7, 28), (0, 6, 12, 92), (0, 6, 17, 55)]) 10 [.ref (ρ.1 0), .int (nI k), .int 1] (AD ρ) (KK G ρ x m ou) mc ms (QW G ρ m ou c (carR (tvX (saveX x) n nr f t r (r + 1)).1.1) (endsM (sailM nr f t (r + 1) 6 (keepsM M) r 0).1 3) n nr nb cs (-1003) mc ms) := by
  have h := S.1
  have h6 := h.n6
  have hn := S.nle hc
  obtain ⟨rl, aC, aP, ef, ek, h4, hnd, hq, hat2, hs⟩ := h.voyF hk hcs hin hr hat
  have ec := can_eq S hc hr hd h4 hq
  have hle := tvX_le (x := saveX x) (n := n) (f := f) h6 hr hd h4
  have hC := capT_16 (v := (tvX (saveX x) n nr f t r (r + 1)).1.2) S.2.2 (by omega)
  have hne : ¬ r = (r + 1) := by omega
  exact ⟨_, _, (qb_x capT_ge hC).1, (qb_x capT_ge hC).2, H_pass hG (nI k) 1 (by decide) (Xpass1_3 hG nb k h.xb h.eb h.b8 hk nr f r t rl aC hr ef aP hd n (h.mv (by omega) (b_6 h4 h6)) (ec.trans hz)) (fun _ _ _ hp => qgx_v hp) (fun _ _ _ hp => Or.inr (Or.inr (qgx_e capT_ge hC (fun a => S.ref hc hr hd hne h4 hq (ec.trans hz) a) hp)))⟩
theorem pas12_ok (hG : az_okS l G) (hc : c ≤ 64) (S : ST c ρ x M n nr nb cs) (hk : k < nb) (hcs : (f :: t) ∈ cs) (hin : k ∈ f :: t) (hr : r < nr) (hat : M.1 13 k = nI r) (hd : r + 1 < nr) (hz : ¬ (canR M nr f t r (r + 1)).2 = 0) : ∃ mc ms : Nat, ρ.2.2.2.1 + mc ≤ 16385 ∧ 6 * ρ.2.2.2.1 + ms ≤ 98310 ∧ az_M l G yL_pass (az_wsH yL_pass cL_pass 4 (some FieldType.int) [(0, 6, 7, 28), (0, 6, 12, 92), (0, 6, 17, 55)]) 10 [.ref (ρ.1 0), .int (nI k), .int 1] (AD ρ) (KK G ρ x m ou) mc ms (QW G ρ m ou (c + 1) (atX (nI (r + 1)) (tvX (saveX x) n nr f t r (r + 1)).1.1 (f :: t)) (sailM nr f t (r + 1) 6 (keepsM M) r 0).1 (tvX (saveX x) n nr f t r (r + 1)).1.2 nr nb cs (nI (smV M f t r (r + 1))) mc ms) := by
  have h := S.1
  have h6 := h.n6
  have hn := S.nle hc
  obtain ⟨rl, aC, aP, ef, ek, h4, hnd, hq, hat2, hs⟩ := h.voyF hk hcs hin hr hat
  have ec := can_eq S hc hr hd h4 hq
  have hle := tvX_le (x := saveX x) (n := n) (f := f) h6 hr hd h4
  have hC := capT_16 (v := (tvX (saveX x) n nr f t r (r + 1)).1.2) S.2.2 (by omega)
  have hne : ¬ r = (r + 1) := by omega
  have h1' : (tvX (saveX x) n nr f t r (r + 1)).2 = 1 := tvX_01.resolve_left (fun z => hz (ec.symm.trans z))
  obtain ⟨q1, q2⟩ := lo_hi (r := r) (dst := (r + 1)) (by omega) (by omega)
  exact ⟨_, _, (qb_g capT_ge hC).1, (qb_g capT_ge hC).2, H_pass hG (nI k) 1 (by decide) (Xpass1_2 hG nb k h.xb h.eb h.b8 hk nr f r t rl aC hr ef aP hd n (h.mv (by omega) (b_6 h4 h6)) (by rw [h1']; exact one_ne) (min r (r + 1)) (max r (r + 1)) q1 q2 (by omega) (by omega)) (qw_g capT_ge hC (fun a => S.done hc hr hd hne h4 hnd hcs hq hat2 hs h1' a) (car_V h hq hr hd h1' rfl rfl)) (fun _ _ _ hp => qg_x hp)⟩
theorem pas01_ok (hG : az_okS l G) (S : ST c ρ x M n nr nb cs) (hk : k < nb) (hcs : (f :: t) ∈ cs) (hin : k ∈ f :: t) (hr : r < nr) (hat : M.1 13 k = nI r) (he : r = 0) : az_M l G yL_pass (az_wsH yL_pass cL_pass 4 (some FieldType.int) [(0, 6, 7, 28), (0, 6, 12, 92), (0, 6, 17, 55)]) 10 [.ref (ρ.1 0), .int (nI k), .int 0] (AD ρ) (KK G ρ x m ou) 1 6 (az_r (some (.int (-1002))) (AD ρ) (KK G ρ x m ou)) := by
  have h := S.1
  obtain ⟨rl, aC, aP, ef, ek, h4, hnd, hq, hat2, hs⟩ := h.voyF hk hcs hin hr hat
  exact H_pass hG (nI k) 0 (by decide) (Xpass0_1 hG nb k h.xb h.eb h.b8 hk nr f r t rl aC hr ef aP he) (fun _ _ _ h => hx_v h) (fun _ _ _ h => Or.inr (Or.inl (hx_e h)))
theorem pas00_ok (hG : az_okS l G) (hc : c ≤ 64) (S : ST c ρ x M n nr nb cs) (hk : k < nb) (hcs : (f :: t) ∈ cs) (hin : k ∈ f :: t) (hr : r < nr) (hat : M.1 13 k = nI r) (h1 : 1 ≤ r) (hz : (canR M nr f t r (r - 1)).2 = 0) : ∃ mc ms : Nat, ρ.2.2.2.1 + mc ≤ 16385 ∧ 6 * ρ.2.2.2.1 + ms ≤ 98310 ∧ az_M l G yL_pass (az_wsH yL_pass cL_pass 4 (some FieldType.int) [(0, 6, 7, 28), (0, 6, 12, 92), (0, 6, 17, 55)]) 10 [.ref (ρ.1 0), .int (nI k), .int 0] (AD ρ) (KK G ρ x m ou) mc ms (QW G ρ m ou c (carR (tvX (saveX x) n nr f t r (r - 1)).1.1) (endsM (sailM nr f t (r - 1) 6 (keepsM M) r 0).1 3) n nr nb cs (-1003) mc ms) := by
  have h := S.1
  have h6 := h.n6
  have hn := S.nle hc
  obtain ⟨rl, aC, aP, ef, ek, h4, hnd, hq, hat2, hs⟩ := h.voyF hk hcs hin hr hat
  have ec := can_eq S hc hr (show r - 1 < nr by omega) h4 hq
  have hle := tvX_le (x := saveX x) (n := n) (f := f) h6 hr (show r - 1 < nr by omega) h4
  have hC := capT_16 (v := (tvX (saveX x) n nr f t r (r - 1)).1.2) S.2.2 (by omega)
  have hne : ¬ r = (r - 1) := by omega
  exact ⟨_, _, (qb_x capT_ge hC).1, (qb_x capT_ge hC).2, H_pass hG (nI k) 0 (by decide) (Xpass0_3 hG nb k h.xb h.eb h.b8 hk nr f r t rl aC hr ef aP (by omega) (show r - 1 < nr by omega) n (h.mv (by omega) (b_6 h4 h6)) (ec.trans hz)) (fun _ _ _ hp => qgx_v hp) (fun _ _ _ hp => Or.inr (Or.inr (qgx_e capT_ge hC (fun a => S.ref hc hr (show r - 1 < nr by omega) hne h4 hq (ec.trans hz) a) hp)))⟩
theorem pas02_ok (hG : az_okS l G) (hc : c ≤ 64) (S : ST c ρ x M n nr nb cs) (hk : k < nb) (hcs : (f :: t) ∈ cs) (hin : k ∈ f :: t) (hr : r < nr) (hat : M.1 13 k = nI r) (h1 : 1 ≤ r) (hz : ¬ (canR M nr f t r (r - 1)).2 = 0) : ∃ mc ms : Nat, ρ.2.2.2.1 + mc ≤ 16385 ∧ 6 * ρ.2.2.2.1 + ms ≤ 98310 ∧ az_M l G yL_pass (az_wsH yL_pass cL_pass 4 (some FieldType.int) [(0, 6, 7, 28), (0, 6, 12, 92), (0, 6, 17, 55)]) 10 [.ref (ρ.1 0), .int (nI k), .int 0] (AD ρ) (KK G ρ x m ou) mc ms (QW G ρ m ou (c + 1) (atX (nI (r - 1)) (tvX (saveX x) n nr f t r (r - 1)).1.1 (f :: t)) (sailM nr f t (r - 1) 6 (keepsM M) r 0).1 (tvX (saveX x) n nr f t r (r - 1)).1.2 nr nb cs (nI (smV M f t r (r - 1))) mc ms) := by
  have h := S.1
  have h6 := h.n6
  have hn := S.nle hc
  obtain ⟨rl, aC, aP, ef, ek, h4, hnd, hq, hat2, hs⟩ := h.voyF hk hcs hin hr hat
  have ec := can_eq S hc hr (show r - 1 < nr by omega) h4 hq
  have hle := tvX_le (x := saveX x) (n := n) (f := f) h6 hr (show r - 1 < nr by omega) h4
  have hC := capT_16 (v := (tvX (saveX x) n nr f t r (r - 1)).1.2) S.2.2 (by omega)
  have hne : ¬ r = (r - 1) := by omega
  have h1' : (tvX (saveX x) n nr f t r (r - 1)).2 = 1 := tvX_01.resolve_left (fun z => hz (ec.symm.trans z))
  obtain ⟨q1, q2⟩ := lo_hi (r := r) (dst := (r - 1)) (by omega) (by omega)
  exact ⟨_, _, (qb_g capT_ge hC).1, (qb_g capT_ge hC).2, H_pass hG (nI k) 0 (by decide) (Xpass0_2 hG nb k h.xb h.eb h.b8 hk nr f r t rl aC hr ef aP (by omega) (show r - 1 < nr by omega) n (h.mv (by omega) (b_6 h4 h6)) (by rw [h1']; exact one_ne) (min r (r - 1)) (max r (r - 1)) q1 q2 (by omega) (by omega)) (qw_g capT_ge hC (fun a => S.done hc hr (show r - 1 < nr by omega) hne h4 hnd hcs hq hat2 hs h1' a) (car_V h hq hr (show r - 1 < nr by omega) h1' rfl rfl)) (fun _ _ _ hp => qg_x hp)⟩
end
