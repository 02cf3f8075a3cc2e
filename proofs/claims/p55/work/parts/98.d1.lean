section
variable {x x' : Xs} {m m' : Ms} {m9 : Mz} {n n' nr nr' nb N k b r : Nat} {cs cs' : List (List Nat)}
theorem adB_p {p j : Nat} {L D T : Int32} (hp : p ≠ 0 ∧ p ≠ 13 ∧ p ≠ 14 ∧ p ≠ 15 ∧ p ≠ 16 ∧ p ≠ 18 ∧ p ≠ 19) : (addBargeM m k nb L D T).1 p j = m.1 p j := by
  unfold addBargeM
  rw [mI_p (by omega), mI_p (by omega), mI_p (by omega), mI_p (by omega), mI_p (by omega), mI_p (by omega), mI_p (by omega), mI_p (by omega)]
theorem adB_0 {j : Nat} {L D T : Int32} (hj : j ≠ 0 ∧ j ≠ 12) : (addBargeM m k nb L D T).1 0 j = m.1 0 j := by
  unfold addBargeM
  rw [mI_k hj.1, mI_k hj.2, mI_p (by decide), mI_p (by decide), mI_p (by decide), mI_p (by decide), mI_p (by decide), mI_p (by decide)]
/-- a new barge: class and reference; the class's count of barges is written by the caller -/
theorem Tie_addT (h : Tie x n m nr nb N cs) (h8 : nb < 8) (hk : k < nr) {L D T : Int32} (h1 : 5 ≤ L.toInt ∧ L.toInt ≤ 80) (h2 : 2 ≤ D.toInt ∧ D.toInt ≤ 20) (h3 : 1 ≤ T.toInt ∧ T.toInt ≤ 20) : Tie (xI (nbX x nb L D T (nI k)) 0 7 (nI (nb + 1))) n (addBargeM m k nb L D T) nr (nb + 1) N ([nb] :: cs) := by
  obtain ⟨W, R, B, A, C, F, X, g8, g9, g10⟩ := h
  obtain ⟨f1, f2, f3, f4, f5, f6, f7, f8⟩ := F
  have B' := TieB_add (k := k) B h8 h1 h2 h3 (f8 nb (Nat.le_refl _) h8) f7
  refine ⟨(W.xeq (x' := xI (nbX x nb L D T (nI k)) 0 7 (nI (nb + 1))) (xI_p (by decide)) (xI_p (by decide)) (fun p hp => xI_row (by unfold xW at hp; omega))).meq (adB_0 (by decide)) (adB_0 (by decide)) ⟨adB_0 (by decide), adB_0 (by decide), adB_0 (by decide)⟩ (fun p hp => funext fun j => adB_p (by unfold mW at hp; omega)), fun j hj => ?_, B'.xeq rfl rfl, fun b hb => ?_, CsT.xeq (CsT_add C (L := L) (D := D) (T := T) (R := nI k)) (fun _ _ => rfl) rfl, ⟨?_, xI_s, ?_, f4, ?_, ?_, fun w c hw => ?_, fun c z1 z2 => (adB_p (by decide)).trans (f8 c (by omega) z2)⟩, ⟨(adB_0 (by decide)).trans X.1, X.2.1, fun i hi => ?_⟩, fun j => ?_, (xI_p (by decide)).trans g9, (xI_p (by decide)).trans g10⟩
  · rw [xI_p (by decide), xI_p (by decide), adB_p (by decide), adB_p (by decide)]; exact R j hj
  · have m13 : (addBargeM m k nb L D T).1 13 b = if b = nb then nI k else m.1 13 b := by
      unfold addBargeM
      rw [mI_p (by decide), mI_p (by decide), mI_p (by decide), mI_p (by decide), mI_p (by decide), mI_p (by decide), mI_p (by decide)]
      by_cases z : b = nb
      · subst z; rw [if_pos rfl, mI_s]
      · rw [if_neg z, mI_k z]
    rw [m13]
    show up1 x.2.1 nb (nbF L D T (nI k)) b 4 = _ ∧ _
    by_cases z : b = nb
    · subst z
      rw [if_pos rfl, up1_s]
      exact ⟨rfl, k, hk, rfl⟩
    · rw [if_neg z, up1_n z]
      exact A b (by omega)
  · rw [xI_k (by decide), adB_0 (by decide)]; exact f1
  · unfold addBargeM
    rw [mI_k (by decide), mI_s]
  · rw [xI_k (by decide), adB_0 (by decide)]; exact f5
  · rw [xI_k (by decide), adB_0 (by decide)]; exact f6
  · show up2 (up2 x.2.2.1 0 nb none) 1 nb none w c = none
    rw [up2_p (by omega), up2_p (by omega)]; exact f7 w c hw
  · rw [xI_p (by decide), adB_p (by decide)]; exact X.2.2 i hi
  · rw [xI_p (by decide)]; exact g8 j
end
