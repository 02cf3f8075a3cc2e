section
variable {l : Launch} {G : az_G} {ρ : Rp} {x : Xs} {m : Mz} {ou : Nat → Int64}
theorem hq_v {v0 : Int32} {ad : az_A} {K : az_K} : ∀ (v : Option Value) (ad' : az_A) (K' : az_K), az_r (some (.int v0)) ad K (.inl v) ad' K' → ∃ u : Int32, v = some (.int u) ∧ az_r (some (.int v0)) ad K (.inl (some (.int u))) ad' K' := by
  rintro v ad' K' ⟨h1, h2, h3⟩
  cases h1
  exact ⟨v0, rfl, rfl, h2, h3⟩
theorem hq_b {v0 : Int32} {ad : az_A} {K : az_K} (h01 : v0 = 0 ∨ v0 = 1) : ∀ (v : Option Value) (ad' : az_A) (K' : az_K), az_r (some (.int v0)) ad K (.inl v) ad' K' → ∃ u : Int32, v = some (.int u) ∧ az_r (some (.int v0)) ad K (.inl (some (.int (if u = 0 then 0 else 1)))) ad' K' := by
  rintro v ad' K' ⟨h1, h2, h3⟩
  cases h1
  refine ⟨v0, rfl, ?_, h2, h3⟩
  rcases h01 with h | h <;> subst h <;> rfl
theorem hq_l {v0 : Int64} {ad : az_A} {K : az_K} : ∀ (v : Option Value) (ad' : az_A) (K' : az_K), az_r (some (.long v0)) ad K (.inl v) ad' K' → ∃ u : Int64, v = some (.long u) ∧ az_r (some (.long v0)) ad K (.inl (some (.long u))) ad' K' := by
  rintro v ad' K' ⟨h1, h2, h3⟩
  cases h1
  exact ⟨v0, rfl, rfl, h2, h3⟩
theorem hq_x {v0 : Option Value} {ad ad' : az_A} {K K' : az_K} {E : String} {P : Prop} (h : az_r v0 ad K (.inr E) ad' K') : P := by
  obtain ⟨h, -⟩ := h
  cases h
theorem hx_v {E0 : String} {ad ad' : az_A} {K K' : az_K} {v : Option Value} {P : Prop} (h : az_x E0 ad K (.inl v) ad' K') : P := by
  obtain ⟨h, -⟩ := h
  cases h
theorem hx_e {E0 E : String} {ad ad' : az_A} {K K' : az_K} {v : Option Value} (h : az_x E0 ad K (.inr E) ad' K') : E = E0 ∧ az_r v ad K (.inl v) ad' K' := ⟨Sum.inr.inj h.1, rfl, h.2.1, h.2.2⟩
theorem k1_lt {a b : Nat} (hb : b < 100000) (h : ¬ nI a ≤ nI b + 1) : b + 1 < a := by
  rw [nI_1] at h
  rcases Nat.lt_or_ge (b + 1) a with q | q
  · exact q
  · exact absurd (nI_leT q (by omega)) h
def fuX (x : Xs) (k : Nat) : Int32 := if x.1 4 (k + 13) ≤ 0 then 0 else 1
theorem fuX_01 {k : Nat} : fuX x k = 0 ∨ fuX x k = 1 := by
  unfold fuX
  split
  · exact Or.inl rfl
  · exact Or.inr rfl
theorem dd_eq {k : Nat} (h0 : 0 < k) (h6 : k ≤ 6) (v : Int32) : Op.cmpValue (FP.dcmp (FP.ddiv (FP.i2d v) (FP.i2d (nI k))) (FP.ddiv (FP.i2d v) (FP.i2d (nI k)))) .l = 0 := by
  have hz : ¬ Jvm.FP.Core.DZero (Jvm.FP.Core.i2d (nI k)) := fun z => absurd ((Jvm.FP.Core.zero_bits2 _).mp z) (Jvm.FP.Core.i2d_ne_zero (nI_nz9 h0 (by omega)))
  have hn := Jvm.FP.Core.ddiv_out (Jvm.FP.Core.DFin.notNaN (Jvm.FP.Core.i2d_fin v)) (Jvm.FP.Core.i2d_fin (nI k)) hz
  have e : FP.dcmp (FP.ddiv (FP.i2d v) (FP.i2d (nI k))) (FP.ddiv (FP.i2d v) (FP.i2d (nI k))) = some .eq := Jvm.FP.Core.dcmp_self ((Jvm.FP.Core.notNaN_iff _).mp hn)
  rw [e]
  rfl
end
