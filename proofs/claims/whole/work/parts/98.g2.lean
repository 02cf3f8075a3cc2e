section
variable {l : Launch} {G : az_G} {ρ : Rp} {x : Xs} {m : Ms} {ou : Nat → Int64}
theorem NX.cv {c n nr nb N : Nat} {cs : List (List Nat)} (h : NX c ρ x m n nr nb N cs) {k : Nat} (hk : k < nb) : ∃ (rl : List Nat) (f : Nat) (t : List Nat), XCv ρ.2.2.2.2.2 x k rl f t ∧ MCv m k rl f t ∧ (f :: t).Nodup ∧ t.length < 4 ∧ k ∈ f :: t ∧ (f :: t) ∈ cs ∧ (∀ d ∈ f :: t, d < nb) ∧ ∀ d ∈ f :: t, x.2.1 d 4 = x.2.1 f 4 := by
  obtain ⟨rl, f, t, a1, a2, a3, a4, a5, a6⟩ := CsT.cv h.1.2.2.2.2.1 hk
  have B := h.1.2.2.1
  refine ⟨rl, f, t, by rw [← h.eb]; exact a1, ⟨Pre_M B _ a1.1, a1.2.1, Suf_M B _ a1.2.2⟩, a2, ?_, a4, a5, Suf_lt _ a1.2.2, a6⟩
  have e : (f :: t).length = t.length + 1 := rfl
  omega
theorem fl_0 {n nr nb k r : Nat} (T : TieW x n m nr) (B : TieB x m nb) (hk : k < nb) (hr : r < 6) : floatX x k r 0 = floatsI m k r := by
  rw [float_eq T B hk hr]
  have e17 : (buyC m k 0).1 17 k = m.1 17 k := by rw [buyC_17, if_pos rfl, Int32.add_zero]
  have ed : deepM (buyC m k 0) k = deepM m k := by
    unfold deepM
    rw [buyC_p (p := 15) (by decide), e17, buyC_p (p := 16) (by decide)]
  have el : levM (buyC m k 0) r = levM m r := by
    unfold levM
    rw [buyC_p (by decide), buyC_p (by decide)]
  unfold floatsI
  rw [el, ed]
theorem fI_01 {k r : Nat} : floatsI m k r = 0 ∨ floatsI m k r = 1 := by
  unfold floatsI
  split
  · exact Or.inl rfl
  · exact Or.inr rfl
theorem ii_zz {u : Int32} : (if (if (if u = 0 then (0 : Int32) else 1) = 0 then (0 : Int32) else 1) = 0 then (0 : Int64) else 1) = if u = 0 then 0 else 1 := by
  by_cases z : u = 0 <;> simp [z]
theorem O_isAfloat (hG : az_okS l G) {c : Nat} (hc : c < 512) (h : Nx c ρ x m) (p0 : Int32) : XO l G ρ x m yX3_isAfloat cX3_isAfloat 2 (some FieldType.boolean) [.int p0] [("java/lang/IndexOutOfBoundsException", 1)] cvZ (MO l G yX4_isAfloat cX4_isAfloat 2 (some FieldType.boolean) [.int p0] cvZ (c + 1) m) := by
  obtain ⟨n, nr, nb, N, cs, h⟩ := h
  have h6 := h.n6
  have h1 := h.n1
  have hb8 := h.b8
  rcases oo_or nb (by omega) p0 with hv | ⟨k, hk, rfl⟩
  · exact xo_x (k := 1) (fun ou => XisAfloat0 hG nb p0 h.xb h.eb h.b8 hv) (by decide) h.cap List.mem_cons_self (fun ou' => mo_r (k := 1) (w := (0 : Int64)) (MisAfloat0 hG nb p0 h.mb h.b8 hv) (by decide) ⟨0, rfl, rfl⟩ mI_s (fun z => absurd z (by decide)) (h.n0))
  · obtain ⟨r, hr, e1, e2⟩ := h.pl hk
    refine xo_r (fun ou => XisAfloat1 hG nb k h.xb h.eb h.b8 hk r (by omega) e1 (h.xa hr) (h.xt hk)) (by decide) h.cap ⟨_, rfl, rfl⟩ (fun ou' hw => mo_r (MisAfloat1 hG nb k h.mb h.b8 hk r (by omega) (h.mt hk) e2 (h.ma hr)) (by decide) ⟨_, rfl, rfl⟩ mI_s (fun _ => hw.trans ?_) (h.n0))
    rw [fl_0 h.1.1 h.1.2.2.1 hk (by omega)]
    exact ii_zz.symm
theorem O_convoySize (hG : az_okS l G) {c : Nat} (hc : c < 512) (h : Nx c ρ x m) (p0 : Int32) : XO l G ρ x m yX3_convoySize cX3_convoySize 2 (some FieldType.int) [.int p0] [("java/lang/IndexOutOfBoundsException", 1)] cvI (MO l G yX4_convoySize cX4_convoySize 2 (some FieldType.int) [.int p0] cvI (c + 1) m) := by
  obtain ⟨n, nr, nb, N, cs, h⟩ := h
  have h6 := h.n6
  have h1 := h.n1
  have hb8 := h.b8
  rcases oo_or nb (by omega) p0 with hv | ⟨k, hk, rfl⟩
  · exact xo_x (k := 1) (fun ou => XconvoySize0 hG nb p0 h.xb h.eb h.b8 hv) (by decide) h.cap List.mem_cons_self (fun ou' => mo_r (k := 1) (w := (0 : Int64)) (MconvoySize0 hG nb p0 h.mb h.b8 hv) (by decide) ⟨0, rfl, rfl⟩ mI_s (fun z => absurd z (by decide)) (h.n0))
  · obtain ⟨rl, f, t, a1, a2, -⟩ := h.cv hk
    refine xo_r (fun ou => XconvoySize1 hG nb k h.xb h.eb h.b8 hk rl f t a1) (by decide) h.cap ⟨_, rfl, rfl⟩ (fun ou' hw => mo_r (MconvoySize1 hG nb k h.mb h.b8 hk rl f t a2) (by decide) ⟨_, rfl, rfl⟩ mI_s (fun _ => hw.trans ?_) (h.n0))
    rfl
theorem O_convoyAt (hG : az_okS l G) {c : Nat} (hc : c < 512) (h : Nx c ρ x m) (p0 p1 : Int32) : XO l G ρ x m yX3_convoyAt cX3_convoyAt 5 (some FieldType.int) [.int p0, .int p1] [("java/lang/IndexOutOfBoundsException", 1), ("java/util/NoSuchElementException", 2)] cvI (MO l G yX4_convoyAt cX4_convoyAt 5 (some FieldType.int) [.int p0, .int p1] cvI (c + 1) m) := by
  obtain ⟨n, nr, nb, N, cs, h⟩ := h
  have h6 := h.n6
  have h1 := h.n1
  have hb8 := h.b8
  rcases oo_or nb (by omega) p0 with hv | ⟨k, hk, rfl⟩
  · exact xo_x (k := 1) (fun ou => XcAt0 hG nb p0 p1 h.xb h.eb h.b8 hv) (by decide) h.cap List.mem_cons_self (fun ou' => mo_r (k := 1) (w := (0 : Int64)) (McAt0 hG nb p0 p1 h.mb h.b8 hv) (by decide) ⟨0, rfl, rfl⟩ mI_s (fun z => absurd z (by decide)) (h.n0))
  · obtain ⟨rl, f, t, a1, a2, -, a4, -⟩ := h.cv hk
    by_cases z : ∃ i, i < t.length + 1 ∧ nI i = p1
    · obtain ⟨i, hi, rfl⟩ := z
      have hg : (f :: t)[i]? = some ((f :: t)[i]'hi) := List.getElem?_eq_getElem hi
      refine xo_r (fun ou => XcAt2 hG nb k h.xb h.eb h.b8 hk rl f t a1 (nI i) i _ rfl hg (by omega)) (by decide) h.cap ⟨_, rfl, rfl⟩ (fun ou' hw => mo_r (McAt2 hG nb k h.mb h.b8 hk (nI i) rl f t a2 i _ rfl hg (by omega)) (by decide) ⟨_, rfl, rfl⟩ mI_s (fun _ => hw.trans ?_) (h.n0))
      rfl
    · have hv : ∀ i, i < t.length + 1 → ¬ nI i = p1 := fun i hi hz => z ⟨i, hi, hz⟩
      exact xo_x (k := 2) (fun ou => XcAt1 hG nb k h.xb h.eb h.b8 hk rl f t a1 p1 hv) (by decide) h.cap (List.mem_cons_of_mem _ List.mem_cons_self) (fun ou' => mo_r (k := 2) (w := (0 : Int64)) (McAt1 hG nb k h.mb h.b8 hk p1 rl f t a2 hv) (by decide) ⟨0, rfl, rfl⟩ mI_s (fun z => absurd z (by decide)) (h.n0))
theorem O_partsFor (hG : az_okS l G) {c : Nat} (hc : c < 512) (h : Nx c ρ x m) (p0 p1 : Int32) : XO l G ρ x m yX3_partsFor cX3_partsFor 4 (some FieldType.int) [.int p0, .int p1] [("java/lang/IndexOutOfBoundsException", 1), ("java/lang/UnsupportedOperationException", 2)] cvI (MO l G yX4_partsFor cX4_partsFor 5 (some FieldType.int) [.int p0, .int p1] cvI (c + 1) m) := by
  obtain ⟨n, nr, nb, N, cs, h⟩ := h
  have h6 := h.n6
  have h1 := h.n1
  have hb8 := h.b8
  rcases oo_or nb (by omega) p0 with hv | ⟨k, hk, rfl⟩
  · exact xo_x (k := 1) (fun ou => XpartsFor0 hG nb p0 p1 h.xb h.eb h.b8 hv) (by decide) h.cap List.mem_cons_self (fun ou' => mo_r (k := 1) (w := (0 : Int64)) (MpartsFor0 hG nb p0 p1 h.mb h.b8 hv) (by decide) ⟨0, rfl, rfl⟩ mI_s (fun z => absurd z (by decide)) (h.n0))
  · obtain ⟨rl, f, t, a1, a2, -, -, -, -, a7, -⟩ := h.cv hk
    rcases oo_or (nr - 1) (by omega) p1 with hv | ⟨lk, hlk, rfl⟩
    · exact xo_x (k := 1) (fun ou => XpartsFor00 hG nb k h.xb h.eb h.b8 hk rl f t a1 nr p1 h.xr h.n6 h.n1 hv) (by decide) h.cap List.mem_cons_self (fun ou' => mo_r (k := 1) (w := (0 : Int64)) (MpartsFor00 hG nb k h.mb h.b8 hk nr p1 h.mr h.n6 h.n1 hv) (by decide) ⟨0, rfl, rfl⟩ mI_s (fun z => absurd z (by decide)) (h.n0))
    · have L := h.1.1.1.2.2.2.2.2.2.2.2 lk (by omega)
      have e9 : x.1 9 lk = m.1 8 lk := L.2.1
      have L0 : (0 : Int32) ≤ m.1 8 lk := i_le.mpr (by have := (L.2.2.2.2.2.1 (by omega)).2.2.1; rw [i_0]; omega)
      have q : mxL x (f :: t) 0 ≤ x.1 9 lk ↔ tlM m lk (f :: t) 0 = 0 := by
        rw [e9, mxL_le h.1.2.2.1 (f :: t) 0 a7, tl_iff]
        exact ⟨fun z => z.2, fun z => ⟨L0, z⟩⟩
      by_cases z : tlM m lk (f :: t) 0 = 0
      · have zl := (tl_iff (f :: t)).mp z
        refine xo_r (fun ou => XpartsFor2 hG nb k h.xb h.eb h.b8 hk rl f t a1 nr lk h.xr h.n6 (by omega) (q.mpr z)) (by decide) h.cap ⟨_, rfl, rfl⟩ (fun ou' hw => mo_r (MpartsFor2 hG nb k h.mb h.b8 hk nr lk h.mr h.n6 (by omega) rl f t a2 (fun d hd => Int32.not_lt.mpr (zl d hd)) z) (by decide) ⟨_, rfl, rfl⟩ mI_s (fun _ => hw.trans ?_) (h.n0))
        rw [pt_eq h.1.2.2.1 e9 (t.length + 1) (f :: t) a7 zl]
      · exact xo_x (k := 2) (fun ou => XpartsFor1 hG nb k h.xb h.eb h.b8 hk rl f t a1 nr lk h.xr h.n6 (by omega) (fun w => z (q.mp w))) (by decide) h.cap (List.mem_cons_of_mem _ List.mem_cons_self) (fun ou' => mo_r (k := 2) (w := (0 : Int64)) (MpartsFor1 hG nb k h.mb h.b8 hk nr lk h.mr h.n6 (by omega) rl f t a2 z) (by decide) ⟨0, rfl, rfl⟩ mI_s (fun z => absurd z (by decide)) (h.n0))
theorem O_greatestLoad (hG : az_okS l G) {c : Nat} (hc : c < 512) (h : Nx c ρ x m) (p0 : Int32) : XO l G ρ x m yX3_greatestLoad cX3_greatestLoad 3 (some FieldType.int) [.int p0] [("java/lang/IndexOutOfBoundsException", 1)] cvI (MO l G yX4_greatestLoad cX4_greatestLoad 3 (some FieldType.int) [.int p0] cvI (c + 1) m) := by
  obtain ⟨n, nr, nb, N, cs, h⟩ := h
  have h6 := h.n6
  have h1 := h.n1
  have hb8 := h.b8
  rcases oo_or nb (by omega) p0 with hv | ⟨k, hk, rfl⟩
  · exact xo_x (k := 1) (fun ou => XgLoad0 hG nb p0 h.xb h.eb h.b8 hv) (by decide) h.cap List.mem_cons_self (fun ou' => mo_r (k := 1) (w := (0 : Int64)) (MgreatestLoad0 hG nb p0 h.mb h.b8 hv) (by decide) ⟨0, rfl, rfl⟩ mI_s (fun z => absurd z (by decide)) (h.n0))
  · obtain ⟨r, hr, e1, e2⟩ := h.pl hk
    have e0 := fl_0 h.1.1 h.1.2.2.1 hk (show r < 6 by omega)
    have b9 := h.1.2.2.1.2 k hk
    rcases fI_01 (m := m) (k := k) (r := r) with z | z
    · refine xo_r (fun ou => XgLoad2 hG nb k h.xb h.eb h.b8 hk r (by omega) e1 (h.xa hr) (h.xt hk) (e0.trans z)) (by decide) h.cap ⟨_, rfl, rfl⟩ (fun ou' hw => mo_r (MgreatestLoad2 hG nb k h.mb h.b8 hk r (by omega) (h.mt hk) e2 (h.ma hr) z) (by decide) ⟨_, rfl, rfl⟩ mI_s (fun _ => hw.trans ?_) (h.n0))
      rfl
    · refine xo_r (fun ou => XgLoad1 hG nb k h.xb h.eb h.b8 hk r (by omega) e1 (h.xa hr) (h.xt hk) (e0.trans z)) (by decide) h.cap ⟨_, rfl, rfl⟩ (fun ou' hw => mo_r (MgreatestLoad1 hG nb k h.mb h.b8 hk r (by omega) (h.mt hk) e2 (h.ma hr) z) (by decide) ⟨_, rfl, rfl⟩ mI_s (fun _ => hw.trans ?_) (h.n0))
      rw [lev_eq h.1.1 (by omega), b9.2.1, b9.2.2.1, b9.2.2.2.1]
      rfl
theorem O_worthIn (hG : az_okS l G) {c : Nat} (hc : c < 512) (h : Nx c ρ x m) (p0 p1 : Int32) : XO l G ρ x m yX3_worthIn cX3_worthIn 4 (some FieldType.int) [.int p0, .int p1] [("java/lang/IndexOutOfBoundsException", 1)] cvI (MO l G yX4_worthIn cX4_worthIn 3 (some FieldType.int) [.int p0, .int p1] cvI (c + 1) m) := by
  obtain ⟨n, nr, nb, N, cs, h⟩ := h
  have h6 := h.n6
  have h1 := h.n1
  have hb8 := h.b8
  rcases oo_or nb (by omega) p0 with hv | ⟨k, hk, rfl⟩
  · exact xo_x (k := 1) (fun ou => XworthIn0 hG nb p0 p1 h.xb h.eb h.b8 hv) (by decide) h.cap List.mem_cons_self (fun ou' => mo_r (k := 1) (w := (0 : Int64)) (MworthIn0 hG nb p0 p1 h.mb h.b8 hv) (by decide) ⟨0, rfl, rfl⟩ mI_s (fun z => absurd z (by decide)) (h.n0))
  · rcases oo_or nr (by omega) p1 with hv | ⟨r, hr, rfl⟩
    · exact xo_x (k := 1) (fun ou => XworthIn00 hG nb k h.xb h.eb h.b8 hk nr h.xr h.n6 p1 hv) (by decide) h.cap List.mem_cons_self (fun ou' => mo_r (k := 1) (w := (0 : Int64)) (MworthIn00 hG nb k h.mb h.b8 hk nr h.mr h.n6 p1 hv) (by decide) ⟨0, rfl, rfl⟩ mI_s (fun z => absurd z (by decide)) (h.n0))
    · refine xo_r (fun ou => XworthIn1 hG nb k h.xb h.eb h.b8 hk nr h.xr h.n6 r hr) (by decide) h.cap ⟨_, rfl, rfl⟩ (fun ou' hw => mo_r (MworthIn1 hG nb k h.mb h.b8 hk nr h.mr h.n6 r hr) (by decide) ⟨_, rfl, rfl⟩ mI_s (fun _ => hw.trans ?_) (h.n0))
      rw [(h.1.2.2.1.2 k hk).2.2.2.1, (h.1.2.1 r hr).1]
end
