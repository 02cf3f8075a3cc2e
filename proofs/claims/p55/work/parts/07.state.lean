/-! THE STATE: every cell of the class (region 0, barges region 1), of the reference (region 2), of the law's own answer row (region 3), at places with fixed numbers -/
/-- addresses of the fixed cells; of the rows that grow; of the barges; the movements' capacity, the text's capacity, how many barges -/
abbrev Rp : Type := (Nat → Nat) × (Nat → Nat) × (Nat → Nat) × Nat × Nat × Nat
abbrev Xs : Type := (Nat → Nat → Int32) × (Nat → Nat → Int32) × (Nat → Nat → Option Nat) × Int64
abbrev Ms : Type := (Nat → Nat → Int32) × Int64
/-- what else lies beside the class: the law's own rows -/
abbrev Mz : Type := (Nat → Nat → Int32) × (Nat → Bool)
def up2 {α : Type} (f : Nat → Nat → α) (p k : Nat) (v : α) : Nat → Nat → α := fun p' => if p' = p then (fun k' => if k' = k then v else f p k') else f p'
def up1 {α : Type} (f : Nat → α) (p : Nat) (v : α) : Nat → α := fun p' => if p' = p then v else f p'
theorem up2_s {α : Type} {f : Nat → Nat → α} {p k : Nat} {v : α} : up2 f p k v p k = v := by simp [up2]
theorem up2_p {α : Type} {f : Nat → Nat → α} {p k p' : Nat} {v : α} (h : p' ≠ p) : up2 f p k v p' = f p' := by simp [up2, h]
theorem up2_k {α : Type} {f : Nat → Nat → α} {p k k' : Nat} {v : α} (h : k' ≠ k) : up2 f p k v p k' = f p k' := by simp [up2, h]
theorem up2_row {f : Nat → Nat → Int32} {p k : Nat} {v : Int32} : up2 f p k v p = upd (f p) k v := by
  simp only [up2, if_true]; rfl
theorem up1_s {α : Type} {f : Nat → α} {p : Nat} {v : α} : up1 f p v p = v := by simp [up1]
theorem up1_n {α : Type} {f : Nat → α} {p p' : Nat} {v : α} (h : p' ≠ p) : up1 f p v p' = f p' := by simp [up1, h]
abbrev xI (x : Xs) (p k : Nat) (v : Int32) : Xs := (up2 x.1 p k v, x.2.1, x.2.2.1, x.2.2.2)
abbrev xR (x : Xs) (p : Nat) (f : Nat → Int32) : Xs := (up1 x.1 p f, x.2.1, x.2.2.1, x.2.2.2)
abbrev xY (x : Xs) (j k : Nat) (v : Int32) : Xs := (x.1, up2 x.2.1 j k v, x.2.2.1, x.2.2.2)
abbrev xL (x : Xs) (w j : Nat) (o : Option Nat) : Xs := (x.1, x.2.1, up2 x.2.2.1 w j o, x.2.2.2)
abbrev xP (x : Xs) (v : Int64) : Xs := (x.1, x.2.1, x.2.2.1, v)
abbrev mI (m : Ms) (p k : Nat) (v : Int32) : Ms := (up2 m.1 p k v, m.2)
abbrev mM (m : Ms) (v : Int64) : Ms := (m.1, v)
def bgs (ρ : Rp) : Nat → Option Nat := fun j => if j < ρ.2.2.2.2.2 then some (ρ.2.2.1 j) else none
def xc0 (ρ : Rp) (pu : Int64) (f : Nat → Int32) : va_E := .inr (4, [.ref (ρ.1 1), .ref (ρ.1 9), .ref (ρ.1 10), .ref (ρ.1 11), .ref (ρ.1 12), .ref (ρ.1 13), .ref (ρ.1 14), .int (f 7), .int (f 8), .long pu, .int (f 10), .int (f 11), .int (f 12), .int (f 13)])
def xc1 (G : az_G) (ρ : Rp) (i : Nat) (f : Nat → Int32) : Option va_E := match i with
  | 1 => some (.inr (3, [.ref (ρ.1 2), .ref (ρ.1 3), .ref (ρ.1 4), .ref (ρ.1 5), .ref (ρ.1 6), .ref (ρ.1 7), .ref (ρ.1 8), .int (f 7), .int (f 8)]))
  | 2 => some (.inl (G.2.2.1 0, 6, .inl f))
  | 3 => some (.inl (G.2.2.1 0, 5, .inl f))
  | 4 => some (.inl (G.2.2.1 0, 18, .inl f))
  | 5 => some (.inl (G.2.2.1 0, 5, .inl f))
  | 6 => some (.inl (G.2.2.1 0, 18, .inl f))
  | 7 => some (.inl (G.2.2.1 0, 5, .inl f))
  | 8 => some (.inr (2, [.ref (ρ.2.1 20), .ref (ρ.2.1 21), .ref (ρ.2.1 22), .int (f 3)]))
  | 9 => some (.inl (G.2.2.1 0, 5, .inl f))
  | 10 => some (.inl (G.2.2.1 0, 5, .inl f))
  | 11 => some (.inl (G.2.2.1 0, 6, .inl f))
  | 12 => some (.inl (G.2.2.1 0, 6, .inl f))
  | 13 => some (.inl (G.2.2.1 5, 8, .inr (.inr (.inr (.inr (bgs ρ))))))
  | 14 => some (.inr (0, [.ref (ρ.2.1 23), .int (f 1), .int (f 2), .int (f 3)]))
  | 20 => some (.inl (G.2.2.1 0, ρ.2.2.2.1, .inl f))
  | 21 => some (.inl (G.2.2.1 0, ρ.2.2.2.1, .inl f))
  | 22 => some (.inl (G.2.2.1 0, ρ.2.2.2.1, .inl f))
  | 23 => some (.inl (G.2.2.1 3, ρ.2.2.2.2.1, .inl f))
  | _ => none
def xc (G : az_G) (ρ : Rp) (pu : Int64) (i : Nat) (f : Nat → Int32) : Option va_E := match i with
  | 0 => some (xc0 ρ pu f)
  | i + 1 => xc1 G ρ (i + 1) f
def bc (ρ : Rp) (i : Nat) (f : Nat → Int32) (lk : Nat → Nat → Option Nat) : va_E := .inr (1, [.int (nI i), .int (f 1), .int (f 2), .int (f 3), .int (f 4), .int (f 5), va_rf ((lk 0 i).map ρ.2.2.1), va_rf ((lk 1 i).map ρ.2.2.1)])

def AD (ρ : Rp) : az_A := fun r i => match r with
  | 0 => if i < 20 then ρ.1 i else ρ.2.1 i
  | 1 => ρ.2.2.1 i
  | 2 => ρ.1 (100 + i)
  | _ => ρ.1 90
def KK (G : az_G) (ρ : Rp) (x : Xs) (m : Mz) (ou : Nat → Int64) : az_K := fun r i => match r with
  | 0 => xc G ρ x.2.2.2 i (x.1 i)
  | 1 => if i < ρ.2.2.2.2.2 then some (bc ρ i (x.2.1 i) x.2.2.1) else none
  | 2 => if m.2 i = true then some (.inl (G.2.2.1 0, 24, .inl (m.1 i))) else none
  | _ => none
theorem KK_X {G : az_G} {ρ : Rp} {x : Xs} {m : Mz} {ou : Nat → Int64} {i j : Nat} {v : Int32} {e : va_E} (h : xc G ρ x.2.2.2 i (upd (x.1 i) j v) = some e) : az_u (KK G ρ x m ou) 0 i e = KK G ρ (xI x i j v) m ou := by
  funext r i'
  by_cases hh : r = 0 ∧ i' = i
  · obtain ⟨rfl, rfl⟩ := hh
    rw [az_u_s]
    show some e = xc G ρ x.2.2.2 i' (up2 x.1 i' j v i')
    rw [up2_row, h]
  · rw [az_u_n hh]
    match r, hh with
    | 0, hh =>
      have hi : i' ≠ i := fun z => hh ⟨rfl, z⟩
      show xc G ρ x.2.2.2 i' (x.1 i') = xc G ρ x.2.2.2 i' (up2 x.1 i j v i')
      rw [up2_p hi]
    | 1, _ => rfl
    | 2, _ => rfl
    | 3, _ => rfl
    | _ + 4, _ => rfl
theorem KK_R {G : az_G} {ρ : Rp} {x : Xs} {m : Mz} {ou : Nat → Int64} {i : Nat} {f : Nat → Int32} {e : va_E} (h : xc G ρ x.2.2.2 i f = some e) : az_u (KK G ρ x m ou) 0 i e = KK G ρ (xR x i f) m ou := by
  funext r i'
  by_cases hh : r = 0 ∧ i' = i
  · obtain ⟨rfl, rfl⟩ := hh
    rw [az_u_s]
    show some e = xc G ρ x.2.2.2 i' (up1 x.1 i' f i')
    rw [up1_s, h]
  · rw [az_u_n hh]
    match r, hh with
    | 0, hh =>
      have hi : i' ≠ i := fun z => hh ⟨rfl, z⟩
      show xc G ρ x.2.2.2 i' (x.1 i') = xc G ρ x.2.2.2 i' (up1 x.1 i f i')
      rw [up1_n hi]
    | 1, _ => rfl
    | 2, _ => rfl
    | 3, _ => rfl
    | _ + 4, _ => rfl
abbrev zI (m : Mz) (p k : Nat) (v : Int32) : Mz := (up2 m.1 p k v, m.2)
/-- a new row of the law's at place i -/
abbrev zN (m : Mz) (i : Nat) : Mz := (up1 m.1 i (fun _ => 0), up1 m.2 i true)
abbrev rN (ρ : Rp) (i q : Nat) : Rp := (fun j => if j = 100 + i then q else ρ.1 j, ρ.2)
theorem KZ {G : az_G} {ρ : Rp} {x : Xs} {m : Mz} {ou : Nat → Int64} {i : Nat} (h : m.2 i = true) : KK G ρ x m ou 2 i = some (.inl (G.2.2.1 0, 24, .inl (m.1 i))) := if_pos h
theorem KK_Z {G : az_G} {ρ : Rp} {x : Xs} {m : Mz} {ou : Nat → Int64} {i j : Nat} {v : Int32} (h : m.2 i = true) : az_u (KK G ρ x m ou) 2 i (.inl (G.2.2.1 0, 24, .inl (upd (m.1 i) j v))) = KK G ρ x (zI m i j v) ou := by
  funext r i'
  by_cases hh : r = 2 ∧ i' = i
  · obtain ⟨rfl, rfl⟩ := hh
    rw [az_u_s, KZ (m := zI m i' j v) h]
    show _ = some (Sum.inl (G.2.2.1 0, 24, Sum.inl (up2 m.1 i' j v i')))
    rw [up2_row]
  · rw [az_u_n hh]
    match r, hh with
    | 2, hh =>
      have hi : i' ≠ i := fun z => hh ⟨rfl, z⟩
      show (if m.2 i' = true then some (Sum.inl (G.2.2.1 0, 24, Sum.inl (m.1 i'))) else none) = (if m.2 i' = true then some (Sum.inl (G.2.2.1 0, 24, Sum.inl (up2 m.1 i j v i'))) else none)
      rw [up2_p hi]
    | 0, _ => rfl
    | 1, _ => rfl
    | _ + 3, _ => rfl
theorem AD_N {ρ : Rp} {i q : Nat} : az_ua (AD ρ) 2 i q = AD (rN ρ i q) := by
  funext r j
  unfold az_ua
  by_cases hh : r = 2 ∧ j = i
  · obtain ⟨rfl, rfl⟩ := hh
    rw [if_pos ⟨rfl, rfl⟩]
    show q = if 100 + j = 100 + j then q else ρ.1 (100 + j)
    rw [if_pos rfl]
  · rw [if_neg hh]
    match r, hh with
    | 0, _ =>
      show (if j < 20 then ρ.1 j else ρ.2.1 j) = (if j < 20 then (if j = 100 + i then q else ρ.1 j) else ρ.2.1 j)
      by_cases h : j < 20
      · rw [if_pos h, if_pos h, if_neg (by omega)]
      · rw [if_neg h, if_neg h]
    | 1, _ => rfl
    | 2, hh =>
      have hi : j ≠ i := fun z => hh ⟨rfl, z⟩
      show ρ.1 (100 + j) = if 100 + j = 100 + i then q else ρ.1 (100 + j)
      rw [if_neg (by omega)]
    | _ + 3, _ =>
      show ρ.1 90 = if 90 = 100 + i then q else ρ.1 90
      rw [if_neg (by omega)]
theorem xc_N {G : az_G} {ρ : Rp} {i q : Nat} {pu : Int64} {j : Nat} {f : Nat → Int32} (hi : i = 0 ∨ i = 1) : xc G (rN ρ i q) pu j f = xc G ρ pu j f := by
  rcases hi with rfl | rfl
  · rfl
  · rfl
theorem KK_N {G : az_G} {ρ : Rp} {x : Xs} {m : Mz} {ou : Nat → Int64} {i q : Nat} (hi : i = 0 ∨ i = 1) : az_u (KK G ρ x m ou) 2 i (.inl (G.2.2.1 0, 24, .inl (fun _ => 0))) = KK G (rN ρ i q) x (zN m i) ou := by
  funext r i'
  by_cases hh : r = 2 ∧ i' = i
  · obtain ⟨rfl, rfl⟩ := hh
    rw [az_u_s, KZ (m := zN m i') (show up1 m.2 i' true i' = true from up1_s)]
    show _ = some (Sum.inl (G.2.2.1 0, 24, Sum.inl (up1 m.1 i' (fun _ => 0) i')))
    rw [up1_s]
  · rw [az_u_n hh]
    match r, hh with
    | 0, _ => exact (xc_N hi).symm
    | 1, _ => rfl
    | 2, hh =>
      have hi : i' ≠ i := fun z => hh ⟨rfl, z⟩
      show (if m.2 i' = true then some (Sum.inl (G.2.2.1 0, 24, Sum.inl (m.1 i'))) else none) = (if up1 m.2 i true i' = true then some (Sum.inl (G.2.2.1 0, 24, Sum.inl (up1 m.1 i (fun _ => 0) i'))) else none)
      rw [up1_n hi, up1_n hi]
    | _ + 3, _ => rfl
theorem KK_of {K K' : az_K} {r i : Nat} {e : va_E} (h1 : K' r i = some e) (h2 : ∀ r' i' : Nat, ¬ (r' = r ∧ i' = i) → K r' i' = K' r' i') : az_u K r i e = K' := by
  funext r' i'
  by_cases hh : r' = r ∧ i' = i
  · obtain ⟨rfl, rfl⟩ := hh
    rw [az_u_s, h1]
  · rw [az_u_n hh]
    exact h2 r' i' hh
theorem KK_pu {G : az_G} {ρ : Rp} {x : Xs} {m : Mz} {ou : Nat → Int64} {v : Int64} {e : va_E} (h : xc G ρ v 0 (x.1 0) = some e) : az_u (KK G ρ x m ou) 0 0 e = KK G ρ (xP x v) m ou :=
  KK_of (by rw [← h]; rfl) (fun r i hh => by
    match r, i, hh with
    | 0, 0, hh => exact absurd ⟨rfl, rfl⟩ hh
    | 0, i + 1, _ => rfl
    | 2, _, _ => rfl
    | 1, _, _ => rfl
    | 3, _, _ => rfl
    | _ + 4, _, _ => rfl)
theorem KK_Y {G : az_G} {ρ : Rp} {x : Xs} {m : Mz} {ou : Nat → Int64} {j k : Nat} {v : Int32} (hj : j < ρ.2.2.2.2.2) : az_u (KK G ρ x m ou) 1 j (bc ρ j (upd (x.2.1 j) k v) x.2.2.1) = KK G ρ (xY x j k v) m ou :=
  KK_of (by show (if j < _ then some (bc ρ j (up2 x.2.1 j k v j) _) else none) = _; rw [if_pos hj, up2_row]) (fun r i hh => by
    match r, hh with
    | 1, hh =>
      have hi : i ≠ j := fun z => hh ⟨rfl, z⟩
      show (if i < _ then some (bc ρ i (x.2.1 i) _) else none) = (if i < _ then some (bc ρ i (up2 x.2.1 j k v i) _) else none)
      rw [up2_p hi]
    | 0, _ => rfl
    | 2, _ => rfl
    | 3, _ => rfl
    | _ + 4, _ => rfl)
theorem bc_L {ρ : Rp} {i : Nat} {f : Nat → Int32} {lk lk' : Nat → Nat → Option Nat} (h0 : lk 0 i = lk' 0 i) (h1 : lk 1 i = lk' 1 i) : bc ρ i f lk = bc ρ i f lk' := by simp only [bc, h0, h1]
theorem KK_L {G : az_G} {ρ : Rp} {x : Xs} {m : Mz} {ou : Nat → Int64} {w j : Nat} {o : Option Nat} (hj : j < ρ.2.2.2.2.2) : az_u (KK G ρ x m ou) 1 j (bc ρ j (x.2.1 j) (up2 x.2.2.1 w j o)) = KK G ρ (xL x w j o) m ou :=
  KK_of (by show (if j < _ then some (bc ρ j (x.2.1 j) _) else none) = _; rw [if_pos hj]) (fun r i hh => by
    match r, hh with
    | 1, hh =>
      have hi : i ≠ j := fun z => hh ⟨rfl, z⟩
      show (if i < _ then some (bc ρ i (x.2.1 i) x.2.2.1) else none) = (if i < _ then some (bc ρ i (x.2.1 i) (up2 x.2.2.1 w j o)) else none)
      have key : ∀ u : Nat, x.2.2.1 u i = up2 x.2.2.1 w j o u i := fun u => by
        by_cases hu : u = w
        · subst hu; rw [up2_k hi]
        · rw [up2_p hu]
      rw [bc_L (key 0) (key 1)]
    | 0, _ => rfl
    | 2, _ => rfl
    | 3, _ => rfl
    | _ + 4, _ => rfl)
theorem KK_b {G : az_G} {ρ : Rp} {x : Xs} {m : Mz} {ou : Nat → Int64} {j : Nat} (hj : j < ρ.2.2.2.2.2) : KK G ρ x m ou 1 j = some (bc ρ j (x.2.1 j) x.2.2.1) := if_pos hj

theorem cX0 : az_cl 1 RX0 TX0 8 tyX0 := ⟨rfl, by decide +kernel, tyX0_ok, nmX0⟩
theorem cX1 : az_cl 2 RX1 TX1 4 tyX1 := ⟨rfl, by decide +kernel, tyX1_ok, nmX1⟩
theorem cX2 : az_cl 3 RX2 TX2 9 tyX2 := ⟨rfl, by decide +kernel, tyX2_ok, nmX2⟩
theorem cX3 : az_cl 4 RX3 TX3 14 tyX3 := ⟨rfl, by decide +kernel, tyX3_ok, nmX3⟩
theorem cJ4 : az_cl 0 RJ4 TJ4 4 tyJ4 := ⟨rfl, by decide +kernel, tyJ4_ok, nmJ4⟩
