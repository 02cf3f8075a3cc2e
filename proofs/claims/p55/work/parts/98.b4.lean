section
variable {x x' : Xs} {m m' : Ms} {n nr nb k b r : Nat}
/-- the barges of a convoy: each is coupled ahead to the one before -/
def XAh (x : Xs) : Option Nat → List Nat → Prop
  | _, [] => True
  | p, b :: r => x.2.2.1 0 b = p ∧ XAh x (some b) r
/-- the convoys -/
def CsT (x : Xs) (nb : Nat) (cs : List (List Nat)) : Prop := cs.flatten.Nodup ∧ (∀ b, b < nb ↔ b ∈ cs.flatten) ∧ ∀ L ∈ cs, L ≠ [] ∧ L.length ≤ 4 ∧ XSuf nb x L ∧ XAh x none L ∧ ∃ v, ∀ d ∈ L, x.2.1 d 4 = v
theorem fl_nd : ∀ cs : List (List Nat), cs.flatten.Nodup → ∀ L ∈ cs, L.Nodup
  | [], _, L, h => by cases h
  | M :: cs, hn, L, h => by
    rw [List.flatten_cons, List.nodup_append] at hn
    rcases List.mem_cons.mp h with z | z
    · rw [z]; exact hn.1
    · exact fl_nd cs hn.2.1 L z
theorem fl_dj : ∀ cs : List (List Nat), cs.flatten.Nodup → ∀ M ∈ cs, ∀ q ∈ cs, ∀ d, d ∈ M → d ∈ q → M = q
  | [], _, M, h, _, _, _, _, _ => by cases h
  | L :: cs, hn, M, hM, q, hq, d, h1, h2 => by
    rw [List.flatten_cons, List.nodup_append] at hn
    rcases List.mem_cons.mp hM with z | z <;> rcases List.mem_cons.mp hq with y | y
    · rw [z, y]
    · subst z; exact absurd rfl (hn.2.2 d h1 d (List.mem_flatten.mpr ⟨q, y, h2⟩))
    · subst y; exact absurd rfl (hn.2.2 d h2 d (List.mem_flatten.mpr ⟨M, z, h1⟩))
    · exact fl_dj cs hn.2.1 M z q y d h1 h2
theorem lst_app : ∀ (r : List Nat) (b a : Nat), lst b (r ++ [a]) = a
  | [], _, _ => rfl
  | c :: r, _, a => lst_app r c a
theorem pre_of {b : Nat} {s : List Nat} : ∀ (p acc : List Nat), XAh x acc.head? (p ++ b :: s) → (∀ d ∈ p ++ b :: s, d < nb) → XPre nb x acc → XPre nb x (b :: (p.reverse ++ acc))
  | [], acc, h, hl, ha => ⟨hl b (by simp), h.1, ha⟩
  | a :: p, acc, h, hl, ha => by
    have ih := pre_of p (a :: acc) h.2 (fun d hd => hl d (List.mem_cons_of_mem _ hd)) ⟨hl a (by simp), h.1, ha⟩
    simpa using ih
theorem CsT.cv {cs : List (List Nat)} (C : CsT x nb cs) (hb : b < nb) : ∃ (rl : List Nat) (f : Nat) (t : List Nat), XCv nb x b rl f t ∧ (f :: t).Nodup ∧ (f :: t).length ≤ 4 ∧ b ∈ f :: t ∧ (f :: t) ∈ cs ∧ ∀ d ∈ f :: t, x.2.1 d 4 = x.2.1 f 4 := by
  obtain ⟨c1, c2, c3⟩ := C
  obtain ⟨L, hL, hbL⟩ := List.mem_flatten.mp ((c2 b).mp hb)
  obtain ⟨d1, d2, d3, d4, v, d5⟩ := c3 L hL
  have hnd : L.Nodup := fl_nd cs c1 L hL
  obtain ⟨p, s, e⟩ := List.append_of_mem hbL
  cases L with
  | nil => exact absurd rfl d1
  | cons f t =>
    refine ⟨p.reverse, f, t, ⟨?_, ?_, d3⟩, hnd, d2, hbL, hL, fun d hd => (d5 d hd).trans (d5 f List.mem_cons_self).symm⟩
    · have h := pre_of (nb := nb) p [] (by rw [← e]; exact d4) (by rw [← e]; exact Suf_lt _ d3) trivial
      rw [List.append_nil] at h
      exact h
    · cases p with
      | nil => cases e; rfl
      | cons a p =>
        cases e
        rw [List.reverse_cons, lst_app]
theorem XAh_eq (h : ∀ d, d < nb → x'.2.2.1 0 d = x.2.2.1 0 d) : ∀ (q : List Nat) (o : Option Nat), (∀ d ∈ q, d < nb) → XAh x o q → XAh x' o q
  | [], _, _, _ => trivial
  | d :: q, o, hq, ha => ⟨(h d (hq d List.mem_cons_self)).trans ha.1, XAh_eq h q _ (fun e he => hq e (List.mem_cons_of_mem _ he)) ha.2⟩
theorem XSuf_eq {nb' : Nat} (hn : nb ≤ nb') (h : ∀ d, d < nb → x'.2.2.1 1 d = x.2.2.1 1 d) : ∀ q : List Nat, XSuf nb x q → XSuf nb' x' q
  | [], _ => trivial
  | d :: q, hs => ⟨Nat.lt_of_lt_of_le hs.1 hn, (h d hs.1).trans hs.2.1, XSuf_eq hn h q hs.2.2⟩
/-- a new barge is a convoy of its own -/
theorem CsT_add {cs : List (List Nat)} (C : CsT x nb cs) {L D T R : Int32} : CsT (nbX x nb L D T R) (nb + 1) ([nb] :: cs) := by
  obtain ⟨c1, c2, c3⟩ := C
  have hnb : nb ∉ cs.flatten := fun z => Nat.lt_irrefl _ ((c2 nb).mpr z)
  have lk : ∀ w, w < 2 → ∀ d, d < nb → (nbX x nb L D T R).2.2.1 w d = x.2.2.1 w d := fun w hw d hd => by
    show up2 (up2 x.2.2.1 0 nb none) 1 nb none w d = _
    have hz : d ≠ nb := by omega
    rcases (show w = 0 ∨ w = 1 by omega) with q | q
    · subst q; rw [up2_p (by decide), up2_k hz]
    · subst q; rw [up2_k hz, up2_p (by decide)]
  refine ⟨?_, fun b => ?_, fun M hM => ?_⟩
  · rw [List.flatten_cons, List.singleton_append]
    exact List.nodup_cons.mpr ⟨hnb, c1⟩
  · rw [List.flatten_cons, List.singleton_append, List.mem_cons, ← c2 b]
    omega
  · rcases List.mem_cons.mp hM with z | z
    · subst z
      refine ⟨by simp, by simp, ⟨Nat.lt_succ_self nb, ?_, trivial⟩, ⟨?_, trivial⟩, R, fun d hd => ?_⟩
      · show up2 (up2 x.2.2.1 0 nb none) 1 nb none 1 nb = none
        rw [up2_s]
      · show up2 (up2 x.2.2.1 0 nb none) 1 nb none 0 nb = none
        rw [up2_p (by decide), up2_s]
      · rw [List.mem_singleton] at hd
        subst hd
        show up1 x.2.1 d (nbF L D T R) d 4 = R
        rw [up1_s]; rfl
    · obtain ⟨d1, d2, d3, d4, v, d5⟩ := c3 M z
      have hlt := Suf_lt M d3
      refine ⟨d1, d2, XSuf_eq (Nat.le_succ nb) (lk 1 (by omega)) M d3, XAh_eq (lk 0 (by omega)) M none hlt d4, v, fun d hd => ?_⟩
      show up1 x.2.1 nb (nbF L D T R) d 4 = v
      rw [up1_n (by have := hlt d hd; omega)]
      exact d5 d hd
/-- a convoy is moved as a whole -/
theorem CsT_at {cs : List (List Nat)} (C : CsT x nb cs) {q : List Nat} (hq : q ∈ cs) {v : Int32} : CsT (atX v x q) nb cs := by
  obtain ⟨c1, c2, c3⟩ := C
  refine ⟨c1, c2, fun M hM => ?_⟩
  obtain ⟨d1, d2, d3, d4, w, d5⟩ := c3 M hM
  have e := (atX_1 (v := v) q x).2
  refine ⟨d1, d2, XSuf_eq (Nat.le_refl nb) (fun d _ => by rw [e]) M d3, XAh_eq (nb := nb) (fun d _ => by rw [e]) M none (Suf_lt M d3) d4, ?_⟩
  by_cases z : M = q
  · subst z
    exact ⟨v, fun d hd => by rw [atX_4, if_pos ⟨rfl, hd⟩]⟩
  · refine ⟨w, fun d hd => ?_⟩
    rw [atX_4, if_neg]
    · exact d5 d hd
    · rintro ⟨-, hdq⟩
      exact z (fl_dj cs c1 M hM q hq d hd hdq)
end
