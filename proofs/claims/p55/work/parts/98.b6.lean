section
variable {x x' : Xs} {m m' : Ms} {n nr nb k b r : Nat}
theorem ah_split {s : List Nat} : ∀ (p : List Nat) (o : Option Nat), XAh x o (p ++ k :: s) → XAh x o p ∧ x.2.2.1 0 k = (match p.getLast? with | none => o | some d => some d) ∧ XAh x (some k) s
  | [], o, h => ⟨trivial, h.1, h.2⟩
  | a :: p, o, h => by
    obtain ⟨h1, h2, h3⟩ := ah_split p (some a) h.2
    refine ⟨⟨h.1, h1⟩, ?_, h3⟩
    rw [h2, List.getLast?_cons]
    cases p.getLast? <;> rfl
theorem suf_split {d : Nat} {s : List Nat} (h1 : ∀ c, c ≠ d → x'.2.2.1 1 c = x.2.2.1 1 c) (h2 : x'.2.2.1 1 d = none) : ∀ p : List Nat, XSuf nb x (p ++ d :: s) → (p ++ d :: s).Nodup → XSuf nb x' (p ++ [d])
  | [], h, _ => ⟨h.1, h2, trivial⟩
  | a :: p, h, hn => by
    have hn := List.nodup_cons.mp hn
    have ne : a ≠ d := fun e => hn.1 (by rw [e]; exact List.mem_append_right _ List.mem_cons_self)
    refine ⟨h.1, ?_, suf_split h1 h2 p h.2.2 hn.2⟩
    rw [h1 a ne, h.2.1]
    cases p <;> rfl
theorem suf_tail : ∀ (p s : List Nat), XSuf nb x (p ++ s) → XSuf nb x s
  | [], _, h => h
  | _ :: p, s, h => suf_tail p s h.2.2
/-- a convoy becomes two -/
theorem CsT_uncouple {d k : Nat} {p s : List Nat} {cs : List (List Nat)} (C : CsT x nb ((p ++ d :: k :: s) :: cs)) : CsT (uncoupleX x d k) nb ((p ++ [d]) :: (k :: s) :: cs) := by
  obtain ⟨c1, c2, c3⟩ := C
  have e : (((p ++ d :: k :: s) :: cs) : List (List Nat)).flatten = ((p ++ [d]) :: (k :: s) :: cs).flatten := by
    simp
  obtain ⟨a1, a2, a3, a4, va, a5⟩ := c3 (p ++ d :: k :: s) List.mem_cons_self
  have nL := fl_nd _ c1 _ List.mem_cons_self
  have cc := c1
  rw [List.flatten_cons, List.nodup_append] at cc
  obtain ⟨n1, n2, n3⟩ := cc
  have l1 : ∀ c, c ≠ d → (uncoupleX x d k).2.2.1 1 c = x.2.2.1 1 c := fun c hc => by
    unfold uncoupleX
    rw [xL_k (by omega), xL_k (by omega)]
  have l1s : (uncoupleX x d k).2.2.1 1 d = none := by
    unfold uncoupleX
    rw [xL_k (by omega), xL_s]
  have l0 : ∀ c, c ≠ k → (uncoupleX x d k).2.2.1 0 c = x.2.2.1 0 c := fun c hc => by
    unfold uncoupleX
    rw [xL_k (by omega), xL_k (by omega)]
  have l0s : (uncoupleX x d k).2.2.1 0 k = none := by
    unfold uncoupleX
    rw [xL_s]
  have e2 : p ++ d :: k :: s = (p ++ [d]) ++ k :: s := by simp
  have nL2 := nL
  rw [e2, List.nodup_append] at nL2
  obtain ⟨m1, m2, m3⟩ := nL2
  have a4' := a4
  rw [e2] at a4'
  obtain ⟨q1, q2, q3⟩ := ah_split (p ++ [d]) none a4'
  have m2' := List.nodup_cons.mp m2
  rw [e] at c1 c2
  refine ⟨c1, c2, fun M hM => ?_⟩
  rcases List.mem_cons.mp hM with z | z
  · subst z
    refine ⟨by simp, ?_, suf_split l1 l1s p a3 nL, XAh_m trivial _ none (fun c hc => l0 c (fun y => m3 c hc k List.mem_cons_self y)) q1, va, fun c hc => a5 c (by rw [e2]; exact List.mem_append_left _ hc)⟩
    rw [e2, List.length_append, List.length_cons] at a2
    omega
  · rcases List.mem_cons.mp z with y | y
    · subst y
      refine ⟨by simp, ?_, XSuf_m _ (fun c hc => l1 c (fun w => m3 d (by simp) c hc w.symm)) (suf_tail (p ++ [d]) _ (by rw [← e2]; exact a3)), ⟨l0s, XAh_m trivial _ _ (fun c hc => l0 c (fun w => m2'.1 (by rw [← w]; exact hc))) q3⟩, va, fun c hc => a5 c (by rw [e2]; exact List.mem_append_right _ hc)⟩
      rw [e2, List.length_append] at a2
      omega
    · obtain ⟨d1, d2, d3, d4, v, d5⟩ := c3 M (List.mem_cons_of_mem _ y)
      have ne : ∀ c ∈ M, c ≠ d ∧ c ≠ k := fun c hc => by
        have hf : c ∈ cs.flatten := List.mem_flatten.mpr ⟨M, y, hc⟩
        exact ⟨fun w => n3 d (by simp) c hf w.symm, fun w => n3 k (by simp) c hf w.symm⟩
      exact ⟨d1, d2, XSuf_m M (fun c hc => l1 c (ne c hc).1) d3, XAh_m trivial M none (fun c hc => l0 c (ne c hc).2) d4, v, d5⟩
end
