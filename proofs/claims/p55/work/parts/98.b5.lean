section
variable {x x' : Xs} {m m' : Ms} {n nr nb k b r : Nat}
theorem XAh_m (h : True) : ∀ (q : List Nat) (o : Option Nat), (∀ d ∈ q, x'.2.2.1 0 d = x.2.2.1 0 d) → XAh x o q → XAh x' o q
  | [], _, _, _ => trivial
  | d :: q, o, hq, ha => ⟨(hq d List.mem_cons_self).trans ha.1, XAh_m h q _ (fun e he => hq e (List.mem_cons_of_mem _ he)) ha.2⟩
theorem XSuf_m : ∀ q : List Nat, (∀ d ∈ q, x'.2.2.1 1 d = x.2.2.1 1 d) → XSuf nb x q → XSuf nb x' q
  | [], _, _ => trivial
  | d :: q, h, hs => ⟨hs.1, (h d List.mem_cons_self).trans hs.2.1, XSuf_m q (fun e he => h e (List.mem_cons_of_mem _ he)) hs.2.2⟩
theorem lst_mem : ∀ (t : List Nat) (f : Nat), lst f t ∈ f :: t
  | [], f => List.mem_cons_self
  | c :: t, f => List.mem_cons_of_mem _ (lst_mem t c)
theorem suf_app {B : List Nat} {la : Nat} (h1 : ∀ d, d ≠ la → x'.2.2.1 1 d = x.2.2.1 1 d) (h2 : x'.2.2.1 1 la = B.head?) (hB : XSuf nb x' B) : ∀ (t : List Nat) (f : Nat), XSuf nb x (f :: t) → lst f t = la → (f :: t).Nodup → XSuf nb x' (f :: t ++ B)
  | [], f, hs, hl, _ => by
    have e : f = la := hl
    subst e
    exact ⟨hs.1, h2, hB⟩
  | c :: t, f, hs, hl, hn => by
    have hn := List.nodup_cons.mp hn
    have ne : f ≠ la := fun e => hn.1 (by rw [e, ← hl]; exact lst_mem t c)
    exact ⟨hs.1, (h1 f ne).trans hs.2.1, suf_app h1 h2 hB t c hs.2.2 hl hn.2⟩
theorem ah_app {B : List Nat} : ∀ (t : List Nat) (f : Nat) (o : Option Nat), XAh x o (f :: t) → XAh x (some (lst f t)) B → XAh x o (f :: t ++ B)
  | [], _, _, h, hB => ⟨h.1, hB⟩
  | c :: t, _, _, h, hB => ⟨h.1, ah_app t c _ h.2 hB⟩
theorem CsT.perm {cs cs' : List (List Nat)} (C : CsT x nb cs) (hp : cs.Perm cs') : CsT x nb cs' :=
  ⟨(hp.flatten.nodup_iff).mp C.1, fun b => (C.2.1 b).trans hp.flatten.mem_iff, fun L hL => C.2.2 L (hp.mem_iff.mpr hL)⟩
/-- two convoys become one -/
theorem CsT_couple {fa fb la : Nat} {ta tb : List Nat} {cs : List (List Nat)} (C : CsT x nb ((fa :: ta) :: (fb :: tb) :: cs)) (hl : lst fa ta = la) (h4 : (fa :: ta).length + (fb :: tb).length ≤ 4) (hat : x.2.1 fa 4 = x.2.1 fb 4) : CsT (coupleX x la fb) nb ((fa :: ta ++ fb :: tb) :: cs) := by
  obtain ⟨c1, c2, c3⟩ := C
  have e : (((fa :: ta) :: (fb :: tb) :: cs) : List (List Nat)).flatten = ((fa :: ta ++ fb :: tb) :: cs).flatten := by
    rw [List.flatten_cons, List.flatten_cons, List.flatten_cons, List.append_assoc]
  rw [e] at c1 c2
  rw [List.flatten_cons, List.nodup_append] at c1
  obtain ⟨n1, n2, n3⟩ := c1
  have n1' := List.nodup_append.mp n1
  obtain ⟨a1, a2, a3, a4, va, a5⟩ := c3 (fa :: ta) List.mem_cons_self
  obtain ⟨b1, b2, b3, b4, vb, b5⟩ := c3 (fb :: tb) (List.mem_cons_of_mem _ List.mem_cons_self)
  have l1 : ∀ d, d ≠ la → (coupleX x la fb).2.2.1 1 d = x.2.2.1 1 d := fun d hd => by
    unfold coupleX
    rw [xL_k (by omega), xL_k (by omega)]
  have l1s : (coupleX x la fb).2.2.1 1 la = some fb := by
    unfold coupleX
    rw [xL_k (by omega), xL_s]
  have l0 : ∀ d, d ≠ fb → (coupleX x la fb).2.2.1 0 d = x.2.2.1 0 d := fun d hd => by
    unfold coupleX
    rw [xL_k (by omega), xL_k (by omega)]
  have l0s : (coupleX x la fb).2.2.1 0 fb = some la := by
    unfold coupleX
    rw [xL_s]
  have hla : la ∈ fa :: ta := by rw [← hl]; exact lst_mem ta fa
  have hB : ∀ d ∈ fb :: tb, d ≠ la := fun d hd z => n1'.2.2 la hla d hd z.symm
  have hA : ∀ d ∈ fa :: ta, d ≠ fb := fun d hd z => n1'.2.2 d hd fb List.mem_cons_self z
  have hBt : ∀ d ∈ tb, d ≠ fb := fun d hd z => (List.nodup_cons.mp n1'.2.1).1 (by rw [← z]; exact hd)
  refine ⟨?_, c2, fun M hM => ?_⟩
  · rw [List.flatten_cons, List.nodup_append]
    exact ⟨n1, n2, n3⟩
  · rcases List.mem_cons.mp hM with z | z
    · subst z
      refine ⟨by simp, by rw [List.length_append]; exact h4, suf_app (B := fb :: tb) l1 l1s (XSuf_m _ (fun d hd => l1 d (hB d hd)) b3) ta fa a3 hl n1'.1, ah_app ta fa none (XAh_m trivial _ none (fun d hd => l0 d (hA d hd)) a4) ⟨?_, XAh_m trivial _ _ (fun d hd => l0 d (hBt d hd)) b4.2⟩, va, fun d hd => ?_⟩
      · rw [l0s, hl]
      · show x.2.1 d 4 = va
        rcases List.mem_append.mp hd with y | y
        · exact a5 d y
        · rw [b5 d y, ← b5 fb List.mem_cons_self, ← hat]; exact a5 fa List.mem_cons_self
    · obtain ⟨d1, d2, d3, d4, v, d5⟩ := c3 M (List.mem_cons_of_mem _ (List.mem_cons_of_mem _ z))
      have ne : ∀ d ∈ M, d ≠ la ∧ d ≠ fb := fun d hd => by
        have hf : d ∈ cs.flatten := List.mem_flatten.mpr ⟨M, z, hd⟩
        exact ⟨fun y => n3 la (List.mem_append_left _ hla) d hf y.symm, fun y => n3 fb (List.mem_append_right _ List.mem_cons_self) d hf y.symm⟩
      exact ⟨d1, d2, XSuf_m M (fun d hd => l1 d (ne d hd).1) d3, XAh_m trivial M none (fun d hd => l0 d (ne d hd).2) d4, v, d5⟩
end
