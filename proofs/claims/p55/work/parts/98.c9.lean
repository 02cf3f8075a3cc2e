section
variable {x x' : Xs} {m m' : Ms} {m9 : Mz} {n n' nr nr' nb N k b r : Nat} {cs cs' : List (List Nat)}
theorem Tie.perm (h : Tie x n m nr nb N cs) (hp : cs.Perm cs') : Tie x n m nr nb N cs' := ⟨h.1, h.2.1, h.2.2.1, h.2.2.2.1, h.2.2.2.2.1.perm hp, h.2.2.2.2.2⟩
theorem lnk_p {p j a c : Nat} {v w : Int32} (h0 : p ≠ 0) (h1 : p ≠ 18) (h2 : p ≠ 19) : (mI (mI (mI m 19 a v) 18 c w) 0 0 0).1 p j = m.1 p j := by
  rw [mI_p h0, mI_p h1, mI_p h2]
theorem lnk_0 {j a c : Nat} {v w : Int32} (h0 : j ≠ 0) : (mI (mI (mI m 19 a v) 18 c w) 0 0 0).1 0 j = m.1 0 j := by
  rw [mI_k h0, mI_p (by decide), mI_p (by decide)]
theorem Tie_coupleT {fa fb la : Nat} {ta tb : List Nat} (h : Tie x n m nr nb N ((fa :: ta) :: (fb :: tb) :: cs)) (hl : lst fa ta = la) (h4 : (fa :: ta).length + (fb :: tb).length ≤ 4) (hat : x.2.1 fa 4 = x.2.1 fb 4) : Tie (coupleX x la fb) n (mI (mI (mI m 19 la (nI fb)) 18 fb (nI la)) 0 0 0) nr nb N ((fa :: ta ++ fb :: tb) :: cs) := by
  have C := h.2.2.2.2.1
  have q1 : la < nb := Suf_lt _ (C.2.2 (fa :: ta) List.mem_cons_self).2.2.1 la (by rw [← hl]; exact lst_mem ta fa)
  have q2 : fb < nb := Suf_lt _ (C.2.2 (fb :: tb) (List.mem_cons_of_mem _ List.mem_cons_self)).2.2.1 fb List.mem_cons_self
  refine h.links (TieB_couple h.2.2.1 q1 q2) (CsT_couple C hl h4 hat) rfl rfl rfl (fun w c hw => ?_) (fun p j a b c => lnk_p a b c) (fun j hj => lnk_0 hj) rfl
  unfold coupleX
  rw [xL_k (by omega), xL_k (by omega)]
  exact h.2.2.2.2.2.1.2.2.2.2.2.2.1 w c hw
theorem Tie_uncoupleT {d k : Nat} {p s : List Nat} (h : Tie x n m nr nb N ((p ++ d :: k :: s) :: cs)) : Tie (uncoupleX x d k) n (mI (mI (mI m 19 d (-1)) 18 k (-1)) 0 0 0) nr nb N ((p ++ [d]) :: (k :: s) :: cs) := by
  refine h.links (TieB_uncouple h.2.2.1) (CsT_uncouple h.2.2.2.2.1) rfl rfl rfl (fun w c hw => ?_) (fun p j a b c => lnk_p a b c) (fun j hj => lnk_0 hj) rfl
  unfold uncoupleX
  rw [xL_k (by omega), xL_k (by omega)]
  exact h.2.2.2.2.2.1.2.2.2.2.2.2.1 w c hw
end
