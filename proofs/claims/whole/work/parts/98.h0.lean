/-! THE LAW'S BODY: its rows over the places; the script lies below them -/
section
variable {l : Launch} {G : az_G} {nL : Nat} {Q : State → Prop} {p : Program} {e : Env} {R : Room} {s : State} {m : MethodId} {args : Array Value} {below : List Frame} {meth : Method} {c : Code} {ad : az_A} {K : az_K} {k n pc : Nat} {lv : List (Nat × Value)} {st : List Value}
variable {cc : ByteArray} {own : String} {ret : Option FieldType} {tab : List ExceptionTableEntry}
/-- the script of L ints, below all that the run makes -/
def lwS (G : az_G) (b L : Nat) (xs : Nat → Int32) (s : State) : Prop := va_X b L xs s s.heap ∧ b < s.heap.size ∧ b < G.1 ∧ L ≤ 3072
theorem az_sld (C : az_C l G p s m args meth c cc own nL ret tab) {b L : Nat} {xs : Nat → Int32} (S : lwS G b L xs s) {i : Int32} (hin : vp_in i L) (d : decode cc pc = .ok (.iaload, 1)) (kk : az_W l G nL Q p e R s m args below meth c ad K k n (pc + 1) lv (.int (xs i.toNatClampNeg) :: st)) : az_W l G nL Q p e R s m args below meth c ad K k n pc lv (.int i :: .ref b :: st) :=
  fun H locs ls hP hS hl => va_sld C.1 C.2.1 S.1 S.2.1 (Nat.not_le.mpr S.2.2.1) hS hin d (kk H locs ls hP hS hl)
theorem az_slen (C : az_C l G p s m args meth c cc own nL ret tab) {b L : Nat} {xs : Nat → Int32} (S : lwS G b L xs s) (d : decode cc pc = .ok (.arraylength, 1)) (kk : az_W l G nL Q p e R s m args below meth c ad K k n (pc + 1) lv (.int (nI L) :: st)) : az_W l G nL Q p e R s m args below meth c ad K k n pc lv (.ref b :: st) :=
  fun H locs ls hP hS hl => va_slen C.1 C.2.1 S.1 S.2.1 (Nat.not_le.mpr S.2.2.1) hS d (kk H locs ls hP hS hl)
/-- an int of the script on the stack -/
theorem az_arg (C : az_C l G p s m args meth c cc own nL ret tab) {b L i j z0 z4 : Nat} {jI : Int} {xs : Nat → Int32} (S : lwS G b L xs s) (d1 : decode cc pc = .ok (.aload_n 0, 1)) (d2 : decode cc (pc + 1) = .ok (.iload 4, 2)) (d3 : decode cc (pc + 3) = .ok (.iconst jI, 1)) (d4 : decode cc (pc + 4) = .ok (.iadd, 1)) (d5 : decode cc (pc + 5) = .ok (.iaload, 1)) (hjI : Int32.ofInt jI = nI j) (hl0 : lv[z0]? = some (0, .ref b)) (hl4 : lv[z4]? = some (4, .int (nI i))) (hj : i + j < L) (kk : az_W l G nL Q p e R s m args below meth c ad K k n (pc + 6) lv (.int (xs (i + j)) :: st)) : az_W l G nL Q p e R s m args below meth c ad K k n pc lv st := by
  have hL := S.2.2.2
  refine az_aload_n C z0 d1 hl0 ?_
  refine az_iload C z4 d2 hl4 ?_
  refine az_iconst C d3 hjI ?_
  refine az_iadd C d4 ?_
  refine az_top (nI (i + j)) (nI_add i j) ?_
  refine az_sld C S (vp_in_nI hj (by omega)) d5 ?_
  rw [nI_clamp (by omega)]
  exact kk
theorem az_tabIn (C : az_C l G p s m args meth c cc own nL ret tab) {dflt hi : Int} {offs : Array Int} {len : Nat} {off : Int} (j tgt : Nat) (hd : decode cc pc = .ok (.tableswitch dflt 0 hi offs, len)) (hj : (j : Int) ≤ hi) (hj2 : j < 2 ^ 31) (ho : offs[j]? = some off) (ht : (pc : Int) + off = (tgt : Int)) (kk : az_W l G nL Q p e R s m args below meth c ad K k n tgt lv st) : az_W l G nL Q p e R s m args below meth c ad K k n pc lv (.int (nI j) :: st) :=
  fun H locs ls hP hS hl => lv_tableIn C.1 C.2.1 hd (by rw [i_nI hj2]; omega) (by rw [i_nI hj2]; omega) (by rw [i_nI hj2, Int.sub_zero, Int.toNat_natCast]; exact ho) ht (kk H locs ls hP hS hl)
theorem az_tabOut (C : az_C l G p s m args meth c cc own nL ret tab) {dflt hi : Int} {offs : Array Int} {len : Nat} (j tgt : Nat) (hd : decode cc pc = .ok (.tableswitch dflt 0 hi offs, len)) (hj : hi < (j : Int)) (hj2 : j < 2 ^ 31) (ht : (pc : Int) + dflt = (tgt : Int)) (kk : az_W l G nL Q p e R s m args below meth c ad K k n tgt lv st) : az_W l G nL Q p e R s m args below meth c ad K k n pc lv (.int (nI j) :: st) :=
  fun H locs ls hP hS hl => lv_tableOut C.1 C.2.1 hd (Or.inr (by rw [i_nI hj2]; exact hj)) ht (kk H locs ls hP hS hl)
end
theorem and63 (v : Int32) : ∃ t : Nat, t < 64 ∧ v &&& 63 = nI t := by
  refine ⟨(v &&& 63).toBitVec.toNat, ?_, ?_⟩
  · have e : (v &&& 63).toBitVec = v.toBitVec &&& (63 : BitVec 32) := rfl
    rw [e, BitVec.toNat_and]
    exact Nat.lt_of_le_of_lt Nat.and_le_right (by decide)
  · refine Int32.toBitVec_inj.1 ?_
    show (v &&& 63).toBitVec = BitVec.ofNat 32 (v &&& 63).toBitVec.toNat
    rw [BitVec.ofNat_toNat, BitVec.setWidth_eq]
theorem lgc_self (w : Int64) : lg_cmp w w = 0 := by
  unfold lg_cmp
  simp
abbrev kB (c : Nat) (ρ : Rp) : Nat := ρ.2.2.2.1 + ρ.2.2.2.2.1 + 2 * c + 1000
abbrev nB (c : Nat) (ρ : Rp) : Nat := 6 * ρ.2.2.2.1 + 2 * ρ.2.2.2.2.1 + 20 * c + 400000
abbrev lvL (b i qx qm qo : Nat) : List (Nat × Value) := [(4, .int (nI i)), (3, .ref qo), (2, .ref qm), (1, .ref qx), (0, .ref b)]
theorem room_k {ρ : Rp} {c mc ms : Nat} (h : Grm ρ mc ms) (hc : c < 512) : kB c ρ + mc ≤ room_1.cells ∧ nB c ρ + ms ≤ room_1.slots := by
  obtain ⟨h1, h2⟩ := h
  show ρ.2.2.2.1 + ρ.2.2.2.2.1 + 2 * c + 1000 + mc ≤ 601024 ∧ 6 * ρ.2.2.2.1 + 2 * ρ.2.2.2.2.1 + 20 * c + 400000 + ms ≤ 7293034
  omega
theorem room_k0 {ρ ρ' : Rp} {c mc ms : Nat} (h : Grw ρ ρ' mc ms) (hm : Grm ρ mc ms) (hc : c < 512) : kB c ρ + mc + 0 ≤ room_1.cells ∧ nB c ρ + ms + 0 ≤ room_1.slots := room_k hm hc
theorem room_n {ρ ρ' : Rp} {c mc ms : Nat} (h : Grw ρ ρ' mc ms) : kB c ρ + mc ≤ kB (c + 1) ρ' ∧ nB c ρ + ms ≤ nB (c + 1) ρ' := by
  obtain ⟨h1, h2, -⟩ := h
  show ρ.2.2.2.1 + ρ.2.2.2.2.1 + 2 * c + 1000 + mc ≤ ρ'.2.2.2.1 + ρ'.2.2.2.2.1 + 2 * (c + 1) + 1000 ∧ 6 * ρ.2.2.2.1 + 2 * ρ.2.2.2.2.1 + 20 * c + 400000 + ms ≤ 6 * ρ'.2.2.2.1 + 2 * ρ'.2.2.2.2.1 + 20 * (c + 1) + 400000
  omega
section
variable {l : Launch} {G : az_G} {Q : State → Prop} {p : Program} {e : Env} {s : State} {mm : MethodId} {args : Array Value} {below : List Frame} {meth : Method} {cd : Code} {b i qx qm qo : Nat}
/-- where every case of the law's switch goes on: the next call -/
def lwN (l : Launch) (G : az_G) (Q : State → Prop) (p : Program) (e : Env) (s : State) (mm : MethodId) (args : Array Value) (below : List Frame) (meth : Method) (cd : Code) (b i qx qm qo c : Nat) : Prop := ∀ (ρ : Rp) (x : Xs) (m : Ms) (ou : Nat → Int64), ρ.1 0 = qx → ρ.1 100 = qm → ρ.1 90 = qo → Nx (c + 1) ρ x m → az_W l G 9 Q p e room_1 s mm args below meth cd (AD ρ) (KK G ρ x m ou) (kB (c + 1) ρ) (nB (c + 1) ρ) 2935 (lvL b i qx qm qo) []
end
