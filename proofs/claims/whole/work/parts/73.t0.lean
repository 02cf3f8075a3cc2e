section
variable {l : Launch} {G : az_G} {nL : Nat} {Q : State → Prop} {p : Program} {e : Env} {R : Room} {s : State} {m : MethodId} {args : Array Value} {below : List Frame} {meth : Method} {c : Code} {ad : az_A} {K : az_K} {k n pc : Nat} {lv : List (Nat × Value)} {st : List Value}
variable {cc : ByteArray} {own : String} {ret : Option FieldType} {tab : List ExceptionTableEntry}
/-- a static that nobody writes -/
theorem az_gets (C : az_C l G p s m args meth c cc own nL ret tab) {C0 f0 d0 : String} {v : Value} {idx : Nat} (hZ : va_Z C0 f0 d0 v (fun q => G.1 ≤ q) s s.heap) (hw : Cond.fieldLink own idx C0 f0 d0 ∈ lw_tbl) (d : decode cc pc = .ok (.getstatic idx, 3)) (kk : az_W l G nL Q p e R s m args below meth c ad K k n (pc + 3) lv (v :: st)) : az_W l G nL Q p e R s m args below meth c ad K k n pc lv st :=
  fun H locs ls hP hS hl => va_gets C.1 C.2.1 hZ hS C.2.2.2.1 (C.hw hw rfl) (fun _ h => h) d (kk H locs ls hP hS hl)
theorem az_tbald (C : az_C l G p s m args meth c cc own nL ret tab) {t N j : Nat} {f : Nat → Int32} {v : Int32} (hT : va_T .byte t N (fun j => .int (f j)) (fun q => G.1 ≤ q) s s.heap) (hj : j < N) (hN : N < 2 ^ 31) (hv : f j = v) (d : decode cc pc = .ok (.baload, 1)) (kk : az_W l G nL Q p e R s m args below meth c ad K k n (pc + 1) lv (.int v :: st)) : az_W l G nL Q p e R s m args below meth c ad K k n pc lv (.int (nI j) :: .ref t :: st) :=
  fun H locs ls hP hS hl => va_tb C.1 C.2.1 hT hS (vp_in_nI hj hN) (by rw [nI_clamp (Nat.lt_trans hj hN), hv]) d (kk H locs ls hP hS hl)
theorem az_tlen (C : az_C l G p s m args meth c cc own nL ret tab) {t N : Nat} {f : Nat → Value} (hT : va_T .byte t N f (fun q => G.1 ≤ q) s s.heap) (d : decode cc pc = .ok (.arraylength, 1)) (kk : az_W l G nL Q p e R s m args below meth c ad K k n (pc + 1) lv (.int (nI N) :: st)) : az_W l G nL Q p e R s m args below meth c ad K k n pc lv (.ref t :: st) :=
  fun H locs ls hP hS hl => va_tlen C.1 C.2.1 hT hS rfl d (kk H locs ls hP hS hl)
theorem az_sgetf (C : az_C l G p s m args meth c cc own nL ret tab) {o0 f0 d0 : String} {v : Value} {idx q : Nat} (hE : va_OF o0 f0 d0 v q (fun q => G.1 ≤ q) s s.heap) (hw : Cond.fieldLink own idx o0 f0 d0 ∈ lw_tbl) (d : decode cc pc = .ok (.getfield idx, 3)) (kk : az_W l G nL Q p e R s m args below meth c ad K k n (pc + 3) lv (v :: st)) : az_W l G nL Q p e R s m args below meth c ad K k n pc lv (.ref q :: st) :=
  fun H locs ls hP hS hl => vk_getf C.1 C.2.1 hE hS C.2.2.2.1 (C.hw hw rfl) (fun _ h => h) d (kk H locs ls hP hS hl)
theorem az_ldcSW (C : az_C l G p s m args meth c cc own nL ret tab) {tx : String} {idx q : Nat} (hR : vk_R own idx tx q s) (d : decode cc pc = .ok (.ldc_w idx, 3)) (kk : az_W l G nL Q p e R s m args below meth c ad K k n (pc + 3) lv (.ref q :: st)) : az_W l G nL Q p e R s m args below meth c ad K k n pc lv st := by
  intro H locs ls hP hS hl T hT X
  obtain ⟨t, a1, b1⟩ := kk H locs ls hP hS hl T hT X
  exact ⟨t, X.ldcStringW C.1 C.2.2.2.1 (text := tx) (a := q) hR.1 hR.2 (g := F0 m pc ls st) rfl (by rw [C.2.1]; exact d) t a1, b1⟩
theorem az_ishl (C : az_C l G p s m args meth c cc own nL ret tab) {x y : Int32} (d : decode cc pc = .ok (.ishl, 1)) (kk : az_W l G nL Q p e R s m args below meth c ad K k n (pc + 1) lv (.int (x <<< (y &&& 31)) :: st)) : az_W l G nL Q p e R s m args below meth c ad K k n pc lv (.int y :: .int x :: st) :=
  fun H locs ls hP hS hl => lv_ishl C.1 C.2.1 d (kk H locs ls hP hS hl)
/-- a call whose receiver is an old object -/
theorem az_callVO (C : az_C l G p s m args meth c cc own nL ret tab) {y : MethodName} {b : ByteArray} {nY kY d' idx mc ms : Nat} {rY : Option FieldType} {post : az_O → az_A → az_K → Prop} (Y : az_Y y b nY rY kY) {C0 : String} {a : Nat} (hO : va_O C0 a (fun q => G.1 ≤ q) s s.heap) (As rest : List Value) (hw : Cond.methodLink own idx y ∈ lw_tbl) (hi : Cond.instanceMethod y ∈ lw_tbl) (hse : Cond.selects C0 y y ∈ lw_tbl) (d : decode cc pc = .ok (.invokevirtual idx, 3)) (hst : st = As.reverse ++ .ref a :: rest) (hM : az_M l G y (az_ws y b nY rY) d' (.ref a :: As) ad K mc ms post) (hn : As.length = kY) (hW : (rest.map fun v => v.category).sum ≤ 8) (hfr : d' + 1 ≤ R.frames) (hlo : 19 + nY + 40 * d' ≤ R.locals) (hc : k + mc ≤ R.cells) (hs : n + ms ≤ R.slots)
    (kk : ∀ (v : Option Value) (ad' : az_A) (K' : az_K), post (.inl v) ad' K' → az_W l G nL Q p e R s m args below meth c ad' K' (k + mc) (n + ms) (pc + 3) lv (v.toList ++ rest))
    (kx : ∀ (E : String) (ad' : az_A) (K' : az_K), post (.inr E) ad' K' → az_X l G nL Q p e R s m args below meth c ad' K' (k + mc) (n + ms) pc lv E) : az_W l G nL Q p e R s m args below meth c ad K k n pc lv st := by
  intro H locs ls hP hS hl
  have hr : ∃ cell : Cell, H[a]? = some cell ∧ cell.vm.isStatics = false ∧ s.vm.findClass C0 = some cell.cls := by
    obtain ⟨cell, h1, h2, h3, -⟩ := hO.kept hS.2.1
    exact ⟨cell, h1, h2, h3⟩
  exact az_run (vx_runV (As := As) (rest := rest) (C := C0) ⟨C.1, C.2.1, C.2.2.1, C.2.2.2.1, C.hts⟩ hM ⟨az_callB C Y hw hfr hlo, C.hw hi rfl, C.hw hse rfl⟩ ⟨az_blind C.hG, hr, az_here C hP hS⟩ rfl hn hl.1 hst (lv_room hW) d ⟨hc, hs⟩) hS hl kk kx
/-- a call of a private method of the class above, on this -/
theorem az_callVP (C : az_C l G p s m args meth c cc own nL ret tab) {y : MethodName} {b : ByteArray} {nY kY d' idx mc ms : Nat} {rY : Option FieldType} {post : az_O → az_A → az_K → Prop} (Y : az_Y y b nY rY kY) {C0 : String} {T : u_T} {N ci : Nat} {ty : Nat → FieldType} (c0 : az_cl ci C0 T N ty) (r i : Nat) {fs : List Value} {a : Nat} (As rest : List Value) (hw : Cond.methodLink own idx y ∈ lw_tbl) (hi : Cond.instanceMethod y ∈ lw_tbl) (hse : (Cond.selects C0 y y).before args s = true) (d : decode cc pc = .ok (.invokevirtual idx, 3)) (ha : ad r i = a) (hk : K r i = some (.inr (ci, fs))) (hst : st = As.reverse ++ .ref a :: rest) (hM : az_M l G y (az_ws y b nY rY) d' (.ref a :: As) ad K mc ms post) (hn : As.length = kY) (hW : (rest.map fun v => v.category).sum ≤ 8) (hfr : d' + 1 ≤ R.frames) (hlo : 19 + nY + 40 * d' ≤ R.locals) (hc : k + mc ≤ R.cells) (hs : n + ms ≤ R.slots)
    (kk : ∀ (v : Option Value) (ad' : az_A) (K' : az_K), post (.inl v) ad' K' → az_W l G nL Q p e R s m args below meth c ad' K' (k + mc) (n + ms) (pc + 3) lv (v.toList ++ rest))
    (kx : ∀ (E : String) (ad' : az_A) (K' : az_K), post (.inr E) ad' K' → az_X l G nL Q p e R s m args below meth c ad' K' (k + mc) (n + ms) pc lv E) : az_W l G nL Q p e R s m args below meth c ad K k n pc lv st := by
  subst ha
  intro H locs ls hP hS hl
  exact az_run (vx_runV (As := As) (rest := rest) (C := C0) ⟨C.1, C.2.1, C.2.2.1, C.2.2.2.1, C.hts⟩ hM ⟨az_callB C Y hw hfr hlo, C.hw hi rfl, hse⟩ ⟨az_blind C.hG, va_recv C.hK (az_one (hP.1 _ _ _ hk).1) c0.1 (q0 := 0) rfl, az_here C hP hS⟩ rfl hn hl.1 hst (lv_room hW) d ⟨hc, hs⟩) hS hl kk kx
theorem az_selS {args : Array Value} {s : State} {C0 : String} {y y0 : MethodName} (h0 : (Cond.selects C0 y0 y0).before args s = true) (hc : y.cls = y0.cls) (hy : y.cls ≠ "java/lang/invoke/MethodHandle" ∧ y.cls ≠ "java/lang/invoke/VarHandle") (hpv : (Cond.privateMethod y).before args s = true) (hi : (Cond.instanceMethod y).before args s = true) : (Cond.selects C0 y y).before args s = true := by
  obtain ⟨c2, r2, m2, q1, q2, q3, q4, kP, hkP, hkPi⟩ := Cond.selects_spec h0
  obtain ⟨mk, methM, hnamed, hmethM, -, -⟩ := Cond.instanceMethod_spec hi
  have hcl : mk.cls = m2.cls := by
    have e1 := findClass_of_methodNamed hnamed
    have e2 := findClass_of_methodNamed q3
    rw [hc] at e1
    exact Option.some.inj (e1.symm.trans e2)
  have hfound : s.methodFound? y.cls y.name y.desc = some mk := State.methodFound?_of_named hnamed hy
  have hsel : selectMethod {} s.vm c2 mk = .method mk := selectMethod_private hmethM (Cond.privateMethod_at hpv mk methM hnamed hmethM)
  simp only [Cond.before, Cond.holds, Cond.value, q1, hfound, hnamed, hsel, hcl, hkP]
  simp; exact hkPi
/-- super.m(..) -/
theorem az_callSU (C : az_C l G p s m args meth c cc own nL ret tab) {y : MethodName} {b : ByteArray} {nY kY d' idx mc ms : Nat} {rY : Option FieldType} {post : az_O → az_A → az_K → Prop} (Y : az_Y y b nY rY kY) {C0 : String} {T : u_T} {N ci : Nat} {ty : Nat → FieldType} (c0 : az_cl ci C0 T N ty) (r i : Nat) {fs : List Value} {a : Nat} (As rest : List Value) (hw : Cond.methodLink own idx y ∈ lw_tbl) (hi : Cond.instanceMethod y ∈ lw_tbl) (hsm : Cond.sameMethod y.cls y.cls y.name y.desc ∈ lw_tbl) (hsu : (Cond.superclass own y.cls).before args s = true) (hno : y.name ≠ "<init>") (d : decode cc pc = .ok (.invokespecial idx, 3)) (ha : ad r i = a) (hk : K r i = some (.inr (ci, fs))) (hst : st = As.reverse ++ .ref a :: rest) (hM : az_M l G y (az_ws y b nY rY) d' (.ref a :: As) ad K mc ms post) (hn : As.length = kY) (hW : (rest.map fun v => v.category).sum ≤ 8) (hfr : d' + 1 ≤ R.frames) (hlo : 19 + nY + 40 * d' ≤ R.locals) (hc : k + mc ≤ R.cells) (hs : n + ms ≤ R.slots)
    (kk : ∀ (v : Option Value) (ad' : az_A) (K' : az_K), post (.inl v) ad' K' → az_W l G nL Q p e R s m args below meth c ad' K' (k + mc) (n + ms) (pc + 3) lv (v.toList ++ rest))
    (kx : ∀ (E : String) (ad' : az_A) (K' : az_K), post (.inr E) ad' K' → az_X l G nL Q p e R s m args below meth c ad' K' (k + mc) (n + ms) pc lv E) : az_W l G nL Q p e R s m args below meth c ad K k n pc lv st := by
  subst ha
  intro H locs ls hP hS hl
  obtain ⟨hSl, hfc, kC, hkC, hkind⟩ := C.hK.1 ci _ c0.1
  obtain ⟨b1, b2, b3, b4, b5, b6, hcode, hini, hy, hlen, hlk⟩ := az_callB C (mc := mc) (ms := ms) Y hw hfr hlo
  exact az_run (vx_runSU (As := As) (rest := rest) (C := C0) ⟨hfc, kC, hkC, hkind⟩ ⟨C.1, C.2.1, C.2.2.1, C.2.2.2.1, C.hts⟩ hM ⟨⟨b1, b2, b3, b4, b5, b6⟩, hlk, C.hw hsm rfl, hsu, C.hw hi rfl, hini, hcode, hno, hlen⟩ ⟨az_blind C.hG, va_recv C.hK (az_one (hP.1 _ _ _ hk).1) c0.1 (q0 := 0) rfl, az_here C hP hS⟩ rfl hn hl.1 hst (lv_room hW) d ⟨hc, hs⟩) hS hl kk kx
theorem az_copyT (C : az_C l G p s m args meth c cc own nL ret tab) {b0 a1 n0 n1 idx : Nat} {f g : Nat → Int32} (hX : va_T .byte b0 n0 (fun j => .int (f j)) (fun q => G.1 ≤ q) s s.heap) (r2 i2 : Nat) (hw : Cond.methodLink own idx arraycopyName ∈ lw_tbl) (hnat : Cond.native arraycopyName ∈ lw_tbl) (hstat : Cond.static arraycopyName ∈ lw_tbl) (hini : Cond.initialized "java/lang/System" ∈ lw_tbl) (d : decode cc pc = .ok (.invokestatic idx, 3))
    (ha2 : ad r2 i2 = a1) (hk2 : K r2 i2 = some (.inl (G.2.2.1 3, n1, .inl g))) {sp dp q : Int32} (h1 : ¬ sp < 0) (h2 : ¬ dp < 0) (h3 : ¬ q < 0) (h4 : sp.toNatClampNeg + q.toNatClampNeg ≤ n0) (h5 : dp.toNatClampNeg + q.toNatClampNeg ≤ n1) (hfit : ∀ j, j < q.toNatClampNeg → fits .byte (.int (f (sp.toNatClampNeg + j))) = true)
    (hfr : 1 ≤ R.frames) (hlo : (st.map fun v => v.category).sum + 40 ≤ R.locals)
    (kk : az_W l G nL Q p e R s m args below meth c ad (az_u K r2 i2 (.inl (G.2.2.1 3, n1, .inl (va_cpy f g sp.toNatClampNeg dp.toNatClampNeg q.toNatClampNeg)))) k n (pc + 3) lv st) : az_W l G nL Q p e R s m args below meth c ad K k n pc lv (.int q :: .int dp :: .ref a1 :: .int sp :: .ref b0 :: st) := by
  subst ha2
  have nn : ∀ z : Int32, ¬ z < 0 → z.toInt = (z.toNatClampNeg : Int) := by
    intro z hz
    have hz0 : (0 : Int) ≤ z.toInt := by
      have := Int32.not_lt.mp hz
      simpa using Int32.le_iff_toInt_le.mp this
    show z.toInt = ((z.toInt.toNat : Nat) : Int)
    omega
  intro H locs ls hP hS hl T hT X
  obtain ⟨scr, hs1, hs2, hs3, hs4, -, hs5, hs7⟩ := hX
  have hc0 : H[b0]? = some scr := by rw [hS.2.1 b0 (Array.getElem?_eq_some_iff.mp hs1).1 hs7]; exact hs1
  have hc1 : H[ad r2 i2]? = some (vp_cell (G.2.2.1 3) (n1, .inl g)) := (hP.1 _ _ _ hk2).1
  obtain ⟨hs6, k0, hk0, cm0, hkk0⟩ := hs2
  obtain ⟨-, k1, hk1, cm1, hkk1⟩ := (C.hK.2 3 _ rfl).1 n1 (fun j => .int (g j))
  have hlw : (st.map fun v => v.category).sum + (nativeFrameWords "java/lang/System" "arraycopy" 5 + 11) ≤ R.locals := Nat.le_trans (Nat.add_le_add_left (show nativeFrameWords "java/lang/System" "arraycopy" 5 + 11 ≤ 40 by decide +kernel) _) hlo
  obtain ⟨vm', X', step⟩ := X.arraycopy C.1 C.2.2.2.1 (C.hw hw rfl) (C.hw hnat rfl) (C.hw hstat rfl) (C.hw hini rfl) (src := b0) (dst := ad r2 i2) (cs := scr) (cd := vp_cell (G.2.2.1 3) (n1, .inl g)) (srcPos := sp) (destPos := dp) (n := q) (by rw [hT]; exact hc0) (by rw [hT]; exact hc1)
    hs6 (fun _ h => by cases h) hs3 (fun h => by cases h) hk0 hk1 hkk0 hkk1 (by simp [refKind]) h1 h2 h3
    (by rw [nn sp h1, nn q h3]; omega)
    (by rw [nn dp h2, nn q h3]; show ¬ _ > ((arrV (G.2.2.1 3) n1 (fun j => .int (g j))).slots.size : Int); rw [arrV_size]; omega)
    (fun vm₁ _ i9 hi => by
      have e : scr.slots.getD (sp.toNatClampNeg + i9) .null = .int (f (sp.toNatClampNeg + i9)) := by
        rw [Array.getD_eq_getD_getElem?, hs5 _ (by omega)]
        rfl
      refine ⟨?_, ?_⟩
      · rw [e]
        exact hfit i9 hi
      · rw [e]
        exact trivial)
    (g := F0 m pc ls (.int q :: .int dp :: .ref (ad r2 i2) :: .int sp :: .ref b0 :: st)) rfl (by rw [C.2.2.1]; exact hl.1) (rest := st) rfl (by rw [C.2.1]; exact d) hfr (by show 2 * 0 + _ + _ ≤ _; omega)
  have e1 : copied scr (vp_cell (G.2.2.1 3) (n1, .inl g)) sp dp q = vp_cell (G.2.2.1 3) (n1, .inl (va_cpy f g sp.toNatClampNeg dp.toNatClampNeg q.toNatClampNeg)) := va_copiedX (fun z => .int z) scr _ f g hs5 h4
  rw [e1] at X' step
  generalize hcell : vp_cell (G.2.2.1 3) (n1, .inl (va_cpy f g sp.toNatClampNeg dp.toNatClampNeg q.toNatClampNeg)) = cx at X' step
  have hl9 : ad r2 i2 < H.size := (Array.getElem?_eq_some_iff.mp hc1).1
  have hheap : ((T.setVm vm').setCell (ad r2 i2) cx).heap = H.setIfInBounds (ad r2 i2) cx := by rw [← hT]; rfl
  have oq : ∀ z : Nat, z ≠ ad r2 i2 → (H.setIfInBounds (ad r2 i2) cx)[z]? = H[z]? := fun z hz => by simp [Array.getElem?_setIfInBounds, Ne.symm hz]
  obtain ⟨t, a1, b1⟩ := kk _ _ ls (hP.set hk2 (show (H.setIfInBounds (ad r2 i2) cx)[ad r2 i2]? = some _ by rw [hcell]; simp [Array.getElem?_setIfInBounds, hl9]) oq) ⟨by simp; exact hS.1, fun z g1 g2 => by
      rw [oq z (fun e => g2 (by rw [e]; exact (hP.1 _ _ _ hk2).2))]
      exact hS.2.1 z g1 g2, fun z hz => by
      rcases List.mem_append.mp hz with h | h
      · exact hS.2.2 z h
      · obtain ⟨w, -, hw⟩ := List.mem_map.mp h
        rw [← hw]
        exact (hP.1 _ _ _ hk2).2⟩ hl _ hheap X'
  exact ⟨t, step t a1, b1⟩
end
/-- a string constant at fixed cells -/
def az_sAt (b0 k : Nat) (tx : String) (byt : List Int32) (a v : Nat) (U : State) (H : Heap) : Prop := vk_R RX3 k tx a U ∧ va_O "java/lang/String" a (fun q => b0 ≤ q) U H ∧ va_OF "java/lang/String" "coder" "B" (.int 0) a (fun q => b0 ≤ q) U H ∧ va_OF "java/lang/String" "value" "[B" (.ref v) a (fun q => b0 ≤ q) U H ∧ va_T .byte v 2 (fun j => .int (byt.getD j 0)) (fun q => b0 ≤ q) U H
def az_sel : List Cond := [Cond.selects RJ4 yJ5_ensureCapacityInternal_d00df yJ5_ensureCapacityInternal_d00df, Cond.selects RJ4 yJ5_newCapacity_0f7a4 yJ5_newCapacity_0f7a4, Cond.selects RJ4 yJ5_putStringAt_47b60 yJ5_putStringAt_47b60, Cond.selects RJ4 yJ5_inflateIfNeededFor_a7421 yJ5_inflateIfNeededFor_a7421, Cond.superclass RJ4 RJ5]
def az_okT (G : az_G) (A : Nat × Nat × Nat × Nat) : Prop := ∀ (U : State) (H : Heap), G.2.2.2 U H → (∀ w ∈ az_sel, va_Nw w U) ∧ va_Zq "jdk/internal/util/Preconditions" "SIOOBE_FORMATTER" "Ljava/util/function/BiFunction;" (fun q => G.1 ≤ q) U H ∧ az_sAt G.1 307 ": " [58, 32] A.1 A.2.1 U H ∧ az_sAt G.1 312 "dm" [100, 109] A.2.2.1 A.2.2.2 U H
section
variable {l : Launch} {G : az_G} {nL : Nat} {p : Program} {s : State} {m : MethodId} {args : Array Value} {meth : Method} {c : Code} {cc : ByteArray} {own : String} {ret : Option FieldType} {tab : List ExceptionTableEntry} {A : Nat × Nat × Nat × Nat}
theorem az_sl (C : az_C l G p s m args meth c cc own nL ret tab) (hT : az_okT G A) (i : Nat) {w : Cond} (hi : az_sel[i]? = some w) (ho : w.onTables = true) : w.before args s = true := va_Nw.use ho ((hT _ _ C.hO).1 w (List.mem_of_getElem? hi))
end
