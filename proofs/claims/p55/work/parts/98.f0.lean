/-! THE LAW'S HELPERS: bodies with handlers -/
section
variable {l : Launch} {G : az_G} {nL : Nat} {Q : State → Prop} {p : Program} {e : Env} {R : Room} {s : State} {m : MethodId} {args : Array Value} {below : List Frame} {meth : Method} {c : Code} {ad : az_A} {K : az_K} {k n pc : Nat} {lv : List (Nat × Value)} {st : List Value}
variable {cc : ByteArray} {own : String} {ret : Option FieldType} {tab : List ExceptionTableEntry} {post : az_O → az_A → az_K → Prop} {mc ms : Nat}
abbrev az_wsH (y : MethodName) (b : ByteArray) (n : Nat) (ret : Option FieldType) (hh : List (Nat × Nat × Nat × Nat)) : List Cond := Cond.codeWith y b n ret hh :: az_good
theorem az_startH {y : MethodName} {maxL d : Nat} {av : List Value} {hh : List (Nat × Nat × Nat × Nat)} (hG : az_ok l G) (hy : plainName y.cls = true) (hlen : (lg_sl av).length ≤ maxL)
    (body : ∀ (p : Program) (e : Env) (s : State) (m : MethodId) (args : Array Value) (below : List Frame) (meth : Method) (c : Code), az_C l G p s m args meth c cc y.cls maxL ret (tableOf hh) → az_W l G maxL (az_Q G post below args s mc ms) p e (az_rm d mc ms) s m args below meth c ad K 0 0 0 (lv_args 0 av) []) : az_M l G y (az_wsH y cc maxL ret hh) d av ad K mc ms post := by
  refine vx_ofWH (cc := cc) (maxL := maxL) (ret := ret) (hh := hh) hy rfl ?_
  intro p e s m args below meth c s₁ B hml hv
  obtain ⟨rfl, hE, hP⟩ := hv
  have hts := atoms_spec (ws := az_wsH y cc maxL ret hh) B.pre
  have C : az_C l G p s m av.toArray meth c cc y.cls maxL ret (tableOf hh) := ⟨B.exec, B.bytes, hml, findClass_of_methodNamed B.named, fun w hw hg => hts w (List.mem_cons_of_mem _ (List.mem_filter.mpr ⟨hw, hg⟩)), hE.1, hE.2.1, hE.2.2, B.notSynchronized, B.returns, vx_table (x := y) B (hts _ List.mem_cons_self), hG⟩
  have hl := lv_entry av (n := maxL) hlen
  rw [lg_entry_eq]
  exact body p e s m _ below meth c C s.heap [] _ hP va_S.rf hl
def az_YH (y : MethodName) (b : ByteArray) (n : Nat) (ret : Option FieldType) (hh : List (Nat × Nat × Nat × Nat)) (k : Nat) : Prop :=
  Cond.codeWith y b n ret hh ∈ lw_tbl ∧ Cond.initialized y.cls ∈ lw_tbl ∧ (y.cls ≠ "java/lang/invoke/MethodHandle" ∧ y.cls ≠ "java/lang/invoke/VarHandle") ∧ (parseMethodDescriptor y.desc).map (fun d => d.parameters.length) = some k
theorem az_callBH (C : az_C l G p s m args meth c cc own nL ret tab) {y : MethodName} {b : ByteArray} {nY kY d' idx : Nat} {rY : Option FieldType} {hh : List (Nat × Nat × Nat × Nat)} (Y : az_YH y b nY rY hh kY) (hw : Cond.methodLink own idx y ∈ lw_tbl) (hi : Cond.static y ∈ lw_tbl) (hfr : d' + 1 ≤ R.frames) (hlo : 19 + nY + 40 * d' ≤ R.locals) : vx_CSW R s args own idx y b nY rY hh (az_wsH y b nY rY hh) (az_rm d' mc ms) mc ms kY := by
  obtain ⟨y1, y2, y3, y4⟩ := Y
  refine ⟨⟨rfl, rfl, hfr, ?_, fun w hw9 a' U hW => ?_, List.mem_cons_self⟩, C.hw y1 rfl, C.hw y2 rfl, y3, fun sig h => ?_, C.hw hw rfl, C.hw hi rfl⟩
  · show 8 + (nY + 11) + 40 * d' ≤ R.locals
    omega
  · rcases List.mem_cons.mp hw9 with h | h
    · subst h
      exact word_at hW (good_of_word rfl) (C.hw y1 rfl)
    · exact word_at hW (good_of_word (List.mem_filter.mp h).2) (C.hts w h)
  · rw [h] at y4
    exact (Option.some.inj y4).symm
/-- a call of a helper of the law's -/
theorem az_callH (C : az_C l G p s m args meth c cc own nL ret tab) {y : MethodName} {b : ByteArray} {nY kY d' idx mc ms : Nat} {rY : Option FieldType} {hh : List (Nat × Nat × Nat × Nat)} {post : az_O → az_A → az_K → Prop} (Y : az_YH y b nY rY hh kY) (As rest : List Value) (hw : Cond.methodLink own idx y ∈ lw_tbl) (hi : Cond.static y ∈ lw_tbl) (d : decode cc pc = .ok (.invokestatic idx, 3)) (hst : st = As.reverse ++ rest) (hM : az_M l G y (az_wsH y b nY rY hh) d' As ad K mc ms post) (hn : As.length = kY) (hW : (rest.map fun v => v.category).sum ≤ 8) (hfr : d' + 1 ≤ R.frames) (hlo : 19 + nY + 40 * d' ≤ R.locals) (hc : k + mc ≤ R.cells) (hs : n + ms ≤ R.slots)
    (kk : ∀ (v : Option Value) (ad' : az_A) (K' : az_K), post (.inl v) ad' K' → az_W l G nL Q p e R s m args below meth c ad' K' (k + mc) (n + ms) (pc + 3) lv (v.toList ++ rest))
    (kx : ∀ (E : String) (ad' : az_A) (K' : az_K), post (.inr E) ad' K' → az_X l G nL Q p e R s m args below meth c ad' K' (k + mc) (n + ms) pc lv E) : az_W l G nL Q p e R s m args below meth c ad K k n pc lv st := by
  intro H locs ls hP hS hl
  exact az_run (vx_runSX (hh := hh) (As := As) (rest := rest) ⟨C.1, C.2.1, C.2.2.1, C.2.2.2.1, C.hts⟩ hM (az_callBH C Y hw hi hfr hlo) ⟨az_blind C.hG, az_here C hP hS⟩ rfl hn hl.1 hst (lv_room hW) d ⟨hc, hs⟩) hS hl kk kx
/-- caught here -/
theorem az_catch (C : az_C l G p s m args meth c cc own nL ret tab) (hG : az_okS l G) {E : String} (pre : List ExceptionTableEntry) (x : ExceptionTableEntry) (suf : List ExceptionTableEntry) (hs : tab = pre ++ x :: suf) (hpass : ∀ z ∈ pre, z.catchType ≠ 0 ∧ ∃ nm : String, Cond.classLink own z.catchType nm ∈ lw_tbl ∧ (E, nm) ∈ az_ncs) (hx : covers x pc = true) (h0 : x.catchType ≠ 0) (hlink : Cond.classLink own x.catchType E ∈ lw_tbl) (hcast : Cond.castable E E ∈ az_bad) (kk : ∀ q : Nat, az_W l G nL Q p e R s m args below meth c ad K k n x.handlerPc lv [.ref q]) : az_X l G nL Q p e R s m args below meth c ad K k n pc lv E := by
  intro H locs ls rest q ce hP hS hl hce hcv hcl
  refine vx_catch C.2.2.2.1 pre x suf (C.htab.trans hs) (fun z hz => Or.inr ?_) hx h0 (C.hw hlink rfl) (az_bw C hG hcast rfl) hce hcv hcl (kk q H locs ls hP hS hl)
  obtain ⟨h1, nm, h2, h3⟩ := hpass z hz
  exact ⟨h1, nm, C.hw h2 rfl, (hG.2 _ _ C.hO).2.2.2.2.1 (E, nm) h3⟩
end
