/-! LAYER A: the machine's heap seen through places. A place is a region and a number; 'ad' tells its address, 'K' what lies there. A method's body is a judgement az_W over places alone; each row is one row of the kit, said over places. -/
abbrev az_K : Type := Nat → Nat → Option va_E
abbrev az_A : Type := Nat → Nat → Nat
/-- what is fixed for the whole run: where the run's own cells begin, the classes' numbers and slots, the array classes, what the statics hold -/
abbrev az_G : Type := Nat × va_G × (Nat → ClassId) × (State → Heap → Prop)
abbrev az_O : Type := Option Value ⊕ String
abbrev az_B : String := "BargeRiver$Barge"
abbrev az_tys (cs : Nat → ClassId) : List (ClassId × FieldType) := [(cs 0, .int), (cs 1, .int), (cs 2, .int), (cs 3, .byte), (cs 4, .int), (cs 5, .object az_B)]
def az_ok (l : Launch) (G : az_G) : Prop :=
  (∀ (s U : State) (H : Heap), s.WarmedH U.vm → G.2.2.2 s H → G.2.2.2 U H) ∧
  (∀ (U : State) (H H1 : Heap), (∀ q : Nat, q < H.size → q < G.1 → H1[q]? = H[q]?) → G.2.2.2 U H → G.2.2.2 U H1) ∧
  (∀ (U : State) (H : Heap) (g : JFrame) (mk : MethodId) (a : Array Value), G.2.2.2 U H → G.2.2.2 (U.calling g mk a) H) ∧ l.stackTraces = false
def az_P (G : az_G) (ad : az_A) (K : az_K) (H : Heap) : Prop :=
  (∀ (r i : Nat) (e : va_E), K r i = some e → va_at G.2.1 vwCl (ad r i, e) H ∧ G.1 ≤ ad r i) ∧
  ∀ (r i r' i' : Nat) (e e' : va_E), K r i = some e → K r' i' = some e' → ad r i = ad r' i' → r = r' ∧ i = i'
def az_u (K : az_K) (r i : Nat) (e : va_E) : az_K := fun r' i' => if r' = r ∧ i' = i then some e else K r' i'
def az_ua (ad : az_A) (r i q : Nat) : az_A := fun r' i' => if r' = r ∧ i' = i then q else ad r' i'
theorem az_u_s {K : az_K} {r i : Nat} {e : va_E} : az_u K r i e r i = some e := if_pos ⟨rfl, rfl⟩
theorem az_u_n {K : az_K} {r i r' i' : Nat} {e : va_E} (h : ¬ (r' = r ∧ i' = i)) : az_u K r i e r' i' = K r' i' := if_neg h
theorem az_P.set {G : az_G} {ad : az_A} {K : az_K} {H H1 : Heap} {r i : Nat} {e0 e : va_E} (h : az_P G ad K H) (h0 : K r i = some e0) (he : va_at G.2.1 vwCl (ad r i, e) H1) (oq : ∀ q : Nat, q ≠ ad r i → H1[q]? = H[q]?) : az_P G ad (az_u K r i e) H1 := by
  have key : ∀ (r' i' : Nat) (e' : va_E), az_u K r i e r' i' = some e' → ∃ e2, K r' i' = some e2 := by
    intro r' i' e' hk
    by_cases hh : r' = r ∧ i' = i
    · obtain ⟨rfl, rfl⟩ := hh; exact ⟨e0, h0⟩
    · rw [az_u_n hh] at hk; exact ⟨e', hk⟩
  refine ⟨fun r' i' e' hk => ?_, fun a b a' b' x x' hx hx' hq => ?_⟩
  · by_cases hh : r' = r ∧ i' = i
    · obtain ⟨rfl, rfl⟩ := hh
      rw [az_u_s] at hk; cases hk
      exact ⟨he, (h.1 _ _ _ h0).2⟩
    · rw [az_u_n hh] at hk
      refine ⟨(h.1 _ _ _ hk).1.kept (oq _ fun hq => hh (h.2 _ _ _ _ _ _ hk h0 hq)), (h.1 _ _ _ hk).2⟩
  · obtain ⟨y, hy⟩ := key _ _ _ hx
    obtain ⟨y', hy'⟩ := key _ _ _ hx'
    exact h.2 _ _ _ _ _ _ hy hy' hq
theorem az_P.new {G : az_G} {ad : az_A} {K : az_K} {H H1 : Heap} {r i q : Nat} {e : va_E} (h : az_P G ad K H) (hq : q = H.size) (he : va_at G.2.1 vwCl (q, e) H1) (oq : ∀ z : Nat, z < q → H1[z]? = H[z]?) (hb : G.1 ≤ q) : az_P G (az_ua ad r i q) (az_u K r i e) H1 := by
  have lt : ∀ (r' i' : Nat) (e' : va_E), K r' i' = some e' → ad r' i' < q := fun r' i' e' hk => by rw [hq]; exact (h.1 _ _ _ hk).1.lt
  refine ⟨fun r' i' e' hk => ?_, fun a b a' b' x x' hx hx' hz => ?_⟩
  · by_cases hh : r' = r ∧ i' = i
    · obtain ⟨rfl, rfl⟩ := hh
      rw [az_u_s] at hk; cases hk
      rw [show az_ua ad r' i' q r' i' = q from if_pos ⟨rfl, rfl⟩]
      exact ⟨he, hb⟩
    · rw [az_u_n hh] at hk
      rw [show az_ua ad r i q r' i' = ad r' i' from if_neg hh]
      exact ⟨(h.1 _ _ _ hk).1.kept (oq _ (lt _ _ _ hk)), (h.1 _ _ _ hk).2⟩
  · by_cases h1 : a = r ∧ b = i <;> by_cases h2 : a' = r ∧ b' = i
    · exact ⟨h1.1.trans h2.1.symm, h1.2.trans h2.2.symm⟩
    · rw [az_u_n h2] at hx'
      rw [show az_ua ad r i q a b = q from if_pos h1, show az_ua ad r i q a' b' = ad a' b' from if_neg h2] at hz
      exact absurd hz (Nat.ne_of_gt (lt _ _ _ hx'))
    · rw [az_u_n h1] at hx
      rw [show az_ua ad r i q a b = ad a b from if_neg h1, show az_ua ad r i q a' b' = q from if_pos h2] at hz
      exact absurd hz (Nat.ne_of_lt (lt _ _ _ hx))
    · rw [az_u_n h1] at hx
      rw [az_u_n h2] at hx'
      rw [show az_ua ad r i q a b = ad a b from if_neg h1, show az_ua ad r i q a' b' = ad a' b' from if_neg h2] at hz
      exact h.2 _ _ _ _ _ _ hx hx' hz
/-- other names for the same cells: each new name means an old one, no two the same -/
theorem az_P.mv {G : az_G} {ad ad' : az_A} {K K' : az_K} {H : Heap} (h : az_P G ad K H) (f : Nat → Nat → Nat × Nat) (h1 : ∀ (r i : Nat) (e : va_E), K' r i = some e → K (f r i).1 (f r i).2 = some e ∧ ad' r i = ad (f r i).1 (f r i).2) (h2 : ∀ (r i r' i' : Nat) (e e' : va_E), K' r i = some e → K' r' i' = some e' → f r i = f r' i' → r = r' ∧ i = i') : az_P G ad' K' H := by
  refine ⟨fun r i e hk => ?_, fun r i r' i' e e' hk hk' hq => ?_⟩
  · obtain ⟨a, b⟩ := h1 r i e hk
    rw [b]
    exact h.1 _ _ _ a
  · obtain ⟨a, b⟩ := h1 r i e hk
    obtain ⟨a', b'⟩ := h1 r' i' e' hk'
    rw [b, b'] at hq
    obtain ⟨c, d⟩ := h.2 _ _ _ _ _ _ a a' hq
    exact h2 r i r' i' e e' hk hk' (Prod.ext c d)
def az_E (G : az_G) (U : State) : Prop := va_K G.2.1 vwCl (az_tys G.2.2.1) U ∧ G.2.2.2 U U.heap ∧ G.1 ≤ U.heap.size
abbrev az_rm (d mc ms : Nat) : Room := { frames := d, cells := mc, slots := ms, locals := 40 * d }
abbrev az_Pc (G : az_G) (av : List Value) (ad : az_A) (K : az_K) : Array Value → State → Prop := va_Pc av (fun U => az_E G U ∧ az_P G ad K U.heap)
def az_Qc (G : az_G) (post : az_O → az_A → az_K → Prop) : Array Value → State → Outcome → State → Prop := fun _ st oc t => (∃ (v : Option Value) (ad' : az_A) (K' : az_K), oc = .returned v ∧ post (.inl v) ad' K' ∧ az_P G ad' K' t.heap) ∧ va_F (fun q => G.1 ≤ q) st t
def az_XC (G : az_G) (post : az_O → az_A → az_K → Prop) : String → State → State → Prop := fun E st t => (∃ (ad' : az_A) (K' : az_K), post (.inr E) ad' K' ∧ az_P G ad' K' t.heap) ∧ va_F (fun q => G.1 ≤ q) st t
def az_fr (G : az_G) : Addr → Prop := fun q => G.1 ≤ q
/-- a contract: from the places as K has them the method comes back (or throws) with 'post' -/
def az_M (l : Launch) (G : az_G) (y : MethodName) (ws : List Cond) (d : Nat) (av : List Value) (ad : az_A) (K : az_K) (mc ms : Nat) (post : az_O → az_A → az_K → Prop) : Prop :=
  vx_Met l y ws (az_rm d mc ms) (az_Pc G av ad K) (az_Qc G post) (az_XC G post) mc ms (az_fr G)
def az_good : List Cond := lw_tbl.filter goodWord
abbrev az_ws (y : MethodName) (b : ByteArray) (n : Nat) (ret : Option FieldType) : List Cond := Cond.code y b n ret :: az_good
/-- the answer v, and the places as they are now -/
def az_r (v : Option Value) (ad : az_A) (K : az_K) : az_O → az_A → az_K → Prop := fun o ad' K' => o = .inl v ∧ ad' = ad ∧ K' = K
/-- it throws E, and the places as they are now -/
def az_x (E : String) (ad : az_A) (K : az_K) : az_O → az_A → az_K → Prop := fun o ad' K' => o = .inr E ∧ ad' = ad ∧ K' = K
theorem az_t {w : Cond} {i : Nat} (h : tables_1[i]? = some w) : w ∈ lw_tbl := List.mem_append_right _ (List.mem_of_getElem? h)
theorem az_tp {w : Cond} {i : Nat} (h : (k2_sels lw_privs)[i]? = some w) : w ∈ lw_tbl := List.mem_append_left _ (List.mem_of_getElem? h)
/-- a method, as the tables have it -/
def az_Y (y : MethodName) (b : ByteArray) (n : Nat) (ret : Option FieldType) (k : Nat) : Prop :=
  Cond.code y b n ret ∈ lw_tbl ∧ Cond.initialized y.cls ∈ lw_tbl ∧ (y.cls ≠ "java/lang/invoke/MethodHandle" ∧ y.cls ≠ "java/lang/invoke/VarHandle") ∧ (parseMethodDescriptor y.desc).map (fun d => d.parameters.length) = some k
def az_cl (ci : Nat) (C : String) (T : u_T) (N : Nat) (ty : Nat → FieldType) : Prop :=
  vwCl[ci]? = some (C, T, N) ∧ (∀ w ∈ u_ws C T N, w ∈ lw_tbl ∧ goodWord w = true) ∧ (∀ k, k < N → parseFieldDescriptor (T k).2.2.1 = some (ty k)) ∧ (∀ a, a < N → ∀ b, b < N → a ≠ b → (T a).2.1 ≠ (T b).2.1)
def az_C (l : Launch) (G : az_G) (p : Program) (s : State) (m : MethodId) (args : Array Value) (meth : Method) (c : Code) (cc : ByteArray) (own : String) (nL : Nat) (ret : Option FieldType) (tab : List ExceptionTableEntry) : Prop :=
  p.tables.exec = Jvm.exec ∧ c.code = cc ∧ c.maxLocals = nL ∧ s.vm.findClass own = some m.cls ∧ (∀ w ∈ lw_tbl, goodWord w = true → w.before args s = true) ∧ va_K G.2.1 vwCl (az_tys G.2.2.1) s ∧ G.2.2.2 s s.heap ∧ G.1 ≤ s.heap.size ∧ meth.locks = false ∧ meth.sig.returnType = ret ∧ c.exceptionTable.toList = tab ∧ az_ok l G
def az_W (l : Launch) (G : az_G) (nL : Nat) (Q : State → Prop) (p : Program) (e : Env) (R : Room) (s : State) (m : MethodId) (args : Array Value) (below : List Frame) (meth : Method) (c : Code) (ad : az_A) (K : az_K) (k n pc : Nat) (lv : List (Nat × Value)) (st : List Value) : Prop :=
  ∀ (H : Heap) (locs : List Loc) (ls : Array Slot), az_P G ad K H → va_S (fun q => G.1 ≤ q) s.heap H locs → lv_has ls nL lv → W p l e R s m args below meth c H locs k n Q (F0 m pc ls st)
/-- thrown, at pc -/
def az_X (l : Launch) (G : az_G) (nL : Nat) (Q : State → Prop) (p : Program) (e : Env) (R : Room) (s : State) (m : MethodId) (args : Array Value) (below : List Frame) (meth : Method) (c : Code) (ad : az_A) (K : az_K) (k n pc : Nat) (lv : List (Nat × Value)) (E : String) : Prop :=
  ∀ (H : Heap) (locs : List Loc) (ls : Array Slot) (rest : List Value) (q : Addr) (ce : Cell), az_P G ad K H → va_S (fun q => G.1 ≤ q) s.heap H locs → lv_has ls nL lv → H[q]? = some ce → ce.vm = .none → s.vm.findClass E = some ce.cls → vx_W p l e R s m args below meth c H locs k n Q (F0 m pc ls rest) q
abbrev az_Q (G : az_G) (post : az_O → az_A → az_K → Prop) (below : List Frame) (args : Array Value) (s : State) (mc ms : Nat) : State → Prop := vx_MQ below (az_Qc G post) (az_XC G post) args s mc ms (az_fr G)
section AZR
variable {l : Launch} {G : az_G} {nL : Nat} {Q : State → Prop} {p : Program} {e : Env} {R : Room} {s : State} {m : MethodId} {args : Array Value} {below : List Frame} {meth : Method} {c : Code} {ad : az_A} {K : az_K} {k n pc : Nat} {lv : List (Nat × Value)} {st : List Value}
variable {cc : ByteArray} {own : String} {ret : Option FieldType} {tab : List ExceptionTableEntry}

theorem az_iconst (C : az_C l G p s m args meth c cc own nL ret tab) {j : Int} {v : Int32} (d : decode cc pc = .ok (.iconst j, 1)) (hv : Int32.ofInt j = v) (kk : az_W l G nL Q p e R s m args below meth c ad K k n (pc + 1) lv (.int v :: st)) : az_W l G nL Q p e R s m args below meth c ad K k n pc lv (st) :=
  fun H locs ls hP hS hl => lv_iconst C.1 C.2.1 d hv (kk H locs ls hP hS hl)
theorem az_lconst (C : az_C l G p s m args meth c cc own nL ret tab) {j : Fin 2} {v : Int64} (d : decode cc pc = .ok (.lconst j, 1)) (hv : Int64.ofNat (j : Nat) = v) (kk : az_W l G nL Q p e R s m args below meth c ad K k n (pc + 1) lv (.long v :: st)) : az_W l G nL Q p e R s m args below meth c ad K k n pc lv (st) :=
  fun H locs ls hP hS hl => lv_lconst C.1 C.2.1 d hv (kk H locs ls hP hS hl)
theorem az_bipush (C : az_C l G p s m args meth c cc own nL ret tab) {j : Int} {v : Int32} (d : decode cc pc = .ok (.bipush j, 2)) (hv : (Int8.ofInt j).toInt32 = v) (kk : az_W l G nL Q p e R s m args below meth c ad K k n (pc + 2) lv (.int v :: st)) : az_W l G nL Q p e R s m args below meth c ad K k n pc lv (st) :=
  fun H locs ls hP hS hl => lv_bipush C.1 C.2.1 d hv (kk H locs ls hP hS hl)
theorem az_sipush (C : az_C l G p s m args meth c cc own nL ret tab) {j : Int} {v : Int32} (d : decode cc pc = .ok (.sipush j, 3)) (hv : (Int16.ofInt j).toInt32 = v) (kk : az_W l G nL Q p e R s m args below meth c ad K k n (pc + 3) lv (.int v :: st)) : az_W l G nL Q p e R s m args below meth c ad K k n pc lv (st) :=
  fun H locs ls hP hS hl => lv_sipush C.1 C.2.1 d hv (kk H locs ls hP hS hl)
theorem az_null (C : az_C l G p s m args meth c cc own nL ret tab)  (d : decode cc pc = .ok (.aconst_null, 1))  (kk : az_W l G nL Q p e R s m args below meth c ad K k n (pc + 1) lv (.null :: st)) : az_W l G nL Q p e R s m args below meth c ad K k n pc lv (st) :=
  fun H locs ls hP hS hl => lv_null C.1 C.2.1 d (kk H locs ls hP hS hl)
theorem az_iload_n (C : az_C l G p s m args meth c cc own nL ret tab) {j : Fin 4} {x : Int32} (z : Nat) (d : decode cc pc = .ok (.iload_n j, 1)) (hl0 : lv[z]? = some ((j : Nat), .int x)) (kk : az_W l G nL Q p e R s m args below meth c ad K k n (pc + 1) lv (.int x :: st)) : az_W l G nL Q p e R s m args below meth c ad K k n pc lv (st) :=
  fun H locs ls hP hS hl => lv_iload_n C.1 C.2.1 d rfl (lv_at hl z hl0) (kk H locs ls hP hS hl)
theorem az_iload (C : az_C l G p s m args meth c cc own nL ret tab) {j : Nat} {x : Int32} (z : Nat) (d : decode cc pc = .ok (.iload j, 2)) (hl0 : lv[z]? = some (j, .int x)) (kk : az_W l G nL Q p e R s m args below meth c ad K k n (pc + 2) lv (.int x :: st)) : az_W l G nL Q p e R s m args below meth c ad K k n pc lv (st) :=
  fun H locs ls hP hS hl => lv_iload C.1 C.2.1 d (lv_at hl z hl0) (kk H locs ls hP hS hl)
theorem az_lload_n (C : az_C l G p s m args meth c cc own nL ret tab) {j : Fin 4} {x : Int64} (z : Nat) (d : decode cc pc = .ok (.lload_n j, 1)) (hl0 : lv[z]? = some ((j : Nat), .long x)) (kk : az_W l G nL Q p e R s m args below meth c ad K k n (pc + 1) lv (.long x :: st)) : az_W l G nL Q p e R s m args below meth c ad K k n pc lv (st) :=
  fun H locs ls hP hS hl => lv_lload_n C.1 C.2.1 d rfl (lv_at hl z hl0) (kk H locs ls hP hS hl)
theorem az_lload (C : az_C l G p s m args meth c cc own nL ret tab) {j : Nat} {x : Int64} (z : Nat) (d : decode cc pc = .ok (.lload j, 2)) (hl0 : lv[z]? = some (j, .long x)) (kk : az_W l G nL Q p e R s m args below meth c ad K k n (pc + 2) lv (.long x :: st)) : az_W l G nL Q p e R s m args below meth c ad K k n pc lv (st) :=
  fun H locs ls hP hS hl => lv_lload C.1 C.2.1 d (lv_at hl z hl0) (kk H locs ls hP hS hl)
theorem az_dload (C : az_C l G p s m args meth c cc own nL ret tab) {j : Nat} {x : UInt64} (z : Nat) (d : decode cc pc = .ok (.dload j, 2)) (hl0 : lv[z]? = some (j, .double x)) (kk : az_W l G nL Q p e R s m args below meth c ad K k n (pc + 2) lv (.double x :: st)) : az_W l G nL Q p e R s m args below meth c ad K k n pc lv (st) :=
  fun H locs ls hP hS hl => lv_dload C.1 C.2.1 d (lv_at hl z hl0) (kk H locs ls hP hS hl)
theorem az_aload_n (C : az_C l G p s m args meth c cc own nL ret tab) {j : Fin 4} {x : Nat} (z : Nat) (d : decode cc pc = .ok (.aload_n j, 1)) (hl0 : lv[z]? = some ((j : Nat), .ref x)) (kk : az_W l G nL Q p e R s m args below meth c ad K k n (pc + 1) lv (.ref x :: st)) : az_W l G nL Q p e R s m args below meth c ad K k n pc lv (st) :=
  fun H locs ls hP hS hl => lv_aload_n C.1 C.2.1 d rfl (lv_at hl z hl0) (kk H locs ls hP hS hl)
theorem az_aload (C : az_C l G p s m args meth c cc own nL ret tab) {j : Nat} {x : Nat} (z : Nat) (d : decode cc pc = .ok (.aload j, 2)) (hl0 : lv[z]? = some (j, .ref x)) (kk : az_W l G nL Q p e R s m args below meth c ad K k n (pc + 2) lv (.ref x :: st)) : az_W l G nL Q p e R s m args below meth c ad K k n pc lv (st) :=
  fun H locs ls hP hS hl => lv_aload C.1 C.2.1 d (lv_at hl z hl0) (kk H locs ls hP hS hl)
theorem az_aload_nN (C : az_C l G p s m args meth c cc own nL ret tab) {j : Fin 4} (z : Nat) (d : decode cc pc = .ok (.aload_n j, 1)) (hl0 : lv[z]? = some ((j : Nat), .null)) (kk : az_W l G nL Q p e R s m args below meth c ad K k n (pc + 1) lv (.null :: st)) : az_W l G nL Q p e R s m args below meth c ad K k n pc lv (st) :=
  fun H locs ls hP hS hl => lv_aload_nN C.1 C.2.1 d rfl (lv_at hl z hl0) (kk H locs ls hP hS hl)
theorem az_aloadN (C : az_C l G p s m args meth c cc own nL ret tab) {j : Nat} (z : Nat) (d : decode cc pc = .ok (.aload j, 2)) (hl0 : lv[z]? = some (j, .null)) (kk : az_W l G nL Q p e R s m args below meth c ad K k n (pc + 2) lv (.null :: st)) : az_W l G nL Q p e R s m args below meth c ad K k n pc lv (st) :=
  fun H locs ls hP hS hl => lv_aloadN C.1 C.2.1 d (lv_at hl z hl0) (kk H locs ls hP hS hl)
theorem az_istore_n (C : az_C l G p s m args meth c cc own nL ret tab) {i : Fin 4} {j : Nat} {x : Int32} (hi : (i : Nat) = j) {lv' : List (Nat × Value)} (d : decode cc pc = .ok (.istore_n i, 1)) (hn : j < nL) (hl1 : (j, Value.int x) :: lv.filter (fun q => !(q.1 == j) && !(q.1 + 1 == j && q.2.category == 2)) = lv') (kk : az_W l G nL Q p e R s m args below meth c ad K k n (pc + 1) lv' st) : az_W l G nL Q p e R s m args below meth c ad K k n pc lv (Value.int x :: st) :=
  fun H locs ls hP hS hl => lv_istore_n C.1 C.2.1 d hi hl hn hl1 (fun ls' hl' => kk H locs ls' hP hS hl')
theorem az_istore (C : az_C l G p s m args meth c cc own nL ret tab) {j : Nat} {x : Int32} {lv' : List (Nat × Value)} (d : decode cc pc = .ok (.istore j, 2)) (hn : j < nL) (hl1 : (j, Value.int x) :: lv.filter (fun q => !(q.1 == j) && !(q.1 + 1 == j && q.2.category == 2)) = lv') (kk : az_W l G nL Q p e R s m args below meth c ad K k n (pc + 2) lv' st) : az_W l G nL Q p e R s m args below meth c ad K k n pc lv (Value.int x :: st) :=
  fun H locs ls hP hS hl => lv_istore C.1 C.2.1 d hl hn hl1 (fun ls' hl' => kk H locs ls' hP hS hl')
theorem az_lstore_n (C : az_C l G p s m args meth c cc own nL ret tab) {i : Fin 4} {j : Nat} {x : Int64} (hi : (i : Nat) = j) {lv' : List (Nat × Value)} (d : decode cc pc = .ok (.lstore_n i, 1)) (hn : j + 1 < nL) (hl1 : (j, Value.long x) :: lv.filter (fun q => !(q.1 == j) && (!(q.1 == j + 1) && !(q.1 + 1 == j && q.2.category == 2))) = lv') (kk : az_W l G nL Q p e R s m args below meth c ad K k n (pc + 1) lv' st) : az_W l G nL Q p e R s m args below meth c ad K k n pc lv (Value.long x :: st) :=
  fun H locs ls hP hS hl => lv_lstore_n C.1 C.2.1 d hi hl hn hl1 (fun ls' hl' => kk H locs ls' hP hS hl')
theorem az_lstore (C : az_C l G p s m args meth c cc own nL ret tab) {j : Nat} {x : Int64} {lv' : List (Nat × Value)} (d : decode cc pc = .ok (.lstore j, 2)) (hn : j + 1 < nL) (hl1 : (j, Value.long x) :: lv.filter (fun q => !(q.1 == j) && (!(q.1 == j + 1) && !(q.1 + 1 == j && q.2.category == 2))) = lv') (kk : az_W l G nL Q p e R s m args below meth c ad K k n (pc + 2) lv' st) : az_W l G nL Q p e R s m args below meth c ad K k n pc lv (Value.long x :: st) :=
  fun H locs ls hP hS hl => lv_lstore C.1 C.2.1 d hl hn hl1 (fun ls' hl' => kk H locs ls' hP hS hl')
theorem az_astore_n (C : az_C l G p s m args meth c cc own nL ret tab) {i : Fin 4} {j : Nat} {x : Nat} (hi : (i : Nat) = j) {lv' : List (Nat × Value)} (d : decode cc pc = .ok (.astore_n i, 1)) (hn : j < nL) (hl1 : (j, Value.ref x) :: lv.filter (fun q => !(q.1 == j) && !(q.1 + 1 == j && q.2.category == 2)) = lv') (kk : az_W l G nL Q p e R s m args below meth c ad K k n (pc + 1) lv' st) : az_W l G nL Q p e R s m args below meth c ad K k n pc lv (Value.ref x :: st) :=
  fun H locs ls hP hS hl => lv_astore_n C.1 C.2.1 d hi hl hn hl1 (fun ls' hl' => kk H locs ls' hP hS hl')
theorem az_astore (C : az_C l G p s m args meth c cc own nL ret tab) {j : Nat} {x : Nat} {lv' : List (Nat × Value)} (d : decode cc pc = .ok (.astore j, 2)) (hn : j < nL) (hl1 : (j, Value.ref x) :: lv.filter (fun q => !(q.1 == j) && !(q.1 + 1 == j && q.2.category == 2)) = lv') (kk : az_W l G nL Q p e R s m args below meth c ad K k n (pc + 2) lv' st) : az_W l G nL Q p e R s m args below meth c ad K k n pc lv (Value.ref x :: st) :=
  fun H locs ls hP hS hl => lv_astore C.1 C.2.1 d hl hn hl1 (fun ls' hl' => kk H locs ls' hP hS hl')
theorem az_dstore (C : az_C l G p s m args meth c cc own nL ret tab) {j : Nat} {x : UInt64} {lv' : List (Nat × Value)} (d : decode cc pc = .ok (.dstore j, 2)) (hn : j + 1 < nL) (hl1 : (j, Value.double x) :: lv.filter (fun q => !(q.1 == j) && (!(q.1 == j + 1) && !(q.1 + 1 == j && q.2.category == 2))) = lv') (kk : az_W l G nL Q p e R s m args below meth c ad K k n (pc + 2) lv' st) : az_W l G nL Q p e R s m args below meth c ad K k n pc lv (Value.double x :: st) :=
  fun H locs ls hP hS hl => lv_dstore C.1 C.2.1 d hl hn hl1 (fun ls' hl' => kk H locs ls' hP hS hl')
theorem az_astore_nN (C : az_C l G p s m args meth c cc own nL ret tab) {i : Fin 4} {j : Nat} (hi : (i : Nat) = j) {lv' : List (Nat × Value)} (d : decode cc pc = .ok (.astore_n i, 1)) (hn : j < nL) (hl1 : (j, Value.null) :: lv.filter (fun q => !(q.1 == j) && !(q.1 + 1 == j && q.2.category == 2)) = lv') (kk : az_W l G nL Q p e R s m args below meth c ad K k n (pc + 1) lv' st) : az_W l G nL Q p e R s m args below meth c ad K k n pc lv (Value.null :: st) :=
  fun H locs ls hP hS hl => lv_astore_nN C.1 C.2.1 d hi hl hn hl1 (fun ls' hl' => kk H locs ls' hP hS hl')
theorem az_astoreN (C : az_C l G p s m args meth c cc own nL ret tab) {j : Nat} {lv' : List (Nat × Value)} (d : decode cc pc = .ok (.astore j, 2)) (hn : j < nL) (hl1 : (j, Value.null) :: lv.filter (fun q => !(q.1 == j) && !(q.1 + 1 == j && q.2.category == 2)) = lv') (kk : az_W l G nL Q p e R s m args below meth c ad K k n (pc + 2) lv' st) : az_W l G nL Q p e R s m args below meth c ad K k n pc lv (Value.null :: st) :=
  fun H locs ls hP hS hl => lv_astoreN C.1 C.2.1 d hl hn hl1 (fun ls' hl' => kk H locs ls' hP hS hl')
theorem az_iinc (C : az_C l G p s m args meth c cc own nL ret tab) {j : Nat} {a : Int} {x v : Int32} (z : Nat) {lv' : List (Nat × Value)} (d : decode cc pc = .ok (.iinc j a, 3)) (hl0 : lv[z]? = some (j, .int x)) (hv : x + Int32.ofInt a = v) (hn : j < nL) (hl1 : (j, Value.int v) :: lv.filter (fun q => !(q.1 == j) && !(q.1 + 1 == j && q.2.category == 2)) = lv') (kk : az_W l G nL Q p e R s m args below meth c ad K k n (pc + 3) lv' st) : az_W l G nL Q p e R s m args below meth c ad K k n pc lv st :=
  fun H locs ls hP hS hl => lv_iinc C.1 C.2.1 d hl (k := z) hl0 hv hn hl1 (fun ls' hl' => kk H locs ls' hP hS hl')
theorem az_iadd (C : az_C l G p s m args meth c cc own nL ret tab) {x y : Int32} (d : decode cc pc = .ok (.iadd, 1))  (kk : az_W l G nL Q p e R s m args below meth c ad K k n (pc + 1) lv (.int (x + y) :: st)) : az_W l G nL Q p e R s m args below meth c ad K k n pc lv (.int y :: .int x :: st) :=
  fun H locs ls hP hS hl => lv_iadd C.1 C.2.1 d (kk H locs ls hP hS hl)
theorem az_isub (C : az_C l G p s m args meth c cc own nL ret tab) {x y : Int32} (d : decode cc pc = .ok (.isub, 1))  (kk : az_W l G nL Q p e R s m args below meth c ad K k n (pc + 1) lv (.int (x - y) :: st)) : az_W l G nL Q p e R s m args below meth c ad K k n pc lv (.int y :: .int x :: st) :=
  fun H locs ls hP hS hl => lv_isub C.1 C.2.1 d (kk H locs ls hP hS hl)
theorem az_imul (C : az_C l G p s m args meth c cc own nL ret tab) {x y : Int32} (d : decode cc pc = .ok (.imul, 1))  (kk : az_W l G nL Q p e R s m args below meth c ad K k n (pc + 1) lv (.int (x * y) :: st)) : az_W l G nL Q p e R s m args below meth c ad K k n pc lv (.int y :: .int x :: st) :=
  fun H locs ls hP hS hl => lv_imul C.1 C.2.1 d (kk H locs ls hP hS hl)
theorem az_iand (C : az_C l G p s m args meth c cc own nL ret tab) {x y : Int32} (d : decode cc pc = .ok (.iand, 1))  (kk : az_W l G nL Q p e R s m args below meth c ad K k n (pc + 1) lv (.int (x &&& y) :: st)) : az_W l G nL Q p e R s m args below meth c ad K k n pc lv (.int y :: .int x :: st) :=
  fun H locs ls hP hS hl => lv_iand C.1 C.2.1 d (kk H locs ls hP hS hl)
theorem az_ishr (C : az_C l G p s m args meth c cc own nL ret tab) {x y : Int32} (d : decode cc pc = .ok (.ishr, 1))  (kk : az_W l G nL Q p e R s m args below meth c ad K k n (pc + 1) lv (.int (x >>> (y &&& 31)) :: st)) : az_W l G nL Q p e R s m args below meth c ad K k n pc lv (.int y :: .int x :: st) :=
  fun H locs ls hP hS hl => lv_ishr C.1 C.2.1 d (kk H locs ls hP hS hl)
theorem az_ladd (C : az_C l G p s m args meth c cc own nL ret tab) {x y : Int64} (d : decode cc pc = .ok (.ladd, 1))  (kk : az_W l G nL Q p e R s m args below meth c ad K k n (pc + 1) lv (.long (x + y) :: st)) : az_W l G nL Q p e R s m args below meth c ad K k n pc lv (.long y :: .long x :: st) :=
  fun H locs ls hP hS hl => lv_ladd C.1 C.2.1 d (kk H locs ls hP hS hl)
theorem az_lsub (C : az_C l G p s m args meth c cc own nL ret tab) {x y : Int64} (d : decode cc pc = .ok (.lsub, 1))  (kk : az_W l G nL Q p e R s m args below meth c ad K k n (pc + 1) lv (.long (x - y) :: st)) : az_W l G nL Q p e R s m args below meth c ad K k n pc lv (.long y :: .long x :: st) :=
  fun H locs ls hP hS hl => lv_lsub C.1 C.2.1 d (kk H locs ls hP hS hl)
theorem az_lmul (C : az_C l G p s m args meth c cc own nL ret tab) {x y : Int64} (d : decode cc pc = .ok (.lmul, 1))  (kk : az_W l G nL Q p e R s m args below meth c ad K k n (pc + 1) lv (.long (x * y) :: st)) : az_W l G nL Q p e R s m args below meth c ad K k n pc lv (.long y :: .long x :: st) :=
  fun H locs ls hP hS hl => lv_lmul C.1 C.2.1 d (kk H locs ls hP hS hl)
theorem az_idiv (C : az_C l G p s m args meth c cc own nL ret tab) {x y : Int32} (d : decode cc pc = .ok (.idiv, 1)) (h0 : ¬ y = 0) (kk : az_W l G nL Q p e R s m args below meth c ad K k n (pc + 1) lv (.int (x / y) :: st)) : az_W l G nL Q p e R s m args below meth c ad K k n pc lv (.int y :: .int x :: st) :=
  fun H locs ls hP hS hl => lv_idiv C.1 C.2.1 d h0 (kk H locs ls hP hS hl)
theorem az_irem (C : az_C l G p s m args meth c cc own nL ret tab) {x y : Int32} (d : decode cc pc = .ok (.irem, 1)) (h0 : ¬ y = 0) (kk : az_W l G nL Q p e R s m args below meth c ad K k n (pc + 1) lv (.int (x - x / y * y) :: st)) : az_W l G nL Q p e R s m args below meth c ad K k n pc lv (.int y :: .int x :: st) :=
  fun H locs ls hP hS hl => lv_irem C.1 C.2.1 d h0 (kk H locs ls hP hS hl)
theorem az_ineg (C : az_C l G p s m args meth c cc own nL ret tab) {x : Int32} (d : decode cc pc = .ok (.ineg, 1))  (kk : az_W l G nL Q p e R s m args below meth c ad K k n (pc + 1) lv (.int (-x) :: st)) : az_W l G nL Q p e R s m args below meth c ad K k n pc lv (.int x :: st) :=
  fun H locs ls hP hS hl => lv_ineg C.1 C.2.1 d (kk H locs ls hP hS hl)
theorem az_lcmp (C : az_C l G p s m args meth c cc own nL ret tab) {x y : Int64} (d : decode cc pc = .ok (.lcmp, 1))  (kk : az_W l G nL Q p e R s m args below meth c ad K k n (pc + 1) lv (.int (lg_cmp x y) :: st)) : az_W l G nL Q p e R s m args below meth c ad K k n pc lv (.long y :: .long x :: st) :=
  fun H locs ls hP hS hl => W.lcmp C.1 C.2.1 d (kk H locs ls hP hS hl)
theorem az_i2l (C : az_C l G p s m args meth c cc own nL ret tab) {x : Int32} (d : decode cc pc = .ok (.i2l, 1))  (kk : az_W l G nL Q p e R s m args below meth c ad K k n (pc + 1) lv (.long x.toInt64 :: st)) : az_W l G nL Q p e R s m args below meth c ad K k n pc lv (.int x :: st) :=
  fun H locs ls hP hS hl => lv_i2l C.1 C.2.1 d rfl (kk H locs ls hP hS hl)
theorem az_l2i (C : az_C l G p s m args meth c cc own nL ret tab) {x : Int64} (d : decode cc pc = .ok (.l2i, 1))  (kk : az_W l G nL Q p e R s m args below meth c ad K k n (pc + 1) lv (.int x.toInt32 :: st)) : az_W l G nL Q p e R s m args below meth c ad K k n pc lv (.long x :: st) :=
  fun H locs ls hP hS hl => lv_l2i C.1 C.2.1 d rfl (kk H locs ls hP hS hl)
theorem az_i2c (C : az_C l G p s m args meth c cc own nL ret tab) {x : Int32} (d : decode cc pc = .ok (.i2c, 1))  (kk : az_W l G nL Q p e R s m args below meth c ad K k n (pc + 1) lv (.int (x.toUInt32 % 65536).toInt32 :: st)) : az_W l G nL Q p e R s m args below meth c ad K k n pc lv (.int x :: st) :=
  fun H locs ls hP hS hl => lv_i2c C.1 C.2.1 d rfl (kk H locs ls hP hS hl)
theorem az_i2b (C : az_C l G p s m args meth c cc own nL ret tab) {x : Int32} (d : decode cc pc = .ok (.i2b, 1))  (kk : az_W l G nL Q p e R s m args below meth c ad K k n (pc + 1) lv (.int x.toInt8.toInt32 :: st)) : az_W l G nL Q p e R s m args below meth c ad K k n pc lv (.int x :: st) :=
  fun H locs ls hP hS hl => lv_i2b C.1 C.2.1 d rfl (kk H locs ls hP hS hl)
theorem az_i2d (C : az_C l G p s m args meth c cc own nL ret tab) {x : Int32} (d : decode cc pc = .ok (.i2d, 1))  (kk : az_W l G nL Q p e R s m args below meth c ad K k n (pc + 1) lv (.double (FP.i2d x) :: st)) : az_W l G nL Q p e R s m args below meth c ad K k n pc lv (.int x :: st) :=
  fun H locs ls hP hS hl => lv_i2d C.1 C.2.1 d (kk H locs ls hP hS hl)
theorem az_ddiv (C : az_C l G p s m args meth c cc own nL ret tab) {x y : UInt64} (d : decode cc pc = .ok (.ddiv, 1)) (hne : vf_n64 (FP.ddiv x y)) (kk : az_W l G nL Q p e R s m args below meth c ad K k n (pc + 1) lv (.double (FP.ddiv x y) :: st)) : az_W l G nL Q p e R s m args below meth c ad K k n pc lv (.double y :: .double x :: st) :=
  fun H locs ls hP hS hl => lv_ddiv C.1 C.2.1 d hne (kk H locs ls hP hS hl)
theorem az_ior (C : az_C l G p s m args meth c cc own nL ret tab) {x y : Int32} (d : decode cc pc = .ok (.ior, 1))  (kk : az_W l G nL Q p e R s m args below meth c ad K k n (pc + 1) lv (.int (x ||| y) :: st)) : az_W l G nL Q p e R s m args below meth c ad K k n pc lv (.int y :: .int x :: st) :=
  fun H locs ls hP hS hl => lv_ior C.1 C.2.1 d (kk H locs ls hP hS hl)
theorem az_iushr (C : az_C l G p s m args meth c cc own nL ret tab) {x y v : Int32} (d : decode cc pc = .ok (.iushr, 1)) (hv : (x.toUInt32 >>> (y.toUInt32 &&& Int32.toUInt32 31)).toInt32 = v) (kk : az_W l G nL Q p e R s m args below meth c ad K k n (pc + 1) lv (.int v :: st)) : az_W l G nL Q p e R s m args below meth c ad K k n pc lv (.int y :: .int x :: st) :=
  fun H locs ls hP hS hl => lv_iushr C.1 C.2.1 d hv (kk H locs ls hP hS hl)
theorem az_dcmp (C : az_C l G p s m args meth c cc own nL ret tab) {x y : UInt64} {o : CmpOp} (d : decode cc pc = .ok (.dcmp o, 1))  (kk : az_W l G nL Q p e R s m args below meth c ad K k n (pc + 1) lv (.int (Op.cmpValue (FP.dcmp x y) o) :: st)) : az_W l G nL Q p e R s m args below meth c ad K k n pc lv (.double y :: .double x :: st) :=
  fun H locs ls hP hS hl => lv_dcmp C.1 C.2.1 d (kk H locs ls hP hS hl)
theorem az_dup (C : az_C l G p s m args meth c cc own nL ret tab) {v : Value} (d : decode cc pc = .ok (.dup, 1)) (hv : v.category = 1) (kk : az_W l G nL Q p e R s m args below meth c ad K k n (pc + 1) lv (v :: v :: st)) : az_W l G nL Q p e R s m args below meth c ad K k n pc lv (v :: st) :=
  fun H locs ls hP hS hl => lv_dup C.1 C.2.1 d hv (kk H locs ls hP hS hl)
theorem az_pop (C : az_C l G p s m args meth c cc own nL ret tab) {v : Value} (d : decode cc pc = .ok (.pop, 1)) (hv : v.category = 1) (kk : az_W l G nL Q p e R s m args below meth c ad K k n (pc + 1) lv (st)) : az_W l G nL Q p e R s m args below meth c ad K k n pc lv (v :: st) :=
  fun H locs ls hP hS hl => lv_pop C.1 C.2.1 d hv (kk H locs ls hP hS hl)
theorem az_dup2 (C : az_C l G p s m args meth c cc own nL ret tab) {v u : Value} (d : decode cc pc = .ok (.dup2, 1)) (hv : v.category = 1) (hu : u.category = 1) (kk : az_W l G nL Q p e R s m args below meth c ad K k n (pc + 1) lv (v :: u :: v :: u :: st)) : az_W l G nL Q p e R s m args below meth c ad K k n pc lv (v :: u :: st) :=
  fun H locs ls hP hS hl => lv_dup2_11 C.1 C.2.1 d hv hu (kk H locs ls hP hS hl)
theorem az_dup_x1 (C : az_C l G p s m args meth c cc own nL ret tab) {v u : Value} (d : decode cc pc = .ok (.dup_x1, 1)) (hv : v.category = 1) (hu : u.category = 1) (kk : az_W l G nL Q p e R s m args below meth c ad K k n (pc + 1) lv (v :: u :: v :: st)) : az_W l G nL Q p e R s m args below meth c ad K k n pc lv (v :: u :: st) :=
  fun H locs ls hP hS hl => lv_dup_x1 C.1 C.2.1 d hv hu (kk H locs ls hP hS hl)
theorem az_topi {x : Int32} (kk : ∀ y : Int32, y = x → az_W l G nL Q p e R s m args below meth c ad K k n pc lv (.int y :: st)) : az_W l G nL Q p e R s m args below meth c ad K k n pc lv (.int x :: st) := kk x rfl
theorem az_topl {x : Int64} (kk : ∀ y : Int64, y = x → az_W l G nL Q p e R s m args below meth c ad K k n pc lv (.long y :: st)) : az_W l G nL Q p e R s m args below meth c ad K k n pc lv (.long x :: st) := kk x rfl
theorem az_top {x : Int32} (y : Int32) (h : x = y) (kk : az_W l G nL Q p e R s m args below meth c ad K k n pc lv (.int y :: st)) : az_W l G nL Q p e R s m args below meth c ad K k n pc lv (.int x :: st) := h ▸ kk
theorem az_st (st' : List Value) (h : st = st') (kk : az_W l G nL Q p e R s m args below meth c ad K k n pc lv st') : az_W l G nL Q p e R s m args below meth c ad K k n pc lv st := h ▸ kk
theorem az_lv (ks : List Nat) {lv' : List (Nat × Value)} (h : lv_pick lv ks = lv') (kk : az_W l G nL Q p e R s m args below meth c ad K k n pc lv' st) : az_W l G nL Q p e R s m args below meth c ad K k n pc lv st := fun H locs ls hP hS hl => kk H locs ls hP hS (lv_sub hl ks h)
theorem az_kn (k' n' : Nat) (h1 : k ≤ k') (h2 : n ≤ n') (kk : az_W l G nL Q p e R s m args below meth c ad K k' n' pc lv st) : az_W l G nL Q p e R s m args below meth c ad K k n pc lv st := fun H locs ls hP hS hl => W.widen h1 h2 (kk H locs ls hP hS hl)
theorem az_to {ad' : az_A} {K' : az_K} (h1 : ad = ad') (h2 : K = K') (kk : az_W l G nL Q p e R s m args below meth c ad' K' k n pc lv st) : az_W l G nL Q p e R s m args below meth c ad K k n pc lv st := by subst h1; subst h2; exact kk
theorem az_mv {ad' : az_A} {K' : az_K} (f : Nat → Nat → Nat × Nat) (h1 : ∀ (r i : Nat) (e : va_E), K' r i = some e → K (f r i).1 (f r i).2 = some e ∧ ad' r i = ad (f r i).1 (f r i).2) (h2 : ∀ (r i r' i' : Nat) (e e' : va_E), K' r i = some e → K' r' i' = some e' → f r i = f r' i' → r = r' ∧ i = i') (kk : az_W l G nL Q p e R s m args below meth c ad' K' k n pc lv st) : az_W l G nL Q p e R s m args below meth c ad K k n pc lv st := fun H locs ls hP hS hl => kk H locs ls (hP.mv f h1 h2) hS hl
theorem az_if_eq (C : az_C l G p s m args meth c cc own nL ret tab) {x : Int32} {off : Int} (tgt : Nat) (d : decode cc pc = .ok (.ifCond .eq off, 3)) (ht : (pc : Int) + off = (tgt : Int)) (kt : x = 0 → az_W l G nL Q p e R s m args below meth c ad K k n tgt lv st) (kf : ¬ x = 0 → az_W l G nL Q p e R s m args below meth c ad K k n (pc + 3) lv st) : az_W l G nL Q p e R s m args below meth c ad K k n pc lv (.int x :: st) :=
  fun H locs ls hP hS hl => lv_if_eq C.1 C.2.1 d ht (fun q => kt q H locs ls hP hS hl) (fun q => kf q H locs ls hP hS hl)
theorem az_icmp_eq (C : az_C l G p s m args meth c cc own nL ret tab) {x y : Int32} {off : Int} (tgt : Nat) (d : decode cc pc = .ok (.if_icmp .eq off, 3)) (ht : (pc : Int) + off = (tgt : Int)) (kt : x = y → az_W l G nL Q p e R s m args below meth c ad K k n tgt lv st) (kf : ¬ x = y → az_W l G nL Q p e R s m args below meth c ad K k n (pc + 3) lv st) : az_W l G nL Q p e R s m args below meth c ad K k n pc lv (.int y :: .int x :: st) :=
  fun H locs ls hP hS hl => lv_icmp_eq C.1 C.2.1 d ht (fun q => kt q H locs ls hP hS hl) (fun q => kf q H locs ls hP hS hl)
theorem az_if_ne (C : az_C l G p s m args meth c cc own nL ret tab) {x : Int32} {off : Int} (tgt : Nat) (d : decode cc pc = .ok (.ifCond .ne off, 3)) (ht : (pc : Int) + off = (tgt : Int)) (kt : ¬ x = 0 → az_W l G nL Q p e R s m args below meth c ad K k n tgt lv st) (kf : x = 0 → az_W l G nL Q p e R s m args below meth c ad K k n (pc + 3) lv st) : az_W l G nL Q p e R s m args below meth c ad K k n pc lv (.int x :: st) :=
  fun H locs ls hP hS hl => lv_if_ne C.1 C.2.1 d ht (fun q => kt q H locs ls hP hS hl) (fun q => kf q H locs ls hP hS hl)
theorem az_icmp_ne (C : az_C l G p s m args meth c cc own nL ret tab) {x y : Int32} {off : Int} (tgt : Nat) (d : decode cc pc = .ok (.if_icmp .ne off, 3)) (ht : (pc : Int) + off = (tgt : Int)) (kt : ¬ x = y → az_W l G nL Q p e R s m args below meth c ad K k n tgt lv st) (kf : x = y → az_W l G nL Q p e R s m args below meth c ad K k n (pc + 3) lv st) : az_W l G nL Q p e R s m args below meth c ad K k n pc lv (.int y :: .int x :: st) :=
  fun H locs ls hP hS hl => lv_icmp_ne C.1 C.2.1 d ht (fun q => kt q H locs ls hP hS hl) (fun q => kf q H locs ls hP hS hl)
theorem az_if_lt (C : az_C l G p s m args meth c cc own nL ret tab) {x : Int32} {off : Int} (tgt : Nat) (d : decode cc pc = .ok (.ifCond .lt off, 3)) (ht : (pc : Int) + off = (tgt : Int)) (kt : x < 0 → az_W l G nL Q p e R s m args below meth c ad K k n tgt lv st) (kf : ¬ x < 0 → az_W l G nL Q p e R s m args below meth c ad K k n (pc + 3) lv st) : az_W l G nL Q p e R s m args below meth c ad K k n pc lv (.int x :: st) :=
  fun H locs ls hP hS hl => lv_if_lt C.1 C.2.1 d ht (fun q => kt q H locs ls hP hS hl) (fun q => kf q H locs ls hP hS hl)
theorem az_icmp_lt (C : az_C l G p s m args meth c cc own nL ret tab) {x y : Int32} {off : Int} (tgt : Nat) (d : decode cc pc = .ok (.if_icmp .lt off, 3)) (ht : (pc : Int) + off = (tgt : Int)) (kt : x < y → az_W l G nL Q p e R s m args below meth c ad K k n tgt lv st) (kf : ¬ x < y → az_W l G nL Q p e R s m args below meth c ad K k n (pc + 3) lv st) : az_W l G nL Q p e R s m args below meth c ad K k n pc lv (.int y :: .int x :: st) :=
  fun H locs ls hP hS hl => lv_icmp_lt C.1 C.2.1 d ht (fun q => kt q H locs ls hP hS hl) (fun q => kf q H locs ls hP hS hl)
theorem az_if_ge (C : az_C l G p s m args meth c cc own nL ret tab) {x : Int32} {off : Int} (tgt : Nat) (d : decode cc pc = .ok (.ifCond .ge off, 3)) (ht : (pc : Int) + off = (tgt : Int)) (kt : 0 ≤ x → az_W l G nL Q p e R s m args below meth c ad K k n tgt lv st) (kf : ¬ 0 ≤ x → az_W l G nL Q p e R s m args below meth c ad K k n (pc + 3) lv st) : az_W l G nL Q p e R s m args below meth c ad K k n pc lv (.int x :: st) :=
  fun H locs ls hP hS hl => lv_if_ge C.1 C.2.1 d ht (fun q => kt q H locs ls hP hS hl) (fun q => kf q H locs ls hP hS hl)
theorem az_icmp_ge (C : az_C l G p s m args meth c cc own nL ret tab) {x y : Int32} {off : Int} (tgt : Nat) (d : decode cc pc = .ok (.if_icmp .ge off, 3)) (ht : (pc : Int) + off = (tgt : Int)) (kt : y ≤ x → az_W l G nL Q p e R s m args below meth c ad K k n tgt lv st) (kf : ¬ y ≤ x → az_W l G nL Q p e R s m args below meth c ad K k n (pc + 3) lv st) : az_W l G nL Q p e R s m args below meth c ad K k n pc lv (.int y :: .int x :: st) :=
  fun H locs ls hP hS hl => lv_icmp_ge C.1 C.2.1 d ht (fun q => kt q H locs ls hP hS hl) (fun q => kf q H locs ls hP hS hl)
theorem az_if_gt (C : az_C l G p s m args meth c cc own nL ret tab) {x : Int32} {off : Int} (tgt : Nat) (d : decode cc pc = .ok (.ifCond .gt off, 3)) (ht : (pc : Int) + off = (tgt : Int)) (kt : 0 < x → az_W l G nL Q p e R s m args below meth c ad K k n tgt lv st) (kf : ¬ 0 < x → az_W l G nL Q p e R s m args below meth c ad K k n (pc + 3) lv st) : az_W l G nL Q p e R s m args below meth c ad K k n pc lv (.int x :: st) :=
  fun H locs ls hP hS hl => lv_if_gt C.1 C.2.1 d ht (fun q => kt q H locs ls hP hS hl) (fun q => kf q H locs ls hP hS hl)
theorem az_icmp_gt (C : az_C l G p s m args meth c cc own nL ret tab) {x y : Int32} {off : Int} (tgt : Nat) (d : decode cc pc = .ok (.if_icmp .gt off, 3)) (ht : (pc : Int) + off = (tgt : Int)) (kt : y < x → az_W l G nL Q p e R s m args below meth c ad K k n tgt lv st) (kf : ¬ y < x → az_W l G nL Q p e R s m args below meth c ad K k n (pc + 3) lv st) : az_W l G nL Q p e R s m args below meth c ad K k n pc lv (.int y :: .int x :: st) :=
  fun H locs ls hP hS hl => lv_icmp_gt C.1 C.2.1 d ht (fun q => kt q H locs ls hP hS hl) (fun q => kf q H locs ls hP hS hl)
theorem az_if_le (C : az_C l G p s m args meth c cc own nL ret tab) {x : Int32} {off : Int} (tgt : Nat) (d : decode cc pc = .ok (.ifCond .le off, 3)) (ht : (pc : Int) + off = (tgt : Int)) (kt : x ≤ 0 → az_W l G nL Q p e R s m args below meth c ad K k n tgt lv st) (kf : ¬ x ≤ 0 → az_W l G nL Q p e R s m args below meth c ad K k n (pc + 3) lv st) : az_W l G nL Q p e R s m args below meth c ad K k n pc lv (.int x :: st) :=
  fun H locs ls hP hS hl => lv_if_le C.1 C.2.1 d ht (fun q => kt q H locs ls hP hS hl) (fun q => kf q H locs ls hP hS hl)
theorem az_icmp_le (C : az_C l G p s m args meth c cc own nL ret tab) {x y : Int32} {off : Int} (tgt : Nat) (d : decode cc pc = .ok (.if_icmp .le off, 3)) (ht : (pc : Int) + off = (tgt : Int)) (kt : x ≤ y → az_W l G nL Q p e R s m args below meth c ad K k n tgt lv st) (kf : ¬ x ≤ y → az_W l G nL Q p e R s m args below meth c ad K k n (pc + 3) lv st) : az_W l G nL Q p e R s m args below meth c ad K k n pc lv (.int y :: .int x :: st) :=
  fun H locs ls hP hS hl => lv_icmp_le C.1 C.2.1 d ht (fun q => kt q H locs ls hP hS hl) (fun q => kf q H locs ls hP hS hl)
theorem az_goto (C : az_C l G p s m args meth c cc own nL ret tab) {off : Int} (tgt : Nat) (d : decode cc pc = .ok (.goto off, 3)) (ht : (pc : Int) + off = (tgt : Int)) (kk : az_W l G nL Q p e R s m args below meth c ad K k n tgt lv st) : az_W l G nL Q p e R s m args below meth c ad K k n pc lv st :=
  fun H locs ls hP hS hl => lv_goto C.1 C.2.1 d ht (kk H locs ls hP hS hl)
theorem az_ifnonnull (C : az_C l G p s m args meth c cc own nL ret tab) {x : Nat} {off : Int} (tgt : Nat) (d : decode cc pc = .ok (.ifnonnull off, 3)) (ht : (pc : Int) + off = (tgt : Int)) (kk : az_W l G nL Q p e R s m args below meth c ad K k n tgt lv st) : az_W l G nL Q p e R s m args below meth c ad K k n pc lv (.ref x :: st) :=
  fun H locs ls hP hS hl => lv_ifnonnull C.1 C.2.1 d ht (kk H locs ls hP hS hl)
theorem az_ifnull (C : az_C l G p s m args meth c cc own nL ret tab) {x : Nat} {off : Int} (d : decode cc pc = .ok (.ifnull off, 3)) (kk : az_W l G nL Q p e R s m args below meth c ad K k n (pc + 3) lv st) : az_W l G nL Q p e R s m args below meth c ad K k n pc lv (.ref x :: st) :=
  fun H locs ls hP hS hl => lv_ifnull C.1 C.2.1 d (kk H locs ls hP hS hl)
theorem az_ifnullN (C : az_C l G p s m args meth c cc own nL ret tab) {off : Int} (tgt : Nat) (d : decode cc pc = .ok (.ifnull off, 3)) (ht : (pc : Int) + off = (tgt : Int)) (kk : az_W l G nL Q p e R s m args below meth c ad K k n tgt lv st) : az_W l G nL Q p e R s m args below meth c ad K k n pc lv (.null :: st) :=
  fun H locs ls hP hS hl => lv_ifnullN C.1 C.2.1 d ht (kk H locs ls hP hS hl)
theorem az_ifnonnullN (C : az_C l G p s m args meth c cc own nL ret tab) {off : Int} (d : decode cc pc = .ok (.ifnonnull off, 3)) (kk : az_W l G nL Q p e R s m args below meth c ad K k n (pc + 3) lv st) : az_W l G nL Q p e R s m args below meth c ad K k n pc lv (.null :: st) :=
  fun H locs ls hP hS hl => lv_ifnonnullN C.1 C.2.1 d (kk H locs ls hP hS hl)
theorem az_acmp_eq (C : az_C l G p s m args meth c cc own nL ret tab) {rx ry : Option Nat} {vx vy : Value} {off : Int} (tgt : Nat) (hx : vx = va_rf rx) (hy : vy = va_rf ry) (d : decode cc pc = .ok (.if_acmp .eq off, 3)) (ht : (pc : Int) + off = (tgt : Int)) (kt : rx = ry → az_W l G nL Q p e R s m args below meth c ad K k n tgt lv st) (kf : ¬ rx = ry → az_W l G nL Q p e R s m args below meth c ad K k n (pc + 3) lv st) : az_W l G nL Q p e R s m args below meth c ad K k n pc lv (vy :: vx :: st) := by
  subst hx; subst hy
  exact fun H locs ls hP hS hl => lv_acmp_eq C.1 C.2.1 d ht (fun q => kt q H locs ls hP hS hl) (fun q => kf q H locs ls hP hS hl)
theorem az_acmp_ne (C : az_C l G p s m args meth c cc own nL ret tab) {rx ry : Option Nat} {vx vy : Value} {off : Int} (tgt : Nat) (hx : vx = va_rf rx) (hy : vy = va_rf ry) (d : decode cc pc = .ok (.if_acmp .ne off, 3)) (ht : (pc : Int) + off = (tgt : Int)) (kt : ¬ rx = ry → az_W l G nL Q p e R s m args below meth c ad K k n tgt lv st) (kf : rx = ry → az_W l G nL Q p e R s m args below meth c ad K k n (pc + 3) lv st) : az_W l G nL Q p e R s m args below meth c ad K k n pc lv (vy :: vx :: st) := by
  subst hx; subst hy
  exact fun H locs ls hP hS hl => lv_acmp_ne C.1 C.2.1 d ht (fun q => kt q H locs ls hP hS hl) (fun q => kf q H locs ls hP hS hl)
theorem az_ldc (C : az_C l G p s m args meth c cc own nL ret tab) {v : Int32} {idx : Nat} (hw : Cond.constant own idx v ∈ lw_tbl) (d : decode cc pc = .ok (.ldc idx, 2)) (kk : az_W l G nL Q p e R s m args below meth c ad K k n (pc + 2) lv (.int v :: st)) : az_W l G nL Q p e R s m args below meth c ad K k n pc lv st :=
  fun H locs ls hP hS hl => lv_ldc C.1 C.2.1 C.2.2.2.1 (C.2.2.2.2.1 _ hw rfl) d (kk H locs ls hP hS hl)
theorem az_ldc2 (C : az_C l G p s m args meth c cc own nL ret tab) {v : Int64} {idx : Nat} (hw : Cond.constantLong own idx v ∈ lw_tbl) (d : decode cc pc = .ok (.ldc2_w idx, 3)) (kk : az_W l G nL Q p e R s m args below meth c ad K k n (pc + 3) lv (.long v :: st)) : az_W l G nL Q p e R s m args below meth c ad K k n pc lv st :=
  fun H locs ls hP hS hl => lv_ldc2 C.1 C.2.1 C.2.2.2.1 (C.2.2.2.2.1 _ hw rfl) d (kk H locs ls hP hS hl)
theorem az_one {D : va_G} {a : Nat} {x : va_E} {H : Heap} (h : va_at D vwCl (a, x) H) : va_P D vwCl [(a, x)] H := fun j q hj => by
  have hz : j < 1 := (List.getElem?_eq_some_iff.mp hj).1
  rw [show j = 0 by omega] at hj
  cases hj
  exact h
theorem az_get (C : az_C l G p s m args meth c cc own nL ret tab) {C0 : String} {T : u_T} {N ci : Nat} {ty : Nat → FieldType} (c0 : az_cl ci C0 T N ty) {idx a : Nat} (r i j : Nat) {fs : List Value} {v : Value} (hw : Cond.fieldLink own idx (T j).1 (T j).2.1 (T j).2.2.1 ∈ lw_tbl) (d : decode cc pc = .ok (.getfield idx, 3)) (ha : ad r i = a) (hk : K r i = some (.inr (ci, fs))) (hv : fs[j]? = some v) (hj : j < N)
    (kk : az_W l G nL Q p e R s m args below meth c ad K k n (pc + 3) lv (v :: st)) : az_W l G nL Q p e R s m args below meth c ad K k n pc lv (.ref a :: st) := by
  subst ha
  intro H locs ls hP hS hl
  exact va_get (D := G.2.1) (ref := (T j).1) C.1 C.2.1 (Ts := lw_tbl.filter goodWord) (fun w hw => C.2.2.2.2.1 w (List.mem_filter.mp hw).1 (List.mem_filter.mp hw).2) (fun w hw => List.mem_filter.mpr (c0.2.1 w hw)) C.2.2.2.1 C.2.2.2.2.2.1 (az_one (hP.1 _ _ _ hk).1) 0 rfl c0.1 j hj (C.2.2.2.2.1 _ hw rfl) (fun _ h => h) hv d (kk H locs ls hP hS hl)
theorem az_put (C : az_C l G p s m args meth c cc own nL ret tab) {C0 : String} {T : u_T} {N ci : Nat} {ty : Nat → FieldType} (c0 : az_cl ci C0 T N ty) {idx a : Nat} (r i j : Nat) {fs : List Value} {v : Value} (hw : Cond.fieldLink own idx (T j).1 (T j).2.1 (T j).2.2.1 ∈ lw_tbl) (d : decode cc pc = .ok (.putfield idx, 3)) (ha : ad r i = a) (hk : K r i = some (.inr (ci, fs))) (hj : j < N) (hjl : j < fs.length) (hfin : (T j).2.2.2 = false) (hn : narrow (ty j) v = v) (hfit : fits (ty j) v = true)
    (kk : az_W l G nL Q p e R s m args below meth c ad (az_u K r i (.inr (ci, fs.set j v))) k n (pc + 3) lv st) : az_W l G nL Q p e R s m args below meth c ad K k n pc lv (v :: .ref a :: st) := by
  subst ha
  intro H locs ls hP hS hl
  have hts : ∀ w ∈ lw_tbl.filter goodWord, w.before args s = true := fun w hw => C.2.2.2.2.1 w (List.mem_filter.mp hw).1 (List.mem_filter.mp hw).2
  have hin : ∀ w ∈ u_ws C0 T N, w ∈ lw_tbl.filter goodWord := fun w hw => List.mem_filter.mpr (c0.2.1 w hw)
  have hK := C.2.2.2.2.2.1
  have hc := c0.1
  have hap := va_apart (own := own) (args := args) hts hin ty c0.2.2.1 c0.2.2.2 hK hc
  obtain ⟨r9, h1, cell, q1, q2, q3, q4⟩ := (hP.1 _ _ _ hk).1
  have hr : r9 = (C0, T, N) := Option.some.inj (h1.symm.trans hc)
  subst hr
  obtain ⟨hSl, hfc, kC, hkC, hkind⟩ := hK.1 ci _ hc
  obtain ⟨cf, kf, fi, f, hi, hsl⟩ := hSl j hj
  have hlay := hts _ (hin _ (u_in_lay hj))
  unfold u_lay at hlay
  rw [if_neg (by rw [hfin]; decide)] at hlay
  have hst := (u_facts hfc hkC (u_lays hts hin hj) hi).1
  have h6 := u_store hfc hkC hkind hlay hi (c0.2.2.1 j hj) hn hfit
  refine W.putK C.1 C.2.1 (f := f) ⟨C.2.2.2.1, C.2.2.2.2.1 _ hw rfl, ⟨_, _, _, hi⟩, hst⟩ (by rw [q2]; exact h6) q1 q3 (by rw [hsl]; exact k2_hasslot (q4 j hj)) rfl rfl d fun H' e1 e2 e3 => ?_
  rw [hsl] at e1
  exact kk H' _ ls (hP.set hk ⟨_, hc, t_OB.to (V := updV (vp_V fs) j v) ⟨_, e1, q2, q3, t_set q4 hap hj v⟩ (fun z _ => vp_updV_set hjl v z)⟩ e3) (hS.put e2 e3 (hP.1 _ _ _ hk).2) hl
theorem az_putF (C : az_C l G p s m args meth c cc own nL ret tab) {C0 : String} {T : u_T} {N ci : Nat} {ty : Nat → FieldType} (c0 : az_cl ci C0 T N ty) {idx a : Nat} (r i j : Nat) {fs : List Value} {v : Value} (hin2 : meth.name = "<init>") (hw : Cond.fieldLink own idx (T j).1 (T j).2.1 (T j).2.2.1 ∈ lw_tbl) (d : decode cc pc = .ok (.putfield idx, 3)) (ha : ad r i = a) (hk : K r i = some (.inr (ci, fs))) (hj : j < N) (hjl : j < fs.length) (hfin : (T j).2.2.2 = true) (hdecl : (T j).1 = own) (hn : narrow (ty j) v = v) (hfit : fits (ty j) v = true)
    (kk : az_W l G nL Q p e R s m args below meth c ad (az_u K r i (.inr (ci, fs.set j v))) k n (pc + 3) lv st) : az_W l G nL Q p e R s m args below meth c ad K k n pc lv (v :: .ref a :: st) := by
  subst ha
  intro H locs ls hP hS hl
  have hts : ∀ w ∈ lw_tbl.filter goodWord, w.before args s = true := fun w hw => C.2.2.2.2.1 w (List.mem_filter.mp hw).1 (List.mem_filter.mp hw).2
  have hin : ∀ w ∈ u_ws C0 T N, w ∈ lw_tbl.filter goodWord := fun w hw => List.mem_filter.mpr (c0.2.1 w hw)
  have hK := C.2.2.2.2.2.1
  have hc := c0.1
  have hown := C.2.2.2.1
  have hap := va_apart (own := own) (args := args) hts hin ty c0.2.2.1 c0.2.2.2 hK hc
  obtain ⟨r9, h1, cell, q1, q2, q3, q4⟩ := (hP.1 _ _ _ hk).1
  have hr : r9 = (C0, T, N) := Option.some.inj (h1.symm.trans hc)
  subst hr
  obtain ⟨hSl, hfc, kC, hkC, hkind⟩ := hK.1 ci _ hc
  obtain ⟨cf, kf, fi, f, hi, hsl⟩ := hSl j hj
  have hlay := hts _ (hin _ (u_in_lay hj))
  unfold u_lay at hlay
  rw [if_pos hfin] at hlay
  have hst := (u_facts hfc hkC (u_lays hts hin hj) hi).1
  have hcf : m.cls = cf := by
    obtain ⟨_, _, c', _, _, _, -, -, hf', -, -, -, hown2, -⟩ := Cond.laysFinal_spec hlay
    have e1 : c' = cf := by have := hi.symm.trans hf'; simp at this; exact this.1.symm
    rw [hdecl] at hown2
    rw [← e1]; exact Option.some.inj (hown.symm.trans hown2)
  have h6 := u_fits hfc hkC hkind (Or.inr hlay) hi (c0.2.2.1 j hj) hn hfit
  refine W.putFinK C.1 C.2.1 hown (C.2.2.2.2.1 _ hw rfl) hi hst hcf hin2 (by rw [q2]; exact h6) q1 q3 (by rw [hsl]; exact k2_hasslot (q4 j hj)) rfl rfl d fun H' e1 e2 e3 => ?_
  rw [hsl] at e1
  exact kk H' _ ls (hP.set hk ⟨_, hc, t_OB.to (V := updV (vp_V fs) j v) ⟨_, e1, q2, q3, t_set q4 hap hj v⟩ (fun z _ => vp_updV_set hjl v z)⟩ e3) (hS.put e2 e3 (hP.1 _ _ _ hk).2) hl
theorem az_iald (C : az_C l G p s m args meth c cc own nL ret tab) {N a : Nat} {f : Nat → Int32} (r i : Nat) {x : Int32} (d : decode cc pc = .ok (.iaload, 1)) (ha : ad r i = a) (hk : K r i = some (.inl (G.2.2.1 0, N, .inl f))) (hx : vp_in x N) (kk : az_W l G nL Q p e R s m args below meth c ad K k n (pc + 1) lv (.int (f x.toNatClampNeg) :: st)) : az_W l G nL Q p e R s m args below meth c ad K k n pc lv (.int x :: .ref a :: st) := by
  subst ha
  exact fun H locs ls hP hS hl => va_iald C.1 C.2.1 C.2.2.2.2.2.1 (az_one (hP.1 _ _ _ hk).1) 0 0 rfl rfl hx d (kk H locs ls hP hS hl)
theorem az_bald (C : az_C l G p s m args meth c cc own nL ret tab) {N a : Nat} {f : Nat → Int32} (r i : Nat) {x : Int32} (d : decode cc pc = .ok (.baload, 1)) (ha : ad r i = a) (hk : K r i = some (.inl (G.2.2.1 3, N, .inl f))) (hx : vp_in x N) (kk : az_W l G nL Q p e R s m args below meth c ad K k n (pc + 1) lv (.int (f x.toNatClampNeg) :: st)) : az_W l G nL Q p e R s m args below meth c ad K k n pc lv (.int x :: .ref a :: st) := by
  subst ha
  exact fun H locs ls hP hS hl => va_bald C.1 C.2.1 C.2.2.2.2.2.1 (az_one (hP.1 _ _ _ hk).1) 0 3 rfl rfl hx d (kk H locs ls hP hS hl)
theorem az_aald (C : az_C l G p s m args meth c cc own nL ret tab) {N a : Nat} {f : Nat → Option Nat} (r i : Nat) {x : Int32} (d : decode cc pc = .ok (.aaload, 1)) (ha : ad r i = a) (hk : K r i = some (.inl (G.2.2.1 5, N, .inr (.inr (.inr (.inr f)))))) (hx : vp_in x N) (kk : az_W l G nL Q p e R s m args below meth c ad K k n (pc + 1) lv (va_rf (f x.toNatClampNeg) :: st)) : az_W l G nL Q p e R s m args below meth c ad K k n pc lv (.int x :: .ref a :: st) := by
  subst ha
  exact fun H locs ls hP hS hl => va_aldq C.1 C.2.1 C.2.2.2.2.2.1 (az_one (hP.1 _ _ _ hk).1) 0 5 rfl rfl hx d (kk H locs ls hP hS hl)
theorem az_alen (C : az_C l G p s m args meth c cc own nL ret tab) {a : Nat} {y : vp_A} {z : Nat} (r i : Nat) (d : decode cc pc = .ok (.arraylength, 1)) {cy : ClassId × FieldType} (ha : ad r i = a) (hk : K r i = some (.inl (cy.1, y))) (hz : (az_tys G.2.2.1)[z]? = some cy) (kk : az_W l G nL Q p e R s m args below meth c ad K k n (pc + 1) lv (.int (Int32.ofNat y.1) :: st)) : az_W l G nL Q p e R s m args below meth c ad K k n pc lv (.ref a :: st) := by
  subst ha
  exact fun H locs ls hP hS hl => va_alen C.1 C.2.1 C.2.2.2.2.2.1 (az_one (hP.1 _ _ _ hk).1) 0 z rfl hz rfl d (kk H locs ls hP hS hl)
theorem az_iast (C : az_C l G p s m args meth c cc own nL ret tab) {N a : Nat} {f : Nat → Int32} (r i : Nat) {x j : Int32} (d : decode cc pc = .ok (.iastore, 1)) (ha : ad r i = a) (hk : K r i = some (.inl (G.2.2.1 0, N, .inl f))) (hx : vp_in j N) (kk : az_W l G nL Q p e R s m args below meth c ad (az_u K r i (.inl (G.2.2.1 0, N, .inl (upd f j.toNatClampNeg x)))) k n (pc + 1) lv st) : az_W l G nL Q p e R s m args below meth c ad K k n pc lv (.int x :: .int j :: .ref a :: st) := by
  subst ha
  intro H locs ls hP hS hl
  refine W.iast C.1 C.2.1 (hP.1 _ _ _ hk).1 ((C.2.2.2.2.2.1.2 0 _ rfl).1 N (fun j => .int (f j))) (fun q => by cases q) (by show ¬ (j < 0 ∨ (arrV _ _ _).slots.size ≤ _); rw [arrV_size]; exact hx) rfl rfl d fun H1 e1 z oq => ?_
  refine kk H1 _ ls (hP.set hk ?_ oq) (hS.put z oq (hP.1 _ _ _ hk).2) hl
  show H1[ad r i]? = some (vp_cell _ _)
  rw [e1]
  rw [vp_cell_i, vp_cell_i, arrV_store]
  congr 2
  funext q
  by_cases hq : q = j.toNatClampNeg
  · subst hq
    simp [updV, upd, vp_nar]
    try rfl
  · simp [updV, upd, hq]
theorem az_bast (C : az_C l G p s m args meth c cc own nL ret tab) {N a : Nat} {f : Nat → Int32} (r i : Nat) {x j : Int32} (d : decode cc pc = .ok (.bastore, 1)) (ha : ad r i = a) (hk : K r i = some (.inl (G.2.2.1 3, N, .inl f))) (hx : vp_in j N) (kk : az_W l G nL Q p e R s m args below meth c ad (az_u K r i (.inl (G.2.2.1 3, N, .inl (upd f j.toNatClampNeg (vp_nar .byte x))))) k n (pc + 1) lv st) : az_W l G nL Q p e R s m args below meth c ad K k n pc lv (.int x :: .int j :: .ref a :: st) := by
  subst ha
  intro H locs ls hP hS hl
  refine W.bast C.1 C.2.1 (hP.1 _ _ _ hk).1 ((C.2.2.2.2.2.1.2 3 _ rfl).1 N (fun j => .int (f j))) (fun q => by cases q) (by show ¬ (j < 0 ∨ (arrV _ _ _).slots.size ≤ _); rw [arrV_size]; exact hx) rfl rfl d fun H1 e1 z oq => ?_
  refine kk H1 _ ls (hP.set hk ?_ oq) (hS.put z oq (hP.1 _ _ _ hk).2) hl
  show H1[ad r i]? = some (vp_cell _ _)
  rw [e1]
  rw [vp_cell_i, vp_cell_i, arrV_store]
  congr 2
  funext q
  by_cases hq : q = j.toNatClampNeg
  · subst hq
    simp [updV, upd, vp_nar]
    try rfl
  · simp [updV, upd, hq]
end AZR
