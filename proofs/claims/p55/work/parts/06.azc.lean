/-! ===== BEGIN a constructor that throws (launches without stack traces) ===== -/
section VXIA
variable {p : Program} {l : Launch} {e : Env} {R : Room} {s : State} {m : MethodId} {args : Array Value} {below : List Frame} {meth : Method} {c : Code} {T : State} {locs : List Loc} {cells slots : Nat}
theorem vx_callI (X : Stand p l e R s m args below meth c T locs cells slots) (hexec : p.tables.exec = Jvm.exec) {own : String} {index : Nat} {y : MethodName} {bytes : ByteArray} {maxL : Nat}
    (hown : s.vm.findClass own = some m.cls) (hy1 : y.name = "<init>") (hlink : (Cond.methodLink own index y).before args s = true) (hinst : (Cond.instanceMethod y).before args s = true)
    (hcode : (Cond.code y bytes maxL none).before args s = true) (hy : y.cls ≠ "java/lang/invoke/MethodHandle" ∧ y.cls ≠ "java/lang/invoke/VarHandle")
    {W9 : Nat} {Pre : Pt → Array Value → Prop} {Post : Pt → Array Value → Option Value → Pt → Prop} {PostX : Pt → Array Value → Addr → Pt → Prop} (hK : vx_Back l R p e below s args y 3 W9 Pre Post PostX)
    {g : JFrame} (hg : g.method = m) (hsize : g.locals.size = c.maxLocals) {a : Addr} {argsL rest : List Value} (hlen : ∀ sig, parseMethodDescriptor y.desc = some sig → argsL.length = sig.parameters.length)
    (hstack : g.stack = argsL.reverse ++ .ref a :: rest) (hW : 2 * g.monitorRoom + (rest.map fun v => v.category).sum ≤ W9) (hdg : decode c.code g.pc = .ok (.invokespecial index, 3))
    (hpre : ∀ vm₁, s.WarmedH vm₁ → Pre ⟨T.setVm vm₁, locs, cells, slots⟩ (Value.ref a :: argsL).toArray) :
    (∃ (v : Option Value) (vm₁ : Vm) (B : Pt), s.WarmedH vm₁ ∧ Stand p l e R s m args below meth c B.U B.locs B.cells B.slots ∧ Post ⟨T.setVm vm₁, locs, cells, slots⟩ (Value.ref a :: argsL).toArray v B ∧
      ∀ target, Steps p.tables e below (B.U.setTop { g with pc := g.pc + 3, stack := v.toList ++ rest }) target → Steps p.tables e below (T.setTop g) target) ∨
    (∃ (q : Addr) (vm₁ : Vm) (B : Pt), s.WarmedH vm₁ ∧ Stand p l e R s m args below meth c B.U B.locs B.cells B.slots ∧ PostX ⟨T.setVm vm₁, locs, cells, slots⟩ (Value.ref a :: argsL).toArray q B ∧
      Steps p.tables e below (T.setTop g) ((B.U.setTop { g with stack := rest }).pushFrame (.throwing q))) := by
  subst hg
  have hpl : e.platform.magicAccessors = ({} : Platform).magicAccessors := by rw [X.admits.platform]
  obtain ⟨mk, methM, cM, kP, vm₁, hnamed, hmethM, hcodeM, -, hlocalsM, -, hkP, -, hW₁, hstep₁⟩ := Steps.initColdArgs (e := e) X.here hexec X.warmed hpl hown hy1 hy hlink hinst hcode (f := g) rfl hlen hstack hdg
  have X₁ := X.noted hW₁
  rcases hK g.method meth c ⟨T.setVm vm₁, locs, cells, slots⟩ { g with stack := rest } (.invokespecial index) mk (Value.ref a :: argsL).toArray X₁ rfl hsize hdg hW (X₁.named hnamed) (hpre vm₁ X₁.warmed) with ⟨v, B, X', hpost, hsteps⟩ | ⟨q, B, X', hpost, hsteps⟩
  · exact Or.inl ⟨v, vm₁, B, X₁.warmed, X', hpost, fun target h => hstep₁ _ fun acts => by rw [doInvoke_state]; exact hsteps.trans h⟩
  · exact Or.inr ⟨q, vm₁, B, X₁.warmed, X', hpost, hstep₁ _ fun acts => by rw [doInvoke_state]; exact hsteps⟩
end VXIA
section VXIB
variable {p : Program} {l : Launch} {e : Env} {R : Room} {s : State} {m : MethodId} {args : Array Value} {below : List Frame} {meth : Method} {c : Code} {H : Heap} {locs : List Loc} {cells slots : Nat}
variable {y : MethodName} {bytes cc : ByteArray} {maxL nL mc ms n index : Nat} {ret : Option FieldType} {ws : List Cond} {rm : Room} {Pc : Array Value → State → Prop} {Qc : Array Value → State → Outcome → State → Prop} {XC : String → State → State → Prop} {free : Addr → Prop} {Ts : List Cond} {own C : String} {b : Addr} {As rest : List Value} {g : JFrame}
theorem vx_runI (S : CallFix p m c cc nL s args Ts own) (hM : vx_Met l y ws rm Pc Qc XC mc ms free) (cw : CallB R s args own index y bytes maxL none ws rm mc ms n ∧ y.name = "<init>" ∧ (Cond.instanceMethod y).before args s = true) (hp : PreS s H Pc (.ref b :: As))
    (hg : g.method = m) (hn : As.length = n) (hsize : g.locals.size = nL) (hstack : g.stack = As.reverse ++ .ref b :: rest) (hW : 2 * g.monitorRoom + (rest.map fun v => v.category).sum ≤ 8) (hdg : decode cc g.pc = .ok (.invokespecial index, 3)) (hf : cells + mc ≤ R.cells ∧ slots + ms ≤ R.slots) :
    vx_Run p l e R s m args below meth c H locs cells slots mc ms g rest (Qc (Value.ref b :: As).toArray) XC free := by
  have hK : vx_Back l R p e below s args y 3 8 (PreOf R mc ms Pc) (PostOf Qc mc ms free) (vx_Post XC mc ms free) := vx_callBack cw.1 hM hp.1
  obtain ⟨⟨-, -, -, -, -, -, hcode, -, hy, hlen, hl⟩, hy1, hin⟩ := cw
  obtain ⟨hx, hb, hml, ho, -⟩ := S
  have hPc := hp.2
  intro T hT X
  rcases vx_callI X hx (bytes := bytes) (maxL := maxL) ho hy1 hl hin hcode hy hK hg (hsize.trans hml.symm) (a := b) (argsL := As) (rest := rest) (fun sig h => hn.trans (hlen sig h)) hstack hW (by rw [hb]; exact hdg)
    (fun vm₁ hW₁ => ⟨hf.1, hf.2, hPc (T.setVm vm₁) hT hW₁⟩) with ⟨v, vm₁, ⟨U', l2, c2, s2⟩, hW₁, X', ⟨g', mk, t, L, e1, e2, hq, h1, hL, h2, h3⟩, st⟩ | ⟨q, vm₁, ⟨U', l2, c2, s2⟩, hW₁, X', ⟨g', mk, t, L, E, ce, e1, e2, hq, hce, hcv, hcl, h1, hL, h2, h3⟩, st⟩
  · dsimp only [Pt.U, Pt.locs, Pt.cells, Pt.slots] at X' e1 e2 h1 h2 h3 st
    subst h1; subst h2; subst h3
    exact Or.inl ⟨v, (T.setVm vm₁).calling g' mk (Value.ref b :: As).toArray, t, U', L, hT, X', hL, e1, e2, hq, st⟩
  · dsimp only [Pt.U, Pt.locs, Pt.cells, Pt.slots] at X' e1 e2 h1 h2 h3 st hcl
    subst h1; subst h2; subst h3
    exact Or.inr ⟨q, (T.setVm vm₁).calling g' mk (Value.ref b :: As).toArray, t, U', L, E, ce, hT, X', hL, e1, e2, hq, hce, hcv, vx_cls hW₁ hcl, st⟩
end VXIB
/-! ===== END ===== -/
/-! ===== BEGIN a private constructor of a nest mate that throws ===== -/
section VXIC
variable {p : Program} {l : Launch} {e : Env} {R : Room} {s : State} {m : MethodId} {args : Array Value} {below : List Frame} {meth : Method} {c : Code} {T : State} {locs : List Loc} {cells slots : Nat}
theorem vx_callIN (X : Stand p l e R s m args below meth c T locs cells slots) (hexec : p.tables.exec = Jvm.exec) {own : String} {index : Nat} {host : String} {y : MethodName} {bytes : ByteArray} {maxL : Nat}
    (hown : s.vm.findClass own = some m.cls) (hy1 : y.name = "<init>") (hlink : (Cond.methodLinkNest own index y host).before args s = true) (hinst : (Cond.instanceMethod y).before args s = true)
    (hcode : (Cond.code y bytes maxL none).before args s = true) (hy : y.cls ≠ "java/lang/invoke/MethodHandle" ∧ y.cls ≠ "java/lang/invoke/VarHandle")
    {W9 : Nat} {Pre : Pt → Array Value → Prop} {Post : Pt → Array Value → Option Value → Pt → Prop} {PostX : Pt → Array Value → Addr → Pt → Prop} (hK : vx_Back l R p e below s args y 3 W9 Pre Post PostX)
    {g : JFrame} (hg : g.method = m) (hsize : g.locals.size = c.maxLocals) {a : Addr} {argsL rest : List Value} (hlen : ∀ sig, parseMethodDescriptor y.desc = some sig → argsL.length = sig.parameters.length)
    (hstack : g.stack = argsL.reverse ++ .ref a :: rest) (hW : 2 * g.monitorRoom + (rest.map fun v => v.category).sum ≤ W9) (hdg : decode c.code g.pc = .ok (.invokespecial index, 3))
    (hpre : ∀ vm₁, s.WarmedH vm₁ → Pre ⟨T.setVm vm₁, locs, cells, slots⟩ (Value.ref a :: argsL).toArray) :
    (∃ (v : Option Value) (vm₁ : Vm) (B : Pt), s.WarmedH vm₁ ∧ Stand p l e R s m args below meth c B.U B.locs B.cells B.slots ∧ Post ⟨T.setVm vm₁, locs, cells, slots⟩ (Value.ref a :: argsL).toArray v B ∧
      ∀ target, Steps p.tables e below (B.U.setTop { g with pc := g.pc + 3, stack := v.toList ++ rest }) target → Steps p.tables e below (T.setTop g) target) ∨
    (∃ (q : Addr) (vm₁ : Vm) (B : Pt), s.WarmedH vm₁ ∧ Stand p l e R s m args below meth c B.U B.locs B.cells B.slots ∧ PostX ⟨T.setVm vm₁, locs, cells, slots⟩ (Value.ref a :: argsL).toArray q B ∧
      Steps p.tables e below (T.setTop g) ((B.U.setTop { g with stack := rest }).pushFrame (.throwing q))) := by
  subst hg
  have hpl : e.platform.magicAccessors = ({} : Platform).magicAccessors := by rw [X.admits.platform]
  obtain ⟨mk, methM, cM, kP, vm₁, hnamed, hmethM, hcodeM, -, hlocalsM, -, hkP, -, hW₁, hstep₁⟩ := Steps.initColdArgsNest (e := e) X.here hexec X.warmed hpl hown hy1 hy hlink hinst hcode (f := g) rfl hlen hstack hdg
  have X₁ := X.noted hW₁
  rcases hK g.method meth c ⟨T.setVm vm₁, locs, cells, slots⟩ { g with stack := rest } (.invokespecial index) mk (Value.ref a :: argsL).toArray X₁ rfl hsize hdg hW (X₁.named hnamed) (hpre vm₁ X₁.warmed) with ⟨v, B, X', hpost, hsteps⟩ | ⟨q, B, X', hpost, hsteps⟩
  · exact Or.inl ⟨v, vm₁, B, X₁.warmed, X', hpost, fun target h => hstep₁ _ fun acts => by rw [doInvoke_state]; exact hsteps.trans h⟩
  · exact Or.inr ⟨q, vm₁, B, X₁.warmed, X', hpost, hstep₁ _ fun acts => by rw [doInvoke_state]; exact hsteps⟩
end VXIC
section VXID
variable {p : Program} {l : Launch} {e : Env} {R : Room} {s : State} {m : MethodId} {args : Array Value} {below : List Frame} {meth : Method} {c : Code} {H : Heap} {locs : List Loc} {cells slots : Nat}
theorem vx_runIN {y : MethodName} {bytes cc : ByteArray} {maxL nL mc ms n index : Nat} {ws : List Cond} {rm : Room} {Pc : Array Value → State → Prop} {Qc : Array Value → State → Outcome → State → Prop} {XC : String → State → State → Prop} {free : Addr → Prop} {Ts : List Cond} {own host : String} {b : Addr} {As rest : List Value} {g : JFrame}
    (S : CallFix p m c cc nL s args Ts own) (hM : vx_Met l y ws rm Pc Qc XC mc ms free) (cw : va_CN R s args own index y host bytes maxL none ws rm mc ms n ∧ y.name = "<init>" ∧ (Cond.instanceMethod y).before args s = true) (hp : PreS s H Pc (.ref b :: As))
    (hg : g.method = m) (hn : As.length = n) (hsize : g.locals.size = nL) (hstack : g.stack = As.reverse ++ .ref b :: rest) (hW : 2 * g.monitorRoom + (rest.map fun v => v.category).sum ≤ 8) (hdg : decode cc g.pc = .ok (.invokespecial index, 3)) (hf : cells + mc ≤ R.cells ∧ slots + ms ≤ R.slots) :
    vx_Run p l e R s m args below meth c H locs cells slots mc ms g rest (Qc (Value.ref b :: As).toArray) XC free := by
  obtain ⟨⟨⟨hrc, hrs, hfr, hlo, hws, hcw⟩, hcode, hini, hy, hlen, hl⟩, hx1, hx2⟩ := cw
  have hK : vx_Back l R p e below s args y 3 8 (PreOf R mc ms Pc) (PostOf Qc mc ms free) (vx_Post XC mc ms free) := vx_back (bytes := bytes) (maxL := maxL) (ret := none) hM hp.1 hrc hrs hfr hlo hws hcw (fun a' U hW => word_at hW (Or.inl (by first | rfl | simp [Cond.onTables, Cond.keeps, Cond.steady])) hini)
  obtain ⟨hx, hb, hml, ho, -⟩ := S
  have hPc := hp.2
  intro T hT X
  rcases vx_callIN X hx (bytes := bytes) (maxL := maxL) ho hx1 hl hx2 hcode hy hK hg (hsize.trans hml.symm) (a := b) (argsL := As) (rest := rest) (fun sig h => hn.trans (hlen sig h)) hstack hW (by rw [hb]; exact hdg)
    (fun vm₁ hW₁ => ⟨hf.1, hf.2, hPc (T.setVm vm₁) hT hW₁⟩) with ⟨v, vm₁, ⟨U', l2, c2, s2⟩, hW₁, X', ⟨g', mk, t, L, e1, e2, hq, h1, hL, h2, h3⟩, st⟩ | ⟨q, vm₁, ⟨U', l2, c2, s2⟩, hW₁, X', ⟨g', mk, t, L, E, ce, e1, e2, hq, hce, hcv, hcl, h1, hL, h2, h3⟩, st⟩
  · dsimp only [Pt.U, Pt.locs, Pt.cells, Pt.slots] at X' e1 e2 h1 h2 h3 st
    subst h1; subst h2; subst h3
    exact Or.inl ⟨v, (T.setVm vm₁).calling g' mk (Value.ref b :: As).toArray, t, U', L, hT, X', hL, e1, e2, hq, st⟩
  · dsimp only [Pt.U, Pt.locs, Pt.cells, Pt.slots] at X' e1 e2 h1 h2 h3 st hcl
    subst h1; subst h2; subst h3
    exact Or.inr ⟨q, (T.setVm vm₁).calling g' mk (Value.ref b :: As).toArray, t, U', L, E, ce, hT, X', hL, e1, e2, hq, hce, hcv, vx_cls hW₁ hcl, st⟩
end VXID
/-! ===== BEGIN a method of a class above, found by the receiver, that may throw (follows va_callVU, va_runU of this kit) ===== -/
section
variable {p : Program} {l : Launch} {e : Env} {R : Room} {s : State} {m : MethodId} {args : Array Value} {below : List Frame} {meth : Method} {c : Code} {H : Heap} {locs : List Loc} {cells slots : Nat}
theorem vx_callVU {T : State} {locs : List Loc} {cells slots : Nat} (X : Stand p l e R s m args below meth c T locs cells slots) (hexec : p.tables.exec = Jvm.exec) {own C owner : String} {index : Nat} {x y : MethodName} {bytes : ByteArray} {maxL : Nat} {ret : Option FieldType}
    (hown : s.vm.findClass own = some m.cls) (hlink : (Cond.methodLink own index x).before args s = true) (hsame : (Cond.sameMethod x.cls owner x.name x.desc).before args s = true)
    (hd0 : va_Decl s ⟨owner, x.name, x.desc⟩) (howner : owner ≠ "java/lang/invoke/MethodHandle" ∧ owner ≠ "java/lang/invoke/VarHandle")
    (hsel : (Cond.selects C x y).before args s = true) (hinst : (Cond.instanceMethod y).before args s = true) (hcode : (Cond.code y bytes maxL ret).before args s = true)
    {W : Nat} {Pre : Pt → Array Value → Prop} {Post : Pt → Array Value → Option Value → Pt → Prop} {PostX : Pt → Array Value → Addr → Pt → Prop} (hK : vx_Back l R p e below s args y 3 W Pre Post PostX)
    {b : Addr} {cellB : Cell} (hcell : T.heap[b]? = some cellB) (hobj : cellB.vm.isStatics = false) (hcls : s.vm.findClass C = some cellB.cls)
    {g : JFrame} (hg : g.method = m) (hsize : g.locals.size = c.maxLocals) {argsL rest : List Value} (hlen : ∀ sig, parseMethodDescriptor x.desc = some sig → argsL.length = sig.parameters.length)
    (hstack : g.stack = argsL.reverse ++ .ref b :: rest) (hW : 2 * g.monitorRoom + (rest.map fun v => v.category).sum ≤ W) (hdg : decode c.code g.pc = .ok (.invokevirtual index, 3))
    (hpre : ∀ vm₁, s.WarmedH vm₁ → Pre ⟨T.setVm vm₁, locs, cells, slots⟩ (Value.ref b :: argsL).toArray) :
    (∃ (v : Option Value) (vm₁ : Vm) (B : Pt), s.WarmedH vm₁ ∧ Stand p l e R s m args below meth c B.U B.locs B.cells B.slots ∧ Post ⟨T.setVm vm₁, locs, cells, slots⟩ (Value.ref b :: argsL).toArray v B ∧
      ∀ target, Steps p.tables e below (B.U.setTop { g with pc := g.pc + 3, stack := v.toList ++ rest }) target → Steps p.tables e below (T.setTop g) target) ∨
    (∃ (q : Addr) (vm₁ : Vm) (B : Pt), s.WarmedH vm₁ ∧ Stand p l e R s m args below meth c B.U B.locs B.cells B.slots ∧ PostX ⟨T.setVm vm₁, locs, cells, slots⟩ (Value.ref b :: argsL).toArray q B ∧
      Steps p.tables e below (T.setTop g) ((B.U.setTop { g with stack := rest }).pushFrame (.throwing q))) := by
  obtain ⟨r0, r, hn, hrm, hstR, hsigR⟩ := hd0
  obtain ⟨cn, ck, r1, hcn, hck, hni, hf, hn1⟩ := Cond.sameMethod_found hsame
  cases hn.symm.trans hn1
  obtain ⟨mk, methM, hnamed, hmethM, -, habM⟩ := Cond.instanceMethod_spec hinst
  obtain ⟨c2, r2, m2, q1, q2, q3, q4, kP, hkP, hkPi⟩ := Cond.selects_spec hsel
  cases hcls.symm.trans q1
  cases hf.symm.trans q2
  cases hnamed.symm.trans q3
  have hselP : selectMethod e.platform s.vm cellB.cls r0 = .method mk := by rw [Launch.admits_selectMethod X.admits]; exact q4
  obtain ⟨vm₁, X₁, hstep₁⟩ := X.invokevirtualUp hexec hown hlink hsame howner hn hrm hstR (a := b) (cell := cellB) hcell
    (fun z h => by rw [h] at hobj; cases hobj) hselP hmethM habM hkP hkPi (g := g) hg (argsL := argsL) (rest := rest) (hlen _ hsigR) hstack hdg
  rcases hK m meth c ⟨T.setVm vm₁, locs, cells, slots⟩ { g with stack := rest } (.invokevirtual index) mk (Value.ref b :: argsL).toArray X₁ hg hsize hdg hW (X₁.named hnamed) (hpre vm₁ X₁.warmed) with ⟨v, B, X', hpost, hsteps⟩ | ⟨q, B, X', hpost, hsteps⟩
  · exact Or.inl ⟨v, vm₁, B, X₁.warmed, X', hpost, fun target h => hstep₁ _ fun acts => by rw [doInvoke_state]; exact hsteps.trans h⟩
  · exact Or.inr ⟨q, vm₁, B, X₁.warmed, X', hpost, hstep₁ _ fun acts => by rw [doInvoke_state]; exact hsteps⟩
theorem vx_runU {x y : MethodName} {bytes cc : ByteArray} {maxL nL mc ms n index : Nat} {ret : Option FieldType} {ws : List Cond} {rm : Room} {Pc : Array Value → State → Prop} {Qc : Array Value → State → Outcome → State → Prop} {XC : String → State → State → Prop} {free : Addr → Prop} {Ts : List Cond} {own C owner : String} {b : Addr} {As rest : List Value} {g : JFrame}
    (S : CallFix p m c cc nL s args Ts own) (hM : vx_Met l y ws rm Pc Qc XC mc ms free) (cw : va_CU R s args own C owner index x y bytes maxL ret ws rm mc ms n) (hp : PreV s H C b Pc As)
    (hg : g.method = m) (hn : As.length = n) (hsize : g.locals.size = nL) (hstack : g.stack = As.reverse ++ .ref b :: rest) (hW : 2 * g.monitorRoom + (rest.map fun v => v.category).sum ≤ 8) (hdg : decode cc g.pc = .ok (.invokevirtual index, 3)) (hf : cells + mc ≤ R.cells ∧ slots + ms ≤ R.slots) :
    vx_Run p l e R s m args below meth c H locs cells slots mc ms g rest (Qc (Value.ref b :: As).toArray) XC free := by
  obtain ⟨hrc, hrs, hfr, hlo, hws, hcw⟩ := cw.back
  have hini := cw.init
  have hK : vx_Back l R p e below s args y 3 8 (PreOf R mc ms Pc) (PostOf Qc mc ms free) (vx_Post XC mc ms free) := vx_back (bytes := bytes) (maxL := maxL) (ret := ret) hM hp.1 hrc hrs hfr hlo hws hcw (fun a' U hW => word_at hW (Or.inl (by first | rfl | simp [Cond.onTables, Cond.keeps, Cond.steady])) hini)
  obtain ⟨hx, hb, hml, ho, -⟩ := S
  obtain ⟨-, ⟨cellB, hcB, hoB, hclB⟩, hPc⟩ := hp
  intro T hT X
  rcases vx_callVU X hx (C := C) (owner := owner) (bytes := bytes) (maxL := maxL) (ret := ret) ho cw.link cw.same cw.decl cw.notMH cw.sel cw.inst cw.code hK (by rw [hT]; exact hcB) hoB hclB hg (hsize.trans hml.symm) (argsL := As) (rest := rest) (fun sig h => hn.trans (cw.len sig h)) hstack hW (by rw [hb]; exact hdg)
    (fun vm₁ hW₁ => ⟨hf.1, hf.2, hPc (T.setVm vm₁) hT hW₁⟩) with ⟨v, vm₁, ⟨U', l2, c2, s2⟩, hW₁, X', ⟨g', mk, t, L, e1, e2, hq, h1, hL, h2, h3⟩, st⟩ | ⟨q, vm₁, ⟨U', l2, c2, s2⟩, hW₁, X', ⟨g', mk, t, L, E, ce, e1, e2, hq, hce, hcv, hcl, h1, hL, h2, h3⟩, st⟩
  · dsimp only [Pt.U, Pt.locs, Pt.cells, Pt.slots] at X' e1 e2 h1 h2 h3 st
    subst h1; subst h2; subst h3
    exact Or.inl ⟨v, (T.setVm vm₁).calling g' mk (Value.ref b :: As).toArray, t, U', L, hT, X', hL, e1, e2, hq, st⟩
  · dsimp only [Pt.U, Pt.locs, Pt.cells, Pt.slots] at X' e1 e2 h1 h2 h3 st hcl
    subst h1; subst h2; subst h3
    exact Or.inr ⟨q, (T.setVm vm₁).calling g' mk (Value.ref b :: As).toArray, t, U', L, E, ce, hT, X', hL, e1, e2, hq, hce, hcv, vx_cls hW₁ hcl, st⟩
end
/-! ===== BEGIN super.m(..) that may throw (follows va_callSU, va_runSU) ===== -/
section
variable {p : Program} {l : Launch} {e : Env} {R : Room} {s : State} {m : MethodId} {args : Array Value} {below : List Frame} {meth : Method} {c : Code} {H : Heap} {locs : List Loc} {cells slots : Nat}
theorem vx_callSU {T : State} {locs : List Loc} {cells slots : Nat} (X : Stand p l e R s m args below meth c T locs cells slots) (hexec : p.tables.exec = Jvm.exec) {own : String} {index : Nat} {y : MethodName} {bytes : ByteArray} {maxL : Nat} {ret : Option FieldType}
    (hown : s.vm.findClass own = some m.cls) (hlink : (Cond.methodLink own index y).before args s = true) (hsame : (Cond.sameMethod y.cls y.cls y.name y.desc).before args s = true) (hsup : (Cond.superclass own y.cls).before args s = true)
    (hinst : (Cond.instanceMethod y).before args s = true) (hcode : (Cond.code y bytes maxL ret).before args s = true) (hno : y.name ≠ "<init>")
    {W : Nat} {Pre : Pt → Array Value → Prop} {Post : Pt → Array Value → Option Value → Pt → Prop} {PostX : Pt → Array Value → Addr → Pt → Prop} (hK : vx_Back l R p e below s args y 3 W Pre Post PostX)
    {b : Addr} {cellB : Cell} {kB : Class} (hcell : T.heap[b]? = some cellB) (hobj : cellB.vm.isStatics = false) (hkB : s.vm.classes[cellB.cls]? = some kB)
    {g : JFrame} (hg : g.method = m) (hsize : g.locals.size = c.maxLocals) {argsL rest : List Value} (hlen : ∀ sig, parseMethodDescriptor y.desc = some sig → argsL.length = sig.parameters.length)
    (hstack : g.stack = argsL.reverse ++ .ref b :: rest) (hW : 2 * g.monitorRoom + (rest.map fun v => v.category).sum ≤ W) (hdg : decode c.code g.pc = .ok (.invokespecial index, 3))
    (hpre : ∀ vm₁, s.WarmedH vm₁ → Pre ⟨T.setVm vm₁, locs, cells, slots⟩ (Value.ref b :: argsL).toArray) :
    (∃ (v : Option Value) (vm₁ : Vm) (B : Pt), s.WarmedH vm₁ ∧ Stand p l e R s m args below meth c B.U B.locs B.cells B.slots ∧ Post ⟨T.setVm vm₁, locs, cells, slots⟩ (Value.ref b :: argsL).toArray v B ∧
      ∀ target, Steps p.tables e below (B.U.setTop { g with pc := g.pc + 3, stack := v.toList ++ rest }) target → Steps p.tables e below (T.setTop g) target) ∨
    (∃ (q : Addr) (vm₁ : Vm) (B : Pt), s.WarmedH vm₁ ∧ Stand p l e R s m args below meth c B.U B.locs B.cells B.slots ∧ PostX ⟨T.setVm vm₁, locs, cells, slots⟩ (Value.ref b :: argsL).toArray q B ∧
      Steps p.tables e below (T.setTop g) ((B.U.setTop { g with stack := rest }).pushFrame (.throwing q))) := by
  obtain ⟨mk, methM, hnamed, hmethM, hstM, habM⟩ := Cond.instanceMethod_spec hinst
  obtain ⟨methM', cM, hmethM', -, -, -, -, -, -, hsigM⟩ := Cond.code_spec hnamed hcode
  cases hmethM.symm.trans hmethM'
  obtain ⟨ps, dk, kp, hps, hdk, hkp, hsuper, -, -, hnid⟩ := Cond.superclass_spec hown hsup
  have hn : s.methodNamed? ⟨y.cls, y.name, y.desc⟩ = some mk := hnamed
  have hpm : ps = mk.cls := Option.some.inj (hps.symm.trans (findClass_of_methodNamed hnamed))
  have hsub : s.vm.isSubclass ps mk.cls = true := by rw [hpm]; simp [Vm.isSubclass, Vm.isSubclassAux]
  obtain ⟨vm₁, X₁, hstep₁⟩ := X.invokespecialUp hexec hown hlink hsame hn hmethM hstM habM hno hdk hnid hps hsuper hsub (a := b) (cell := cellB) hcell
    (fun z h => by rw [h] at hobj; cases hobj) hkB (g := g) hg (argsL := argsL) (rest := rest) (hlen _ hsigM) hstack hdg
  rcases hK m meth c ⟨T.setVm vm₁, locs, cells, slots⟩ { g with stack := rest } (.invokespecial index) mk (Value.ref b :: argsL).toArray X₁ hg hsize hdg hW (X₁.named hnamed) (hpre vm₁ X₁.warmed) with ⟨v, B, X', hpost, hsteps⟩ | ⟨q, B, X', hpost, hsteps⟩
  · exact Or.inl ⟨v, vm₁, B, X₁.warmed, X', hpost, fun target h => hstep₁ _ (by rw [doInvoke_state]; exact hsteps.trans h)⟩
  · exact Or.inr ⟨q, vm₁, B, X₁.warmed, X', hpost, hstep₁ _ (by rw [doInvoke_state]; exact hsteps)⟩
theorem vx_runSU {y : MethodName} {bytes cc : ByteArray} {maxL nL mc ms n index : Nat} {ret : Option FieldType} {ws : List Cond} {rm : Room} {Pc : Array Value → State → Prop} {Qc : Array Value → State → Outcome → State → Prop} {XC : String → State → State → Prop} {free : Addr → Prop} {Ts : List Cond} {own C : String} {cC : ClassId} {b : Addr} {As rest : List Value} {g : JFrame}
    (hat : ClassAt s C cC) (S : CallFix p m c cc nL s args Ts own) (hM : vx_Met l y ws rm Pc Qc XC mc ms free) (cw : va_CS R s args own index y bytes maxL ret ws rm mc ms n) (hp : PreV s H C b Pc As)
    (hg : g.method = m) (hn : As.length = n) (hsize : g.locals.size = nL) (hstack : g.stack = As.reverse ++ .ref b :: rest) (hW : 2 * g.monitorRoom + (rest.map fun v => v.category).sum ≤ 8) (hdg : decode cc g.pc = .ok (.invokespecial index, 3)) (hf : cells + mc ≤ R.cells ∧ slots + ms ≤ R.slots) :
    vx_Run p l e R s m args below meth c H locs cells slots mc ms g rest (Qc (Value.ref b :: As).toArray) XC free := by
  obtain ⟨⟨hrc, hrs, hfr, hlo, hws, hcw⟩, hl1, hl2, hl3, hl4, hini, hcode, hno, hlen⟩ := cw
  have hK : vx_Back l R p e below s args y 3 8 (PreOf R mc ms Pc) (PostOf Qc mc ms free) (vx_Post XC mc ms free) := vx_back (bytes := bytes) (maxL := maxL) (ret := ret) hM hp.1 hrc hrs hfr hlo hws hcw (fun a' U hW => word_at hW (Or.inl (by first | rfl | simp [Cond.onTables, Cond.keeps, Cond.steady])) hini)
  obtain ⟨hx, hb, hml, ho, -⟩ := S
  obtain ⟨-, ⟨cellB, hcB, hoB, hclB⟩, hPc⟩ := hp
  obtain ⟨hfc, kB, hkB, -⟩ := hat
  cases hfc.symm.trans hclB
  intro T hT X
  rcases vx_callSU X hx (bytes := bytes) (maxL := maxL) (ret := ret) ho hl1 hl2 hl3 hl4 hcode hno hK (by rw [hT]; exact hcB) hoB hkB hg (hsize.trans hml.symm) (argsL := As) (rest := rest) (fun sig h => hn.trans (hlen sig h)) hstack hW (by rw [hb]; exact hdg)
    (fun vm₁ hW₁ => ⟨hf.1, hf.2, hPc (T.setVm vm₁) hT hW₁⟩) with ⟨v, vm₁, ⟨U', l2, c2, s2⟩, hW₁, X', ⟨g', mk, t, L, e1, e2, hq, h1, hL, h2, h3⟩, st⟩ | ⟨q, vm₁, ⟨U', l2, c2, s2⟩, hW₁, X', ⟨g', mk, t, L, E, ce, e1, e2, hq, hce, hcv, hcl, h1, hL, h2, h3⟩, st⟩
  · dsimp only [Pt.U, Pt.locs, Pt.cells, Pt.slots] at X' e1 e2 h1 h2 h3 st
    subst h1; subst h2; subst h3
    exact Or.inl ⟨v, (T.setVm vm₁).calling g' mk (Value.ref b :: As).toArray, t, U', L, hT, X', hL, e1, e2, hq, st⟩
  · dsimp only [Pt.U, Pt.locs, Pt.cells, Pt.slots] at X' e1 e2 h1 h2 h3 st hcl
    subst h1; subst h2; subst h3
    exact Or.inr ⟨q, (T.setVm vm₁).calling g' mk (Value.ref b :: As).toArray, t, U', L, E, ce, hT, X', hL, e1, e2, hq, hce, hcv, vx_cls hW₁ hcl, st⟩
end
/-! LAYER A, second part: entry, ends, calls, making, copying, throwing -/
section AZS
variable {l : Launch} {G : az_G} {nL : Nat} {Q : State → Prop} {p : Program} {e : Env} {R : Room} {s : State} {m : MethodId} {args : Array Value} {below : List Frame} {meth : Method} {c : Code} {ad : az_A} {K : az_K} {k n pc : Nat} {lv : List (Nat × Value)} {st : List Value}
variable {cc : ByteArray} {own : String} {ret : Option FieldType} {tab : List ExceptionTableEntry} {post : az_O → az_A → az_K → Prop} {mc ms : Nat}
theorem az_start {y : MethodName} {maxL d : Nat} {av : List Value} (hG : az_ok l G) (hy : plainName y.cls = true) (hlen : (lg_sl av).length ≤ maxL)
    (body : ∀ (p : Program) (e : Env) (s : State) (m : MethodId) (args : Array Value) (below : List Frame) (meth : Method) (c : Code), az_C l G p s m args meth c cc y.cls maxL ret [] → meth.name = y.name → az_W l G maxL (az_Q G post below args s mc ms) p e (az_rm d mc ms) s m args below meth c ad K 0 0 0 (lv_args 0 av) []) : az_M l G y (az_ws y cc maxL ret) d av ad K mc ms post := by
  refine vx_ofW (cc := cc) (maxL := maxL) (ret := ret) hy rfl ?_
  intro p e s m args below meth c s₁ B hml htab hv
  obtain ⟨rfl, hE, hP⟩ := hv
  have hts := atoms_spec (ws := az_ws y cc maxL ret) B.pre
  have C : az_C l G p s m av.toArray meth c cc y.cls maxL ret [] := ⟨B.exec, B.bytes, hml, findClass_of_methodNamed B.named, fun w hw hg => hts w (List.mem_cons_of_mem _ (List.mem_filter.mpr ⟨hw, hg⟩)), hE.1, hE.2.1, hE.2.2, B.notSynchronized, B.returns, List.eq_nil_iff_forall_not_mem.mpr htab, hG⟩
  have hl := lv_entry av (n := maxL) hlen
  rw [lg_entry_eq]
  exact body p e s m _ below meth c C (name_of_methodNamed B.named B.method).1 s.heap [] _ hP va_S.rf hl
theorem az_C.hx (C : az_C l G p s m args meth c cc own nL ret tab) : p.tables.exec = Jvm.exec := C.1
theorem az_C.hlocks (C : az_C l G p s m args meth c cc own nL ret tab) : meth.locks = false := C.2.2.2.2.2.2.2.2.1
theorem az_C.hret (C : az_C l G p s m args meth c cc own nL ret tab) : meth.sig.returnType = ret := C.2.2.2.2.2.2.2.2.2.1
theorem az_C.htab (C : az_C l G p s m args meth c cc own nL ret tab) : c.exceptionTable.toList = tab := C.2.2.2.2.2.2.2.2.2.2.1
theorem az_C.hG (C : az_C l G p s m args meth c cc own nL ret tab) : az_ok l G := C.2.2.2.2.2.2.2.2.2.2.2
theorem az_C.hw (C : az_C l G p s m args meth c cc own nL ret tab) {w : Cond} (h : w ∈ lw_tbl) (hg : goodWord w = true) : w.before args s = true := C.2.2.2.2.1 w h hg
theorem az_C.hts (C : az_C l G p s m args meth c cc own nL ret tab) : ∀ w ∈ az_good, w.before args s = true := fun w hw => C.2.2.2.2.1 w (List.mem_filter.mp hw).1 (List.mem_filter.mp hw).2
theorem az_C.hK (C : az_C l G p s m args meth c cc own nL ret tab) : va_K G.2.1 vwCl (az_tys G.2.2.1) s := C.2.2.2.2.2.1
theorem az_C.hO (C : az_C l G p s m args meth c cc own nL ret tab) : G.2.2.2 s s.heap := C.2.2.2.2.2.2.1
theorem az_C.hb (C : az_C l G p s m args meth c cc own nL ret tab) : G.1 ≤ s.heap.size := C.2.2.2.2.2.2.2.1

theorem az_iret (C : az_C l G p s m args meth c cc own nL ret tab) {v : Int32} (hr : ret = some .int) (d : decode cc pc = .ok (.ireturn, 1)) (hk : k ≤ mc) (hn : n ≤ ms) (hp : post (.inl (some (.int v))) ad K) : az_W l G nL (az_Q G post below args s mc ms) p e R s m args below meth c ad K k n pc lv [.int v] :=
  fun H locs ls hP hS hl => W.widen hk hn (vx_ret (W.iret C.1 C.2.1 (C.hret.trans hr) (fun t ht _ => ⟨⟨_, ad, K, rfl, hp, by rw [ht]; exact hP⟩, hS.F ht⟩) hS.2.2 d C.hlocks))
theorem az_zret (C : az_C l G p s m args meth c cc own nL ret tab) {v : Int32} (ty : FieldType) (hr : ret = some ty) (hnar : narrow ty (.int v) = .int v) (d : decode cc pc = .ok (.ireturn, 1)) (hk : k ≤ mc) (hn : n ≤ ms) (hp : post (.inl (some (.int v))) ad K) : az_W l G nL (az_Q G post below args s mc ms) p e R s m args below meth c ad K k n pc lv [.int v] :=
  fun H locs ls hP hS hl => W.widen hk hn (vx_ret (W.zret C.1 C.2.1 (C.hret.trans hr) hnar (fun t ht _ => ⟨⟨_, ad, K, rfl, hp, by rw [ht]; exact hP⟩, hS.F ht⟩) hS.2.2 d C.hlocks))
theorem az_lret (C : az_C l G p s m args meth c cc own nL ret tab) {v : Int64} (hr : ret = some .long) (d : decode cc pc = .ok (.lreturn, 1)) (hk : k ≤ mc) (hn : n ≤ ms) (hp : post (.inl (some (.long v))) ad K) : az_W l G nL (az_Q G post below args s mc ms) p e R s m args below meth c ad K k n pc lv [.long v] :=
  fun H locs ls hP hS hl => W.widen hk hn (vx_ret (W.lret C.1 C.2.1 (C.hret.trans hr) (fun t ht _ => ⟨⟨_, ad, K, rfl, hp, by rw [ht]; exact hP⟩, hS.F ht⟩) hS.2.2 d C.hlocks))
theorem az_dret (C : az_C l G p s m args meth c cc own nL ret tab) {v : UInt64} (hr : ret = some .double) (d : decode cc pc = .ok (.dreturn, 1)) (hk : k ≤ mc) (hn : n ≤ ms) (hp : post (.inl (some (.double v))) ad K) : az_W l G nL (az_Q G post below args s mc ms) p e R s m args below meth c ad K k n pc lv [.double v] :=
  fun H locs ls hP hS hl => W.widen hk hn (vx_ret (W.dret C.1 C.2.1 (C.hret.trans hr) (fun t ht _ => ⟨⟨_, ad, K, rfl, hp, by rw [ht]; exact hP⟩, hS.F ht⟩) hS.2.2 d C.hlocks))
theorem az_aret (C : az_C l G p s m args meth c cc own nL ret tab) {v : Value} (rt : FieldType) (hr : ret = some rt) (hrt : (∃ z, rt = .object z) ∨ ∃ t, rt = .array t) (hv : v = .null ∨ ∃ a, v = .ref a) (d : decode cc pc = .ok (.areturn, 1)) (hk : k ≤ mc) (hn : n ≤ ms) (hp : post (.inl (some (v))) ad K) : az_W l G nL (az_Q G post below args s mc ms) p e R s m args below meth c ad K k n pc lv [v] :=
  fun H locs ls hP hS hl => W.widen hk hn (vx_ret (W.aret C.1 C.2.1 (C.hret.trans hr) hrt hv (fun t ht _ => ⟨⟨_, ad, K, rfl, hp, by rw [ht]; exact hP⟩, hS.F ht⟩) hS.2.2 d C.hlocks))
theorem az_vret (C : az_C l G p s m args meth c cc own nL ret tab) (hr : ret = none) (d : decode cc pc = .ok (.return_, 1)) (hk : k ≤ mc) (hn : n ≤ ms) (hp : post (.inl none) ad K) : az_W l G nL (az_Q G post below args s mc ms) p e R s m args below meth c ad K k n pc lv [] :=
  fun H locs ls hP hS hl => W.widen hk hn (vx_ret (W.vret C.1 C.2.1 (C.hret.trans hr) (fun t ht _ => ⟨⟨_, ad, K, rfl, hp, by rw [ht]; exact hP⟩, hS.F ht⟩) hS.2.2 d C.hlocks))
theorem az_blind {av : List Value} (hG : az_ok l G) : FrameBlind (az_Pc G av ad K) := fun a U g mk q => by
  obtain ⟨h1, ⟨h2, h3, h4⟩, h5⟩ := q
  exact ⟨h1, ⟨va_K.moved (u := U) (U := U.calling g mk a) (Vm.Alike.refl U.vm) h2, hG.2.2.1 U _ g mk a h3, h4⟩, h5⟩
theorem az_here (C : az_C l G p s m args meth c cc own nL ret tab) {H : Heap} {locs : List Loc} {av : List Value} (hP : az_P G ad K H) (hS : va_S (fun q => G.1 ≤ q) s.heap H locs) : ∀ U : State, U.heap = H → s.WarmedH U.vm → az_Pc G av ad K av.toArray U := fun U hU hW => by
  refine ⟨rfl, ⟨va_K.moved hW.alike C.hK, ?_, ?_⟩, by rw [hU]; exact hP⟩
  · rw [hU]
    exact C.hG.1 s U H hW (C.hG.2.1 s s.heap H (fun q h1 h2 => hS.2.1 q h1 (Nat.not_le.mpr h2)) C.hO)
  · rw [hU]
    exact Nat.le_trans C.hb hS.1
theorem az_callB (C : az_C l G p s m args meth c cc own nL ret tab) {y : MethodName} {b : ByteArray} {nY kY d' idx : Nat} {rY : Option FieldType} (Y : az_Y y b nY rY kY) (hw : Cond.methodLink own idx y ∈ lw_tbl) (hfr : d' + 1 ≤ R.frames) (hlo : 19 + nY + 40 * d' ≤ R.locals) : CallB R s args own idx y b nY rY (az_ws y b nY rY) (az_rm d' mc ms) mc ms kY := by
  obtain ⟨y1, y2, y3, y4⟩ := Y
  refine ⟨rfl, rfl, hfr, ?_, fun w hw9 a' U hW => ?_, List.mem_cons_self, C.hw y1 rfl, C.hw y2 rfl, y3, fun sig h => ?_, C.hw hw rfl⟩
  · show 8 + (nY + 11) + 40 * d' ≤ R.locals
    omega
  · rcases List.mem_cons.mp hw9 with h | h
    · subst h
      exact word_at hW (good_of_word rfl) (C.hw y1 rfl)
    · exact word_at hW (good_of_word (List.mem_filter.mp h).2) (C.hts w h)
  · rw [h] at y4
    exact (Option.some.inj y4).symm
theorem az_run {mc ms : Nat} {rest : List Value} {post : az_O → az_A → az_K → Prop} {a : Array Value} {H : Heap} {locs : List Loc} {ls : Array Slot} (hr : vx_Run p l e R s m args below meth c H locs k n mc ms (F0 m pc ls st) rest (az_Qc G post a) (az_XC G post) (az_fr G)) (hS : va_S (fun q => G.1 ≤ q) s.heap H locs) (hl : lv_has ls nL lv)
    (kk : ∀ (v : Option Value) (ad' : az_A) (K' : az_K), post (.inl v) ad' K' → az_W l G nL Q p e R s m args below meth c ad' K' (k + mc) (n + ms) (pc + 3) lv (v.toList ++ rest))
    (kx : ∀ (E : String) (ad' : az_A) (K' : az_K), post (.inr E) ad' K' → az_X l G nL Q p e R s m args below meth c ad' K' (k + mc) (n + ms) pc lv E) : W p l e R s m args below meth c H locs k n Q (F0 m pc ls st) := by
  intro T hT X
  rcases hr T hT X with ⟨v, st₀, t, T', L, h0, X', hL, e1, e2, ⟨⟨v', ad', K', hv, hp, hb⟩, hF⟩, st9⟩ | ⟨q, st₀, t, T', L, E, ce, h0, X', hL, e1, e2, ⟨⟨ad', K', hp, hb⟩, hF⟩, hce, hcv, hcl, st9⟩
  · cases hv
    obtain ⟨k1, k2, k3⟩ := vx_keep (free := az_fr G) h0 e1 hS (fun _ _ h => h) (fun _ h => h) hL hF
    obtain ⟨t2, a1, b1⟩ := kk v ad' K' hp T'.heap (locs ++ L) ls (by rw [e1]; exact hb) k3 hl T' rfl X'
    exact ⟨t2, st9 t2 a1, b1⟩
  · obtain ⟨k1, k2, k3⟩ := vx_keep (free := az_fr G) h0 e1 hS (fun _ _ h => h) (fun _ h => h) hL hF
    obtain ⟨t2, a1, b1⟩ := kx E ad' K' hp T'.heap (locs ++ L) ls rest q ce (by rw [e1]; exact hb) k3 hl (by rw [e1]; exact hce) hcv hcl T' rfl X'
    exact ⟨t2, st9.trans a1, b1⟩

/-- a call of an instance method of the receiver's own class; the receiver lies at the place r, i -/
theorem az_callV (C : az_C l G p s m args meth c cc own nL ret tab) {y : MethodName} {b : ByteArray} {nY kY d' idx mc ms : Nat} {rY : Option FieldType} {post : az_O → az_A → az_K → Prop} (Y : az_Y y b nY rY kY) {C0 : String} {T : u_T} {N ci : Nat} {ty : Nat → FieldType} (c0 : az_cl ci C0 T N ty) (r i : Nat) {fs : List Value} {a : Nat} (As rest : List Value) (hw : Cond.methodLink own idx y ∈ lw_tbl) (hi : Cond.instanceMethod y ∈ lw_tbl) (hse : Cond.selects C0 y y ∈ lw_tbl) (d : decode cc pc = .ok (.invokevirtual idx, 3)) (ha : ad r i = a) (hk : K r i = some (.inr (ci, fs))) (hst : st = As.reverse ++ .ref a :: rest) (hM : az_M l G y (az_ws y b nY rY) d' (.ref a :: As) ad K mc ms post) (hn : As.length = kY) (hW : (rest.map fun v => v.category).sum ≤ 8) (hfr : d' + 1 ≤ R.frames) (hlo : 19 + nY + 40 * d' ≤ R.locals) (hc : k + mc ≤ R.cells) (hs : n + ms ≤ R.slots)
    (kk : ∀ (v : Option Value) (ad' : az_A) (K' : az_K), post (.inl v) ad' K' → az_W l G nL Q p e R s m args below meth c ad' K' (k + mc) (n + ms) (pc + 3) lv (v.toList ++ rest))
    (kx : ∀ (E : String) (ad' : az_A) (K' : az_K), post (.inr E) ad' K' → az_X l G nL Q p e R s m args below meth c ad' K' (k + mc) (n + ms) pc lv E) : az_W l G nL Q p e R s m args below meth c ad K k n pc lv st := by
  subst ha
  intro H locs ls hP hS hl
  exact az_run (vx_runV (As := As) (rest := rest) (C := C0) ⟨C.1, C.2.1, C.2.2.1, C.2.2.2.1, C.hts⟩ hM ⟨az_callB C Y hw hfr hlo, C.hw hi rfl, C.hw hse rfl⟩ ⟨az_blind C.hG, va_recv C.hK (az_one (hP.1 _ _ _ hk).1) c0.1 (q0 := 0) rfl, az_here C hP hS⟩ rfl hn hl.1 hst (lv_room hW) d ⟨hc, hs⟩) hS hl kk kx
/-- a call of a static method -/
theorem az_callS (C : az_C l G p s m args meth c cc own nL ret tab) {y : MethodName} {b : ByteArray} {nY kY d' idx mc ms : Nat} {rY : Option FieldType} {post : az_O → az_A → az_K → Prop} (Y : az_Y y b nY rY kY) (As rest : List Value) (hw : Cond.methodLink own idx y ∈ lw_tbl) (hi : Cond.static y ∈ lw_tbl) (d : decode cc pc = .ok (.invokestatic idx, 3)) (hst : st = As.reverse ++ rest) (hM : az_M l G y (az_ws y b nY rY) d' As ad K mc ms post) (hn : As.length = kY) (hW : (rest.map fun v => v.category).sum ≤ 8) (hfr : d' + 1 ≤ R.frames) (hlo : 19 + nY + 40 * d' ≤ R.locals) (hc : k + mc ≤ R.cells) (hs : n + ms ≤ R.slots)
    (kk : ∀ (v : Option Value) (ad' : az_A) (K' : az_K), post (.inl v) ad' K' → az_W l G nL Q p e R s m args below meth c ad' K' (k + mc) (n + ms) (pc + 3) lv (v.toList ++ rest))
    (kx : ∀ (E : String) (ad' : az_A) (K' : az_K), post (.inr E) ad' K' → az_X l G nL Q p e R s m args below meth c ad' K' (k + mc) (n + ms) pc lv E) : az_W l G nL Q p e R s m args below meth c ad K k n pc lv st := by
  intro H locs ls hP hS hl
  exact az_run (vx_runS (As := As) (rest := rest) ⟨C.1, C.2.1, C.2.2.1, C.2.2.2.1, C.hts⟩ hM ⟨az_callB C Y hw hfr hlo, C.hw hi rfl⟩ ⟨az_blind C.hG, az_here C hP hS⟩ rfl hn hl.1 hst (lv_room hW) d ⟨hc, hs⟩) hS hl kk kx
/-- a call of a constructor -/
theorem az_callI (C : az_C l G p s m args meth c cc own nL ret tab) {y : MethodName} {b : ByteArray} {nY kY d' idx mc ms : Nat} {post : az_O → az_A → az_K → Prop} (Y : az_Y y b nY none kY) {a : Nat} (As rest : List Value) (hy1 : y.name = "<init>") (hw : Cond.methodLink own idx y ∈ lw_tbl) (hi : Cond.instanceMethod y ∈ lw_tbl) (d : decode cc pc = .ok (.invokespecial idx, 3)) (hst : st = As.reverse ++ .ref a :: rest) (hM : az_M l G y (az_ws y b nY none) d' (.ref a :: As) ad K mc ms post) (hn : As.length = kY) (hW : (rest.map fun v => v.category).sum ≤ 8) (hfr : d' + 1 ≤ R.frames) (hlo : 19 + nY + 40 * d' ≤ R.locals) (hc : k + mc ≤ R.cells) (hs : n + ms ≤ R.slots)
    (kk : ∀ (v : Option Value) (ad' : az_A) (K' : az_K), post (.inl v) ad' K' → az_W l G nL Q p e R s m args below meth c ad' K' (k + mc) (n + ms) (pc + 3) lv (v.toList ++ rest))
    (kx : ∀ (E : String) (ad' : az_A) (K' : az_K), post (.inr E) ad' K' → az_X l G nL Q p e R s m args below meth c ad' K' (k + mc) (n + ms) pc lv E) : az_W l G nL Q p e R s m args below meth c ad K k n pc lv st := by
  intro H locs ls hP hS hl
  exact az_run (vx_runI (As := As) (rest := rest) (b := a) ⟨C.1, C.2.1, C.2.2.1, C.2.2.2.1, C.hts⟩ hM ⟨az_callB C Y hw hfr hlo, hy1, C.hw hi rfl⟩ ⟨az_blind C.hG, az_here C hP hS⟩ rfl hn hl.1 hst (lv_room hW) d ⟨hc, hs⟩) hS hl kk kx
theorem az_k1 {post : az_O → az_A → az_K → Prop} {v : Option Value} {ad1 : az_A} {K1 : az_K} {rest st1 : List Value} (hp : post = az_r v ad1 K1) (hst : v.toList ++ rest = st1) (kk : az_W l G nL Q p e R s m args below meth c ad1 K1 k n pc lv st1) : ∀ (v : Option Value) (ad' : az_A) (K' : az_K), post (.inl v) ad' K' → az_W l G nL Q p e R s m args below meth c ad' K' k n pc lv (v.toList ++ rest) := by
  subst hp; subst hst
  rintro v ad' K' ⟨h1, rfl, rfl⟩
  cases h1
  exact kk
theorem az_k0 {post : az_O → az_A → az_K → Prop} {v : Option Value} {ad1 : az_A} {K1 : az_K} (hp : post = az_r v ad1 K1) : ∀ (E : String) (ad' : az_A) (K' : az_K), post (.inr E) ad' K' → az_X l G nL Q p e R s m args below meth c ad' K' k n pc lv E := by
  subst hp
  rintro E ad' K' ⟨h1, -⟩
  cases h1
theorem az_x1 {post : az_O → az_A → az_K → Prop} {E : String} {ad1 : az_A} {K1 : az_K} (hp : post = az_x E ad1 K1) (kk : az_X l G nL Q p e R s m args below meth c ad1 K1 k n pc lv E) : ∀ (E : String) (ad' : az_A) (K' : az_K), post (.inr E) ad' K' → az_X l G nL Q p e R s m args below meth c ad' K' k n pc lv E := by
  subst hp
  rintro v ad' K' ⟨h1, rfl, rfl⟩
  cases h1
  exact kk
theorem az_x0 {post : az_O → az_A → az_K → Prop} {E : String} {ad1 : az_A} {K1 : az_K} {rest : List Value} (hp : post = az_x E ad1 K1) : ∀ (v : Option Value) (ad' : az_A) (K' : az_K), post (.inl v) ad' K' → az_W l G nL Q p e R s m args below meth c ad' K' k n pc lv (v.toList ++ rest) := by
  subst hp
  rintro E ad' K' ⟨h1, -⟩
  cases h1
/-- thrown, and this method lets it out -/
theorem az_out (C : az_C l G p s m args meth c cc own nL ret tab) {E : String} (ht : ∀ x ∈ tab, covers x pc = false) (hk : k ≤ mc) (hn : n ≤ ms) (hp : post (.inr E) ad K) : az_X l G nL (az_Q G post below args s mc ms) p e R s m args below meth c ad K k n pc lv E :=
  fun H locs ls rest q ce hP hS hl hce hcv hcl => vx_out (E := E) (by rw [C.htab]; exact ht) C.hlocks hce hcv hcl (fun t ht ha => ⟨⟨ad, K, hp, by rw [ht]; exact hP⟩, hS.F ht⟩) hS.2.2 hk hn
theorem az_xkn {E : String} (k' n' : Nat) (h1 : k ≤ k') (h2 : n ≤ n') (kk : az_X l G nL Q p e R s m args below meth c ad K k' n' pc lv E) : az_X l G nL Q p e R s m args below meth c ad K k n pc lv E := fun H locs ls rest q ce hP hS hl h3 h4 h5 => vx_widen h1 h2 (kk H locs ls rest q ce hP hS hl h3 h4 h5)
/-- a new object -/
theorem az_new (C : az_C l G p s m args meth c cc own nL ret tab) {C0 : String} {T : u_T} {N ci idx : Nat} {ty : Nat → FieldType} (c0 : az_cl ci C0 T N ty) (r i : Nat) (fs : List Value) (hcl : Cond.classLink own idx C0 ∈ lw_tbl) (hinst : Cond.instantiable C0 N ∈ lw_tbl) (hini : Cond.initialized C0 ∈ lw_tbl) (hfs : ∀ j, j < N → defaultValue (ty j) = vp_V fs j) (hcells : k + 1 ≤ R.cells) (hslots : n + N ≤ R.slots) (d : decode cc pc = .ok (.new idx, 3))
    (kk : ∀ q : Nat, az_W l G nL Q p e R s m args below meth c (az_ua ad r i q) (az_u K r i (.inr (ci, fs))) (k + 1) (n + N) (pc + 3) lv (.ref q :: st)) : az_W l G nL Q p e R s m args below meth c ad K k n pc lv st := by
  intro H locs ls hP hS hl
  have hKn := C.hK.1 ci _ c0.1
  have hts := C.hts
  have hin : ∀ w ∈ u_ws C0 T N, w ∈ az_good := fun w hw => List.mem_filter.mpr (c0.2.1 w hw)
  refine W.newcK C.1 C.2.1 C.2.2.2.1 (C.hw hcl rfl) (C.hw hinst rfl) (C.hw hini rfl) rfl d hcells hslots hKn.2.1 rfl fun H1 kC hkC e1 z1 o1 => ?_
  exact kk H.size H1 locs ls (hP.new rfl ⟨_, c0.1, (u_born ty hts hin hKn hkC e1 c0.2.2.1).to hfs⟩ o1 (Nat.le_trans C.hb hS.1)) ⟨Nat.le_trans hS.1 (by omega), fun x h1 h2 => (o1 x (Nat.lt_of_lt_of_le h1 hS.1)).trans (hS.2.1 x h1 h2), hS.2.2⟩ hl
/-- a new array of numbers -/
theorem az_newa (C : az_C l G p s m args meth c cc own nL ret tab) {atype : ArrayType} (z : Nat) (t : FieldType) (hty : newarray.typeOf atype = t) (hz : (az_tys G.2.2.1)[z]? = some (G.2.2.1 z, t)) (hra : ∀ (U : State) (cA : ClassId), va_RA U cA t → U.vm.findClass ("[" ++ t.toString) = some cA) (r i : Nat) {x : Int32} (N : Nat) (a0 : vp_A) (ha : ∀ cA : ClassId, vp_cell cA a0 = arrV cA N (fun _ => defaultValue t)) (harr : Cond.arrayClass t ∈ lw_tbl) (hx : ¬ x < 0) (hN : x.toNatClampNeg = N) (hby : N * componentBytes t ≤ 536870912) (hcells : k + 1 ≤ R.cells) (hslots : n + N ≤ R.slots) (d : decode cc pc = .ok (.newarray atype, 2))
    (kk : ∀ q : Nat, az_W l G nL Q p e R s m args below meth c (az_ua ad r i q) (az_u K r i (.inl (G.2.2.1 z, a0))) (k + 1) (n + N) (pc + 2) lv (.ref q :: st)) : az_W l G nL Q p e R s m args below meth c ad K k n pc lv (.int x :: st) := by
  intro H locs ls hP hS hl
  subst hty
  refine va_newaK C.1 C.2.1 (C.hw harr rfl) rfl d rfl hx hN hby hcells hslots rfl fun H1 cA e1 z1 o1 hAr hNm => ?_
  have hcA : cA = G.2.2.1 z := Option.some.inj (hNm.symm.trans (hra _ _ (C.hK.2 z _ hz).2))
  subst hcA
  exact kk H.size H1 locs ls (hP.new rfl (by show H1[H.size]? = some (vp_cell _ _); rw [ha]; exact e1) o1 (Nat.le_trans C.hb hS.1)) ⟨Nat.le_trans hS.1 (by omega), fun x h1 h2 => (o1 x (Nat.lt_of_lt_of_le h1 hS.1)).trans (hS.2.1 x h1 h2), hS.2.2⟩ hl
/-- a new array of references to barges -/
theorem az_newq (C : az_C l G p s m args meth c cc own nL ret tab) {idx : Nat} (hO : va_AO az_B s) (r i : Nat) {x : Int32} (N : Nat) (hcl : Cond.classLink own idx az_B ∈ lw_tbl) (hx : ¬ x < 0) (hN : x.toNatClampNeg = N) (hby : N * 4 ≤ 536870912) (hcells : k + 1 ≤ R.cells) (hslots : n + N ≤ R.slots) (d : decode cc pc = .ok (.anewarray idx, 3))
    (kk : ∀ q : Nat, az_W l G nL Q p e R s m args below meth c (az_ua ad r i q) (az_u K r i (.inl (G.2.2.1 5, N, .inr (.inr (.inr (.inr (fun _ => none))))))) (k + 1) (n + N) (pc + 3) lv (.ref q :: st)) : az_W l G nL Q p e R s m args below meth c ad K k n pc lv (.int x :: st) := by
  intro H locs ls hP hS hl
  subst hN
  refine W.anew C.1 C.2.1 C.2.2.2.1 (C.hw hcl rfl) (va_AO.use hO) rfl d rfl hx hby hcells hslots fun cA kA comp f1 f2 f3 f4 => ?_
  generalize hH1 : H.push ({ cls := cA, slots := Array.replicate x.toNatClampNeg .null, vm := .none } : Cell) = H1
  have z1 : H1.size = H.size + 1 := by rw [← hH1, Array.size_push]
  have e1 : H1[H.size]? = some (arrV cA x.toNatClampNeg (fun _ => .null)) := by rw [← hH1, Array.getElem?_push_size, ← arrV_new]
  have o1 : ∀ q : Nat, q < H.size → H1[q]? = H[q]? := fun q hq => by rw [← hH1, Array.getElem?_push, if_neg (Nat.ne_of_lt hq)]
  obtain ⟨kA9, comp9, g1, g2, g3, g4⟩ := (C.hK.2 5 _ rfl).2
  have hcA : cA = G.2.2.1 5 := Option.some.inj (f1.symm.trans g4)
  subst hcA
  exact kk H.size H1 locs ls (hP.new rfl (by show H1[H.size]? = some (vp_cell _ _); rw [vp_cell_q]; exact e1) o1 (Nat.le_trans C.hb hS.1)) ⟨Nat.le_trans hS.1 (by omega), fun x h1 h2 => (o1 x (Nat.lt_of_lt_of_le h1 hS.1)).trans (hS.2.1 x h1 h2), hS.2.2⟩ hl
/-- a barge into an array -/
theorem az_aast (C : az_C l G p s m args meth c cc own nL ret tab) {N a v : Nat} {f : Nat → Option Nat} (r i r2 i2 ci : Nat) {vs : List Value} {q : vw_C} (hq : q.1 = az_B) (hc : vwCl[ci]? = some q) {x : Int32} (d : decode cc pc = .ok (.aastore, 1)) (ha : ad r i = a) (hk : K r i = some (.inl (G.2.2.1 5, N, .inr (.inr (.inr (.inr f)))))) (hv : ad r2 i2 = v) (hk2 : K r2 i2 = some (.inr (ci, vs))) (hx : vp_in x N)
    (kk : az_W l G nL Q p e R s m args below meth c ad (az_u K r i (.inl (G.2.2.1 5, N, .inr (.inr (.inr (.inr (va_up f x.toNatClampNeg (some v)))))))) k n (pc + 1) lv st) : az_W l G nL Q p e R s m args below meth c ad K k n pc lv (.ref v :: .int x :: .ref a :: st) := by
  subst ha; subst hv
  intro H locs ls hP hS hl
  have hlt : x.toNatClampNeg < N := Nat.not_le.mp fun q => hx (Or.inr q)
  have h0 : ¬ x < 0 := fun q => hx (Or.inl q)
  obtain ⟨r', hr', cellV, g1, g2, g3, -⟩ := (hP.1 _ _ _ hk2).1
  have hcls := (C.hK.1 ci q hc).2
  obtain ⟨kA, comp, k1, k2, k3, -⟩ := (C.hK.2 5 _ rfl).2
  rw [← hq] at k3
  have hcomp : comp = G.2.1.1 ci := Option.some.inj (k3.symm.trans hcls.1)
  subst hcomp
  obtain ⟨kC, hkC, -⟩ := hcls.2
  refine W.aast C.1 C.2.1 (hP.1 _ _ _ hk).1 (fun q h => by cases h) (fun h => by cases h) k1 k2 rfl hkC ⟨h0, by show _ < (arrV _ _ _).slots.size; rw [arrV_size]; exact hlt⟩ g1 (fun q h => by rw [g3] at h; cases h) (by rw [g2]; exact hkC) (by rw [g2]; exact va_assign hcls) rfl rfl d fun H1 e z oq => ?_
  refine kk H1 _ ls (hP.set hk ?_ oq) (hS.put z oq (hP.1 _ _ _ hk).2) hl
  show H1[ad r i]? = some (vp_cell _ _)
  rw [e]
  rw [vp_cell_q, vp_cell_q, arrV_store]
  congr 2
  funext q
  by_cases hq : q = x.toNatClampNeg
  · subst hq
    simp [updV, va_up, va_rf]
  · simp [updV, va_up, hq]
/-- System.arraycopy between two arrays of one type of numbers -/
theorem az_copy (C : az_C l G p s m args meth c cc own nL ret tab) {a0 a1 n0 n1 idx : Nat} {f g : Nat → Int32} (r i r2 i2 z : Nat) (t : FieldType) (ht : (az_tys G.2.2.1)[z]? = some (G.2.2.1 z, t)) (hprim : refKind t = false) (hw : Cond.methodLink own idx arraycopyName ∈ lw_tbl) (hnat : Cond.native arraycopyName ∈ lw_tbl) (hstat : Cond.static arraycopyName ∈ lw_tbl) (hini : Cond.initialized "java/lang/System" ∈ lw_tbl) (d : decode cc pc = .ok (.invokestatic idx, 3))
    (ha : ad r i = a0) (hk : K r i = some (.inl (G.2.2.1 z, n0, .inl f))) (ha2 : ad r2 i2 = a1) (hk2 : K r2 i2 = some (.inl (G.2.2.1 z, n1, .inl g))) {sp dp q : Int32} (h1 : ¬ sp < 0) (h2 : ¬ dp < 0) (h3 : ¬ q < 0) (h4 : sp.toNatClampNeg + q.toNatClampNeg ≤ n0) (h5 : dp.toNatClampNeg + q.toNatClampNeg ≤ n1) (hfit : ∀ j, j < q.toNatClampNeg → fits t (.int (f (sp.toNatClampNeg + j))) = true)
    (hfr : 1 ≤ R.frames) (hlo : (st.map fun v => v.category).sum + 40 ≤ R.locals)
    (kk : az_W l G nL Q p e R s m args below meth c ad (az_u K r2 i2 (.inl (G.2.2.1 z, n1, .inl (va_cpy f g sp.toNatClampNeg dp.toNatClampNeg q.toNatClampNeg)))) k n (pc + 3) lv st) : az_W l G nL Q p e R s m args below meth c ad K k n pc lv (.int q :: .int dp :: .ref a1 :: .int sp :: .ref a0 :: st) := by
  subst ha; subst ha2
  have nn : ∀ z : Int32, ¬ z < 0 → z.toInt = (z.toNatClampNeg : Int) := by
    intro z hz
    have hz0 : (0 : Int) ≤ z.toInt := by
      have := Int32.not_lt.mp hz
      simpa using Int32.le_iff_toInt_le.mp this
    show z.toInt = ((z.toInt.toNat : Nat) : Int)
    omega
  intro H locs ls hP hS hl T hT X
  have hc0 : H[ad r i]? = some (vp_cell (G.2.2.1 z) (n0, .inl f)) := (hP.1 _ _ _ hk).1
  have hc1 : H[ad r2 i2]? = some (vp_cell (G.2.2.1 z) (n1, .inl g)) := (hP.1 _ _ _ hk2).1
  obtain ⟨-, k0, hk0, cm0, hkk0⟩ := (C.hK.2 z _ ht).1 n0 (fun j => .int (f j))
  obtain ⟨-, k1, hk1, cm1, hkk1⟩ := (C.hK.2 z _ ht).1 n1 (fun j => .int (g j))
  have hlw : (st.map fun v => v.category).sum + (nativeFrameWords "java/lang/System" "arraycopy" 5 + 11) ≤ R.locals := Nat.le_trans (Nat.add_le_add_left (show nativeFrameWords "java/lang/System" "arraycopy" 5 + 11 ≤ 40 by decide +kernel) _) hlo
  obtain ⟨vm', X', step⟩ := X.arraycopy C.1 C.2.2.2.1 (C.hw hw rfl) (C.hw hnat rfl) (C.hw hstat rfl) (C.hw hini rfl) (src := ad r i) (dst := ad r2 i2) (cs := vp_cell (G.2.2.1 z) (n0, .inl f)) (cd := vp_cell (G.2.2.1 z) (n1, .inl g)) (srcPos := sp) (destPos := dp) (n := q) (by rw [hT]; exact hc0) (by rw [hT]; exact hc1)
    (fun _ h => by cases h) (fun _ h => by cases h) (fun h => by cases h) (fun h => by cases h) hk0 hk1 hkk0 hkk1 (by simp [hprim]) h1 h2 h3
    (by rw [nn sp h1, nn q h3]; show ¬ _ > ((arrV (G.2.2.1 z) n0 (fun j => .int (f j))).slots.size : Int); rw [arrV_size]; omega)
    (by rw [nn dp h2, nn q h3]; show ¬ _ > ((arrV (G.2.2.1 z) n1 (fun j => .int (g j))).slots.size : Int); rw [arrV_size]; omega)
    (fun vm₁ _ i9 hi => by
      have e : (vp_cell (G.2.2.1 z) (n0, .inl f)).slots.getD (sp.toNatClampNeg + i9) .null = .int (f (sp.toNatClampNeg + i9)) := by
        show (arrV (G.2.2.1 z) n0 (fun j => .int (f j))).slots.getD _ _ = _
        rw [Array.getD_eq_getD_getElem?, arrV_read _ _ (by omega)]
        rfl
      refine ⟨?_, ?_⟩
      · rw [e]
        exact hfit i9 hi
      · rw [e]
        exact trivial)
    (g := F0 m pc ls (.int q :: .int dp :: .ref (ad r2 i2) :: .int sp :: .ref (ad r i) :: st)) rfl (by rw [C.2.2.1]; exact hl.1) (rest := st) rfl (by rw [C.2.1]; exact d) hfr (by show 2 * 0 + _ + _ ≤ _; omega)
  have e1 : copied (vp_cell (G.2.2.1 z) (n0, .inl f)) (vp_cell (G.2.2.1 z) (n1, .inl g)) sp dp q = vp_cell (G.2.2.1 z) (n1, .inl (va_cpy f g sp.toNatClampNeg dp.toNatClampNeg q.toNatClampNeg)) := va_copied (fun z => .int z) _ _ f g h4
  rw [e1] at X' step
  generalize hcell : vp_cell (G.2.2.1 z) (n1, .inl (va_cpy f g sp.toNatClampNeg dp.toNatClampNeg q.toNatClampNeg)) = cx at X' step
  have hl9 : ad r2 i2 < H.size := (Array.getElem?_eq_some_iff.mp hc1).1
  have hheap : ((T.setVm vm').setCell (ad r2 i2) cx).heap = H.setIfInBounds (ad r2 i2) cx := by rw [← hT]; rfl
  have oq : ∀ z : Nat, z ≠ ad r2 i2 → (H.setIfInBounds (ad r2 i2) cx)[z]? = H[z]? := fun z hz => by simp [Array.getElem?_setIfInBounds, Ne.symm hz]
  obtain ⟨t, a1, b1⟩ := kk _ _ ls (hP.set hk2 (show (H.setIfInBounds (ad r2 i2) cx)[ad r2 i2]? = some _ by rw [hcell]; simp [Array.getElem?_setIfInBounds, hl9]) oq) ⟨by simp; exact hS.1, fun z g1 g2 => by
      rw [oq z (fun e => g2 (by rw [e]; exact (hP.1 _ _ _ hk2).2))]
      exact hS.2.1 z g1 g2, fun z hz => by
      rcases List.mem_append.mp hz with h | h
      · exact hS.2.2 z h
      · obtain ⟨w, -, hw⟩ := List.mem_map.mp h
        rw [← hw]
        exact (hP.1 _ _ _ hk2).2⟩ hl _ hheap X'
  exact ⟨t, step t a1, b1⟩

theorem az_mmax (C : az_C l G p s m args meth c cc own nL ret tab) {idx : Nat} {x y : Int32} (hw : Cond.methodLink own idx Lib.Math.max.name ∈ lw_tbl) (hstat : Cond.static Lib.Math.max.name ∈ lw_tbl) (hini : Cond.initialized "java/lang/Math" ∈ lw_tbl) (hcode : Cond.code Lib.Math.max.name Lib.Math.max.code 2 (some .int) ∈ lw_tbl) (hfr : 1 ≤ R.frames) (hlo : (st.map fun v => v.category).sum + 13 ≤ R.locals) (hc : k ≤ R.cells) (hs : n ≤ R.slots) (d : decode cc pc = .ok (.invokestatic idx, 3)) (kk : az_W l G nL Q p e R s m args below meth c ad K k n (pc + 3) lv (.int (if x < y then y else x) :: st)) : az_W l G nL Q p e R s m args below meth c ad K k n pc lv (.int y :: .int x :: st) :=
  fun H locs ls hP hS hl => va_mmax C.1 C.2.1 (by rw [C.2.2.1]; exact hl.1.symm) C.2.2.2.1 (C.hw hw rfl) (C.hw hstat rfl) (C.hw hini rfl) (C.hw hcode rfl) hfr hlo hc hs d (kk H locs ls hP hS hl)
theorem az_mmin (C : az_C l G p s m args meth c cc own nL ret tab) {idx : Nat} {x y : Int32} (hw : Cond.methodLink own idx Lib.Math.min.name ∈ lw_tbl) (hstat : Cond.static Lib.Math.min.name ∈ lw_tbl) (hini : Cond.initialized "java/lang/Math" ∈ lw_tbl) (hcode : Cond.code Lib.Math.min.name Lib.Math.min.code 2 (some .int) ∈ lw_tbl) (hfr : 1 ≤ R.frames) (hlo : (st.map fun v => v.category).sum + 13 ≤ R.locals) (hc : k ≤ R.cells) (hs : n ≤ R.slots) (d : decode cc pc = .ok (.invokestatic idx, 3)) (kk : az_W l G nL Q p e R s m args below meth c ad K k n (pc + 3) lv (.int (if y < x then y else x) :: st)) : az_W l G nL Q p e R s m args below meth c ad K k n pc lv (.int y :: .int x :: st) :=
  fun H locs ls hP hS hl => va_mmin C.1 C.2.1 (by rw [C.2.2.1]; exact hl.1.symm) C.2.2.2.1 (C.hw hw rfl) (C.hw hstat rfl) (C.hw hini rfl) (C.hw hcode rfl) hfr hlo hc hs d (kk H locs ls hP hS hl)
theorem az_mabs (C : az_C l G p s m args meth c cc own nL ret tab) {idx : Nat} {x : Int32} (hw : Cond.methodLink own idx Lib.Math.abs.name ∈ lw_tbl) (hstat : Cond.static Lib.Math.abs.name ∈ lw_tbl) (hini : Cond.initialized "java/lang/Math" ∈ lw_tbl) (hcode : Cond.code Lib.Math.abs.name Lib.Math.abs.code 1 (some .int) ∈ lw_tbl) (hfr : 1 ≤ R.frames) (hlo : (st.map fun v => v.category).sum + 13 ≤ R.locals) (hc : k ≤ R.cells) (hs : n ≤ R.slots) (d : decode cc pc = .ok (.invokestatic idx, 3)) (kk : az_W l G nL Q p e R s m args below meth c ad K k n (pc + 3) lv (.int (if 0 ≤ x then x else 0 - x) :: st)) : az_W l G nL Q p e R s m args below meth c ad K k n pc lv (.int x :: st) :=
  fun H locs ls hP hS hl => va_mabs C.1 C.2.1 (by rw [C.2.2.1]; exact hl.1.symm) C.2.2.2.1 (C.hw hw rfl) (C.hw hstat rfl) (C.hw hini rfl) (C.hw hcode rfl) hfr hlo hc hs d (kk H locs ls hP hS hl)
theorem az_obj (C : az_C l G p s m args meth c cc own nL ret tab) {idx a : Nat} (hw : Cond.methodLink own idx objectInit ∈ lw_tbl) (hi : Cond.instanceMethod objectInit ∈ lw_tbl) (hcode : Cond.code objectInit ⟨#[0xb1]⟩ 1 none ∈ lw_tbl) (d : decode cc pc = .ok (.invokespecial idx, 3)) (hfr : 1 ≤ R.frames) (hlo : (st.map fun v => v.category).sum + 12 ≤ R.locals) (kk : az_W l G nL Q p e R s m args below meth c ad K k n (pc + 3) lv st) : az_W l G nL Q p e R s m args below meth c ad K k n pc lv (.ref a :: st) :=
  fun H locs ls hP hS hl => W.objInit C.1 C.2.1 C.2.2.2.1 (C.hw hw rfl) (C.hw hi rfl) (C.hw hcode rfl) rfl (by rw [C.2.2.1]; exact hl.1) rfl d hfr (by show 2 * 0 + _ + 12 ≤ _; omega) (kk H locs ls hP hS hl)
end AZS
section AZT
variable {l : Launch} {G : az_G} {nL : Nat} {Q : State → Prop} {p : Program} {e : Env} {R : Room} {s : State} {m : MethodId} {args : Array Value} {below : List Frame} {meth : Method} {c : Code} {ad : az_A} {K : az_K} {k n pc : Nat} {lv : List (Nat × Value)} {st : List Value}
variable {cc : ByteArray} {own : String} {ret : Option FieldType} {tab : List ExceptionTableEntry} {post : az_O → az_A → az_K → Prop} {mc ms : Nat}
theorem az_P.kept {H H1 : Heap} (h : az_P G ad K H) (oq : ∀ q : Nat, q < H.size → H1[q]? = H[q]?) : az_P G ad K H1 := ⟨fun r i e hk => ⟨(h.1 r i e hk).1.kept (oq _ (h.1 r i e hk).1.lt), (h.1 r i e hk).2⟩, h.2⟩
theorem az_throwS (C : az_C l G p s m args meth c cc own nL ret tab) {cls text : String} {names : List String} {ik is ic sa : Nat} (hcls : Bundle.fit cls = true) (hnames : ∀ n ∈ names, Bundle.fit n = true)
    (hk : Cond.classLink own ik cls ∈ lw_tbl) (hini : Cond.initialized cls ∈ lw_tbl) (hstr : vk_R own is text sa s) (hat : ∀ w ∈ vx_atS own ic cls names, w.before args s = true) (hgood : ∀ w ∈ Cond.classLink own ik cls :: Cond.initialized cls :: vx_atS own ic cls names, vx_ot w = true)
    (hU : vx_Zq Bundle.tN "UNASSIGNED_STACK" Bundle.steD (fun q => G.1 ≤ q) s s.heap) (hN : vx_Zq Bundle.tN "SUPPRESSED_SENTINEL" Bundle.listD (fun q => G.1 ≤ q) s s.heap)
    (d0 : decode cc pc = .ok (.new ik, 3)) (d3 : decode cc (pc + 3) = .ok (.dup, 1)) (d4 : decode cc (pc + 4) = .ok (.ldc is, 2)) (d6 : decode cc (pc + 6) = .ok (.invokespecial ic, 3)) (d9 : decode cc (pc + 9) = .ok (.athrow, 1))
    (hout : ∀ x ∈ tab, covers x (pc + 9) = false) (hfr : names.length + 3 < R.frames) (hlo : (st.map fun v => v.category).sum + (13 * (names.length + 1) + 43) ≤ R.locals) (hc : k + 1 ≤ R.cells) (hs : n + 6 ≤ R.slots) (hc2 : k + 1 ≤ mc) (hs2 : n + 6 ≤ ms) (hp : post (.inr cls) ad K) :
    az_W l G nL (az_Q G post below args s mc ms) p e R s m args below meth c ad K k n pc lv st :=
  fun H locs ls hP hS hl => vx_throwS C.1 C.2.1 C.hG.2.2.2 C.2.2.2.1 hcls hnames (C.hw hk rfl) (C.hw hini rfl) hstr hat hgood hU hN hS (by rw [C.2.2.1]; exact hl.1) d0 d3 d4 d6 d9 (by rw [C.htab]; exact hout) hfr hlo hc hs C.hlocks
    (fun t ha hz oq => ⟨⟨ad, K, hp, hP.kept oq⟩, Nat.le_trans hS.1 hz, fun q h1 h2 => (oq q (Nat.lt_of_lt_of_le h1 hS.1)).trans (hS.2.1 q h1 h2)⟩) hS.2.2 hc2 hs2
theorem az_throwSW (C : az_C l G p s m args meth c cc own nL ret tab) {cls text : String} {names : List String} {ik is ic sa : Nat} (hcls : Bundle.fit cls = true) (hnames : ∀ n ∈ names, Bundle.fit n = true)
    (hk : Cond.classLink own ik cls ∈ lw_tbl) (hini : Cond.initialized cls ∈ lw_tbl) (hstr : vk_R own is text sa s) (hat : ∀ w ∈ vx_atS own ic cls names, w.before args s = true) (hgood : ∀ w ∈ Cond.classLink own ik cls :: Cond.initialized cls :: vx_atS own ic cls names, vx_ot w = true)
    (hU : vx_Zq Bundle.tN "UNASSIGNED_STACK" Bundle.steD (fun q => G.1 ≤ q) s s.heap) (hN : vx_Zq Bundle.tN "SUPPRESSED_SENTINEL" Bundle.listD (fun q => G.1 ≤ q) s s.heap)
    (d0 : decode cc pc = .ok (.new ik, 3)) (d3 : decode cc (pc + 3) = .ok (.dup, 1)) (d4 : decode cc (pc + 4) = .ok (.ldc_w is, 3)) (d6 : decode cc (pc + 7) = .ok (.invokespecial ic, 3)) (d9 : decode cc (pc + 10) = .ok (.athrow, 1))
    (hout : ∀ x ∈ tab, covers x (pc + 10) = false) (hfr : names.length + 3 < R.frames) (hlo : (st.map fun v => v.category).sum + (13 * (names.length + 1) + 43) ≤ R.locals) (hc : k + 1 ≤ R.cells) (hs : n + 6 ≤ R.slots) (hc2 : k + 1 ≤ mc) (hs2 : n + 6 ≤ ms) (hp : post (.inr cls) ad K) :
    az_W l G nL (az_Q G post below args s mc ms) p e R s m args below meth c ad K k n pc lv st :=
  fun H locs ls hP hS hl => vx_throwSW C.1 C.2.1 C.hG.2.2.2 C.2.2.2.1 hcls hnames (C.hw hk rfl) (C.hw hini rfl) hstr hat hgood hU hN hS (by rw [C.2.2.1]; exact hl.1) d0 d3 d4 d6 d9 (by rw [C.htab]; exact hout) hfr hlo hc hs C.hlocks
    (fun t ha hz oq => ⟨⟨ad, K, hp, hP.kept oq⟩, Nat.le_trans hS.1 hz, fun q h1 h2 => (oq q (Nat.lt_of_lt_of_le h1 hS.1)).trans (hS.2.1 q h1 h2)⟩) hS.2.2 hc2 hs2
/-- a private field of a nest mate -/
theorem az_getN (C : az_C l G p s m args meth c cc own nL ret tab) {C0 host : String} {T : u_T} {N ci : Nat} {ty : Nat → FieldType} (c0 : az_cl ci C0 T N ty) {idx a : Nat} (r i j : Nat) {fs : List Value} {v : Value} (hw : (Cond.fieldLinkNest own idx (T j).1 (T j).2.1 (T j).2.2.1 host).before args s = true) (d : decode cc pc = .ok (.getfield idx, 3)) (ha : ad r i = a) (hk : K r i = some (.inr (ci, fs))) (hv : fs[j]? = some v) (hj : j < N)
    (kk : az_W l G nL Q p e R s m args below meth c ad K k n (pc + 3) lv (v :: st)) : az_W l G nL Q p e R s m args below meth c ad K k n pc lv (.ref a :: st) := by
  subst ha
  intro H locs ls hP hS hl
  exact va_getN (D := G.2.1) (ref := (T j).1) C.1 C.2.1 (Ts := az_good) C.hts (fun w hw => List.mem_filter.mpr (c0.2.1 w hw)) C.2.2.2.1 C.hK (az_one (hP.1 _ _ _ hk).1) 0 rfl c0.1 j hj hw (fun _ h => h) hv d (kk H locs ls hP hS hl)
theorem az_putN (C : az_C l G p s m args meth c cc own nL ret tab) {C0 host : String} {T : u_T} {N ci : Nat} {ty : Nat → FieldType} (c0 : az_cl ci C0 T N ty) {idx a : Nat} (r i j : Nat) {fs : List Value} {v : Value} (hw : (Cond.fieldLinkNest own idx (T j).1 (T j).2.1 (T j).2.2.1 host).before args s = true) (d : decode cc pc = .ok (.putfield idx, 3)) (ha : ad r i = a) (hk : K r i = some (.inr (ci, fs))) (hj : j < N) (hjl : j < fs.length) (hfin : (T j).2.2.2 = false) (hn : narrow (ty j) v = v) (hfit : fits (ty j) v = true)
    (kk : az_W l G nL Q p e R s m args below meth c ad (az_u K r i (.inr (ci, fs.set j v))) k n (pc + 3) lv st) : az_W l G nL Q p e R s m args below meth c ad K k n pc lv (v :: .ref a :: st) := by
  subst ha
  intro H locs ls hP hS hl
  have hts := C.hts
  have hin : ∀ w ∈ u_ws C0 T N, w ∈ az_good := fun w hw => List.mem_filter.mpr (c0.2.1 w hw)
  have hK := C.hK
  have hc := c0.1
  have hap := va_apart (own := own) (args := args) hts hin ty c0.2.2.1 c0.2.2.2 hK hc
  obtain ⟨r9, h1, cell, q1, q2, q3, q4⟩ := (hP.1 _ _ _ hk).1
  have hr : r9 = (C0, T, N) := Option.some.inj (h1.symm.trans hc)
  subst hr
  obtain ⟨hSl, hfc, kC, hkC, hkind⟩ := hK.1 ci _ hc
  obtain ⟨cf, kf, fi, f, hi, hsl⟩ := hSl j hj
  have hlay := hts _ (hin _ (u_in_lay hj))
  unfold u_lay at hlay
  rw [if_neg (by rw [hfin]; decide)] at hlay
  have hst := (u_facts hfc hkC (u_lays hts hin hj) hi).1
  have h6 := u_store hfc hkC hkind hlay hi (c0.2.2.1 j hj) hn hfit
  refine va_WputK C.1 C.2.1 C.2.2.2.1 hw hi hst (by rw [q2]; exact h6) q1 q3 (by rw [hsl]; exact k2_hasslot (q4 j hj)) rfl rfl d fun H' e1 e2 e3 => ?_
  rw [hsl] at e1
  exact kk H' _ ls (hP.set hk ⟨_, hc, t_OB.to (V := updV (vp_V fs) j v) ⟨_, e1, q2, q3, t_set q4 hap hj v⟩ (fun z _ => vp_updV_set hjl v z)⟩ e3) (hS.put e2 e3 (hP.1 _ _ _ hk).2) hl
end AZT
