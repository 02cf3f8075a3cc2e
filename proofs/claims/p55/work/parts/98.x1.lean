/-! WHAT HOLDS AT THE START: the statics, the texts, the classes, out of the premises; and what of it is carried -/
abbrev lw_F : List Cond := flatC (Jvm.Cond.and given_1 narrow_1)
theorem lw_nA {s : State} : ∀ a : Nat, a < s.heap.size → ¬ (s.heap.size ≤ a) := fun _ h => Nat.not_le.mpr h
def lw_G (s : State) (D : va_G) (cs : Nat → ClassId) : az_G := (s.heap.size, D, cs, fun U H => s.WarmedH U.vm ∧ ∀ q : Nat, q < s.heap.size → H[q]? = s.heap[q]?)
theorem lw_ok {l : Launch} (hflags : l.flags = flags0) (s : State) (D : va_G) (cs : Nat → ClassId) : az_ok l (lw_G s D cs) := by
  refine ⟨fun s1 U H hW h => ⟨State.WarmedH.trans h.1 hW, h.2⟩, fun U H H1 hq h => ⟨h.1, fun q hq1 => ?_⟩, fun U H g mk a h => ⟨h.1, h.2⟩, ?_⟩
  · have e := h.2 q hq1
    have hl : q < H.size := by
      rw [Array.getElem?_eq_getElem hq1] at e
      exact (Array.getElem?_eq_some_iff.mp e).1
    rw [hq q hl hq1]
    exact e
  · show (!l.flags.contains Jvm.noTraceFlag) = false
    rw [hflags]
    decide +kernel
theorem lw_arr {args : Array Value} {s : State} {t : FieldType} (h : (Cond.arrayClass t).before args s = true) : ∃ cA, ArrOfT s cA t ∧ s.vm.findClass ("[" ++ t.toString) = some cA := by
  obtain ⟨cA, kA, comp, h1, h2, h3⟩ := Cond.arrayClass_spec h
  exact ⟨cA, fun n z => ⟨fun k h => (by cases h), kA, h2, comp, h3⟩, h1⟩
theorem lw_arrB {args : Array Value} {s : State} {C0 : String} (h : (Cond.arrayOver (.object C0)).before args s = true) : ∃ cA, ArrOfT s cA (.object C0) ∧ va_RA s cA (.object C0) := by
  obtain ⟨comp, cA, kA, hcomp, hidx, hkA, hkindA, hnameA⟩ := Cond.arrayOver_spec h
  exact ⟨cA, fun n z => ⟨fun k h => (by cases h), kA, hkA, comp, hkindA⟩, kA, comp, hkA, hkindA, hcomp, hnameA⟩
theorem lw_K {args : Array Value} {s : State} (T : ∀ w ∈ lw_tbl, w.before args s = true) : ∃ (D : va_G) (cs : Nat → ClassId), va_K D vwCl (az_tys cs) s := by
  obtain ⟨c0, i0, k0⟩ := u_known (C := RJ4) (T := TJ4) (N := 4) (n := 4) T (fun w hw => (cJ4.2.1 w hw).1) (T _ wins_J4)
  obtain ⟨c1, i1, k1⟩ := u_known (C := RX0) (T := TX0) (N := 8) (n := 8) T (fun w hw => (cX0.2.1 w hw).1) (T _ wins_X0)
  obtain ⟨c2, i2, k2⟩ := u_known (C := RX1) (T := TX1) (N := 4) (n := 4) T (fun w hw => (cX1.2.1 w hw).1) (T _ wins_X1)
  obtain ⟨c3, i3, k3⟩ := u_known (C := RX2) (T := TX2) (N := 9) (n := 9) T (fun w hw => (cX2.2.1 w hw).1) (T _ wins_X2)
  obtain ⟨c4, i4, k4⟩ := u_known (C := RX3) (T := TX3) (N := 14) (n := 14) T (fun w hw => (cX3.2.1 w hw).1) (T _ wins_X3)
  obtain ⟨a0, g0, n0⟩ := lw_arr (T _ wa_int)
  obtain ⟨a3, g3, n3⟩ := lw_arr (T _ wa_byte)
  obtain ⟨a5, g5, n5⟩ := lw_arrB (C0 := az_B) (T _ (az_t (i := 93) (by decide +kernel)))
  refine ⟨(fun k => match k with | 0 => c0 | 1 => c1 | 2 => c2 | 3 => c3 | _ => c4, fun k => match k with | 0 => i0 | 1 => i1 | 2 => i2 | 3 => i3 | _ => i4), fun k => match k with | 3 => a3 | 5 => a5 | _ => a0, fun k q hq => ?_, fun k q hq => ?_⟩
  · match k, hq with
    | 0, hq => cases hq; exact k0
    | 1, hq => cases hq; exact k1
    | 2, hq => cases hq; exact k2
    | 3, hq => cases hq; exact k3
    | 4, hq => cases hq; exact k4
    | k + 5, hq => exact absurd (List.getElem?_eq_some_iff.mp hq).1 (by show ¬ (k + 5 < 5); omega)
  · match k, hq with
    | 0, hq => cases hq; exact ⟨g0, n0⟩
    | 1, hq => cases hq; exact ⟨g0, n0⟩
    | 2, hq => cases hq; exact ⟨g0, n0⟩
    | 3, hq => cases hq; exact ⟨g3, n3⟩
    | 4, hq => cases hq; exact ⟨g0, n0⟩
    | 5, hq => cases hq; exact ⟨g5, n5⟩
    | k + 6, hq => exact absurd (List.getElem?_eq_some_iff.mp hq).1 (by show ¬ (k + 6 < 6); omega)
theorem lw_str {args : Array Value} {s : State} {k : Nat} {tx : String} (h1 : (Cond.stringRef RX3 k tx).before args s = true) (h2 : (Cond.exactly (.string RX3 k) "java/lang/String").before args s = true) : ∃ a, vk_R RX3 k tx a s := by
  obtain ⟨a2, c, cA, kA, q1, -⟩ := Cond.exactly_spec (args := args) (first := s) (o := none) (s := s) (idx := []) (t := .string RX3 k) (cls := "java/lang/String") h2
  exact ⟨a2, vk_R.of h1 q1⟩
theorem f_txt : az_txt.all (fun q => decide (Cond.stringRef RX3 q.1 q.2 ∈ lw_tbl) && decide (Cond.exactly (.string RX3 q.1) "java/lang/String" ∈ lw_F)) = true := by decide +kernel
theorem f_ncs : az_ncs.all (fun q => decide (Cond.not (.castable q.1 q.2) ∈ lw_F)) = true := by decide +kernel
theorem f_bad : az_bad.all (fun w => decide (w ∈ lw_tbl)) = true := by decide +kernel
theorem lw_txt {args : Array Value} {s : State} (F : ∀ c ∈ lw_F, c.before args s = true) (T : ∀ w ∈ lw_tbl, w.before args s = true) : ∀ q ∈ az_txt, ∃ a, vk_R RX3 q.1 q.2 a s := by
  intro q hq
  have h := List.all_eq_true.mp f_txt q hq
  rw [Bool.and_eq_true] at h
  exact lw_str (T _ (of_decide_eq_true h.1)) (F _ (of_decide_eq_true h.2))
theorem lw_badU {s U : State} (hW : s.WarmedH U.vm) : ∀ w ∈ az_bad, va_Nw w s → va_Nw w U := by
  intro w hw
  simp only [az_bad, List.mem_cons, List.not_mem_nil, or_false] at hw
  rcases hw with rfl | rfl | rfl | rfl | rfl | rfl | rfl | rfl | rfl | rfl | rfl | rfl | rfl | rfl | rfl | rfl | rfl | rfl | rfl | rfl | rfl | rfl | rfl | rfl | rfl | rfl
  all_goals first | exact fun h => va_Nw.warmF hW h | exact fun h => va_Nw.warmM hW h | exact fun h => va_Nw.warmC hW h | exact fun h => va_Nw.warmD hW h
theorem f_badT : az_bad.all (fun w => w.onTables) = true := by decide +kernel
theorem lw_okS {l : Launch} (hflags : l.flags = flags0) {args : Array Value} {s : State} (D : va_G) (cs : Nat → ClassId) (F : ∀ c ∈ lw_F, c.before args s = true) (T : ∀ w ∈ lw_tbl, w.before args s = true) : az_okS l (lw_G s D cs) := by
  refine ⟨lw_ok hflags s D cs, fun U H hO => ?_⟩
  have hW : s.WarmedH U.vm := hO.1
  have hal := hW.alike
  have kp : ∀ a : Nat, a < s.heap.size → ¬ (s.heap.size ≤ a) → H[a]? = s.heap[a]? := fun a h _ => hO.2 a h
  refine ⟨vx_Zq.kept (vx_Zq.moved hal (vx_Zqof (T _ (az_t (i := 279) (by decide +kernel))) (T _ (az_t (i := 11) (by decide +kernel))) (F _ (List.mem_of_getElem? (i := 5) (by decide +kernel))) lw_nA)) kp, vx_Zq.kept (vx_Zq.moved hal (vx_Zqof (T _ (az_t (i := 281) (by decide +kernel))) (T _ (az_t (i := 11) (by decide +kernel))) (F _ (List.mem_of_getElem? (i := 6) (by decide +kernel))) lw_nA)) kp, fun q hq => ?_, fun w hw => ?_, fun q hq => ?_, va_AO.moved hal (va_AO.of (T _ (az_t (i := 93) (by decide +kernel)))), va_Z.kept (va_Z.moved hal (va_Zof (T _ (az_t (i := 104) (by decide +kernel))) (T _ wini_J0) (va_eqi (F _ (List.mem_of_getElem? (i := 4) (by decide +kernel)))) lw_nA)) kp, trivial⟩
  · obtain ⟨a9, h9⟩ := lw_txt F T q hq
    exact ⟨a9, vk_R.warm hW h9⟩
  · have hm : w ∈ lw_tbl := of_decide_eq_true (List.all_eq_true.mp f_bad w hw)
    have ho : w.onTables = true := List.all_eq_true.mp f_badT w hw
    exact lw_badU hW w hw (va_Nw.of ho (T _ hm))
  · exact va_Nc.moved hal (va_Nc.of (F _ (of_decide_eq_true (List.all_eq_true.mp f_ncs q hq))))
