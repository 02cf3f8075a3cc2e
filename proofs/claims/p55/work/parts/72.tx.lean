section
variable {l : Launch} {G : az_G} {nL : Nat} {Q : State → Prop} {p : Program} {e : Env} {R : Room} {s : State} {m : MethodId} {args : Array Value} {below : List Frame} {meth : Method} {c : Code} {ad : az_A} {K : az_K} {k n pc : Nat} {lv : List (Nat × Value)} {st : List Value}
variable {cc : ByteArray} {own : String} {ret : Option FieldType} {tab : List ExceptionTableEntry}
variable {l : Launch} {G : az_G} {nL : Nat} {p : Program} {s : State} {m : MethodId} {args : Array Value} {meth : Method} {c : Code} {cc : ByteArray} {own : String} {ret : Option FieldType} {tab : List ExceptionTableEntry} {A : Nat × Nat × Nat × Nat}
/-- a static that nobody writes -/
theorem az_gets (C : az_C l G p s m args meth c cc own nL ret tab) {C0 f0 d0 : String} {v : Value} {idx : Nat} (hZ : va_Z C0 f0 d0 v (fun q => G.1 ≤ q) s s.heap) (hw : Cond.fieldLink own idx C0 f0 d0 ∈ lw_tbl) (d : decode cc pc = .ok (.getstatic idx, 3)) (kk : az_W l G nL Q p e R s m args below meth c ad K k n (pc + 3) lv (v :: st)) : az_W l G nL Q p e R s m args below meth c ad K k n pc lv st :=
  fun H locs ls hP hS hl => va_gets C.1 C.2.1 hZ hS C.2.2.2.1 (C.hw hw rfl) (fun _ h => h) d (kk H locs ls hP hS hl)
end
section
variable {l : Launch} {G : az_G} {ρ : Rp} {x : Xs} {m : Mz} {ou : Nat → Int64}
/-- the text's row: n letters stand there, Latin-1, 16 or 34 places, nothing behind them -/
def TxOK (ρ : Rp) (x : Xs) (n : Nat) : Prop := x.1 14 1 = 0 ∧ x.1 14 3 = nI n ∧ n ≤ ρ.2.2.2.2.1 ∧ (ρ.2.2.2.2.1 = 16 ∨ ρ.2.2.2.2.1 = 34) ∧ ∀ j, ρ.2.2.2.2.1 ≤ j → x.1 23 j = 0
end
section
variable {l : Launch} {G : az_G} {ρ : Rp} {x : Xs} {m : Mz} {ou : Nat → Int64}
/-- letters put behind the n that stand there -/
def txA (x : Xs) (n : Nat) (cs : List Nat) : Xs := (fun p k => if p = 14 then (if k = 3 then nI (n + cs.length) else x.1 14 k) else if p = 23 then (if n ≤ k ∧ k < n + cs.length then nI (cs.getD (k - n) 0) else x.1 23 k) else x.1 p k, x.2)
theorem txA_23 {n k : Nat} {cs : List Nat} : (txA x n cs).1 23 k = if n ≤ k ∧ k < n + cs.length then nI (cs.getD (k - n) 0) else x.1 23 k := rfl
/-- each letter fits a byte -/
def TxB (x : Xs) : Prop := ∀ j, fits .byte (.int (x.1 23 j)) = true
end
section
variable {l : Launch} {G : az_G} {ρ : Rp} {x : Xs} {m : Mz} {ou : Nat → Int64}
def setX (x : Xs) (n : Nat) : Xs := if n = 0 then xI x 14 3 0 else xI (xI x 14 2 1) 14 3 0
end
section
variable {l : Launch} {G : az_G} {nL : Nat} {Q : State → Prop} {p : Program} {e : Env} {R : Room} {s : State} {mm : MethodId} {args : Array Value} {below : List Frame} {meth : Method} {c : Code} {k0 n0 pc : Nat} {lv : List (Nat × Value)} {ρ : Rp} {x : Xs} {m : Mz} {ou : Nat → Int64}
variable {l : Launch} {G : az_G} {ρ : Rp} {x : Xs} {m : Mz} {ou : Nat → Int64}
def chT : List Nat → List Nat
  | [] => []
  | d :: r => 43 :: (48 + d) :: chT r
end
section
variable {l : Launch} {G : az_G} {ρ : Rp} {x : Xs} {m : Mz} {ou : Nat → Int64}
def digT (L : Nat) : List Nat := if L < 10 then [48 + L] else [48 + L / 10, 48 + L % 10]
def rowT (x : Xs) (v : Int32) (ch : Nat → List Nat) (k : Nat) : List Nat := if x.2.1 k 4 = v then (if x.2.2.1 0 k = none then 32 :: (48 + k) :: chT (ch k) else []) else []
def rowsT (x : Xs) (v : Int32) (ch : Nat → List Nat) : Nat → Nat → List Nat
  | 0, _ => []
  | j + 1, k => rowT x v ch k ++ rowsT x v ch j (k + 1)
end
