theorem mok {x : Int32} : ¬ (x.toInt < 0 ∨ 12 < x.toInt) ↔ (¬ x < 0 ∧ ¬ (12 : Int32) < x) := by
  rw [Int32.lt_iff_toInt_lt, Int32.lt_iff_toInt_lt]
  have h1 : (12 : Int32).toInt = 12 := by decide
  have h2 : (0 : Int32).toInt = 0 := by decide
  rw [h1, h2]
  omega
section LCE
variable {p : Program} {l : Launch} {e : Env} {R : Room} {s : State} {m : MethodId} {args : Array Value} {below : List Frame} {meth : Method} {c : Code} {H : Heap} {locs : List Loc} {cells slots : Nat} {Q : State → Prop}
variable {cc : ByteArray} {pc : Nat} {ls : Array Slot} {rest : List Value}
theorem lv_lcmpE (hexec : p.tables.exec = Jvm.exec) (hb : c.code = cc) {x y : Int64} (h : x = y) (hdg : decode cc pc = .ok (.lcmp, 1))
    (k : W p l e R s m args below meth c H locs cells slots Q (F0 m (pc + 1) ls (.int 0 :: rest))) : W p l e R s m args below meth c H locs cells slots Q (F0 m pc ls (.long y :: .long x :: rest)) := by
  subst h
  intro T hT X
  obtain ⟨t, a, b⟩ := k T hT X
  refine ⟨t, ?_, b⟩
  refine Jvm.Free.XS.lcmp (x := x) (y := x) (rest := rest) (g := F0 m pc ls (.long x :: .long x :: rest)) X.here hexec rfl (by rw [hb]; exact hdg) rfl ?_
  have e1 : (if x > x then (1 : Int32) else if x = x then 0 else -1) = 0 := by simp
  rw [e1]
  exact a
end LCE
/-- what the law's walk has behind its start, the same in each of its arms -/
def law_C (p : Program) (l : Launch) (s : State) (m : MethodId) (meth : Method) (c : Code) (b L : Nat) (xs : Nat → Int32) (D : va_G) (cA : Nat → ClassId) (z em mi : Nat) : Prop :=
  p.tables.exec = Jvm.exec ∧ c.code = code ∧ meth.sig.returnType = ret ∧ c.maxLocals = 9 ∧ s.vm.findClass RL = some m.cls ∧ (∀ w ∈ wsL_law, w.before #[Value.ref b] s = true) ∧ meth.locks = false ∧ l.stackTraces = false ∧ pcX D vwCl (tyL cA) s ∧ pcT s ∧ pcZ z s s.heap ∧ z ≤ s.heap.size ∧ pcF mi s ∧ pcE z em s s.heap ∧ (∀ q : Nat, s.heap.size ≤ q → z ≤ q) ∧ va_X b L xs s s.heap ∧ b < s.heap.size
