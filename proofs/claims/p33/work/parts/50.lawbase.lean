def lwA0 (s : State) : Nat → Prop := fun q => s.heap.size ≤ q
def lwA (s : State) (rr : Nat) : Nat → Prop := fun q => s.heap.size ≤ q ∧ q ≠ rr
/-- what the law's walk has behind its start, the same in each of its arms -/
def law_C (p : Program) (l : Launch) (s : State) (m : MethodId) (meth : Method) (c0 : Code) (b L : Nat) (xs : Nat → Int32) (D : va_G) (cA : Nat → ClassId) : Prop :=
  p.tables.exec = Jvm.exec ∧ c0.code = code ∧ meth.sig.returnType = ret ∧ c0.maxLocals = 13 ∧ s.vm.findClass RL = some m.cls ∧ (∀ w ∈ wsL_law, w.before #[Value.ref b] s = true) ∧ meth.locks = false ∧ pcX D vwCl (tyL cA) s ∧ va_X b L xs s s.heap ∧ b < s.heap.size ∧ L < 2 ^ 31
theorem rr_kept {D : va_G} {cl : List vw_C} {s : State} {rr : Nat} {HR H : Heap} {NL : List (Nat × Nat)} {ad : Nat → Nat → Nat} {ct : Nat → Nat → va_E} {locs : List Loc} {e : va_E} (h : va_P D cl [(rr, e)] HR) (hr : rr < HR.size) (hW : pcS D cl (lwA s rr) HR NL ad ct H locs) : va_P D cl [(rr, e)] H :=
  h.kept (H1 := H) (fun k q hk => by
    have h1 := (List.getElem?_eq_some_iff.mp hk).1
    simp only [List.length_cons, List.length_nil] at h1
    obtain rfl : k = 0 := by omega
    obtain rfl := Option.some.inj hk
    exact hW.2.2.2.1 rr hr (fun q => q.2 rfl))
theorem rg0 (u : Nat × Nat × Nat × Nat) : rgF u (0 : Int32).toNatClampNeg = nI u.1 := by
  rw [show (0 : Int32).toNatClampNeg = 0 from by decide]
  rfl
theorem rg1 (u : Nat × Nat × Nat × Nat) : rgF u (1 : Int32).toNatClampNeg = nI u.2.1 := by
  rw [show (1 : Int32).toNatClampNeg = 1 from by decide]
  rfl
theorem rg2 (u : Nat × Nat × Nat × Nat) : rgF u (2 : Int32).toNatClampNeg = nI u.2.2.1 := by
  rw [show (2 : Int32).toNatClampNeg = 2 from by decide]
  rfl
theorem rg3 (u : Nat × Nat × Nat × Nat) : rgF u (3 : Int32).toNatClampNeg = nI u.2.2.2 := by
  rw [show (3 : Int32).toNatClampNeg = 3 from by decide]
  rfl
/-- a region as the class wants it -/
theorem rg_ok {u : Nat × Nat × Nat × Nat} (h : rgO u) : ¬ nI u.1 < 0 ∧ ¬ nI u.2.2.1 < nI u.1 ∧ ¬ (20 : Int32) ≤ nI u.2.2.1 ∧ ¬ nI u.2.1 < 0 ∧ ¬ nI u.2.2.2 < nI u.2.1 ∧ nI u.2.2.2 < 20 := by
  obtain ⟨h1, h2, h3, h4⟩ := h
  exact ⟨nI_pos (by omega), nI_nlt h1 (by omega), Int32.not_le.mpr (nI_lt20 h2), nI_pos (by omega), nI_nlt h3 (by omega), nI_lt20 h4⟩
/-- behind a step, back from its own heap to the law's start -/
theorem pcS_back {D : va_G} {cl : List vw_C} {s : State} {rr : Nat} {HR H : Heap} {NL : List (Nat × Nat)} {ad : Nat → Nat → Nat} {ct : Nat → Nat → va_E} {locs locs0 : List Loc} (hS0 : va_S (lwA0 s) s.heap HR locs0) (hW : pcS D cl (lwA s rr) HR NL ad ct H locs) : pcS D cl (lwA0 s) s.heap NL ad ct H locs := by
  obtain ⟨hP, hD, hS⟩ := hW
  refine ⟨hP, ⟨hD.1, fun k q hk => (hD.2 k q hk).1⟩, Nat.le_trans hS0.1 hS.1, fun q h1 h2 => ?_, fun l hl => (hS.2.2 l hl).1⟩
  rw [hS.2.1 q (Nat.lt_of_lt_of_le h1 hS0.1) (fun h => h2 h.1)]
  exact hS0.2.1 q h1 h2
/-- a new row beside the names -/
theorem pcS_row9 {D : va_G} {cl : List vw_C} {s : State} {H H1 : Heap} {NL : List (Nat × Nat)} {ad : Nat → Nat → Nat} {ct : Nat → Nat → va_E} {locs locs1 : List Loc} {rr : Nat} {e : va_E} (hW : pcS D cl (lwA0 s) s.heap NL ad ct H locs) (hD1 : va_D (va_A [] H.size) [(rr, e)]) (hk : ∀ q : Nat, q < H.size → ¬ va_A [] H.size q → H1[q]? = H[q]?) : pcS D cl (lwA s rr) H1 NL ad ct H1 [] ∧ s.heap.size ≤ rr := by
  have hrr : H.size ≤ rr := by
    rcases hD1.2 0 _ rfl with ⟨k, e, h⟩ | h
    · simp at h
    · exact h
  have hlt : ∀ k i, (k, i) ∈ NL → ad k i < H.size := by
    intro k i h
    obtain ⟨j, -, hj⟩ := pc_place (ad := ad) (ct := ct) h
    exact (hW.1 j _ hj).lt
  refine ⟨⟨pcP_keep hW.1 (fun q hq => hk q hq (fun h => ?_)), ⟨hW.2.1.1, fun k q hq => ?_⟩, va_S.rf⟩, Nat.le_trans hW.2.2.1 hrr⟩
  · rcases h with ⟨k, e, h⟩ | h
    · simp at h
    · omega
  · obtain ⟨a, i, hm, -, rfl⟩ := pc_mem hq
    exact ⟨pcD_in hW.2.1 hm, fun h => by have := hlt a i hm; have h : ad a i = rr := h; omega⟩

