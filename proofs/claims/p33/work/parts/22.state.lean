abbrev SC : Type := Nat → Nat
abbrev SV : Type := Nat → Nat → Nat → Int32
abbrev SW : Type := Nat → Nat → Nat → Int64
def uC (c : SC) (k n : Nat) : SC := fun a => if a = k then n else c a
def uV (v : SV) (k i f : Nat) (x : Int32) : SV := fun a b d => if a = k ∧ d = f ∧ b = i then x else v a b d
def uW (w : SW) (k i f : Nat) (x : Int64) : SW := fun a b d => if a = k ∧ d = f ∧ b = i then x else w a b d
/-- a row of references, filled up to n -/
def sRf (n : Nat) (f : Nat → Nat) : Nat → Option Nat := fun j => if j < n then some (f j) else none
/-- what each name holds, in a state -/
def ctO (cA : Nat → ClassId) (c : SC) (v : SV) (w : SW) (u : Nat → Int32) (ad : Nat → Nat → Nat) : Nat → Nat → va_E := fun k i =>
  if k = 1 then .inr (3, [.int (v 1 i 0), .ref (ad 11 i), .ref (ad 12 i), .int (v 1 i 1), .int (v 1 i 2), .int (v 1 i 3), .long (w 1 i 0), .int (v 1 i 4), .int (v 1 i 5), .int (v 1 i 6)])
  else if k = 11 then .inl (cA 1, 6, .inr (.inl (w 11 i)))
  else if k = 12 then .inl (cA 0, 6, .inl (v 12 i))
  else if k = 2 then .inr (1, [.int (v 2 i 0), .int (v 2 i 1), .int (v 2 i 2)])
  else if k = 3 then .inr (2, [.int (v 3 i 0), .ref (ad 13 i), .int (v 3 i 1)])
  else if k = 13 then .inl (cA 0, 10, .inl (v 13 i))
  else if k = 4 then .inr (0, [.int (v 4 i 0), .long (w 4 i 0), .int (v 4 i 1)])
  else if k = 7 then .inr (4, [.int (v 7 i 0), .int (v 7 i 1), .int (v 7 i 2), .long (w 7 i 0), .int (v 7 i 3), .int (v 7 i 4)])
  else if k = 57 then .inl (cA 0, 10, .inl (v 57 i))
  else if k = 56 then if i = 0 then .inl (cA 0, 10, .inl u) else .inr (0, [])
  else if k = 55 then if i = 0 then .inl (cA 2, 4, .inr (.inr (.inr (.inr (sRf 4 (ad 57)))))) else .inr (0, [])
  else if k = 50 then if i = 0 then .inl (cA 3, 10, .inr (.inr (.inr (.inr (sRf (c 0) (ad 1)))))) else .inr (0, [])
  else if k = 51 then if i = 0 then .inl (cA 4, 20, .inr (.inr (.inr (.inr (sRf (c 1) (ad 2)))))) else .inr (0, [])
  else if k = 52 then if i = 0 then .inl (cA 5, 20, .inr (.inr (.inr (.inr (sRf (c 2) (ad 3)))))) else .inr (0, [])
  else if k = 53 then if i = 0 then .inl (cA 6, 20, .inr (.inr (.inr (.inr (sRf (c 3) (ad 4)))))) else .inr (0, [])
  else if k = 54 then if i = 0 then .inl (cA 7, 8, .inr (.inr (.inr (.inr (sRf (c 4) (ad 7)))))) else .inr (0, [])
  else if k = 5 ∧ i = 0 then .inr (5, [.ref (ad 50 0), .ref (ad 51 0), .ref (ad 52 0), .ref (ad 53 0), .ref (ad 54 0), .ref (ad 55 0), .ref (ad 56 0), .int (nI (c 0)), .int (nI (c 1)), .int (nI (c 2)), .int (nI (c 3)), .int (nI (c 4)), .int (nI (c 5))])
  else .inr (0, [])
/-- the names that a state has -/
def MEM (c : SC) (NL : List (Nat × Nat)) : Prop := (5, 0) ∈ NL ∧ (∀ k, 50 ≤ k → k ≤ 56 → (k, 0) ∈ NL) ∧ (∀ i, i < 4 → (57, i) ∈ NL) ∧ (∀ i, i < c 0 → (1, i) ∈ NL ∧ (11, i) ∈ NL ∧ (12, i) ∈ NL) ∧ (∀ i, i < c 1 → (2, i) ∈ NL) ∧ (∀ i, i < c 2 → (3, i) ∈ NL ∧ (13, i) ∈ NL) ∧ (∀ i, i < c 3 → (4, i) ∈ NL) ∧ ∀ i, i < c 4 → (7, i) ∈ NL
/-- how far a state's counts go -/
def BND (c : SC) : Prop := c 0 ≤ 10 ∧ c 1 ≤ 20 ∧ c 2 ≤ 20 ∧ c 3 ≤ 20 ∧ c 4 ≤ 8
/-- what a state keeps of its indices: a reference goes to a sheet that there is, a package's crew is one of four, a sheet's last revision is one of six -/
def WF (c : SC) (v : SV) : Prop := (∀ i, i < c 1 → ¬ v 2 i 1 < 0 ∧ (v 2 i 1).toNatClampNeg < c 0) ∧ (∀ i, i < c 4 → ¬ v 7 i 0 < 0 ∧ (v 7 i 0).toNatClampNeg < 4) ∧ ∀ i, i < c 0 → ¬ v 1 i 1 < 0 ∧ (v 1 i 1).toNatClampNeg < 6
/-- and no more than those -/
def NMEM (c : SC) (NL : List (Nat × Nat)) : Prop := (∀ k i, k = 1 ∨ k = 11 ∨ k = 12 → (k, i) ∈ NL → i < c 0) ∧ (∀ i, (2, i) ∈ NL → i < c 1) ∧ (∀ k i, k = 3 ∨ k = 13 → (k, i) ∈ NL → i < c 2) ∧ (∀ i, (4, i) ∈ NL → i < c 3) ∧ ∀ i, (7, i) ∈ NL → i < c 4
theorem sRf_in {n j : Nat} {f : Nat → Nat} (h : j < n) : sRf n f j = some (f j) := if_pos h
/-- how many of the first n, as a machine counts -/
def cntI (P : Nat → Bool) : Nat → Int32
  | 0 => 0
  | n + 1 => if P n = true then cntI P n + 1 else cntI P n
def mskI (P : Nat → Bool) : Nat → Int32
  | 0 => 0
  | n + 1 => if P n = true then mskI P n ||| ((1 : Int32) <<< nI n) else mskI P n
theorem ctO_1 {cA : Nat → ClassId} {c : SC} {v : SV} {w : SW} {u : Nat → Int32} {ad : Nat → Nat → Nat} (i : Nat) : ctO cA c v w u ad 1 i = .inr (3, [.int (v 1 i 0), .ref (ad 11 i), .ref (ad 12 i), .int (v 1 i 1), .int (v 1 i 2), .int (v 1 i 3), .long (w 1 i 0), .int (v 1 i 4), .int (v 1 i 5), .int (v 1 i 6)]) := rfl
theorem ctO_11 {cA : Nat → ClassId} {c : SC} {v : SV} {w : SW} {u : Nat → Int32} {ad : Nat → Nat → Nat} (i : Nat) : ctO cA c v w u ad 11 i = .inl (cA 1, 6, .inr (.inl (w 11 i))) := rfl
theorem ctO_12 {cA : Nat → ClassId} {c : SC} {v : SV} {w : SW} {u : Nat → Int32} {ad : Nat → Nat → Nat} (i : Nat) : ctO cA c v w u ad 12 i = .inl (cA 0, 6, .inl (v 12 i)) := rfl
theorem ctO_2 {cA : Nat → ClassId} {c : SC} {v : SV} {w : SW} {u : Nat → Int32} {ad : Nat → Nat → Nat} (i : Nat) : ctO cA c v w u ad 2 i = .inr (1, [.int (v 2 i 0), .int (v 2 i 1), .int (v 2 i 2)]) := rfl
theorem ctO_3 {cA : Nat → ClassId} {c : SC} {v : SV} {w : SW} {u : Nat → Int32} {ad : Nat → Nat → Nat} (i : Nat) : ctO cA c v w u ad 3 i = .inr (2, [.int (v 3 i 0), .ref (ad 13 i), .int (v 3 i 1)]) := rfl
theorem ctO_13 {cA : Nat → ClassId} {c : SC} {v : SV} {w : SW} {u : Nat → Int32} {ad : Nat → Nat → Nat} (i : Nat) : ctO cA c v w u ad 13 i = .inl (cA 0, 10, .inl (v 13 i)) := rfl
theorem ctO_4 {cA : Nat → ClassId} {c : SC} {v : SV} {w : SW} {u : Nat → Int32} {ad : Nat → Nat → Nat} (i : Nat) : ctO cA c v w u ad 4 i = .inr (0, [.int (v 4 i 0), .long (w 4 i 0), .int (v 4 i 1)]) := rfl
theorem ctO_7 {cA : Nat → ClassId} {c : SC} {v : SV} {w : SW} {u : Nat → Int32} {ad : Nat → Nat → Nat} (i : Nat) : ctO cA c v w u ad 7 i = .inr (4, [.int (v 7 i 0), .int (v 7 i 1), .int (v 7 i 2), .long (w 7 i 0), .int (v 7 i 3), .int (v 7 i 4)]) := rfl
theorem ctO_57 {cA : Nat → ClassId} {c : SC} {v : SV} {w : SW} {u : Nat → Int32} {ad : Nat → Nat → Nat} (i : Nat) : ctO cA c v w u ad 57 i = .inl (cA 0, 10, .inl (v 57 i)) := rfl
theorem ctO_56 {cA : Nat → ClassId} {c : SC} {v : SV} {w : SW} {u : Nat → Int32} {ad : Nat → Nat → Nat} (i : Nat) : ctO cA c v w u ad 56 i = if i = 0 then .inl (cA 0, 10, .inl u) else .inr (0, []) := rfl
theorem ctO_55 {cA : Nat → ClassId} {c : SC} {v : SV} {w : SW} {u : Nat → Int32} {ad : Nat → Nat → Nat} (i : Nat) : ctO cA c v w u ad 55 i = if i = 0 then .inl (cA 2, 4, .inr (.inr (.inr (.inr (sRf 4 (ad 57)))))) else .inr (0, []) := rfl
theorem ctO_50 {cA : Nat → ClassId} {c : SC} {v : SV} {w : SW} {u : Nat → Int32} {ad : Nat → Nat → Nat} (i : Nat) : ctO cA c v w u ad 50 i = if i = 0 then .inl (cA 3, 10, .inr (.inr (.inr (.inr (sRf (c 0) (ad 1)))))) else .inr (0, []) := rfl
theorem ctO_51 {cA : Nat → ClassId} {c : SC} {v : SV} {w : SW} {u : Nat → Int32} {ad : Nat → Nat → Nat} (i : Nat) : ctO cA c v w u ad 51 i = if i = 0 then .inl (cA 4, 20, .inr (.inr (.inr (.inr (sRf (c 1) (ad 2)))))) else .inr (0, []) := rfl
theorem ctO_52 {cA : Nat → ClassId} {c : SC} {v : SV} {w : SW} {u : Nat → Int32} {ad : Nat → Nat → Nat} (i : Nat) : ctO cA c v w u ad 52 i = if i = 0 then .inl (cA 5, 20, .inr (.inr (.inr (.inr (sRf (c 2) (ad 3)))))) else .inr (0, []) := rfl
theorem ctO_53 {cA : Nat → ClassId} {c : SC} {v : SV} {w : SW} {u : Nat → Int32} {ad : Nat → Nat → Nat} (i : Nat) : ctO cA c v w u ad 53 i = if i = 0 then .inl (cA 6, 20, .inr (.inr (.inr (.inr (sRf (c 3) (ad 4)))))) else .inr (0, []) := rfl
theorem ctO_54 {cA : Nat → ClassId} {c : SC} {v : SV} {w : SW} {u : Nat → Int32} {ad : Nat → Nat → Nat} (i : Nat) : ctO cA c v w u ad 54 i = if i = 0 then .inl (cA 7, 8, .inr (.inr (.inr (.inr (sRf (c 4) (ad 7)))))) else .inr (0, []) := rfl
theorem ctO_5 {cA : Nat → ClassId} {c : SC} {v : SV} {w : SW} {u : Nat → Int32} {ad : Nat → Nat → Nat} : ctO cA c v w u ad 5 0 = .inr (5, [.ref (ad 50 0), .ref (ad 51 0), .ref (ad 52 0), .ref (ad 53 0), .ref (ad 54 0), .ref (ad 55 0), .ref (ad 56 0), .int (nI (c 0)), .int (nI (c 1)), .int (nI (c 2)), .int (nI (c 3)), .int (nI (c 4)), .int (nI (c 5))]) := rfl
theorem ctO_congr {cA : Nat → ClassId} {c : SC} {v : SV} {w : SW} {u : Nat → Int32} {ad : Nat → Nat → Nat} {v2 : SV} {w2 : SW} {a b : Nat} (hv : ∀ f, v a b f = v2 a b f) (hw : ∀ f, w a b f = w2 a b f) : ctO cA c v w u ad a b = ctO cA c v2 w2 u ad a b := by
  have ev : v a b = v2 a b := funext hv
  have ew : w a b = w2 a b := funext hw
  by_cases h1 : a = 1
  · subst h1
    simp only [ctO_1, ev, ew]
  by_cases h11 : a = 11
  · subst h11
    simp only [ctO_11, ev, ew]
  by_cases h12 : a = 12
  · subst h12
    simp only [ctO_12, ev, ew]
  by_cases h2 : a = 2
  · subst h2
    simp only [ctO_2, ev, ew]
  by_cases h3 : a = 3
  · subst h3
    simp only [ctO_3, ev, ew]
  by_cases h13 : a = 13
  · subst h13
    simp only [ctO_13, ev, ew]
  by_cases h4 : a = 4
  · subst h4
    simp only [ctO_4, ev, ew]
  by_cases h7 : a = 7
  · subst h7
    simp only [ctO_7, ev, ew]
  by_cases h57 : a = 57
  · subst h57
    simp only [ctO_57, ev, ew]
  simp only [ctO, if_neg h1, if_neg h11, if_neg h12, if_neg h2, if_neg h3, if_neg h13, if_neg h4, if_neg h7, if_neg h57]
theorem uV_ne {v : SV} {k i f : Nat} {x : Int32} {a b d : Nat} (h : ¬ (a = k ∧ b = i)) : uV v k i f x a b d = v a b d := by
  unfold uV
  rw [if_neg (fun q => h ⟨q.1, q.2.2⟩)]
theorem uW_ne {w : SW} {k i f : Nat} {x : Int64} {a b d : Nat} (h : ¬ (a = k ∧ b = i)) : uW w k i f x a b d = w a b d := by
  unfold uW
  rw [if_neg (fun q => h ⟨q.1, q.2.2⟩)]
theorem uV_eq {v : SV} {k i f : Nat} {x : Int32} : uV v k i f x k i f = x := by simp [uV]
theorem uW_eq {w : SW} {k i f : Nat} {x : Int64} : uW w k i f x k i f = x := by simp [uW]
theorem pcS_eq {D : va_G} {cl : List vw_C} {A : Nat → Prop} {H0 : Heap} {NL : List (Nat × Nat)} {ad : Nat → Nat → Nat} {ct ct2 : Nat → Nat → va_E} {H : Heap} {locs : List Loc} (hW : pcS D cl A H0 NL ad ct H locs) (h : ct = ct2) : pcS D cl A H0 NL ad ct2 H locs := h ▸ hW
theorem ctO_put_1_0 {cA : Nat → ClassId} {c : SC} {v : SV} {w : SW} {u : Nat → Int32} {ad : Nat → Nat → Nat} {i : Nat} {x : Int32} : pcU (ctO cA c v w u ad) 1 i (.inr (3, [.int x, .ref (ad 11 i), .ref (ad 12 i), .int (v 1 i 1), .int (v 1 i 2), .int (v 1 i 3), .long (w 1 i 0), .int (v 1 i 4), .int (v 1 i 5), .int (v 1 i 6)])) = ctO cA c (uV v 1 i 0 x) w u ad := by
  funext a b
  by_cases h : a = 1 ∧ b = i
  · obtain ⟨rfl, rfl⟩ := h
    rw [pcU_self]
    rw [ctO_1]
    simp [uV, uW]
  · rw [show pcU (ctO cA c v w u ad) 1 i (.inr (3, [.int x, .ref (ad 11 i), .ref (ad 12 i), .int (v 1 i 1), .int (v 1 i 2), .int (v 1 i 3), .long (w 1 i 0), .int (v 1 i 4), .int (v 1 i 5), .int (v 1 i 6)])) a b = ctO cA c v w u ad a b by simp [pcU, h]]
    exact ctO_congr (fun d => by first | rfl | rw [uV_ne h]) (fun d => by first | rfl | rw [uW_ne h])
theorem ctO_put_1_3 {cA : Nat → ClassId} {c : SC} {v : SV} {w : SW} {u : Nat → Int32} {ad : Nat → Nat → Nat} {i : Nat} {x : Int32} : pcU (ctO cA c v w u ad) 1 i (.inr (3, [.int (v 1 i 0), .ref (ad 11 i), .ref (ad 12 i), .int x, .int (v 1 i 2), .int (v 1 i 3), .long (w 1 i 0), .int (v 1 i 4), .int (v 1 i 5), .int (v 1 i 6)])) = ctO cA c (uV v 1 i 1 x) w u ad := by
  funext a b
  by_cases h : a = 1 ∧ b = i
  · obtain ⟨rfl, rfl⟩ := h
    rw [pcU_self]
    rw [ctO_1]
    simp [uV, uW]
  · rw [show pcU (ctO cA c v w u ad) 1 i (.inr (3, [.int (v 1 i 0), .ref (ad 11 i), .ref (ad 12 i), .int x, .int (v 1 i 2), .int (v 1 i 3), .long (w 1 i 0), .int (v 1 i 4), .int (v 1 i 5), .int (v 1 i 6)])) a b = ctO cA c v w u ad a b by simp [pcU, h]]
    exact ctO_congr (fun d => by first | rfl | rw [uV_ne h]) (fun d => by first | rfl | rw [uW_ne h])
theorem ctO_put_1_4 {cA : Nat → ClassId} {c : SC} {v : SV} {w : SW} {u : Nat → Int32} {ad : Nat → Nat → Nat} {i : Nat} {x : Int32} : pcU (ctO cA c v w u ad) 1 i (.inr (3, [.int (v 1 i 0), .ref (ad 11 i), .ref (ad 12 i), .int (v 1 i 1), .int x, .int (v 1 i 3), .long (w 1 i 0), .int (v 1 i 4), .int (v 1 i 5), .int (v 1 i 6)])) = ctO cA c (uV v 1 i 2 x) w u ad := by
  funext a b
  by_cases h : a = 1 ∧ b = i
  · obtain ⟨rfl, rfl⟩ := h
    rw [pcU_self]
    rw [ctO_1]
    simp [uV, uW]
  · rw [show pcU (ctO cA c v w u ad) 1 i (.inr (3, [.int (v 1 i 0), .ref (ad 11 i), .ref (ad 12 i), .int (v 1 i 1), .int x, .int (v 1 i 3), .long (w 1 i 0), .int (v 1 i 4), .int (v 1 i 5), .int (v 1 i 6)])) a b = ctO cA c v w u ad a b by simp [pcU, h]]
    exact ctO_congr (fun d => by first | rfl | rw [uV_ne h]) (fun d => by first | rfl | rw [uW_ne h])
theorem ctO_put_1_5 {cA : Nat → ClassId} {c : SC} {v : SV} {w : SW} {u : Nat → Int32} {ad : Nat → Nat → Nat} {i : Nat} {x : Int32} : pcU (ctO cA c v w u ad) 1 i (.inr (3, [.int (v 1 i 0), .ref (ad 11 i), .ref (ad 12 i), .int (v 1 i 1), .int (v 1 i 2), .int x, .long (w 1 i 0), .int (v 1 i 4), .int (v 1 i 5), .int (v 1 i 6)])) = ctO cA c (uV v 1 i 3 x) w u ad := by
  funext a b
  by_cases h : a = 1 ∧ b = i
  · obtain ⟨rfl, rfl⟩ := h
    rw [pcU_self]
    rw [ctO_1]
    simp [uV, uW]
  · rw [show pcU (ctO cA c v w u ad) 1 i (.inr (3, [.int (v 1 i 0), .ref (ad 11 i), .ref (ad 12 i), .int (v 1 i 1), .int (v 1 i 2), .int x, .long (w 1 i 0), .int (v 1 i 4), .int (v 1 i 5), .int (v 1 i 6)])) a b = ctO cA c v w u ad a b by simp [pcU, h]]
    exact ctO_congr (fun d => by first | rfl | rw [uV_ne h]) (fun d => by first | rfl | rw [uW_ne h])
theorem ctO_put_1_6 {cA : Nat → ClassId} {c : SC} {v : SV} {w : SW} {u : Nat → Int32} {ad : Nat → Nat → Nat} {i : Nat} {x : Int64} : pcU (ctO cA c v w u ad) 1 i (.inr (3, [.int (v 1 i 0), .ref (ad 11 i), .ref (ad 12 i), .int (v 1 i 1), .int (v 1 i 2), .int (v 1 i 3), .long x, .int (v 1 i 4), .int (v 1 i 5), .int (v 1 i 6)])) = ctO cA c v (uW w 1 i 0 x) u ad := by
  funext a b
  by_cases h : a = 1 ∧ b = i
  · obtain ⟨rfl, rfl⟩ := h
    rw [pcU_self]
    rw [ctO_1]
    simp [uV, uW]
  · rw [show pcU (ctO cA c v w u ad) 1 i (.inr (3, [.int (v 1 i 0), .ref (ad 11 i), .ref (ad 12 i), .int (v 1 i 1), .int (v 1 i 2), .int (v 1 i 3), .long x, .int (v 1 i 4), .int (v 1 i 5), .int (v 1 i 6)])) a b = ctO cA c v w u ad a b by simp [pcU, h]]
    exact ctO_congr (fun d => by first | rfl | rw [uV_ne h]) (fun d => by first | rfl | rw [uW_ne h])
theorem ctO_put_1_7 {cA : Nat → ClassId} {c : SC} {v : SV} {w : SW} {u : Nat → Int32} {ad : Nat → Nat → Nat} {i : Nat} {x : Int32} : pcU (ctO cA c v w u ad) 1 i (.inr (3, [.int (v 1 i 0), .ref (ad 11 i), .ref (ad 12 i), .int (v 1 i 1), .int (v 1 i 2), .int (v 1 i 3), .long (w 1 i 0), .int x, .int (v 1 i 5), .int (v 1 i 6)])) = ctO cA c (uV v 1 i 4 x) w u ad := by
  funext a b
  by_cases h : a = 1 ∧ b = i
  · obtain ⟨rfl, rfl⟩ := h
    rw [pcU_self]
    rw [ctO_1]
    simp [uV, uW]
  · rw [show pcU (ctO cA c v w u ad) 1 i (.inr (3, [.int (v 1 i 0), .ref (ad 11 i), .ref (ad 12 i), .int (v 1 i 1), .int (v 1 i 2), .int (v 1 i 3), .long (w 1 i 0), .int x, .int (v 1 i 5), .int (v 1 i 6)])) a b = ctO cA c v w u ad a b by simp [pcU, h]]
    exact ctO_congr (fun d => by first | rfl | rw [uV_ne h]) (fun d => by first | rfl | rw [uW_ne h])
theorem ctO_put_1_8 {cA : Nat → ClassId} {c : SC} {v : SV} {w : SW} {u : Nat → Int32} {ad : Nat → Nat → Nat} {i : Nat} {x : Int32} : pcU (ctO cA c v w u ad) 1 i (.inr (3, [.int (v 1 i 0), .ref (ad 11 i), .ref (ad 12 i), .int (v 1 i 1), .int (v 1 i 2), .int (v 1 i 3), .long (w 1 i 0), .int (v 1 i 4), .int x, .int (v 1 i 6)])) = ctO cA c (uV v 1 i 5 x) w u ad := by
  funext a b
  by_cases h : a = 1 ∧ b = i
  · obtain ⟨rfl, rfl⟩ := h
    rw [pcU_self]
    rw [ctO_1]
    simp [uV, uW]
  · rw [show pcU (ctO cA c v w u ad) 1 i (.inr (3, [.int (v 1 i 0), .ref (ad 11 i), .ref (ad 12 i), .int (v 1 i 1), .int (v 1 i 2), .int (v 1 i 3), .long (w 1 i 0), .int (v 1 i 4), .int x, .int (v 1 i 6)])) a b = ctO cA c v w u ad a b by simp [pcU, h]]
    exact ctO_congr (fun d => by first | rfl | rw [uV_ne h]) (fun d => by first | rfl | rw [uW_ne h])
theorem ctO_put_1_9 {cA : Nat → ClassId} {c : SC} {v : SV} {w : SW} {u : Nat → Int32} {ad : Nat → Nat → Nat} {i : Nat} {x : Int32} : pcU (ctO cA c v w u ad) 1 i (.inr (3, [.int (v 1 i 0), .ref (ad 11 i), .ref (ad 12 i), .int (v 1 i 1), .int (v 1 i 2), .int (v 1 i 3), .long (w 1 i 0), .int (v 1 i 4), .int (v 1 i 5), .int x])) = ctO cA c (uV v 1 i 6 x) w u ad := by
  funext a b
  by_cases h : a = 1 ∧ b = i
  · obtain ⟨rfl, rfl⟩ := h
    rw [pcU_self]
    rw [ctO_1]
    simp [uV, uW]
  · rw [show pcU (ctO cA c v w u ad) 1 i (.inr (3, [.int (v 1 i 0), .ref (ad 11 i), .ref (ad 12 i), .int (v 1 i 1), .int (v 1 i 2), .int (v 1 i 3), .long (w 1 i 0), .int (v 1 i 4), .int (v 1 i 5), .int x])) a b = ctO cA c v w u ad a b by simp [pcU, h]]
    exact ctO_congr (fun d => by first | rfl | rw [uV_ne h]) (fun d => by first | rfl | rw [uW_ne h])
theorem ctO_put_2_0 {cA : Nat → ClassId} {c : SC} {v : SV} {w : SW} {u : Nat → Int32} {ad : Nat → Nat → Nat} {i : Nat} {x : Int32} : pcU (ctO cA c v w u ad) 2 i (.inr (1, [.int x, .int (v 2 i 1), .int (v 2 i 2)])) = ctO cA c (uV v 2 i 0 x) w u ad := by
  funext a b
  by_cases h : a = 2 ∧ b = i
  · obtain ⟨rfl, rfl⟩ := h
    rw [pcU_self]
    rw [ctO_2]
    simp [uV, uW]
  · rw [show pcU (ctO cA c v w u ad) 2 i (.inr (1, [.int x, .int (v 2 i 1), .int (v 2 i 2)])) a b = ctO cA c v w u ad a b by simp [pcU, h]]
    exact ctO_congr (fun d => by first | rfl | rw [uV_ne h]) (fun d => by first | rfl | rw [uW_ne h])
theorem ctO_put_2_1 {cA : Nat → ClassId} {c : SC} {v : SV} {w : SW} {u : Nat → Int32} {ad : Nat → Nat → Nat} {i : Nat} {x : Int32} : pcU (ctO cA c v w u ad) 2 i (.inr (1, [.int (v 2 i 0), .int x, .int (v 2 i 2)])) = ctO cA c (uV v 2 i 1 x) w u ad := by
  funext a b
  by_cases h : a = 2 ∧ b = i
  · obtain ⟨rfl, rfl⟩ := h
    rw [pcU_self]
    rw [ctO_2]
    simp [uV, uW]
  · rw [show pcU (ctO cA c v w u ad) 2 i (.inr (1, [.int (v 2 i 0), .int x, .int (v 2 i 2)])) a b = ctO cA c v w u ad a b by simp [pcU, h]]
    exact ctO_congr (fun d => by first | rfl | rw [uV_ne h]) (fun d => by first | rfl | rw [uW_ne h])
theorem ctO_put_2_2 {cA : Nat → ClassId} {c : SC} {v : SV} {w : SW} {u : Nat → Int32} {ad : Nat → Nat → Nat} {i : Nat} {x : Int32} : pcU (ctO cA c v w u ad) 2 i (.inr (1, [.int (v 2 i 0), .int (v 2 i 1), .int x])) = ctO cA c (uV v 2 i 2 x) w u ad := by
  funext a b
  by_cases h : a = 2 ∧ b = i
  · obtain ⟨rfl, rfl⟩ := h
    rw [pcU_self]
    rw [ctO_2]
    simp [uV, uW]
  · rw [show pcU (ctO cA c v w u ad) 2 i (.inr (1, [.int (v 2 i 0), .int (v 2 i 1), .int x])) a b = ctO cA c v w u ad a b by simp [pcU, h]]
    exact ctO_congr (fun d => by first | rfl | rw [uV_ne h]) (fun d => by first | rfl | rw [uW_ne h])
theorem ctO_put_3_0 {cA : Nat → ClassId} {c : SC} {v : SV} {w : SW} {u : Nat → Int32} {ad : Nat → Nat → Nat} {i : Nat} {x : Int32} : pcU (ctO cA c v w u ad) 3 i (.inr (2, [.int x, .ref (ad 13 i), .int (v 3 i 1)])) = ctO cA c (uV v 3 i 0 x) w u ad := by
  funext a b
  by_cases h : a = 3 ∧ b = i
  · obtain ⟨rfl, rfl⟩ := h
    rw [pcU_self]
    rw [ctO_3]
    simp [uV, uW]
  · rw [show pcU (ctO cA c v w u ad) 3 i (.inr (2, [.int x, .ref (ad 13 i), .int (v 3 i 1)])) a b = ctO cA c v w u ad a b by simp [pcU, h]]
    exact ctO_congr (fun d => by first | rfl | rw [uV_ne h]) (fun d => by first | rfl | rw [uW_ne h])
theorem ctO_put_3_2 {cA : Nat → ClassId} {c : SC} {v : SV} {w : SW} {u : Nat → Int32} {ad : Nat → Nat → Nat} {i : Nat} {x : Int32} : pcU (ctO cA c v w u ad) 3 i (.inr (2, [.int (v 3 i 0), .ref (ad 13 i), .int x])) = ctO cA c (uV v 3 i 1 x) w u ad := by
  funext a b
  by_cases h : a = 3 ∧ b = i
  · obtain ⟨rfl, rfl⟩ := h
    rw [pcU_self]
    rw [ctO_3]
    simp [uV, uW]
  · rw [show pcU (ctO cA c v w u ad) 3 i (.inr (2, [.int (v 3 i 0), .ref (ad 13 i), .int x])) a b = ctO cA c v w u ad a b by simp [pcU, h]]
    exact ctO_congr (fun d => by first | rfl | rw [uV_ne h]) (fun d => by first | rfl | rw [uW_ne h])
theorem ctO_put_4_0 {cA : Nat → ClassId} {c : SC} {v : SV} {w : SW} {u : Nat → Int32} {ad : Nat → Nat → Nat} {i : Nat} {x : Int32} : pcU (ctO cA c v w u ad) 4 i (.inr (0, [.int x, .long (w 4 i 0), .int (v 4 i 1)])) = ctO cA c (uV v 4 i 0 x) w u ad := by
  funext a b
  by_cases h : a = 4 ∧ b = i
  · obtain ⟨rfl, rfl⟩ := h
    rw [pcU_self]
    rw [ctO_4]
    simp [uV, uW]
  · rw [show pcU (ctO cA c v w u ad) 4 i (.inr (0, [.int x, .long (w 4 i 0), .int (v 4 i 1)])) a b = ctO cA c v w u ad a b by simp [pcU, h]]
    exact ctO_congr (fun d => by first | rfl | rw [uV_ne h]) (fun d => by first | rfl | rw [uW_ne h])
theorem ctO_put_4_1 {cA : Nat → ClassId} {c : SC} {v : SV} {w : SW} {u : Nat → Int32} {ad : Nat → Nat → Nat} {i : Nat} {x : Int64} : pcU (ctO cA c v w u ad) 4 i (.inr (0, [.int (v 4 i 0), .long x, .int (v 4 i 1)])) = ctO cA c v (uW w 4 i 0 x) u ad := by
  funext a b
  by_cases h : a = 4 ∧ b = i
  · obtain ⟨rfl, rfl⟩ := h
    rw [pcU_self]
    rw [ctO_4]
    simp [uV, uW]
  · rw [show pcU (ctO cA c v w u ad) 4 i (.inr (0, [.int (v 4 i 0), .long x, .int (v 4 i 1)])) a b = ctO cA c v w u ad a b by simp [pcU, h]]
    exact ctO_congr (fun d => by first | rfl | rw [uV_ne h]) (fun d => by first | rfl | rw [uW_ne h])
theorem ctO_put_4_2 {cA : Nat → ClassId} {c : SC} {v : SV} {w : SW} {u : Nat → Int32} {ad : Nat → Nat → Nat} {i : Nat} {x : Int32} : pcU (ctO cA c v w u ad) 4 i (.inr (0, [.int (v 4 i 0), .long (w 4 i 0), .int x])) = ctO cA c (uV v 4 i 1 x) w u ad := by
  funext a b
  by_cases h : a = 4 ∧ b = i
  · obtain ⟨rfl, rfl⟩ := h
    rw [pcU_self]
    rw [ctO_4]
    simp [uV, uW]
  · rw [show pcU (ctO cA c v w u ad) 4 i (.inr (0, [.int (v 4 i 0), .long (w 4 i 0), .int x])) a b = ctO cA c v w u ad a b by simp [pcU, h]]
    exact ctO_congr (fun d => by first | rfl | rw [uV_ne h]) (fun d => by first | rfl | rw [uW_ne h])
theorem ctO_put_7_0 {cA : Nat → ClassId} {c : SC} {v : SV} {w : SW} {u : Nat → Int32} {ad : Nat → Nat → Nat} {i : Nat} {x : Int32} : pcU (ctO cA c v w u ad) 7 i (.inr (4, [.int x, .int (v 7 i 1), .int (v 7 i 2), .long (w 7 i 0), .int (v 7 i 3), .int (v 7 i 4)])) = ctO cA c (uV v 7 i 0 x) w u ad := by
  funext a b
  by_cases h : a = 7 ∧ b = i
  · obtain ⟨rfl, rfl⟩ := h
    rw [pcU_self]
    rw [ctO_7]
    simp [uV, uW]
  · rw [show pcU (ctO cA c v w u ad) 7 i (.inr (4, [.int x, .int (v 7 i 1), .int (v 7 i 2), .long (w 7 i 0), .int (v 7 i 3), .int (v 7 i 4)])) a b = ctO cA c v w u ad a b by simp [pcU, h]]
    exact ctO_congr (fun d => by first | rfl | rw [uV_ne h]) (fun d => by first | rfl | rw [uW_ne h])
theorem ctO_put_7_1 {cA : Nat → ClassId} {c : SC} {v : SV} {w : SW} {u : Nat → Int32} {ad : Nat → Nat → Nat} {i : Nat} {x : Int32} : pcU (ctO cA c v w u ad) 7 i (.inr (4, [.int (v 7 i 0), .int x, .int (v 7 i 2), .long (w 7 i 0), .int (v 7 i 3), .int (v 7 i 4)])) = ctO cA c (uV v 7 i 1 x) w u ad := by
  funext a b
  by_cases h : a = 7 ∧ b = i
  · obtain ⟨rfl, rfl⟩ := h
    rw [pcU_self]
    rw [ctO_7]
    simp [uV, uW]
  · rw [show pcU (ctO cA c v w u ad) 7 i (.inr (4, [.int (v 7 i 0), .int x, .int (v 7 i 2), .long (w 7 i 0), .int (v 7 i 3), .int (v 7 i 4)])) a b = ctO cA c v w u ad a b by simp [pcU, h]]
    exact ctO_congr (fun d => by first | rfl | rw [uV_ne h]) (fun d => by first | rfl | rw [uW_ne h])
theorem ctO_put_7_2 {cA : Nat → ClassId} {c : SC} {v : SV} {w : SW} {u : Nat → Int32} {ad : Nat → Nat → Nat} {i : Nat} {x : Int32} : pcU (ctO cA c v w u ad) 7 i (.inr (4, [.int (v 7 i 0), .int (v 7 i 1), .int x, .long (w 7 i 0), .int (v 7 i 3), .int (v 7 i 4)])) = ctO cA c (uV v 7 i 2 x) w u ad := by
  funext a b
  by_cases h : a = 7 ∧ b = i
  · obtain ⟨rfl, rfl⟩ := h
    rw [pcU_self]
    rw [ctO_7]
    simp [uV, uW]
  · rw [show pcU (ctO cA c v w u ad) 7 i (.inr (4, [.int (v 7 i 0), .int (v 7 i 1), .int x, .long (w 7 i 0), .int (v 7 i 3), .int (v 7 i 4)])) a b = ctO cA c v w u ad a b by simp [pcU, h]]
    exact ctO_congr (fun d => by first | rfl | rw [uV_ne h]) (fun d => by first | rfl | rw [uW_ne h])
theorem ctO_put_7_3 {cA : Nat → ClassId} {c : SC} {v : SV} {w : SW} {u : Nat → Int32} {ad : Nat → Nat → Nat} {i : Nat} {x : Int64} : pcU (ctO cA c v w u ad) 7 i (.inr (4, [.int (v 7 i 0), .int (v 7 i 1), .int (v 7 i 2), .long x, .int (v 7 i 3), .int (v 7 i 4)])) = ctO cA c v (uW w 7 i 0 x) u ad := by
  funext a b
  by_cases h : a = 7 ∧ b = i
  · obtain ⟨rfl, rfl⟩ := h
    rw [pcU_self]
    rw [ctO_7]
    simp [uV, uW]
  · rw [show pcU (ctO cA c v w u ad) 7 i (.inr (4, [.int (v 7 i 0), .int (v 7 i 1), .int (v 7 i 2), .long x, .int (v 7 i 3), .int (v 7 i 4)])) a b = ctO cA c v w u ad a b by simp [pcU, h]]
    exact ctO_congr (fun d => by first | rfl | rw [uV_ne h]) (fun d => by first | rfl | rw [uW_ne h])
theorem ctO_put_7_4 {cA : Nat → ClassId} {c : SC} {v : SV} {w : SW} {u : Nat → Int32} {ad : Nat → Nat → Nat} {i : Nat} {x : Int32} : pcU (ctO cA c v w u ad) 7 i (.inr (4, [.int (v 7 i 0), .int (v 7 i 1), .int (v 7 i 2), .long (w 7 i 0), .int x, .int (v 7 i 4)])) = ctO cA c (uV v 7 i 3 x) w u ad := by
  funext a b
  by_cases h : a = 7 ∧ b = i
  · obtain ⟨rfl, rfl⟩ := h
    rw [pcU_self]
    rw [ctO_7]
    simp [uV, uW]
  · rw [show pcU (ctO cA c v w u ad) 7 i (.inr (4, [.int (v 7 i 0), .int (v 7 i 1), .int (v 7 i 2), .long (w 7 i 0), .int x, .int (v 7 i 4)])) a b = ctO cA c v w u ad a b by simp [pcU, h]]
    exact ctO_congr (fun d => by first | rfl | rw [uV_ne h]) (fun d => by first | rfl | rw [uW_ne h])
theorem ctO_put_7_5 {cA : Nat → ClassId} {c : SC} {v : SV} {w : SW} {u : Nat → Int32} {ad : Nat → Nat → Nat} {i : Nat} {x : Int32} : pcU (ctO cA c v w u ad) 7 i (.inr (4, [.int (v 7 i 0), .int (v 7 i 1), .int (v 7 i 2), .long (w 7 i 0), .int (v 7 i 3), .int x])) = ctO cA c (uV v 7 i 4 x) w u ad := by
  funext a b
  by_cases h : a = 7 ∧ b = i
  · obtain ⟨rfl, rfl⟩ := h
    rw [pcU_self]
    rw [ctO_7]
    simp [uV, uW]
  · rw [show pcU (ctO cA c v w u ad) 7 i (.inr (4, [.int (v 7 i 0), .int (v 7 i 1), .int (v 7 i 2), .long (w 7 i 0), .int (v 7 i 3), .int x])) a b = ctO cA c v w u ad a b by simp [pcU, h]]
    exact ctO_congr (fun d => by first | rfl | rw [uV_ne h]) (fun d => by first | rfl | rw [uW_ne h])
theorem ctO_ist_12 {cA : Nat → ClassId} {c : SC} {v : SV} {w : SW} {u : Nat → Int32} {ad : Nat → Nat → Nat} {i j : Nat} {x : Int32} : pcU (ctO cA c v w u ad) 12 i (.inl (cA 0, 6, .inl (upd (v 12 i) j x))) = ctO cA c (uV v 12 i j x) w u ad := by
  funext a b
  by_cases h : a = 12 ∧ b = i
  · obtain ⟨rfl, rfl⟩ := h
    rw [pcU_self]
    rw [ctO_12]
    have e : upd (v 12 b) j x = uV v 12 b j x 12 b := by
      funext d
      simp [upd, uV]
    rw [e]
  · rw [show pcU (ctO cA c v w u ad) 12 i (.inl (cA 0, 6, .inl (upd (v 12 i) j x))) a b = ctO cA c v w u ad a b by simp [pcU, h]]
    exact ctO_congr (fun d => by first | rfl | rw [uV_ne h]) (fun d => by first | rfl | rw [uW_ne h])
theorem ctO_ist_13 {cA : Nat → ClassId} {c : SC} {v : SV} {w : SW} {u : Nat → Int32} {ad : Nat → Nat → Nat} {i j : Nat} {x : Int32} : pcU (ctO cA c v w u ad) 13 i (.inl (cA 0, 10, .inl (upd (v 13 i) j x))) = ctO cA c (uV v 13 i j x) w u ad := by
  funext a b
  by_cases h : a = 13 ∧ b = i
  · obtain ⟨rfl, rfl⟩ := h
    rw [pcU_self]
    rw [ctO_13]
    have e : upd (v 13 b) j x = uV v 13 b j x 13 b := by
      funext d
      simp [upd, uV]
    rw [e]
  · rw [show pcU (ctO cA c v w u ad) 13 i (.inl (cA 0, 10, .inl (upd (v 13 i) j x))) a b = ctO cA c v w u ad a b by simp [pcU, h]]
    exact ctO_congr (fun d => by first | rfl | rw [uV_ne h]) (fun d => by first | rfl | rw [uW_ne h])
theorem ctO_ist_57 {cA : Nat → ClassId} {c : SC} {v : SV} {w : SW} {u : Nat → Int32} {ad : Nat → Nat → Nat} {i j : Nat} {x : Int32} : pcU (ctO cA c v w u ad) 57 i (.inl (cA 0, 10, .inl (upd (v 57 i) j x))) = ctO cA c (uV v 57 i j x) w u ad := by
  funext a b
  by_cases h : a = 57 ∧ b = i
  · obtain ⟨rfl, rfl⟩ := h
    rw [pcU_self]
    rw [ctO_57]
    have e : upd (v 57 b) j x = uV v 57 b j x 57 b := by
      funext d
      simp [upd, uV]
    rw [e]
  · rw [show pcU (ctO cA c v w u ad) 57 i (.inl (cA 0, 10, .inl (upd (v 57 i) j x))) a b = ctO cA c v w u ad a b by simp [pcU, h]]
    exact ctO_congr (fun d => by first | rfl | rw [uV_ne h]) (fun d => by first | rfl | rw [uW_ne h])
theorem ctO_lst_11 {cA : Nat → ClassId} {c : SC} {v : SV} {w : SW} {u : Nat → Int32} {ad : Nat → Nat → Nat} {i j : Nat} {x : Int64} : pcU (ctO cA c v w u ad) 11 i (.inl (cA 1, 6, .inr (.inl (vp_updL (w 11 i) j x)))) = ctO cA c v (uW w 11 i j x) u ad := by
  funext a b
  by_cases h : a = 11 ∧ b = i
  · obtain ⟨rfl, rfl⟩ := h
    rw [pcU_self]
    rw [ctO_11]
    have e : vp_updL (w 11 b) j x = uW w 11 b j x 11 b := by
      funext d
      simp [vp_updL, uW]
    rw [e]
  · rw [show pcU (ctO cA c v w u ad) 11 i (.inl (cA 1, 6, .inr (.inl (vp_updL (w 11 i) j x)))) a b = ctO cA c v w u ad a b by simp [pcU, h]]
    exact ctO_congr (fun d => by first | rfl | rw [uV_ne h]) (fun d => by first | rfl | rw [uW_ne h])
theorem ctO_row {cA : Nat → ClassId} {c : SC} {v : SV} {w : SW} {u : Nat → Int32} {ad : Nat → Nat → Nat} {u2 : Nat → Int32} : pcU (ctO cA c v w u ad) 56 0 (.inl (cA 0, 10, .inl u2)) = ctO cA c v w u2 ad := by
  funext a b
  by_cases h : a = 56 ∧ b = 0
  · obtain ⟨rfl, rfl⟩ := h
    rw [pcU_self]
    rfl
  · rw [show pcU (ctO cA c v w u ad) 56 0 (.inl (cA 0, 10, .inl u2)) a b = ctO cA c v w u ad a b by simp [pcU, h]]
    by_cases h56 : a = 56
    · subst h56
      rw [ctO_56, ctO_56, if_neg (fun q => h ⟨rfl, q⟩), if_neg (fun q => h ⟨rfl, q⟩)]
    · simp only [ctO, if_neg h56]
theorem ctO_day {cA : Nat → ClassId} {c : SC} {v : SV} {w : SW} {u : Nat → Int32} {ad : Nat → Nat → Nat} {x : Nat} : pcU (ctO cA c v w u ad) 5 0 (.inr (5, [.ref (ad 50 0), .ref (ad 51 0), .ref (ad 52 0), .ref (ad 53 0), .ref (ad 54 0), .ref (ad 55 0), .ref (ad 56 0), .int (nI (c 0)), .int (nI (c 1)), .int (nI (c 2)), .int (nI (c 3)), .int (nI (c 4)), .int (nI x)])) = ctO cA (uC c 5 x) v w u ad := by
  funext a b
  by_cases h : a = 5 ∧ b = 0
  · obtain ⟨rfl, rfl⟩ := h
    rw [pcU_self, ctO_5]
    simp [uC]
  · rw [show pcU (ctO cA c v w u ad) 5 0 (.inr (5, [.ref (ad 50 0), .ref (ad 51 0), .ref (ad 52 0), .ref (ad 53 0), .ref (ad 54 0), .ref (ad 55 0), .ref (ad 56 0), .int (nI (c 0)), .int (nI (c 1)), .int (nI (c 2)), .int (nI (c 3)), .int (nI (c 4)), .int (nI x)])) a b = ctO cA c v w u ad a b by simp [pcU, h]]
    simp only [ctO, if_neg h]
    first | done | rfl | simp [uC]
theorem n1_add (a : Nat) : (1 : Int32) + nI a = nI (a + 1) := by
  rw [Int32.add_comm]
  exact nI_1 a
theorem nI_nn {n : Nat} (h : n < 2 ^ 31) : ¬ nI n < 0 := by
  rw [Int32.lt_iff_toInt_lt, nI_toInt h]
  have h0 : (0 : Int32).toInt = 0 := by decide
  omega
theorem lt_nI {x : Int32} {n : Nat} (h0 : ¬ x < 0) (h : x.toNatClampNeg < n) (hn : n < 2 ^ 31) : x < nI n := by
  obtain ⟨j, hj, rfl⟩ := nI_of h0
  rw [nI_clamp hj] at h
  exact nI_lt h hn
def lcI (x y : Int64) : Int32 := if x > y then 1 else if x = y then 0 else -1
section LCI
variable {p : Program} {l : Launch} {e : Env} {R : Room} {s : State} {m : MethodId} {args : Array Value} {below : List Frame} {meth : Method} {c : Code} {H : Heap} {locs : List Loc} {cells slots : Nat} {Q : State → Prop}
variable {cc : ByteArray} {pc : Nat} {ls : Array Slot} {rest : List Value}
theorem lv_lcmpI (hexec : p.tables.exec = Jvm.exec) (hb : c.code = cc) {x y : Int64} (hdg : decode cc pc = .ok (.lcmp, 1))
    (k : W p l e R s m args below meth c H locs cells slots Q (F0 m (pc + 1) ls (.int (lcI x y) :: rest))) : W p l e R s m args below meth c H locs cells slots Q (F0 m pc ls (.long y :: .long x :: rest)) := by
  intro T hT X
  obtain ⟨t, a, b⟩ := k T hT X
  exact ⟨t, Jvm.Free.XS.lcmp (x := x) (y := y) (rest := rest) (g := F0 m pc ls (.long y :: .long x :: rest)) X.here hexec rfl (by rw [hb]; exact hdg) rfl a, b⟩
end LCI
