/-! WHAT THE NUMBERS MEAN: the class's functions over a state, without the machine. -/
theorem uV_f {v : SV} {k i f : Nat} {x : Int32} {a b d : Nat} (h : d ≠ f) : uV v k i f x a b d = v a b d := by
  unfold uV
  rw [if_neg (fun q => h q.2.1)]
theorem uW_f {w : SW} {k i f : Nat} {x : Int64} {a b d : Nat} (h : d ≠ f) : uW w k i f x a b d = w a b d := by
  unfold uW
  rw [if_neg (fun q => h q.2.1)]
theorem cl {i : Nat} (h : i < 100) : (nI i).toNatClampNeg = i := nI_clamp (by omega)
def REG (x : Int64) : Prop := ∃ a b a2 b2 : Nat, a ≤ a2 ∧ a2 < 20 ∧ b ≤ b2 ∧ b2 < 20 ∧ x = F_X5_regionOf (nI a) (nI b) (nI a2) (nI b2)
def SHT (v : SV) (w : SW) (i : Nat) : Prop := ∃ L K : Nat, L ≤ 5 ∧ K ≤ L ∧ L ≤ K + 1 ∧ v 1 i 1 = nI L ∧ v 1 i 3 = nI K ∧ v 1 i 6 = 0 ∧ w 1 i 0 = w 11 i K ∧ v 1 i 4 = v 12 i K ∧ ∀ r, r ≤ L → REG (w 11 i r)
def PKG (c : SC) (v : SV) (w : SW) (i : Nat) : Prop := ∃ cr s d st : Nat, cr < 4 ∧ s < c 0 ∧ d ≤ 4 ∧ st ≤ 3 ∧ v 7 i 0 = nI cr ∧ v 7 i 1 = (1 : Int32) <<< (nI s &&& 31) ∧ v 7 i 2 = nI d ∧ v 7 i 3 = nI st ∧ (st = 3 ↔ d = 0) ∧ (st = 1 → F_X5_firstUnfit c v w i (v 57 cr) = -1)
def INV (c : SC) (v : SV) (w : SW) : Prop := (c 0 ≤ 5 ∧ c 1 ≤ 20 ∧ c 2 ≤ 20 ∧ c 3 ≤ 20 ∧ c 4 ≤ 8) ∧ (∀ i, i < c 0 → SHT v w i) ∧ (∀ i, i < c 1 → ∃ t, t < c 0 ∧ v 2 i 1 = nI t) ∧ (∀ i, i < c 3 → v 4 i 1 = 0) ∧ ∀ i, i < c 4 → PKG c v w i
theorem INV_bnd {c : SC} {v : SV} {w : SW} (h : INV c v w) : BND c := by
  obtain ⟨⟨h0, h1, h2, h3, h4⟩, -⟩ := h
  exact ⟨by omega, h1, h2, h3, h4⟩
theorem INV_wf {c : SC} {v : SV} {w : SW} (h : INV c v w) : WF c v := by
  obtain ⟨⟨h0, h1, h2, h3, h4⟩, hs, hr, hq, hp⟩ := h
  refine ⟨fun i hi => ?_, fun i hi => ?_, fun i hi => ?_⟩
  · obtain ⟨t, ht, e⟩ := hr i hi
    rw [e]
    exact ⟨nI_pos (by omega), by rw [cl (by omega)]; exact ht⟩
  · obtain ⟨cr, s, d, st, hcr, -, -, -, e, -⟩ := hp i hi
    rw [e]
    exact ⟨nI_pos (by omega), by rw [cl (by omega)]; exact hcr⟩
  · obtain ⟨L, K, hL, -, -, e, -⟩ := hs i hi
    rw [e]
    exact ⟨nI_pos (by omega), by rw [cl (by omega)]; omega⟩
theorem INV_ri {c : SC} {v : SV} {w : SW} (h : INV c v w) : RI c v w := by
  intro j hj
  obtain ⟨L, K, hL, hK, -, -, e, -, e1, e2, -⟩ := h.2.1 j hj
  have hc : (nI K).toNatClampNeg = K := cl (by omega)
  rw [e, hc]
  exact ⟨⟨nI_pos (by omega), by omega⟩, e1, e2⟩
/-! bits -/
theorem isIn_1 {s j : Nat} (hs : s < 10) (hj : j < 10) : (F_X5_isIn ((1 : Int32) <<< (nI s &&& 31)) (nI j) = 0 ↔ s ≠ j) :=
  (by decide +kernel : ∀ s, s < 10 → ∀ j, j < 10 → (F_X5_isIn ((1 : Int32) <<< (nI s &&& 31)) (nI j) = 0 ↔ s ≠ j)) s hs j hj
theorem bit_1 {s j : Nat} (hs : s < 10) (hj : j < 10) : ((((1 : Int32) <<< (nI s &&& 31)) >>> (nI j &&& 31)) &&& (1 : Int32) = (1 : Int32) ↔ s = j) :=
  (by decide +kernel : ∀ s, s < 10 → ∀ j, j < 10 → ((((1 : Int32) <<< (nI s &&& 31)) >>> (nI j &&& 31)) &&& (1 : Int32) = (1 : Int32) ↔ s = j)) s hs j hj
theorem setOk {s n : Nat} (hn : n < 10) (hs : s < n) : ¬ ((1 : Int32) <<< (nI s &&& 31)) < 1 ∧ ¬ ((1 : Int32) <<< (nI n &&& 31)) ≤ ((1 : Int32) <<< (nI s &&& 31)) :=
  (by decide +kernel : ∀ n, n < 10 → ∀ s, s < n → ¬ ((1 : Int32) <<< (nI s &&& 31)) < 1 ∧ ¬ ((1 : Int32) <<< (nI n &&& 31)) ≤ ((1 : Int32) <<< (nI s &&& 31))) n hn s hs
theorem setAll {n : Nat} (h1 : 1 ≤ n) (hn : n < 10) : ¬ (((1 : Int32) <<< (nI n &&& 31)) - (1 : Int32)) < 1 ∧ ¬ ((1 : Int32) <<< (nI n &&& 31)) ≤ (((1 : Int32) <<< (nI n &&& 31)) - (1 : Int32)) :=
  (by decide +kernel : ∀ n, n < 10 → 1 ≤ n → ¬ (((1 : Int32) <<< (nI n &&& 31)) - (1 : Int32)) < 1 ∧ ¬ ((1 : Int32) <<< (nI n &&& 31)) ≤ (((1 : Int32) <<< (nI n &&& 31)) - (1 : Int32))) n hn h1
theorem isIn_all {n j : Nat} (hn : n < 10) (hj : j < 10) : (F_X5_isIn (((1 : Int32) <<< (nI n &&& 31)) - (1 : Int32)) (nI j) = 0 ↔ n ≤ j) :=
  (by decide +kernel : ∀ n, n < 10 → ∀ j, j < 10 → (F_X5_isIn (((1 : Int32) <<< (nI n &&& 31)) - (1 : Int32)) (nI j) = 0 ↔ n ≤ j)) n hn j hj
/-- a mask of the first n, one more bit -/
theorem msk_step {n m : Nat} (hn : n < 8) (hm : m < 2 ^ n) : (nI m ||| ((1 : Int32) <<< (nI n &&& 31))) = nI (m + 2 ^ n) ∧ F_J6_bitCount_0f7a4 (nI (m + 2 ^ n)) = F_J6_bitCount_0f7a4 (nI m) + 1 ∧ ∀ i, i < 8 → (F_X5_isIn (nI (m + 2 ^ n)) (nI i) = 0 ↔ (F_X5_isIn (nI m) (nI i) = 0 ∧ i ≠ n)) :=
  (by decide +kernel : ∀ n, n < 8 → ∀ m, m < 2 ^ n → (nI m ||| ((1 : Int32) <<< (nI n &&& 31))) = nI (m + 2 ^ n) ∧ F_J6_bitCount_0f7a4 (nI (m + 2 ^ n)) = F_J6_bitCount_0f7a4 (nI m) + 1 ∧ ∀ i, i < 8 → (F_X5_isIn (nI (m + 2 ^ n)) (nI i) = 0 ↔ (F_X5_isIn (nI m) (nI i) = 0 ∧ i ≠ n))) n hn m hm
theorem msk_0 : F_J6_bitCount_0f7a4 (nI 0) = nI 0 ∧ ∀ i, i < 8 → F_X5_isIn (nI 0) (nI i) = 0 := by decide +kernel
/-- how many of the first n -/
def cnt (P : Nat → Bool) : Nat → Nat
  | 0 => 0
  | n + 1 => if P n = true then cnt P n + 1 else cnt P n
theorem cnt_le {P : Nat → Bool} : ∀ n, cnt P n ≤ n
  | 0 => Nat.le_refl 0
  | n + 1 => by
    have := cnt_le (P := P) n
    unfold cnt
    split <;> omega
theorem cnt_congr {P Q : Nat → Bool} : ∀ n, (∀ i, i < n → P i = Q i) → cnt P n = cnt Q n
  | 0, _ => rfl
  | n + 1, h => by
    have h1 := cnt_congr n (fun i hi => h i (Nat.lt_succ_of_lt hi))
    unfold cnt
    rw [h1, h n (Nat.lt_succ_self n)]
theorem cnt_add {P Q R : Nat → Bool} : ∀ n, (∀ i, i < n → P i = (Q i || R i) ∧ ¬ (Q i = true ∧ R i = true)) → cnt P n = cnt Q n + cnt R n
  | 0, _ => rfl
  | n + 1, h => by
    have h1 := cnt_add n (fun i hi => h i (Nat.lt_succ_of_lt hi))
    obtain ⟨h2, h3⟩ := h n (Nat.lt_succ_self n)
    unfold cnt
    rw [h1, h2]
    cases hq : Q n <;> cases hr : R n
    · simp
    · simp <;> omega
    · simp <;> omega
    · exact absurd ⟨hq, hr⟩ h3
theorem cnt_mono {P Q : Nat → Bool} : ∀ n, (∀ i, i < n → P i = true → Q i = true) → cnt P n ≤ cnt Q n
  | 0, _ => Nat.le_refl 0
  | n + 1, h => by
    have h1 := cnt_mono n (fun i hi => h i (Nat.lt_succ_of_lt hi))
    have h2 := h n (Nat.lt_succ_self n)
    unfold cnt
    by_cases hp : P n = true
    · rw [if_pos hp, if_pos (h2 hp)]; omega
    · rw [if_neg hp]; split <;> omega
/-! what is broken, clouded, worn: of what it speaks -/
def AGS (c : SC) (v v2 : SV) (w w2 : SW) : Prop := (∀ i, i < c 0 → v2 1 i 0 = v 1 i 0 ∧ v2 1 i 3 = v 1 i 3 ∧ v2 1 i 4 = v 1 i 4 ∧ v2 1 i 6 = v 1 i 6 ∧ w2 1 i 0 = w 1 i 0) ∧ (∀ i f, i < c 1 → v2 2 i f = v 2 i f) ∧ (∀ i, i < c 3 → v2 4 i 0 = v 4 i 0 ∧ v2 4 i 1 = v 4 i 1 ∧ w2 4 i 0 = w 4 i 0)
/-- the counts that it speaks of -/
def CC (c c2 : SC) : Prop := c2 0 = c 0 ∧ c2 1 = c 1 ∧ c2 3 = c 3
theorem FL_brokenFrom_congr {c c2 : SC} {v v2 : SV} {w w2 : SW} {x1 : Int32} (hg : ∀ i, i < c 1 → v2 2 i 0 = v 2 i 0 ∧ F_X5_isBroken c2 v2 w2 i = F_X5_isBroken c v w i) : ∀ k i a, i + k = c 1 → FL_X5_brokenFrom c2 v2 w2 x1 k i a = FL_X5_brokenFrom c v w x1 k i a := by
  intro k
  induction k with
  | zero => intro i a _; rfl
  | succ k ih =>
    intro i a hi
    have h1 := hg i (by omega)
    show FL_X5_brokenFrom c2 v2 w2 x1 k (i + 1) _ = FL_X5_brokenFrom c v w x1 k (i + 1) _
    rw [h1.1, h1.2]
    exact ih (i + 1) _ (by omega)
theorem isBroken_congr {c c2 : SC} {v v2 : SV} {w w2 : SW} (hF : WF c v) (hcc : CC c c2) (h : AGS c v v2 w w2) {i : Nat} (hi : i < c 1) : F_X5_isBroken c2 v2 w2 i = F_X5_isBroken c v w i := by
  unfold F_X5_isBroken
  rw [h.2.1 i 1 hi, h.2.1 i 2 hi, (h.1 _ (hF.1 i hi).2).2.2.1]
theorem brokenFrom_congr {c c2 : SC} {v v2 : SV} {w w2 : SW} (hF : WF c v) (hcc : CC c c2) (h : AGS c v v2 w w2) (x1 : Int32) : F_X5_brokenFrom c2 v2 w2 x1 = F_X5_brokenFrom c v w x1 := by
  unfold F_X5_brokenFrom
  rw [hcc.2.1]
  exact FL_brokenFrom_congr (fun i hi => ⟨h.2.1 i 0 hi, isBroken_congr hF hcc h hi⟩) _ _ _ (by omega)
theorem clashRegion_congr {c c2 : SC} {v v2 : SV} {w w2 : SW} (hcc : CC c c2) (h : AGS c v v2 w w2) {i j : Nat} (hi : i < c 0) (hj : j < c 0) (hc : c 0 ≤ 5) : F_X5_clashRegion c2 v2 w2 (nI i) (nI j) = F_X5_clashRegion c v w (nI i) (nI j) := by
  unfold F_X5_clashRegion
  rw [cl (by omega), cl (by omega)]
  obtain ⟨a1, -, -, a4, a5⟩ := h.1 i hi
  obtain ⟨b1, -, -, -, b5⟩ := h.1 j hj
  rw [a1, b1, a4, a5, b5]
theorem cloudsOver_congr {c c2 : SC} {v v2 : SV} {w w2 : SW} (hcc : CC c c2) (h : AGS c v v2 w w2) {i : Nat} (hi : i < c 0) (hc : c 0 ≤ 5) (x2 : Int64) : F_X5_cloudsOver c2 v2 w2 (nI i) x2 = F_X5_cloudsOver c v w (nI i) x2 := by
  have h1 : ∀ k j a, j + k = c 3 → FL_X5_cloudsOver c2 v2 w2 (nI i) x2 k j a = FL_X5_cloudsOver c v w (nI i) x2 k j a := by
    intro k
    induction k with
    | zero => intro j a _; rfl
    | succ k ih =>
      intro j a hj
      obtain ⟨q1, q2, q3⟩ := h.2.2 j (by omega)
      show FL_X5_cloudsOver c2 v2 w2 (nI i) x2 k (j + 1) _ = FL_X5_cloudsOver c v w (nI i) x2 k (j + 1) _
      rw [q1, q2, q3]
      exact ih (j + 1) _ (by omega)
  have h2 : ∀ k j a, j + k = c 0 → FL2_X5_cloudsOver c2 v2 w2 (nI i) x2 k j a = FL2_X5_cloudsOver c v w (nI i) x2 k j a := by
    intro k
    induction k with
    | zero => intro j a _; rfl
    | succ k ih =>
      intro j a hj
      show FL2_X5_cloudsOver c2 v2 w2 (nI i) x2 k (j + 1) _ = FL2_X5_cloudsOver c v w (nI i) x2 k (j + 1) _
      rw [clashRegion_congr hcc h hi (by omega : j < c 0) hc]
      exact ih (j + 1) _ (by omega)
  unfold F_X5_cloudsOver
  rw [hcc.1, hcc.2.2]
  rw [h1 _ _ _ (by omega), h2 _ _ _ (by omega)]
/-- good stays good: what a package's sheet is judged by is the same, and its marks are no more -/
theorem wrongWith_good {c c2 : SC} {v v2 : SV} {w w2 : SW} (hF : WF c v) (hcc : CC c c2) (h : AGS c v v2 w w2) (hc : c 0 ≤ 5) {i j : Nat} {row row2 : Nat → Int32} (hj : j < c 0) (hw : w2 7 i 0 = w 7 i 0) (hr : row2 j = row j) (hm : v 1 j 5 < 3 → v2 1 j 5 < 3) (h0 : F_X5_wrongWith c v w i row (nI j) = 0) : F_X5_wrongWith c2 v2 w2 i row2 (nI j) = 0 := by
  unfold F_X5_wrongWith at h0 ⊢
  rw [cl (by omega)] at h0 ⊢
  rw [(h.1 j hj).2.1, hr, brokenFrom_congr hF hcc h, hw, cloudsOver_congr hcc h hj hc]
  by_cases p1 : v 1 j 3 = (-1 : Int32)
  · rw [if_pos p1] at h0
    exact absurd h0 (by decide)
  · rw [if_neg p1] at h0 ⊢
    by_cases p2 : row j = v 1 j 3
    · rw [if_pos p2] at h0 ⊢
      by_cases p3 : F_X5_brokenFrom c v w (nI j) ≤ 0
      · rw [if_pos p3] at h0 ⊢
        by_cases p4 : F_X5_cloudsOver c v w (nI j) (w 7 i 0) ≤ 0
        · rw [if_pos p4] at h0 ⊢
          by_cases p5 : v 1 j 5 < (3 : Int32)
          · rw [if_pos (hm p5)]
          · rw [if_neg p5] at h0
            exact absurd h0 (by decide)
        · rw [if_neg p4] at h0
          exact absurd h0 (by decide)
      · rw [if_neg p3] at h0
        exact absurd h0 (by decide)
    · rw [if_neg p2] at h0
      exact absurd h0 (by decide)
theorem FL_firstUnfit_iff {c : SC} {v : SV} {w : SW} {i : Nat} {row : Nat → Int32} (hc : c 0 ≤ 5) : ∀ k j, j + k = c 0 → (FL_X5_firstUnfit c v w i row k j = -1 ↔ ∀ q, j ≤ q → q < c 0 → F_X5_isIn (v 7 i 1) (nI q) = 0 ∨ F_X5_wrongWith c v w i row (nI q) = 0) := by
  intro k
  induction k with
  | zero => intro j hj; exact ⟨fun _ q h1 h2 => absurd h2 (by omega), fun _ => rfl⟩
  | succ k ih =>
    intro j hj
    have h1 := ih (j + 1) (by omega)
    have hne : ¬ nI j = -1 := ne_m1 (nI_pos (by omega))
    have e : FL_X5_firstUnfit c v w i row (k + 1) j = (if (F_X5_isIn (v 7 i 1) (nI j)) = 0 then (FL_X5_firstUnfit c v w i row k (j + 1)) else (if (F_X5_wrongWith c v w i row (nI j)) = 0 then (FL_X5_firstUnfit c v w i row k (j + 1)) else (nI j))) := rfl
    rw [e]
    by_cases a : F_X5_isIn (v 7 i 1) (nI j) = 0
    · rw [if_pos a, h1]
      refine ⟨fun h q hq hq2 => ?_, fun h q hq hq2 => h q (by omega) hq2⟩
      rcases Nat.eq_or_lt_of_le hq with rfl | hlt
      · exact Or.inl a
      · exact h q (by omega) hq2
    · rw [if_neg a]
      by_cases b : F_X5_wrongWith c v w i row (nI j) = 0
      · rw [if_pos b, h1]
        refine ⟨fun h q hq hq2 => ?_, fun h q hq hq2 => h q (by omega) hq2⟩
        rcases Nat.eq_or_lt_of_le hq with rfl | hlt
        · exact Or.inr b
        · exact h q (by omega) hq2
      · rw [if_neg b]
        refine ⟨fun h => absurd h hne, fun h => ?_⟩
        rcases h j (Nat.le_refl j) (by omega) with h2 | h2
        · exact absurd h2 a
        · exact absurd h2 b
theorem firstUnfit_iff {c : SC} {v : SV} {w : SW} {i : Nat} {row : Nat → Int32} (hc : c 0 ≤ 5) : F_X5_firstUnfit c v w i row = -1 ↔ ∀ q, q < c 0 → F_X5_isIn (v 7 i 1) (nI q) = 0 ∨ F_X5_wrongWith c v w i row (nI q) = 0 := by
  unfold F_X5_firstUnfit
  rw [FL_firstUnfit_iff hc (c 0) 0 (by omega)]
  exact ⟨fun h q hq => h q (Nat.zero_le q) hq, fun h q _ hq => h q hq⟩
theorem firstUnfit_good {c c2 : SC} {v v2 : SV} {w w2 : SW} (hF : WF c v) (hcc : CC c c2) (h : AGS c v v2 w w2) (hc : c 0 ≤ 5) {i : Nat} {row row2 : Nat → Int32} (hp : v2 7 i 1 = v 7 i 1) (hw : w2 7 i 0 = w 7 i 0) (hr : ∀ j, j < c 0 → row2 j = row j) (hm : ∀ j, j < c 0 → v 1 j 5 < 3 → v2 1 j 5 < 3) (h0 : F_X5_firstUnfit c v w i row = -1) : F_X5_firstUnfit c2 v2 w2 i row2 = -1 := by
  rw [firstUnfit_iff hc] at h0
  rw [firstUnfit_iff (by rw [hcc.1]; exact hc)]
  intro q hq
  rw [hcc.1] at hq
  rw [hp]
  exact (h0 q hq).imp id (fun h1 => wrongWith_good hF hcc h hc hq hw (hr q hq) (hm q hq) h1)
/-- the same both ways, where the marks are the same -/
theorem firstUnfit_same {c : SC} {v v2 : SV} {w w2 : SW} (hF : WF c v) (hF2 : WF c v2) (h : AGS c v v2 w w2) (hc : c 0 ≤ 5) {i : Nat} {row row2 : Nat → Int32} (hp : v2 7 i 1 = v 7 i 1) (hw : w2 7 i 0 = w 7 i 0) (hr : ∀ j, j < c 0 → row2 j = row j) (hm : ∀ j, j < c 0 → v2 1 j 5 = v 1 j 5) : F_X5_firstUnfit c v2 w2 i row2 = -1 ↔ F_X5_firstUnfit c v w i row = -1 := by
  refine ⟨fun h0 => ?_, fun h0 => firstUnfit_good hF ⟨rfl, rfl, rfl⟩ h hc hp hw hr (fun j hj hlt => by rw [hm j hj]; exact hlt) h0⟩
  have h2 : AGS c v2 v w2 w := ⟨fun i hi => by obtain ⟨a, b, d, e, f⟩ := h.1 i hi; exact ⟨a.symm, b.symm, d.symm, e.symm, f.symm⟩, fun i f hi => (h.2.1 i f hi).symm, fun i hi => by obtain ⟨a, b, d⟩ := h.2.2 i hi; exact ⟨a.symm, b.symm, d.symm⟩⟩
  exact firstUnfit_good hF2 ⟨rfl, rfl, rfl⟩ h2 hc hp.symm hw.symm (fun j hj => (hr j hj).symm) (fun j hj hlt => by rw [← hm j hj]; exact hlt) h0
/-! stopping -/
def UNF (c : SC) (v : SV) (w : SW) (i : Nat) : Bool := decide (v 7 i 3 = 1) && !decide (F_X5_firstUnfit c v w i (v 57 (v 7 i 0).toNatClampNeg) = -1)
theorem UNF_iff {c : SC} {v : SV} {w : SW} {i : Nat} : UNF c v w i = true ↔ v 7 i 3 = 1 ∧ ¬ F_X5_firstUnfit c v w i (v 57 (v 7 i 0).toNatClampNeg) = -1 := by
  unfold UNF
  simp
theorem unfit_mask {c : SC} {v : SV} {w : SW} (hc : c 4 ≤ 8) : ∃ m, m < 2 ^ (c 4) ∧ F_X5_unfitRunning c v w = nI m ∧ F_J6_bitCount_0f7a4 (nI m) = nI (cnt (UNF c v w) (c 4)) ∧ ∀ j, j < 8 → (F_X5_isIn (nI m) (nI j) = 0 ↔ ¬ (j < c 4 ∧ UNF c v w j = true)) := by
  have key : ∀ k i m, i + k = c 4 → m < 2 ^ i → F_J6_bitCount_0f7a4 (nI m) = nI (cnt (UNF c v w) i) → (∀ j, j < 8 → (F_X5_isIn (nI m) (nI j) = 0 ↔ ¬ (j < i ∧ UNF c v w j = true))) →
      ∃ m2, m2 < 2 ^ (c 4) ∧ FL_X5_unfitRunning c v w k i (nI m) = nI m2 ∧ F_J6_bitCount_0f7a4 (nI m2) = nI (cnt (UNF c v w) (c 4)) ∧ ∀ j, j < 8 → (F_X5_isIn (nI m2) (nI j) = 0 ↔ ¬ (j < c 4 ∧ UNF c v w j = true)) := by
    intro k
    induction k with
    | zero =>
      intro i m hi hm hb hj
      obtain rfl : i = c 4 := by omega
      exact ⟨m, hm, rfl, hb, hj⟩
    | succ k ih =>
      intro i m hi hm hb hj
      have hp : 2 ^ i < 2 ^ (i + 1) := Nat.pow_lt_pow_right (by decide) (Nat.lt_succ_self i)
      have hp2 : 2 ^ (i + 1) = 2 ^ i + 2 ^ i := by rw [Nat.pow_succ]; omega
      by_cases hu : UNF c v w i = true
      · obtain ⟨e1, e2, e3⟩ := msk_step (n := i) (m := m) (by omega) hm
        have e4 : FL_X5_unfitRunning c v w (k + 1) i (nI m) = FL_X5_unfitRunning c v w k (i + 1) (nI (m + 2 ^ i)) := by
          show FL_X5_unfitRunning c v w k (i + 1) _ = _
          rw [if_pos (UNF_iff.mp hu).1, if_neg (UNF_iff.mp hu).2, e1]
        rw [e4]
        refine ih (i + 1) (m + 2 ^ i) (by omega) (by omega) ?_ (fun j hj8 => ?_)
        · rw [e2, hb, nI_1]
          show _ = nI (if UNF c v w i = true then cnt (UNF c v w) i + 1 else cnt (UNF c v w) i)
          rw [if_pos hu]
        · rw [e3 j hj8, hj j hj8]
          constructor
          · rintro ⟨h1, h2⟩ ⟨h3, h4⟩
            exact h1 ⟨by omega, h4⟩
          · intro h1
            refine ⟨fun h2 => h1 ⟨by omega, h2.2⟩, fun h2 => h1 ⟨by omega, h2 ▸ hu⟩⟩
      · have e4 : FL_X5_unfitRunning c v w (k + 1) i (nI m) = FL_X5_unfitRunning c v w k (i + 1) (nI m) := by
          show FL_X5_unfitRunning c v w k (i + 1) _ = _
          by_cases h1 : v 7 i 3 = 1
          · rw [if_pos h1]
            by_cases h2 : F_X5_firstUnfit c v w i (v 57 (v 7 i 0).toNatClampNeg) = -1
            · rw [if_pos h2]
            · exact absurd (UNF_iff.mpr ⟨h1, h2⟩) hu
          · rw [if_neg h1]
        rw [e4]
        refine ih (i + 1) m (by omega) (by omega) ?_ (fun j hj8 => ?_)
        · rw [hb]
          show _ = nI (if UNF c v w i = true then cnt (UNF c v w) i + 1 else cnt (UNF c v w) i)
          rw [if_neg hu]
        · rw [hj j hj8]
          constructor
          · rintro h1 ⟨h3, h4⟩
            rcases Nat.lt_or_ge j i with h5 | h5
            · exact h1 ⟨h5, h4⟩
            · obtain rfl : j = i := by omega
              exact hu h4
          · rintro h1 ⟨h3, h4⟩
            exact h1 ⟨by omega, h4⟩
  exact key (c 4) 0 0 (by omega) (by decide) (by rw [msk_0.1]; rfl) (fun j hj => ⟨fun _ h => absurd h.1 (by omega), fun _ => msk_0.2 j hj⟩)
theorem mask_in {c : SC} {v : SV} {w : SW} (hc : c 4 ≤ 8) {j : Nat} (hj : j < c 4) : F_X5_isIn (F_X5_unfitRunning c v w) (nI j) = 0 ↔ ¬ UNF c v w j = true := by
  obtain ⟨m, -, e, -, h⟩ := unfit_mask (c := c) (v := v) (w := w) hc
  rw [e, h j (by omega)]
  exact ⟨fun q h2 => q ⟨hj, h2⟩, fun q h2 => q h2.2⟩
theorem stop_count {c : SC} {v : SV} {w : SW} (hc : c 4 ≤ 8) : F_X5_stopUnfit c v w = nI (cnt (UNF c v w) (c 4)) := by
  obtain ⟨m, -, e, e2, -⟩ := unfit_mask (c := c) (v := v) (w := w) hc
  unfold F_X5_stopUnfit
  rw [e, e2]
theorem VL_stop {c : SC} {v : SV} {w : SW} (hc : c 4 ≤ 8) : ∀ (k i : Nat) (V : SV), i + k = c 4 → (∀ a b f, ¬ (a = 7 ∧ (f = 3 ∨ f = 4)) → VL_X5_stopUnfit c v w k i V a b f = V a b f) ∧ ∀ j, VL_X5_stopUnfit c v w k i V 7 j 3 = if i ≤ j ∧ j < c 4 ∧ UNF c v w j = true then 2 else V 7 j 3 := by
  intro k
  induction k with
  | zero =>
    intro i V hi
    refine ⟨fun _ _ _ _ => rfl, fun j => ?_⟩
    rw [if_neg (by omega)]
    rfl
  | succ k ih =>
    intro i V hi
    have hm := mask_in (c := c) (v := v) (w := w) hc (j := i) (by omega)
    by_cases hu : UNF c v w i = true
    · have e : VL_X5_stopUnfit c v w (k + 1) i V = VL_X5_stopUnfit c v w k (i + 1) (uV (uV V 7 i 3 2) 7 i 4 ((V 7 i 4) + (1 : Int32))) := by
        show VL_X5_stopUnfit c v w k (i + 1) _ = _
        rw [if_neg (fun q => hm.mp q hu)]
      rw [e]
      obtain ⟨h1, h2⟩ := ih (i + 1) (uV (uV V 7 i 3 2) 7 i 4 ((V 7 i 4) + (1 : Int32))) (by omega)
      refine ⟨fun a b f h => ?_, fun j => ?_⟩
      · rw [h1 a b f h]
        have e1 : ¬ (a = 7 ∧ f = 4 ∧ b = i) := fun q => h ⟨q.1, Or.inr q.2.1⟩
        have e2 : ¬ (a = 7 ∧ f = 3 ∧ b = i) := fun q => h ⟨q.1, Or.inl q.2.1⟩
        simp only [uV, if_neg e1, if_neg e2]
      · rw [h2 j]
        by_cases hj : j = i
        · subst hj
          rw [if_neg (by omega), if_pos ⟨Nat.le_refl j, by omega, hu⟩]
          simp [uV]
        · have e3 : uV (uV V 7 i 3 2) 7 i 4 ((V 7 i 4) + (1 : Int32)) 7 j 3 = V 7 j 3 := by simp [uV, hj]
          rw [e3]
          by_cases h5 : i + 1 ≤ j ∧ j < c 4 ∧ UNF c v w j = true
          · rw [if_pos h5, if_pos ⟨by omega, h5.2⟩]
          · rw [if_neg h5, if_neg (fun q => h5 ⟨by omega, q.2⟩)]
    · have e : VL_X5_stopUnfit c v w (k + 1) i V = VL_X5_stopUnfit c v w k (i + 1) V := by
        show VL_X5_stopUnfit c v w k (i + 1) _ = _
        rw [if_pos (hm.mpr hu)]
      rw [e]
      obtain ⟨h1, h2⟩ := ih (i + 1) V (by omega)
      refine ⟨h1, fun j => ?_⟩
      rw [h2 j]
      by_cases h5 : i + 1 ≤ j ∧ j < c 4 ∧ UNF c v w j = true
      · rw [if_pos h5, if_pos ⟨by omega, h5.2⟩]
      · have h6 : ¬ (i ≤ j ∧ j < c 4 ∧ UNF c v w j = true) := by
          rintro ⟨q1, q2, q3⟩
          rcases Nat.eq_or_lt_of_le q1 with rfl | hlt
          · exact hu q3
          · exact h5 ⟨hlt, q2, q3⟩
        rw [if_neg h5, if_neg h6]
theorem stop_frame {c : SC} {v : SV} {w : SW} (hc : c 4 ≤ 8) {a b f : Nat} (h : ¬ (a = 7 ∧ (f = 3 ∨ f = 4))) : V_X5_stopUnfit c v w a b f = v a b f := (VL_stop (c := c) (v := v) (w := w) hc (c 4) 0 v (by omega)).1 a b f h
theorem stop_state {c : SC} {v : SV} {w : SW} (hc : c 4 ≤ 8) {j : Nat} (hj : j < c 4) : V_X5_stopUnfit c v w 7 j 3 = if UNF c v w j = true then 2 else v 7 j 3 := by
  have h := (VL_stop (c := c) (v := v) (w := w) hc (c 4) 0 v (by omega)).2 j
  rw [show V_X5_stopUnfit c v w 7 j 3 = VL_X5_stopUnfit c v w (c 4) 0 v 7 j 3 from rfl, h]
  by_cases hu : UNF c v w j = true
  · rw [if_pos ⟨Nat.zero_le j, hj, hu⟩, if_pos hu]
  · rw [if_neg (fun q => hu q.2.2), if_neg hu]
/-- as INV, but for that what works is good -/
def PKG0 (c : SC) (v : SV) (i : Nat) : Prop := ∃ cr s d st : Nat, cr < 4 ∧ s < c 0 ∧ d ≤ 4 ∧ st ≤ 3 ∧ v 7 i 0 = nI cr ∧ v 7 i 1 = (1 : Int32) <<< (nI s &&& 31) ∧ v 7 i 2 = nI d ∧ v 7 i 3 = nI st ∧ (st = 3 ↔ d = 0)
def INV0 (c : SC) (v : SV) (w : SW) : Prop := (c 0 ≤ 5 ∧ c 1 ≤ 20 ∧ c 2 ≤ 20 ∧ c 3 ≤ 20 ∧ c 4 ≤ 8) ∧ (∀ i, i < c 0 → SHT v w i) ∧ (∀ i, i < c 1 → ∃ t, t < c 0 ∧ v 2 i 1 = nI t) ∧ (∀ i, i < c 3 → v 4 i 1 = 0) ∧ ∀ i, i < c 4 → PKG0 c v i
theorem INV_0 {c : SC} {v : SV} {w : SW} (h : INV c v w) : INV0 c v w := by
  obtain ⟨h1, h2, h3, h4, h5⟩ := h
  refine ⟨h1, h2, h3, h4, fun i hi => ?_⟩
  obtain ⟨cr, s, d, st, a1, a2, a3, a4, a5, a6, a7, a8, a9, -⟩ := h5 i hi
  exact ⟨cr, s, d, st, a1, a2, a3, a4, a5, a6, a7, a8, a9⟩
theorem INV0_wf {c : SC} {v : SV} {w : SW} (h : INV0 c v w) : WF c v := by
  obtain ⟨⟨h0, h1, h2, h3, h4⟩, hs, hr, hq, hp⟩ := h
  refine ⟨fun i hi => ?_, fun i hi => ?_, fun i hi => ?_⟩
  · obtain ⟨t, ht, e⟩ := hr i hi
    rw [e]
    exact ⟨nI_pos (by omega), by rw [cl (by omega)]; exact ht⟩
  · obtain ⟨cr, s, d, st, hcr, -, -, -, e, -⟩ := hp i hi
    rw [e]
    exact ⟨nI_pos (by omega), by rw [cl (by omega)]; exact hcr⟩
  · obtain ⟨L, K, hL, -, -, e, -⟩ := hs i hi
    rw [e]
    exact ⟨nI_pos (by omega), by rw [cl (by omega)]; omega⟩
/-- a sheet is the same where its fields are -/
theorem SHT_same {v v2 : SV} {w w2 : SW} {i : Nat} (h : SHT v w i) (h1 : v2 1 i 1 = v 1 i 1) (h3 : v2 1 i 3 = v 1 i 3) (h6 : v2 1 i 6 = v 1 i 6) (h4 : v2 1 i 4 = v 1 i 4) (h12 : ∀ r, v2 12 i r = v 12 i r) (hw : w2 1 i 0 = w 1 i 0) (hw11 : ∀ r, w2 11 i r = w 11 i r) : SHT v2 w2 i := by
  obtain ⟨L, K, a1, a2, a3, a4, a5, a6, a7, a8, a9⟩ := h
  refine ⟨L, K, a1, a2, a3, h1.trans a4, h3.trans a5, h6.trans a6, ?_, ?_, fun r hr => ?_⟩
  · rw [hw, hw11]; exact a7
  · rw [h4, h12]; exact a8
  · rw [hw11]; exact a9 r hr
theorem AGS_rfl {c : SC} {v v2 : SV} {w w2 : SW} (h1 : ∀ i f, v2 1 i f = v 1 i f ∨ (f ≠ 0 ∧ f ≠ 3 ∧ f ≠ 4 ∧ f ≠ 6)) (h2 : ∀ i f, v2 2 i f = v 2 i f) (h4 : ∀ i f, i < c 3 → v2 4 i f = v 4 i f) (w1 : ∀ i, w2 1 i 0 = w 1 i 0) (w4 : ∀ i, i < c 3 → w2 4 i 0 = w 4 i 0) : AGS c v v2 w w2 :=
  ⟨fun i _ => ⟨(h1 i 0).elim id (fun q => absurd rfl q.1), (h1 i 3).elim id (fun q => absurd rfl q.2.1), (h1 i 4).elim id (fun q => absurd rfl q.2.2.1), (h1 i 6).elim id (fun q => absurd rfl q.2.2.2), w1 i⟩, fun i f _ => h2 i f, fun i hi => ⟨h4 i 0 hi, h4 i 1 hi, w4 i hi⟩⟩
theorem INV_stop {c : SC} {v : SV} {w : SW} (h : INV0 c v w) : INV c (V_X5_stopUnfit c v w) w := by
  have hF := INV0_wf h
  obtain ⟨⟨h0, h1, h2, h3, h4⟩, hs, hr, hq, hp⟩ := h
  have fr : ∀ a b f, ¬ (a = 7 ∧ (f = 3 ∨ f = 4)) → V_X5_stopUnfit c v w a b f = v a b f := fun a b f h => stop_frame h4 h
  refine ⟨⟨h0, h1, h2, h3, h4⟩, fun i hi => ?_, fun i hi => ?_, fun i hi => ?_, fun i hi => ?_⟩
  · exact SHT_same (hs i hi) (fr _ _ _ (by omega)) (fr _ _ _ (by omega)) (fr _ _ _ (by omega)) (fr _ _ _ (by omega)) (fun r => fr _ _ _ (by omega)) rfl (fun _ => rfl)
  · rw [fr _ _ _ (by omega)]; exact hr i hi
  · rw [fr _ _ _ (by omega)]; exact hq i hi
  · obtain ⟨cr, s, d, st, a1, a2, a3, a4, a5, a6, a7, a8, a9⟩ := hp i hi
    have hst := stop_state (c := c) (v := v) (w := w) h4 hi
    by_cases hu : UNF c v w i = true
    · rw [if_pos hu] at hst
      have h8 := (UNF_iff.mp hu).1
      have hst1 : st = 1 := by
        rw [a8] at h8
        exact (nI_eq (by omega) (by omega)).mp (show nI st = nI 1 from h8)
      refine ⟨cr, s, d, 2, a1, a2, a3, by omega, by rw [fr _ _ _ (by omega)]; exact a5, by rw [fr _ _ _ (by omega)]; exact a6, by rw [fr _ _ _ (by omega)]; exact a7, hst, ⟨fun q => absurd q (by omega), fun q => ?_⟩, fun q => absurd q (by omega)⟩
      have := a9.mpr q
      omega
    · rw [if_neg hu] at hst
      refine ⟨cr, s, d, st, a1, a2, a3, a4, by rw [fr _ _ _ (by omega)]; exact a5, by rw [fr _ _ _ (by omega)]; exact a6, by rw [fr _ _ _ (by omega)]; exact a7, hst.trans a8, a9, fun q => ?_⟩
      subst q
      have h9 : F_X5_firstUnfit c v w i (v 57 (v 7 i 0).toNatClampNeg) = -1 := by
        by_cases hx : F_X5_firstUnfit c v w i (v 57 (v 7 i 0).toNatClampNeg) = -1
        · exact hx
        · exact absurd (UNF_iff.mpr ⟨a8, hx⟩) hu
      rw [a5, cl (by omega)] at h9
      exact firstUnfit_good hF ⟨rfl, rfl, rfl⟩ (AGS_rfl (fun i f => Or.inl (fr _ _ _ (by omega))) (fun i f => fr _ _ _ (by omega)) (fun i f _ => fr _ _ _ (by omega)) (fun _ => rfl) (fun _ _ => rfl)) h0 (fr _ _ _ (by omega)) rfl (fun j _ => fr _ _ _ (by omega)) (fun j _ hlt => by rw [fr _ _ _ (by omega)]; exact hlt) h9
/-! how many packages are in a state -/
def IS (v : SV) (st : Int32) (i : Nat) : Bool := decide (v 7 i 3 = st)
theorem packs_cnt {c : SC} {v : SV} {w : SW} (x1 : Int32) : F_X5_packagesThatAre c v w x1 = nI (cnt (IS v x1) (c 4)) := by
  have key : ∀ k i, i + k = c 4 → FL_X5_packagesThatAre c v w x1 k i (nI (cnt (IS v x1) i)) = nI (cnt (IS v x1) (c 4)) := by
    intro k
    induction k with
    | zero =>
      intro i hi
      obtain rfl : i = c 4 := by omega
      rfl
    | succ k ih =>
      intro i hi
      rw [← ih (i + 1) (by omega)]
      show FL_X5_packagesThatAre c v w x1 k (i + 1) _ = FL_X5_packagesThatAre c v w x1 k (i + 1) _
      congr 1
      show _ = nI (if IS v x1 i = true then cnt (IS v x1) i + 1 else cnt (IS v x1) i)
      by_cases h : v 7 i 3 = x1
      · rw [if_pos h, if_pos (by unfold IS; simp [h]), nI_1]
      · rw [if_neg h, if_neg (by unfold IS; simp [h])]
  exact key (c 4) 0 (by omega)
theorem states_all {c : SC} {v : SV} {w : SW} (h : INV c v w) : F_X5_many8 c v w + F_X5_many9 c v w + F_X5_many10 c v w + F_X5_many11 c v w = nI (c 4) := by
  unfold F_X5_many8 F_X5_many9 F_X5_many10 F_X5_many11
  rw [packs_cnt, packs_cnt, packs_cnt, packs_cnt, nI_add, nI_add, nI_add]
  congr 1
  have key : ∀ n, n ≤ c 4 → cnt (IS v 0) n + cnt (IS v 1) n + cnt (IS v 2) n + cnt (IS v 3) n = n := by
    intro n
    induction n with
    | zero => intro _; rfl
    | succ n ih =>
      intro hn
      have h1 := ih (by omega)
      obtain ⟨cr, s, d, st, -, -, -, a4, -, -, -, a8, -⟩ := h.2.2.2.2 n (by omega)
      have hst : v 7 n 3 = 0 ∨ v 7 n 3 = 1 ∨ v 7 n 3 = 2 ∨ v 7 n 3 = 3 := by
        rw [a8]
        rcases (show st = 0 ∨ st = 1 ∨ st = 2 ∨ st = 3 by omega) with rfl | rfl | rfl | rfl
        · exact Or.inl rfl
        · exact Or.inr (Or.inl rfl)
        · exact Or.inr (Or.inr (Or.inl rfl))
        · exact Or.inr (Or.inr (Or.inr rfl))
      unfold cnt
      rcases hst with e | e | e | e
      · rw [if_pos (by simp [IS, e]), if_neg (by simp [IS, e]), if_neg (by simp [IS, e]), if_neg (by simp [IS, e])]; omega
      · rw [if_neg (by simp [IS, e]), if_pos (by simp [IS, e]), if_neg (by simp [IS, e]), if_neg (by simp [IS, e])]; omega
      · rw [if_neg (by simp [IS, e]), if_neg (by simp [IS, e]), if_pos (by simp [IS, e]), if_neg (by simp [IS, e])]; omega
      · rw [if_neg (by simp [IS, e]), if_neg (by simp [IS, e]), if_neg (by simp [IS, e]), if_pos (by simp [IS, e])]; omega
  exact key (c 4) (Nat.le_refl _)
/-! the single calls -/
theorem INV_check {c : SC} {v : SV} {w : SW} (h : INV c v w) {s : Nat} (hs : s < c 0) : INV c (V_X5_check c v w (nI s)) w := by
  have hF := INV_wf h
  obtain ⟨hb, hsh, hr, hq, hp⟩ := h
  have hc : (nI s).toNatClampNeg = s := cl (by omega)
  unfold V_X5_check
  rw [hc]
  have e1 : ∀ i f, f ≠ 2 → uV v 1 s 2 1 1 i f = v 1 i f := fun i f hf => uV_f hf
  refine ⟨hb, fun i hi => SHT_same (hsh i hi) (e1 _ _ (by decide)) (e1 _ _ (by decide)) (e1 _ _ (by decide)) (e1 _ _ (by decide)) (fun _ => rfl) rfl (fun _ => rfl), hr, hq, fun i hi => ?_⟩
  obtain ⟨cr, s2, d, st, a1, a2, a3, a4, a5, a6, a7, a8, a9, a10⟩ := hp i hi
  exact ⟨cr, s2, d, st, a1, a2, a3, a4, a5, a6, a7, a8, a9, fun q => firstUnfit_good (c2 := c) (v2 := uV v 1 s 2 1) (w2 := w) (row2 := uV v 1 s 2 1 57 cr) hF ⟨rfl, rfl, rfl⟩ (AGS_rfl (fun i f => by by_cases hf : f = 2; exact Or.inr (by omega); exact Or.inl (e1 i f hf)) (fun _ _ => rfl) (fun _ _ _ => rfl) (fun _ => rfl) (fun _ _ => rfl)) hb.1 rfl rfl (fun _ _ => rfl) (fun j _ hlt => by rw [e1 j 5 (by decide)]; exact hlt) (a10 q)⟩
theorem check_ans {c : SC} {v : SV} {w : SW} (h : INV c v w) {s : Nat} (hs : s < c 0) : F_X5_check c v w (nI s) = F_X5_ofSheet7 c (V_X5_check c v w (nI s)) w (nI s) := by
  unfold F_X5_check F_X5_ofSheet7 V_X5_check
  rfl
theorem closePromised_id {c : SC} {v : SV} {w : SW} {x1 : Int32} (h : ∀ i, i < c 3 → v 4 i 1 = 0) : V_X5_closePromised c v w x1 = v := by
  have key : ∀ k i, i + k = c 3 → VL_X5_closePromised c v w x1 k i v = v := by
    intro k
    induction k with
    | zero => intro i _; rfl
    | succ k ih =>
      intro i hi
      show VL_X5_closePromised c v w x1 k (i + 1) _ = v
      have e : (if (v 4 i 0) = x1 then (if (v 4 i 1) = (1 : Int32) then (uV v 4 i 1 2) else v) else v) = v := by
        rw [h i (by omega), if_neg (show ¬ (0 : Int32) = 1 by decide)]
        split <;> rfl
      rw [e]
      exact ih (i + 1) (by omega)
  exact key (c 3) 0 (by omega)
/-- issued: by the sheet's own last revision, then what must stop is stopped -/
theorem INV0_set {c : SC} {v : SV} {w : SW} (h : INV c v w) {s : Nat} (hs : s < c 0) : INV0 c (V_X3_setIssued c v w s (v 1 s 1)) (W_X3_setIssued c v w s (v 1 s 1)) := by
  obtain ⟨hb, hsh, hr, hq, hp⟩ := INV_0 h
  refine ⟨hb, fun i hi => ?_, hr, hq, hp⟩
  by_cases e : i = s
  · subst e
    obtain ⟨L, K, a1, a2, a3, a4, a5, a6, a7, a8, a9⟩ := hsh i hi
    have hc : (v 1 i 1).toNatClampNeg = L := by rw [a4]; exact cl (by omega)
    refine ⟨L, L, a1, Nat.le_refl L, Nat.le_succ L, ?_, ?_, ?_, ?_, ?_, fun r hr => ?_⟩
    · show V_X3_setIssued c v w i (v 1 i 1) 1 i 1 = nI L
      exact (uV_f (by decide)).trans ((uV_f (by decide)).trans a4)
    · show V_X3_setIssued c v w i (v 1 i 1) 1 i 3 = nI L
      exact (uV_f (by decide)).trans (uV_eq.trans a4)
    · show V_X3_setIssued c v w i (v 1 i 1) 1 i 6 = 0
      exact (uV_f (by decide)).trans ((uV_f (by decide)).trans a6)
    · show W_X3_setIssued c v w i (v 1 i 1) 1 i 0 = W_X3_setIssued c v w i (v 1 i 1) 11 i L
      rw [show W_X3_setIssued c v w i (v 1 i 1) 1 i 0 = w 11 i (v 1 i 1).toNatClampNeg from uW_eq, hc]
      rfl
    · show V_X3_setIssued c v w i (v 1 i 1) 1 i 4 = V_X3_setIssued c v w i (v 1 i 1) 12 i L
      rw [show V_X3_setIssued c v w i (v 1 i 1) 1 i 4 = v 12 i (v 1 i 1).toNatClampNeg from uV_eq, hc]
      rfl
    · exact a9 r hr
  · have e1 : ∀ f, V_X3_setIssued c v w s (v 1 s 1) 1 i f = v 1 i f := fun f => (uV_ne (fun q => e q.2)).trans (uV_ne (fun q => e q.2))
    have e2 : ∀ f, W_X3_setIssued c v w s (v 1 s 1) 1 i f = w 1 i f := fun f => uW_ne (fun q => e q.2)
    exact SHT_same (hsh i hi) (e1 _) (e1 _) (e1 _) (e1 _) (fun _ => rfl) (e2 _) (fun _ => rfl)
theorem issue_eqs {c : SC} {v : SV} {w : SW} (h : INV c v w) {s : Nat} (hs : s < c 0) : V_X5_issue c v w (nI s) = V_X5_stopUnfit c (V_X3_setIssued c v w s (v 1 s 1)) (W_X3_setIssued c v w s (v 1 s 1)) ∧ W_X5_issue c v w (nI s) = W_X3_setIssued c v w s (v 1 s 1) ∧ F_X5_issue c v w (nI s) = F_X5_stopUnfit c (V_X3_setIssued c v w s (v 1 s 1)) (W_X3_setIssued c v w s (v 1 s 1)) := by
  have hc : (nI s).toNatClampNeg = s := cl (by have := h.1; omega)
  have e := closePromised_id (c := c) (v := V_X3_setIssued c v w s (v 1 s 1)) (w := W_X3_setIssued c v w s (v 1 s 1)) (x1 := nI s) h.2.2.2.1
  unfold V_X5_issue W_X5_issue F_X5_issue
  rw [hc, e]
  exact ⟨rfl, rfl, rfl⟩
theorem INV_issue {c : SC} {v : SV} {w : SW} (h : INV c v w) {s : Nat} (hs : s < c 0) : INV c (V_X5_issue c v w (nI s)) (W_X5_issue c v w (nI s)) := by
  obtain ⟨e1, e2, -⟩ := issue_eqs h hs
  rw [e1, e2]
  exact INV_stop (INV0_set h hs)
/-- what issue answers is what stoppedBy said, and so many more are stopped -/
theorem issue_ans {c : SC} {v : SV} {w : SW} (h : INV c v w) {s : Nat} (hs : s < c 0) (hr : ¬ F_X5_isReadyToIssue c v w (nI s) = 0) : F_X5_issue c v w (nI s) = F_X5_stoppedBy c v w (nI s) := by
  obtain ⟨-, -, e3⟩ := issue_eqs h hs
  have hc : (nI s).toNatClampNeg = s := cl (by have := h.1; omega)
  rw [e3]
  unfold F_X5_stoppedBy F_X5_stopUnfit
  rw [if_neg hr, hc]
theorem stop_many {c : SC} {v : SV} {w : SW} (hc : c 4 ≤ 8) : F_X5_many10 c (V_X5_stopUnfit c v w) w = F_X5_many10 c v w + F_X5_stopUnfit c v w := by
  unfold F_X5_many10
  rw [packs_cnt, packs_cnt, stop_count hc, nI_add]
  congr 1
  refine cnt_add (c 4) (fun i hi => ⟨?_, ?_⟩)
  · unfold IS
    rw [stop_state hc hi]
    cases hu : UNF c v w i
    · simp
    · simp
  · rintro ⟨h1, h2⟩
    have h3 := (UNF_iff.mp h2).1
    unfold IS at h1
    rw [h3] at h1
    exact absurd h1 (by decide)
theorem many10_w {c : SC} {v : SV} {w w2 : SW} : F_X5_many10 c v w = F_X5_many10 c v w2 := by
  unfold F_X5_many10
  rw [packs_cnt, packs_cnt]
theorem issue_many {c : SC} {v : SV} {w : SW} (h : INV c v w) {s : Nat} (hs : s < c 0) : F_X5_many10 c (V_X5_issue c v w (nI s)) (W_X5_issue c v w (nI s)) = F_X5_many10 c v w + F_X5_issue c v w (nI s) := by
  obtain ⟨e1, e2, e3⟩ := issue_eqs h hs
  rw [e1, e2, e3, stop_many h.1.2.2.2.2]
  have e4 : F_X5_many10 c (V_X3_setIssued c v w s (v 1 s 1)) (W_X3_setIssued c v w s (v 1 s 1)) = F_X5_many10 c v w := by
    unfold F_X5_many10
    rw [packs_cnt, packs_cnt]
    exact congrArg nI (cnt_congr (c 4) (fun i _ => rfl))
  rw [e4]
theorem issue_last {c : SC} {v : SV} {w : SW} (h : INV c v w) {s : Nat} (hs : s < c 0) : F_X5_ofSheet2 c (V_X5_issue c v w (nI s)) (W_X5_issue c v w (nI s)) (nI s) = F_X5_ofSheet1 c (V_X5_issue c v w (nI s)) (W_X5_issue c v w (nI s)) (nI s) - 1 := by
  obtain ⟨e1, e2, e3⟩ := issue_eqs h hs
  have h4 := h.1.2.2.2.2
  have hc : (nI s).toNatClampNeg = s := cl (by have := h.1; omega)
  unfold F_X5_ofSheet2 F_X5_ofSheet1
  rw [e1, hc, stop_frame h4 (by omega), stop_frame h4 (by omega)]
  rw [show V_X3_setIssued c v w s (v 1 s 1) 1 s 3 = v 1 s 1 from (uV_f (by decide)).trans uV_eq, show V_X3_setIssued c v w s (v 1 s 1) 1 s 1 = v 1 s 1 from (uV_f (by decide)).trans (uV_f (by decide))]
  exact (Int32.add_sub_cancel (v 1 s 1) 1).symm
/-- a new revision -/
theorem INV_revise {c : SC} {v : SV} {w : SW} (h : INV c v w) {s : Nat} (hs : s < c 0) (h2 : v 1 s 3 = v 1 s 1) (hl : v 1 s 1 + 1 < 6) : INV c (V_X5_revise c v w (nI s)) (W_X5_revise c v w (nI s)) := by
  have hF := INV_wf h
  obtain ⟨hb, hsh, hr, hq, hp⟩ := h
  have hc : (nI s).toNatClampNeg = s := cl (by omega)
  obtain ⟨L, K, a1, a2, a3, a4, a5, a6, a7, a8, a9⟩ := hsh s hs
  have hKL : K = L := by
    rw [a4, a5] at h2
    exact (nI_eq (by omega) (by omega)).mp h2
  subst hKL
  have hL : K + 1 ≤ 5 := by
    rw [a4, nI_1, Int32.lt_iff_toInt_lt, nI_toInt (by omega)] at hl
    have h7 : (6 : Int32).toInt = 6 := by decide
    omega
  have hc1 : ((v 1 s 1) + (1 : Int32)).toNatClampNeg = K + 1 := by rw [a4, nI_1]; exact cl (by omega)
  have hc0 : (v 1 s 1).toNatClampNeg = K := by rw [a4]; exact cl (by omega)
  unfold V_X5_revise W_X5_revise
  rw [hc]
  have eV : ∀ a b f, ¬ (b = s ∧ (a = 12 ∨ (a = 1 ∧ (f = 1 ∨ f = 2 ∨ f = 5)))) → V_X3_beginRevision c v w s a b f = v a b f := by
    intro a b f hn
    unfold V_X3_beginRevision
    have n1 : ¬ (a = 1 ∧ f = 5 ∧ b = s) := fun q => hn ⟨q.2.2, Or.inr ⟨q.1, by omega⟩⟩
    have n2 : ¬ (a = 1 ∧ f = 2 ∧ b = s) := fun q => hn ⟨q.2.2, Or.inr ⟨q.1, by omega⟩⟩
    have n3 : ¬ (a = 1 ∧ f = 1 ∧ b = s) := fun q => hn ⟨q.2.2, Or.inr ⟨q.1, by omega⟩⟩
    have n4 : ¬ (a = 12 ∧ f = ((v 1 s 1) + (1 : Int32)).toNatClampNeg ∧ b = s) := fun q => hn ⟨q.2.2, Or.inl q.1⟩
    simp only [uV, if_neg n1, if_neg n2, if_neg n3, if_neg n4]
  have e11 : V_X3_beginRevision c v w s 1 s 1 = nI (K + 1) := by
    unfold V_X3_beginRevision
    rw [uV_f (by decide), uV_f (by decide), uV_eq, a4, nI_1]
  have e12 : ∀ r, r ≠ K + 1 → V_X3_beginRevision c v w s 12 s r = v 12 s r := by
    intro r hr9
    unfold V_X3_beginRevision
    rw [uV_ne (by omega), uV_ne (by omega), uV_ne (by omega), hc1]
    exact uV_f hr9
  have ew : ∀ r, r ≠ K + 1 → W_X3_beginRevision c v w s 11 s r = w 11 s r := by
    intro r hr9
    unfold W_X3_beginRevision
    rw [hc1]
    exact uW_f hr9
  have ew1 : W_X3_beginRevision c v w s 11 s (K + 1) = w 11 s K := by
    unfold W_X3_beginRevision
    rw [hc1, hc0, uW_eq]
  have ewn : ∀ a b f, ¬ (a = 11 ∧ b = s) → W_X3_beginRevision c v w s a b f = w a b f := by
    intro a b f hn
    unfold W_X3_beginRevision
    exact uW_ne hn
  have e5 : V_X3_beginRevision c v w s 1 s 5 = 0 := by
    unfold V_X3_beginRevision
    rw [uV_eq]
  have hag : AGS c v (V_X3_beginRevision c v w s) w (W_X3_beginRevision c v w s) := AGS_rfl (fun i f => by
      by_cases hf : f = 1 ∨ f = 2 ∨ f = 5
      · exact Or.inr (by omega)
      · exact Or.inl (eV 1 i f (by omega))) (fun i f => eV 2 i f (by omega)) (fun i f _ => eV 4 i f (by omega)) (fun i => ewn 1 i 0 (by omega)) (fun i _ => ewn 4 i 0 (by omega))
  refine ⟨hb, fun i hi => ?_, fun i hi => ?_, fun i hi => ?_, fun i hi => ?_⟩
  · by_cases e : i = s
    · subst e
      refine ⟨K + 1, K, hL, Nat.le_succ K, Nat.le_refl _, e11, (eV 1 i 3 (by omega)).trans a5, (eV 1 i 6 (by omega)).trans a6, ?_, ?_, fun r hr9 => ?_⟩
      · rw [ewn 1 i 0 (by omega), ew K (by omega)]; exact a7
      · rw [eV 1 i 4 (by omega), e12 K (by omega)]; exact a8
      · by_cases hrr : r = K + 1
        · rw [hrr, ew1]; exact a9 K (Nat.le_refl K)
        · rw [ew r hrr]; exact a9 r (by omega)
    · exact SHT_same (hsh i hi) (eV 1 i 1 (by omega)) (eV 1 i 3 (by omega)) (eV 1 i 6 (by omega)) (eV 1 i 4 (by omega)) (fun r => eV 12 i r (by omega)) (ewn 1 i 0 (by omega)) (fun r => ewn 11 i r (by omega))
  · rw [eV 2 i 1 (by omega)]; exact hr i hi
  · rw [eV 4 i 1 (by omega)]; exact hq i hi
  · obtain ⟨cr, s2, d, st, b1, b2, b3, b4, b5, b6, b7, b8, b9, b10⟩ := hp i hi
    refine ⟨cr, s2, d, st, b1, b2, b3, b4, (eV 7 i 0 (by omega)).trans b5, (eV 7 i 1 (by omega)).trans b6, (eV 7 i 2 (by omega)).trans b7, (eV 7 i 3 (by omega)).trans b8, b9, fun q => ?_⟩
    exact firstUnfit_good hF ⟨rfl, rfl, rfl⟩ hag hb.1 (eV 7 i 1 (by omega)) (ewn 7 i 0 (by omega)) (fun j _ => eV 57 cr j (by omega)) (fun j hj hlt => by
      by_cases e : j = s
      · subst e; rw [e5]; decide
      · rw [eV 1 j 5 (by omega)]; exact hlt) (b10 q)
theorem revise_ans {c : SC} {v : SV} {w : SW} {s : Nat} : F_X5_revise c v w (nI s) = F_X5_ofSheet1 c (V_X5_revise c v w (nI s)) (W_X5_revise c v w (nI s)) (nI s) - 1 := by
  unfold F_X5_ofSheet1 F_X5_revise V_X5_revise
  exact (Int32.add_sub_cancel _ 1).symm
/-- a reference more -/
theorem INV_refer {c : SC} {v : SV} {w : SW} (h : INV c v w) {t : Nat} (ht : t < c 0) (hroom : c 1 < 20) (x1 x3 : Int32) : INV (uC c 1 (c 1 + 1)) (V_X5_refer c v w x1 (nI t) x3) w := by
  obtain ⟨hb, hsh, hr, hq, hp⟩ := INV_0 h
  unfold V_X5_refer
  have e : ∀ a b f, a ≠ 2 → newV_2 v (c 1) x1 (nI t) x3 a b f = v a b f := by
    intro a b f ha
    unfold newV_2
    rw [if_neg (fun q => ha q.2)]
  refine INV_stop ⟨⟨hb.1, ?_, hb.2.2.1, hb.2.2.2.1, hb.2.2.2.2⟩, fun i hi => ?_, fun i hi => ?_, fun i hi => ?_, fun i hi => ?_⟩
  · show c 1 + 1 ≤ 20
    omega
  · exact SHT_same (hsh i hi) (e _ _ _ (by decide)) (e _ _ _ (by decide)) (e _ _ _ (by decide)) (e _ _ _ (by decide)) (fun r => e _ _ _ (by decide)) rfl (fun _ => rfl)
  · by_cases e2 : i = c 1
    · refine ⟨t, ht, ?_⟩
      unfold newV_2
      rw [if_pos ⟨e2, rfl⟩, if_neg (by decide), if_pos rfl]
    · have hi2 : i < c 1 := (uC_lt hi).elim id (fun q => absurd q e2)
      obtain ⟨t2, h2, h3⟩ := hr i hi2
      refine ⟨t2, h2, ?_⟩
      unfold newV_2
      rw [if_neg (fun q => e2 q.1)]
      exact h3
  · rw [e 4 i 1 (by decide)]; exact hq i hi
  · obtain ⟨cr, s, d, st, a1, a2, a3, a4, a5, a6, a7, a8, a9⟩ := hp i hi
    exact ⟨cr, s, d, st, a1, a2, a3, a4, (e _ _ _ (by decide)).trans a5, (e _ _ _ (by decide)).trans a6, (e _ _ _ (by decide)).trans a7, (e _ _ _ (by decide)).trans a8, a9⟩
/-- a sending more: nothing that counts is touched -/
theorem packSheets_frame {c : SC} {v : SV} {w : SW} {n : Nat} {x1 : Int32} : ∀ (k i : Nat) (V : SV) (a b f : Nat), a ≠ 13 → VL_X5_packSheets c v w n x1 k i V a b f = V a b f := by
  intro k
  induction k with
  | zero => intro i V a b f _; rfl
  | succ k ih =>
    intro i V a b f ha
    show VL_X5_packSheets c v w n x1 k (i + 1) _ a b f = _
    rw [ih _ _ _ _ _ ha]
    split
    · rfl
    · exact uV_ne (fun q => ha q.1)
theorem send_frame {c : SC} {v : SV} {w : SW} {x1 x2 : Int32} {a b f : Nat} (h3 : a ≠ 3) (h13 : a ≠ 13) : V_X5_send c v w x1 x2 a b f = v a b f := by
  unfold V_X5_send V_X5_packSheets
  rw [packSheets_frame _ _ _ _ _ _ h13]
  unfold newV_3
  rw [if_neg (by omega)]
theorem INV_send {c : SC} {v : SV} {w : SW} (h : INV c v w) (hroom : c 2 < 20) (x1 x2 : Int32) : INV (uC c 2 (c 2 + 1)) (V_X5_send c v w x1 x2) w := by
  have hF := INV_wf h
  obtain ⟨hb, hsh, hr, hq, hp⟩ := h
  have e : ∀ a b f, a ≠ 3 → a ≠ 13 → V_X5_send c v w x1 x2 a b f = v a b f := fun a b f h1 h2 => send_frame h1 h2
  refine ⟨⟨hb.1, hb.2.1, ?_, hb.2.2.2.1, hb.2.2.2.2⟩, fun i hi => ?_, fun i hi => ?_, fun i hi => ?_, fun i hi => ?_⟩
  · show c 2 + 1 ≤ 20
    omega
  · exact SHT_same (hsh i hi) (e _ _ _ (by decide) (by decide)) (e _ _ _ (by decide) (by decide)) (e _ _ _ (by decide) (by decide)) (e _ _ _ (by decide) (by decide)) (fun r => e _ _ _ (by decide) (by decide)) rfl (fun _ => rfl)
  · rw [e 2 i 1 (by decide) (by decide)]; exact hr i hi
  · rw [e 4 i 1 (by decide) (by decide)]; exact hq i hi
  · obtain ⟨cr, s, d, st, a1, a2, a3, a4, a5, a6, a7, a8, a9, a10⟩ := hp i hi
    refine ⟨cr, s, d, st, a1, a2, a3, a4, (e _ _ _ (by decide) (by decide)).trans a5, (e _ _ _ (by decide) (by decide)).trans a6, (e _ _ _ (by decide) (by decide)).trans a7, (e _ _ _ (by decide) (by decide)).trans a8, a9, fun q => ?_⟩
    exact firstUnfit_good (c2 := uC c 2 (c 2 + 1)) hF ⟨rfl, rfl, rfl⟩ (AGS_rfl (fun i f => Or.inl (e _ _ _ (by decide) (by decide))) (fun i f => e _ _ _ (by decide) (by decide)) (fun i f _ => e _ _ _ (by decide) (by decide)) (fun _ => rfl) (fun _ _ => rfl)) hb.1 (e _ _ _ (by decide) (by decide)) rfl (fun j _ => e _ _ _ (by decide) (by decide)) (fun j _ hlt => by rw [e 1 j 5 (by decide) (by decide)]; exact hlt) (a10 q)
/-- a query more -/
theorem INV_query {c : SC} {v : SV} {w : SW} (h : INV c v w) (hroom : c 3 < 20) (x1 x2 x3 x4 x5 : Int32) : INV (uC c 3 (c 3 + 1)) (V_X5_query c v w x1 x2 x3 x4 x5) (W_X5_query c v w x1 x2 x3 x4 x5) := by
  obtain ⟨hb, hsh, hr, hq, hp⟩ := INV_0 h
  unfold V_X5_query W_X5_query
  have e : ∀ a b f, a ≠ 4 → newV_4 v (c 3) x1 (F_X5_regionOf x2 x3 x4 x5) a b f = v a b f := by
    intro a b f ha
    unfold newV_4
    rw [if_neg (fun q => ha q.2)]
  have ew : ∀ a b f, a ≠ 4 → newW_4 w (c 3) (F_X5_regionOf x2 x3 x4 x5) a b f = w a b f := by
    intro a b f ha
    unfold newW_4
    rw [if_neg (fun q => ha q.2)]
  refine INV_stop ⟨⟨hb.1, hb.2.1, hb.2.2.1, ?_, hb.2.2.2.2⟩, fun i hi => ?_, fun i hi => ?_, fun i hi => ?_, fun i hi => ?_⟩
  · show c 3 + 1 ≤ 20
    omega
  · exact SHT_same (hsh i hi) (e _ _ _ (by decide)) (e _ _ _ (by decide)) (e _ _ _ (by decide)) (e _ _ _ (by decide)) (fun r => e _ _ _ (by decide)) (ew _ _ _ (by decide)) (fun r => ew _ _ _ (by decide))
  · rw [e 2 i 1 (by decide)]; exact hr i hi
  · by_cases e2 : i = c 3
    · unfold newV_4
      rw [if_pos ⟨e2, rfl⟩, if_neg (by decide)]
    · have hi2 : i < c 3 := (uC_lt hi).elim id (fun q => absurd q e2)
      unfold newV_4
      rw [if_neg (fun q => e2 q.1)]
      exact hq i hi2
  · obtain ⟨cr, s, d, st, a1, a2, a3, a4, a5, a6, a7, a8, a9⟩ := hp i hi
    exact ⟨cr, s, d, st, a1, a2, a3, a4, (e _ _ _ (by decide)).trans a5, (e _ _ _ (by decide)).trans a6, (e _ _ _ (by decide)).trans a7, (e _ _ _ (by decide)).trans a8, a9⟩
/-- a package more, waiting -/
theorem INV_pack {c : SC} {v : SV} {w : SW} (h : INV c v w) (hroom : c 4 < 8) {cr s d : Nat} (hcr : cr < 4) (hs : s < c 0) (hd0 : 0 < d) (hd : d ≤ 4) : INV (uC c 4 (c 4 + 1)) (V_X5_pack c v w (nI cr) ((1 : Int32) <<< (nI s &&& 31)) (nI d)) (W_X5_pack c v w (nI cr) ((1 : Int32) <<< (nI s &&& 31)) (nI d)) := by
  have hF := INV_wf h
  obtain ⟨hb, hsh, hr, hq, hp⟩ := h
  unfold V_X5_pack W_X5_pack
  have e : ∀ a b f, ¬ (b = c 4 ∧ a = 7) → newV_7 v (c 4) (nI cr) ((1 : Int32) <<< (nI s &&& 31)) (nI d) a b f = v a b f := by
    intro a b f ha
    unfold newV_7
    rw [if_neg ha]
  have ew : ∀ a b f, ¬ (b = c 4 ∧ a = 7) → newW_7 w (c 4) a b f = w a b f := by
    intro a b f ha
    unfold newW_7
    rw [if_neg ha]
  refine ⟨⟨hb.1, hb.2.1, hb.2.2.1, hb.2.2.2.1, ?_⟩, fun i hi => ?_, fun i hi => ?_, fun i hi => ?_, fun i hi => ?_⟩
  · show c 4 + 1 ≤ 8
    omega
  · exact SHT_same (hsh i hi) (e _ _ _ (by omega)) (e _ _ _ (by omega)) (e _ _ _ (by omega)) (e _ _ _ (by omega)) (fun r => e _ _ _ (by omega)) (ew _ _ _ (by omega)) (fun r => ew _ _ _ (by omega))
  · rw [e 2 i 1 (by omega)]; exact hr i hi
  · rw [e 4 i 1 (by omega)]; exact hq i hi
  · by_cases e2 : i = c 4
    · subst e2
      refine ⟨cr, s, d, 0, hcr, hs, hd, by omega, ?_, ?_, ?_, ?_, ⟨fun q => absurd q (by omega), fun q => absurd q (by omega)⟩, fun q => absurd q (by omega)⟩
      · simp [newV_7]
      · simp [newV_7]
      · simp [newV_7]
      · simp [newV_7]; rfl
    · have hi2 : i < c 4 := (uC_lt hi).elim id (fun q => absurd q e2)
      obtain ⟨cr2, s2, d2, st, a1, a2, a3, a4, a5, a6, a7, a8, a9, a10⟩ := hp i hi2
      refine ⟨cr2, s2, d2, st, a1, a2, a3, a4, (e _ _ _ (by omega)).trans a5, (e _ _ _ (by omega)).trans a6, (e _ _ _ (by omega)).trans a7, (e _ _ _ (by omega)).trans a8, a9, fun q => ?_⟩
      exact firstUnfit_good (c2 := uC c 4 (c 4 + 1)) hF ⟨rfl, rfl, rfl⟩ (AGS_rfl (fun i f => Or.inl (e _ _ _ (by omega))) (fun i f => e _ _ _ (by omega)) (fun i f _ => e _ _ _ (by omega)) (fun i => ew _ _ _ (by omega)) (fun i _ => ew _ _ _ (by omega))) hb.1 (e _ _ _ (by omega)) (ew _ _ _ (by omega)) (fun j _ => e _ _ _ (by omega)) (fun j _ hlt => by rw [e 1 j 5 (by omega)]; exact hlt) (a10 q)
theorem INV_place {c : SC} {v : SV} {w : SW} (h : INV c v w) {p : Nat} (hp9 : p < c 4) (x2 x3 x4 x5 : Int32) : INV c (V_X5_place c v w (nI p) x2 x3 x4 x5) (W_X5_place c v w (nI p) x2 x3 x4 x5) := by
  obtain ⟨hb, hsh, hr, hq, hp⟩ := INV_0 h
  unfold V_X5_place W_X5_place
  have hc : (nI p).toNatClampNeg = p := cl (by omega)
  rw [hc]
  refine INV_stop ⟨hb, fun i hi => ?_, hr, hq, hp⟩
  exact SHT_same (hsh i hi) rfl rfl rfl rfl (fun _ => rfl) rfl (fun _ => rfl)
theorem INV_start {c : SC} {v : SV} {w : SW} (h : INV c v w) {p : Nat} (hp9 : p < c 4) (hr9 : v 7 p 3 = 0 ∨ v 7 p 3 = 2) (hu : F_X5_firstUnfit c v w p (v 57 (v 7 p 0).toNatClampNeg) = -1) : INV c (V_X5_start c v w (nI p)) w := by
  have hF := INV_wf h
  obtain ⟨hb, hsh, hr, hq, hp⟩ := h
  have hc : (nI p).toNatClampNeg = p := cl (by omega)
  unfold V_X5_start
  rw [hc]
  have e : ∀ i f, f ≠ 3 → uV v 7 p 3 1 7 i f = v 7 i f := fun i f hf => uV_f hf
  refine ⟨hb, fun i hi => SHT_same (hsh i hi) rfl rfl rfl rfl (fun _ => rfl) rfl (fun _ => rfl), hr, hq, fun i hi => ?_⟩
  obtain ⟨cr, s, d, st, a1, a2, a3, a4, a5, a6, a7, a8, a9, a10⟩ := hp i hi
  have good : ∀ cr9, F_X5_firstUnfit c v w i (v 57 cr9) = -1 → F_X5_firstUnfit c (uV v 7 p 3 1) w i (uV v 7 p 3 1 57 cr9) = -1 := fun cr9 q => firstUnfit_good (c2 := c) (v2 := uV v 7 p 3 1) (w2 := w) (row2 := uV v 7 p 3 1 57 cr9) hF ⟨rfl, rfl, rfl⟩ (AGS_rfl (fun _ _ => Or.inl rfl) (fun _ _ => rfl) (fun _ _ _ => rfl) (fun _ => rfl) (fun _ _ => rfl)) hb.1 rfl rfl (fun _ _ => rfl) (fun _ _ hlt => hlt) q
  by_cases e2 : i = p
  · subst e2
    have hst : st = 0 ∨ st = 2 := by
      rw [a8] at hr9
      rcases hr9 with q | q
      · exact Or.inl ((nI_eq (by omega) (by omega)).mp (show nI st = nI 0 from q))
      · exact Or.inr ((nI_eq (by omega) (by omega)).mp (show nI st = nI 2 from q))
    refine ⟨cr, s, d, 1, a1, a2, a3, by omega, a5, a6, a7, uV_eq, ⟨fun q => absurd q (by omega), fun q => ?_⟩, fun _ => ?_⟩
    · have := a9.mpr q
      omega
    · rw [a5, cl (by omega)] at hu
      exact good cr hu
  · exact ⟨cr, s, d, st, a1, a2, a3, a4, a5, a6, a7, (uV_ne (fun q => e2 q.2)).trans a8, a9, fun q => good cr (a10 q)⟩
/-! a day -/
theorem work_frame {c : SC} {v : SV} {w : SW} {i a b f : Nat} (h : ¬ (a = 7 ∧ b = i ∧ (f = 2 ∨ f = 3))) : V_X4_workADay c v w i a b f = v a b f := by
  unfold V_X4_workADay
  have n2 : ∀ x, uV v 7 i 2 x a b f = v a b f := fun x => by
    have n : ¬ (a = 7 ∧ f = 2 ∧ b = i) := fun q => h ⟨q.1, q.2.2, Or.inl q.2.1⟩
    simp only [uV, if_neg n]
  have n : ¬ (a = 7 ∧ f = 3 ∧ b = i) := fun q => h ⟨q.1, q.2.2, Or.inr q.2.1⟩
  split
  · exact n2 _
  · rw [← n2 (v 7 i 2 - 1)]
    simp only [uV, if_neg n]
theorem work_at {c : SC} {v : SV} {w : SW} {i : Nat} : V_X4_workADay c v w i 7 i 2 = v 7 i 2 - 1 ∧ V_X4_workADay c v w i 7 i 3 = if 0 < v 7 i 2 - 1 then v 7 i 3 else 3 := by
  unfold V_X4_workADay
  rw [uV_eq]
  by_cases h : 0 < v 7 i 2 - (1 : Int32)
  · rw [if_pos h, if_pos h]
    exact ⟨uV_eq, uV_f (by decide)⟩
  · rw [if_neg h, if_neg h]
    exact ⟨(uV_f (by decide)).trans uV_eq, uV_eq⟩
theorem mark_frame {c : SC} {v : SV} {w : SW} {x1 : Int32} {a b f : Nat} (h : ¬ (a = 1 ∧ f = 5)) : V_X5_mark c v w x1 a b f = v a b f := by
  have key : ∀ (k i : Nat) (V : SV), VL_X5_mark c v w x1 k i V a b f = V a b f := by
    intro k
    induction k with
    | zero => intro i V; rfl
    | succ k ih =>
      intro i V
      show VL_X5_mark c v w x1 k (i + 1) _ a b f = _
      rw [ih]
      split
      · rfl
      · have n : ¬ (a = 1 ∧ f = 5 ∧ b = i) := fun q => h ⟨q.1, q.2.1⟩
        simp only [uV, if_neg n]
  exact key _ _ _
def DN (v : SV) (j : Nat) : Bool := decide (v 7 j 3 = 1) && !decide (0 < v 7 j 2 - 1)
/-- one package's day -/
def dayStep (c : SC) (w : SW) (V : SV) (i : Nat) : SV := (if (V 7 i 3) = (1 : Int32) then (if ((V_X4_workADay (uC c 5 ((c 5) + 1)) V w i) 7 i 3) = (3 : Int32) then (V_X5_mark (uC c 5 ((c 5) + 1)) (V_X4_workADay (uC c 5 ((c 5) + 1)) V w i) w ((V_X4_workADay (uC c 5 ((c 5) + 1)) V w i) 7 i 1)) else (V_X4_workADay (uC c 5 ((c 5) + 1)) V w i)) else V)
theorem dayStep_frame {c : SC} {w : SW} {V : SV} {i a b f : Nat} (h : ¬ (a = 7 ∧ b = i ∧ (f = 2 ∨ f = 3))) (h1 : ¬ (a = 1 ∧ f = 5)) : dayStep c w V i a b f = V a b f := by
  unfold dayStep
  split
  · split
    · rw [mark_frame h1, work_frame h]
    · exact work_frame h
  · rfl
theorem dayStep_at {c : SC} {w : SW} {V : SV} {i : Nat} : (V 7 i 3 = 1 → dayStep c w V i 7 i 2 = V 7 i 2 - 1 ∧ dayStep c w V i 7 i 3 = if 0 < V 7 i 2 - 1 then 1 else 3) ∧ (¬ V 7 i 3 = 1 → dayStep c w V i = V) := by
  refine ⟨fun h => ?_, fun h => ?_⟩
  · obtain ⟨e1, e2⟩ := work_at (c := uC c 5 ((c 5) + 1)) (v := V) (w := w) (i := i)
    rw [h] at e2
    unfold dayStep
    rw [if_pos h]
    split
    · rw [mark_frame (by omega), mark_frame (by omega)]
      exact ⟨e1, e2⟩
    · exact ⟨e1, e2⟩
  · unfold dayStep
    rw [if_neg h]
theorem VL_day_step {c : SC} {v : SV} {w : SW} {k i : Nat} {V : SV} : VL_X5_day c v w (k + 1) i V = VL_X5_day c v w k (i + 1) (dayStep c w V i) := rfl
theorem VL_day {c : SC} {v : SV} {w : SW} : ∀ (k i : Nat) (V : SV), (∀ a b f, ¬ (a = 7 ∧ (f = 2 ∨ f = 3)) → ¬ (a = 1 ∧ f = 5) → VL_X5_day c v w k i V a b f = V a b f) ∧ (∀ j, ¬ (i ≤ j ∧ j < i + k) → VL_X5_day c v w k i V 7 j 2 = V 7 j 2 ∧ VL_X5_day c v w k i V 7 j 3 = V 7 j 3) ∧
    ∀ j, i ≤ j → j < i + k → (V 7 j 3 = 1 → VL_X5_day c v w k i V 7 j 2 = V 7 j 2 - 1 ∧ VL_X5_day c v w k i V 7 j 3 = if 0 < V 7 j 2 - 1 then 1 else 3) ∧ (¬ V 7 j 3 = 1 → VL_X5_day c v w k i V 7 j 2 = V 7 j 2 ∧ VL_X5_day c v w k i V 7 j 3 = V 7 j 3) := by
  intro k
  induction k with
  | zero => intro i V; exact ⟨fun _ _ _ _ _ => rfl, fun _ _ => ⟨rfl, rfl⟩, fun j h1 h2 => absurd h2 (by omega)⟩
  | succ k ih =>
    intro i V
    rw [VL_day_step]
    obtain ⟨h1, h2, h3⟩ := ih (i + 1) (dayStep c w V i)
    refine ⟨fun a b f ha hb => ?_, fun j hj => ?_, fun j hj hj2 => ?_⟩
    · rw [h1 a b f ha hb, dayStep_frame (fun q => ha ⟨q.1, q.2.2⟩) hb]
    · obtain ⟨q1, q2⟩ := h2 j (by omega)
      rw [q1, q2, dayStep_frame (by omega) (by omega), dayStep_frame (by omega) (by omega)]
      exact ⟨rfl, rfl⟩
    · by_cases e : j = i
      · subst e
        obtain ⟨q1, q2⟩ := h2 j (by omega)
        rw [q1, q2]
        obtain ⟨d1, d2⟩ := dayStep_at (c := c) (w := w) (V := V) (i := j)
        refine ⟨d1, fun q => ?_⟩
        rw [d2 q]
        exact ⟨rfl, rfl⟩
      · have e2 : dayStep c w V i 7 j 2 = V 7 j 2 := dayStep_frame (by omega) (by omega)
        have e3 : dayStep c w V i 7 j 3 = V 7 j 3 := dayStep_frame (by omega) (by omega)
        have h4 := h3 j (by omega) (by omega)
        rw [e2, e3] at h4
        exact h4
theorem FL_day {c : SC} {v : SV} {w : SW} : ∀ (k i : Nat) (V : SV), i + k = c 4 → (∀ j, i ≤ j → V 7 j 2 = v 7 j 2 ∧ V 7 j 3 = v 7 j 3) → FL_X5_day c v w k i V (nI (cnt (DN v) i)) = nI (cnt (DN v) (c 4)) := by
  intro k
  induction k with
  | zero =>
    intro i V hi _
    obtain rfl : i = c 4 := by omega
    rfl
  | succ k ih =>
    intro i V hi hV
    obtain ⟨v2, v3⟩ := hV i (Nat.le_refl i)
    rw [← ih (i + 1) (dayStep c w V i) (by omega) (fun j hj => by
      rw [dayStep_frame (by omega) (by omega), dayStep_frame (by omega) (by omega)]
      exact hV j (by omega))]
    show FL_X5_day c v w k (i + 1) (dayStep c w V i) _ = FL_X5_day c v w k (i + 1) (dayStep c w V i) _
    congr 1
    obtain ⟨e1, e2⟩ := work_at (c := uC c 5 ((c 5) + 1)) (v := V) (w := w) (i := i)
    show _ = nI (if DN v i = true then cnt (DN v) i + 1 else cnt (DN v) i)
    by_cases h : V 7 i 3 = 1
    · rw [if_pos h, e2, v2, h]
      rw [v3] at h
      by_cases h0 : 0 < v 7 i 2 - 1
      · rw [if_pos h0, if_neg (by decide), if_neg (by simp [DN, h0])]
      · rw [if_neg h0, if_pos rfl, if_pos (by simp [DN, h, h0]), nI_1]
    · rw [if_neg h]
      rw [v3] at h
      rw [if_neg (by simp [DN, h])]
theorem day_ans {c : SC} {v : SV} {w : SW} : F_X5_day c v w = nI (cnt (DN v) (c 4)) := FL_day (c 4) 0 v (by omega) (fun _ _ => ⟨rfl, rfl⟩)
theorem INV_day {c : SC} {v : SV} {w : SW} (h : INV c v w) : INV (uC c 5 (c 5 + 1)) (V_X5_day c v w) w := by
  obtain ⟨hb, hsh, hr, hq, hp⟩ := INV_0 h
  obtain ⟨f1, -, f3⟩ := VL_day (c := c) (v := v) (w := w) (c 4) 0 v
  unfold V_X5_day
  refine INV_stop ⟨hb, fun i hi => ?_, fun i hi => ?_, fun i hi => ?_, fun i hi => ?_⟩
  · exact SHT_same (hsh i hi) (f1 _ _ _ (by omega) (by omega)) (f1 _ _ _ (by omega) (by omega)) (f1 _ _ _ (by omega) (by omega)) (f1 _ _ _ (by omega) (by omega)) (fun r => f1 _ _ _ (by omega) (by omega)) rfl (fun _ => rfl)
  · rw [f1 2 i 1 (by omega) (by omega)]; exact hr i hi
  · rw [f1 4 i 1 (by omega) (by omega)]; exact hq i hi
  · obtain ⟨cr, s, d, st, a1, a2, a3, a4, a5, a6, a7, a8, a9⟩ := hp i hi
    have hi2 : i < 0 + c 4 := by have : i < c 4 := hi; omega
    obtain ⟨g1, g2⟩ := f3 i (Nat.zero_le i) hi2
    have b5 := (f1 7 i 0 (by omega) (by omega)).trans a5
    have b6 := (f1 7 i 1 (by omega) (by omega)).trans a6
    by_cases e : v 7 i 3 = 1
    · obtain ⟨q1, q2⟩ := g1 e
      have hst : st = 1 := by
        rw [a8] at e
        exact (nI_eq (by omega) (by omega)).mp (show nI st = nI 1 from e)
      have hd : d ≠ 0 := fun q => by have := a9.mpr q; omega
      obtain ⟨d', rfl⟩ : ∃ d', d = d' + 1 := ⟨d - 1, by omega⟩
      rw [a7, nI_pred] at q1 q2
      by_cases h0 : d' = 0
      · subst h0
        rw [if_neg (by decide)] at q2
        exact ⟨cr, s, 0, 3, a1, a2, by omega, by omega, b5, b6, q1, q2, ⟨fun _ => rfl, fun _ => rfl⟩⟩
      · rw [if_pos (Int32.not_le.mp (nI_nle (by omega) (by omega)))] at q2
        exact ⟨cr, s, d', 1, a1, a2, by omega, by omega, b5, b6, q1, q2, ⟨fun q => absurd q (by omega), fun q => absurd q h0⟩⟩
    · obtain ⟨q1, q2⟩ := g2 e
      exact ⟨cr, s, d, st, a1, a2, a3, a4, b5, b6, q1.trans a7, q2.trans a8, a9⟩
theorem day_many {c : SC} {v : SV} {w : SW} (h : INV c v w) : F_X5_day c v w = F_X5_many11 (uC c 5 (c 5 + 1)) (V_X5_day c v w) w - F_X5_many11 c v w := by
  have h4 := h.1.2.2.2.2
  obtain ⟨-, -, f3⟩ := VL_day (c := c) (v := v) (w := w) (c 4) 0 v
  have e : F_X5_many11 (uC c 5 (c 5 + 1)) (V_X5_day c v w) w = nI (cnt (DN v) (c 4) + cnt (IS v 3) (c 4)) := by
    unfold F_X5_many11
    rw [packs_cnt]
    show nI (cnt (IS (V_X5_day c v w) 3) (c 4)) = _
    congr 1
    refine cnt_add (c 4) (fun j hj => ?_)
    have hj2 : j < 0 + c 4 := by omega
    obtain ⟨g1, g2⟩ := f3 j (Nat.zero_le j) hj2
    have hst : V_X5_day c v w 7 j 3 = if UNF (uC c 5 (c 5 + 1)) (VL_X5_day c v w (c 4) 0 v) w j = true then 2 else VL_X5_day c v w (c 4) 0 v 7 j 3 := stop_state (c := uC c 5 (c 5 + 1)) (v := VL_X5_day c v w (c 4) 0 v) (w := w) h4 hj
    have h5 : V_X5_day c v w 7 j 3 = 3 ↔ VL_X5_day c v w (c 4) 0 v 7 j 3 = 3 := by
      rw [hst]
      by_cases hu : UNF (uC c 5 (c 5 + 1)) (VL_X5_day c v w (c 4) 0 v) w j = true
      · rw [if_pos hu, (UNF_iff.mp hu).1]
        decide
      · rw [if_neg hu]
    by_cases e1 : v 7 j 3 = 1
    · obtain ⟨q1, q2⟩ := g1 e1
      by_cases h0 : 0 < v 7 j 2 - 1
      · rw [if_pos h0] at q2
        rw [q2] at h5
        refine ⟨?_, fun q => ?_⟩
        · have h6 : ¬ V_X5_day c v w 7 j 3 = 3 := fun q => absurd (h5.mp q) (by decide)
          simp [IS, DN, e1, h0, h6]
        · simp [DN, h0] at q
      · rw [if_neg h0] at q2
        rw [q2] at h5
        refine ⟨?_, fun q => ?_⟩
        · have h6 : V_X5_day c v w 7 j 3 = 3 := h5.mpr rfl
          simp [IS, DN, e1, h0, h6]
        · simp [IS, e1] at q
    · obtain ⟨q1, q2⟩ := g2 e1
      rw [q2] at h5
      refine ⟨?_, fun q => ?_⟩
      · by_cases h6 : v 7 j 3 = 3
        · simp [IS, DN, e1, h6, h5.mpr h6]
        · have h7 : ¬ V_X5_day c v w 7 j 3 = 3 := fun q => h6 (h5.mp q)
          simp [IS, DN, e1, h6, h7]
      · simp [DN, e1] at q
  rw [e, day_ans]
  unfold F_X5_many11
  rw [packs_cnt, ← nI_add]
  exact (Int32.add_sub_cancel _ _).symm
/-! regions -/
abbrev AC : Int64 := 1048575
abbrev AR : Int64 := 1099510579200
def CB (a a2 : Nat) : Int64 := F_X5_bitsFrom (nI a) (nI a2)
def RB (b b2 : Nat) : Int64 := F_X5_bitsFrom (nI b) (nI b2) <<< ((20 : Int32).toInt64 &&& 63)
theorem CR_tab : ∀ a2, a2 < 20 → ∀ a, a < a2 + 1 → CB a a2 &&& AC = CB a a2 ∧ CB a a2 &&& AR = 0 ∧ RB a a2 &&& AC = 0 ∧ RB a a2 &&& AR = RB a a2 ∧ F_J13_bitCount_95d88 (CB a a2) = nI (a2 - a + 1) ∧ F_J13_bitCount_95d88 (RB a a2) = nI (a2 - a + 1) ∧ CB a a2 ≠ 0 ∧ RB a a2 ≠ 0 ∧ CB a a2 &&& CB a a ≠ 0 ∧ RB a a2 &&& RB a2 a2 ≠ 0 ∧ nI a2 - nI a + 1 = nI (a2 - a + 1) := by decide +kernel
theorem CR_meet : ∀ a2, a2 < 20 → ∀ a, a < a2 + 1 → ∀ c2, c2 < 20 → ∀ c, c < c2 + 1 → (CB a a2 &&& CB c c2 = if max a c ≤ min a2 c2 then CB (max a c) (min a2 c2) else 0) ∧ (RB a a2 &&& RB c c2 = if max a c ≤ min a2 c2 then RB (max a c) (min a2 c2) else 0) := by decide +kernel
theorem bc_0 : F_J13_bitCount_95d88 0 = nI 0 := by decide +kernel
theorem i64_oa (x y z : Int64) : (x ||| y) &&& z = (x &&& z) ||| (y &&& z) := Int64.toBitVec_inj.1 BitVec.and_or_distrib_right
theorem i64_ao (x y z : Int64) : x &&& (y ||| z) = (x &&& y) ||| (x &&& z) := Int64.toBitVec_inj.1 BitVec.and_or_distrib_left
theorem and3 (x y m : Int64) : (x &&& y) &&& m = (x &&& m) &&& (y &&& m) := by
  rw [Int64.and_assoc x m, Int64.and_comm y m, ← Int64.and_assoc m m y, Int64.and_self, Int64.and_comm m y, ← Int64.and_assoc]
theorem reg_eq (a b a2 b2 : Nat) : F_X5_regionOf (nI a) (nI b) (nI a2) (nI b2) = CB a a2 ||| RB b b2 := rfl
theorem reg_C {a b a2 b2 : Nat} (ha : a ≤ a2) (ha2 : a2 < 20) (hb : b ≤ b2) (hb2 : b2 < 20) : (CB a a2 ||| RB b b2) &&& AC = CB a a2 ∧ (CB a a2 ||| RB b b2) &&& AR = RB b b2 := by
  obtain ⟨h1, h2, -, -, -⟩ := CR_tab a2 ha2 a (by omega)
  obtain ⟨-, -, h3, h4, -⟩ := CR_tab b2 hb2 b (by omega)
  rw [i64_oa, i64_oa, h1, h2, h3, h4, Int64.or_zero, Int64.zero_or]
  exact ⟨rfl, rfl⟩
theorem nI_mul (a b : Nat) : nI a * nI b = nI (a * b) := (Int32.ofNat_mul a b).symm
theorem fields_reg {a b a2 b2 : Nat} (ha : a ≤ a2) (ha2 : a2 < 20) (hb : b ≤ b2) (hb2 : b2 < 20) : F_X5_fieldsOf (F_X5_regionOf (nI a) (nI b) (nI a2) (nI b2)) = nI ((a2 - a + 1) * (b2 - b + 1)) := by
  obtain ⟨h1, h2⟩ := reg_C ha ha2 hb hb2
  obtain ⟨-, -, -, -, h3, -⟩ := CR_tab a2 ha2 a (by omega)
  obtain ⟨-, -, -, -, -, h4, -⟩ := CR_tab b2 hb2 b (by omega)
  rw [reg_eq]
  unfold F_X5_fieldsOf
  rw [h1, h2, h3, h4, nI_mul]
theorem fields_law {a b a2 b2 : Nat} (ha : a ≤ a2) (ha2 : a2 < 20) (hb : b ≤ b2) (hb2 : b2 < 20) : F_X5_fieldsOf (F_X5_regionOf (nI a) (nI b) (nI a2) (nI b2)) = (nI a2 - nI a + 1) * (nI b2 - nI b + 1) := by
  obtain ⟨-, -, -, -, -, -, -, -, -, -, h3⟩ := CR_tab a2 ha2 a (by omega)
  obtain ⟨-, -, -, -, -, -, -, -, -, -, h4⟩ := CR_tab b2 hb2 b (by omega)
  rw [fields_reg ha ha2 hb hb2, h3, h4, nI_mul]
theorem fields_pos {a b a2 b2 : Nat} (ha : a ≤ a2) (ha2 : a2 < 20) (hb : b ≤ b2) (hb2 : b2 < 20) : ¬ F_X5_fieldsOf (F_X5_regionOf (nI a) (nI b) (nI a2) (nI b2)) < 1 := by
  rw [fields_reg ha ha2 hb hb2]
  have h1 : (a2 - a + 1) * (b2 - b + 1) ≤ 20 * 20 := Nat.mul_le_mul (by omega) (by omega)
  have h2 : 0 < (a2 - a + 1) * (b2 - b + 1) := Nat.mul_pos (by omega) (by omega)
  exact nI_nlt (b := 1) (by omega) (by omega)
theorem lcI_0 {x y : Int64} : lcI x y = 0 ↔ x = y := by
  unfold lcI
  by_cases h : x > y
  · rw [if_pos h]
    exact ⟨fun q => absurd q (by decide), fun q => absurd (q ▸ h) Int64.lt_irrefl⟩
  · rw [if_neg h]
    by_cases h2 : x = y
    · rw [if_pos h2]
      exact ⟨fun _ => h2, fun _ => rfl⟩
    · rw [if_neg h2]
      exact ⟨fun q => absurd q (by decide), fun q => absurd q h2⟩
theorem hasField_iff {x : Int64} : F_X5_hasField x = 0 ↔ (x &&& AC = 0 ∨ x &&& AR = 0) := by
  unfold F_X5_hasField
  by_cases h : x &&& AC = 0
  · rw [if_pos (lcI_0.mpr h)]
    exact ⟨fun _ => Or.inl h, fun _ => rfl⟩
  · rw [if_neg (fun q => h (lcI_0.mp q))]
    by_cases h2 : x &&& AR = 0
    · rw [if_pos (lcI_0.mpr h2)]
      exact ⟨fun _ => Or.inr h2, fun _ => rfl⟩
    · rw [if_neg (fun q => h2 (lcI_0.mp q))]
      exact ⟨fun q => absurd q (by decide), fun q => (q.elim h h2).elim⟩
/-- what two regions have in common: some fields, or none -/
theorem meet_fields {x y : Int64} (hx : REG x) (hy : REG y) : F_X5_hasField (x &&& y) = 0 ∧ F_X5_fieldsOf (x &&& y) = 0 ∨ ¬ F_X5_hasField (x &&& y) = 0 ∧ 0 < F_X5_fieldsOf (x &&& y) := by
  obtain ⟨a, b, a2, b2, h1, h2, h3, h4, rfl⟩ := hx
  obtain ⟨c, d, c2, d2, g1, g2, g3, g4, rfl⟩ := hy
  obtain ⟨p1, p2⟩ := reg_C h1 h2 h3 h4
  obtain ⟨q1, q2⟩ := reg_C g1 g2 g3 g4
  have eC : (F_X5_regionOf (nI a) (nI b) (nI a2) (nI b2) &&& F_X5_regionOf (nI c) (nI d) (nI c2) (nI d2)) &&& AC = CB a a2 &&& CB c c2 := by
    rw [reg_eq, reg_eq, and3, p1, q1]
  have eR : (F_X5_regionOf (nI a) (nI b) (nI a2) (nI b2) &&& F_X5_regionOf (nI c) (nI d) (nI c2) (nI d2)) &&& AR = RB b b2 &&& RB d d2 := by
    rw [reg_eq, reg_eq, and3, p2, q2]
  rw [hasField_iff, eC, eR]
  unfold F_X5_fieldsOf
  rw [eC, eR, (CR_meet a2 h2 a (by omega) c2 g2 c (by omega)).1, (CR_meet b2 h4 b (by omega) d2 g4 d (by omega)).2]
  by_cases m1 : max a c ≤ min a2 c2
  · rw [if_pos m1]
    obtain ⟨-, -, -, -, e1, -, e2, -⟩ := CR_tab (min a2 c2) (by omega) (max a c) (by omega)
    by_cases m2 : max b d ≤ min b2 d2
    · rw [if_pos m2]
      obtain ⟨-, -, -, -, -, e3, -, e4, -⟩ := CR_tab (min b2 d2) (by omega) (max b d) (by omega)
      refine Or.inr ⟨fun q => q.elim e2 e4, ?_⟩
      rw [e1, e3, nI_mul]
      have k1 : (min a2 c2 - max a c + 1) * (min b2 d2 - max b d + 1) ≤ 20 * 20 := Nat.mul_le_mul (by omega) (by omega)
      have k2 : 0 < (min a2 c2 - max a c + 1) * (min b2 d2 - max b d + 1) := Nat.mul_pos (by omega) (by omega)
      exact nI_lt (a := 0) k2 (by omega)
    · rw [if_neg m2]
      refine Or.inl ⟨Or.inr rfl, ?_⟩
      rw [bc_0, e1, nI_mul, Nat.mul_zero]
      rfl
  · rw [if_neg m1]
    refine Or.inl ⟨Or.inl rfl, ?_⟩
    rw [bc_0]
    by_cases m2 : max b d ≤ min b2 d2
    · rw [if_pos m2]
      obtain ⟨-, -, -, -, -, e3, -⟩ := CR_tab (min b2 d2) (by omega) (max b d) (by omega)
      rw [e3, nI_mul, Nat.zero_mul]
      rfl
    · rw [if_neg m2, bc_0, nI_mul]
      rfl
/-- a region and its own corner -/
theorem corner {a b a2 b2 : Nat} (ha : a ≤ a2) (ha2 : a2 < 20) (hb : b ≤ b2) (hb2 : b2 < 20) : ¬ F_X5_hasField (F_X5_regionOf (nI a) (nI b) (nI a2) (nI b2) &&& F_X5_regionOf (nI a) (nI b2) (nI a) (nI b2)) = 0 := by
  obtain ⟨p1, p2⟩ := reg_C ha ha2 hb hb2
  obtain ⟨q1, q2⟩ := reg_C (Nat.le_refl a) (by omega) (Nat.le_refl b2) hb2
  rw [hasField_iff, reg_eq, reg_eq]
  rintro (h | h)
  · rw [and3, p1, q1] at h
    exact (CR_tab a2 ha2 a (by omega)).2.2.2.2.2.2.2.2.1 h
  · rw [and3, p2, q2] at h
    exact (CR_tab b2 hb2 b (by omega)).2.2.2.2.2.2.2.2.2.1 h
/-! what isFair looks at -/
theorem fa_last {c : SC} {v : SV} {w : SW} {k : Nat} (hk : k < 100) : F_X5_ofSheet1 c v w (nI k) - 1 = v 1 k 1 := by
  unfold F_X5_ofSheet1
  rw [cl hk]
  exact Int32.add_sub_cancel _ 1
theorem fa_stat {c : SC} {v : SV} {w : SW} {k : Nat} (hk : k < 100) (x : Int32) : F_X5_status c v w (nI k) x = F_X3_statusOf c v w k x := by
  unfold F_X5_status
  rw [cl hk]
/-- the status is 2 at the issued revision alone -/
theorem st_2 {c : SC} {v : SV} {w : SW} {k : Nat} {x : Int32} : F_X3_statusOf c v w k x = 2 ↔ x = v 1 k 3 := by
  unfold F_X3_statusOf
  by_cases h : x = v 1 k 3
  · rw [if_pos h]
    exact ⟨fun _ => h, fun _ => rfl⟩
  · rw [if_neg h]
    refine ⟨fun q => ?_, fun q => absurd q h⟩
    split at q
    · split at q <;> exact absurd q (by decide)
    · exact absurd q (by decide)
theorem st_lt {c : SC} {v : SV} {w : SW} {k : Nat} {x : Int32} (h : F_X3_statusOf c v w k x < 2) : ¬ x = v 1 k 3 ∧ v 1 k 3 ≤ x := by
  unfold F_X3_statusOf at h
  by_cases h1 : x = v 1 k 3
  · rw [if_pos h1] at h
    exact absurd h (by decide)
  · rw [if_neg h1] at h
    refine ⟨h1, ?_⟩
    by_cases h2 : v 1 k 3 ≤ x
    · exact h2
    · rw [if_neg h2] at h
      exact absurd h (by decide)
theorem fa_2 {c : SC} {v : SV} {w : SW} {k r : Nat} (hk : k < 100) (h : F_X5_status c v w (nI k) (nI r) = 2) : F_X5_ofSheet2 c v w (nI k) = nI r := by
  rw [fa_stat hk, st_2] at h
  unfold F_X5_ofSheet2
  rw [cl hk]
  exact h.symm
/-- only the last is a draft -/
theorem fa_draft {c : SC} {v : SV} {w : SW} {k r : Nat} (hi : INV c v w) (hk : k < c 0) (h : F_X5_status c v w (nI k) (nI r) < 2) (hr : r < (v 1 k 1).toNatClampNeg + 1) : ¬ nI r < v 1 k 1 := by
  have h0 := hi.1.1
  obtain ⟨L, K, a1, a2, a3, a4, a5, -⟩ := hi.2.1 k hk
  rw [fa_stat (by omega)] at h
  obtain ⟨h1, h2⟩ := st_lt h
  rw [a4, cl (by omega)] at hr
  rw [a5] at h1 h2
  rw [a4]
  have h3 : K ≤ r := (nI_leI (by omega) (by omega)).mp h2
  have h4 : r ≠ K := fun q => h1 (by rw [q])
  exact nI_nlt (by omega) (by omega)
/-- how many issued revisions there are below r -/
def isu (v : SV) (k r : Nat) : Int32 := if (v 1 k 3).toNatClampNeg < r then 1 else 0
theorem isu_0 {v : SV} {k : Nat} : isu v k 0 = 0 := if_neg (by omega)
theorem isu_yes {c : SC} {v : SV} {w : SW} {k r : Nat} (hk : k < 100) (hr : r < 100) (h : F_X5_status c v w (nI k) (nI r) = 2) : isu v k r + 1 = isu v k (r + 1) := by
  rw [fa_stat hk, st_2] at h
  unfold isu
  rw [← h, cl hr, if_neg (by omega), if_pos (by omega)]
  rfl
theorem isu_no {c : SC} {v : SV} {w : SW} {k r : Nat} (hi : INV c v w) (hk : k < c 0) (hr : r < 100) (h : ¬ F_X5_status c v w (nI k) (nI r) = 2) : isu v k r + 0 = isu v k (r + 1) := by
  have h0 := hi.1.1
  obtain ⟨L, K, a1, a2, a3, a4, a5, -⟩ := hi.2.1 k hk
  rw [fa_stat (by omega), st_2, a5] at h
  have h4 : r ≠ K := fun q => h (by rw [q])
  unfold isu
  rw [a5, cl (by omega), Int32.add_zero]
  by_cases h5 : K < r
  · rw [if_pos h5, if_pos (by omega)]
  · rw [if_neg h5, if_neg (by omega)]
theorem isu_end {c : SC} {v : SV} {w : SW} {k : Nat} (hi : INV c v w) (hk : k < c 0) : isu v k ((v 1 k 1).toNatClampNeg + 1) = 1 := by
  obtain ⟨L, K, a1, a2, a3, a4, a5, -⟩ := hi.2.1 k hk
  unfold isu
  rw [a4, a5, cl (by omega), cl (by omega), if_pos (by omega)]
theorem fa_3 {c : SC} {v : SV} {w : SW} {k : Nat} (hk : k < 100) : F_X5_ofSheet3 c v w (nI k) = F_X5_status c v w (nI k) (v 1 k 1) := by
  unfold F_X5_ofSheet3 F_X3_lastStatus
  rw [fa_stat hk, cl hk]
/-! clashes -/
def CH (c : SC) (v : SV) (w : SW) (i j : Nat) : Bool := !decide (F_X5_hasField (F_X5_clashRegion c v w (nI i) (nI j)) = 0)
theorem clash_region {c : SC} {v : SV} {w : SW} (hi : INV c v w) {i j : Nat} (h1 : i < c 0) (h2 : j < c 0) : F_X5_clashRegion c v w (nI i) (nI j) = if v 1 i 0 = v 1 j 0 then 0 else w 1 i 0 &&& w 1 j 0 := by
  have h0 := hi.1.1
  obtain ⟨L, K, -, -, -, -, -, a6, -⟩ := hi.2.1 i h1
  unfold F_X5_clashRegion
  rw [cl (by omega), cl (by omega), a6]
  have e : F_X5_isIn 0 (nI j) = 0 := (by decide +kernel : ∀ j, j < 5 → F_X5_isIn 0 (nI j) = 0) j (by omega)
  rw [if_pos e]
theorem clash_comm {c : SC} {v : SV} {w : SW} (hi : INV c v w) {i j : Nat} (h1 : i < c 0) (h2 : j < c 0) : F_X5_clashRegion c v w (nI i) (nI j) = F_X5_clashRegion c v w (nI j) (nI i) := by
  rw [clash_region hi h1 h2, clash_region hi h2 h1, Int64.and_comm]
  by_cases h : v 1 i 0 = v 1 j 0
  · rw [if_pos h, if_pos h.symm]
  · rw [if_neg h, if_neg (fun q => h q.symm)]
theorem fa_clash {c : SC} {v : SV} {w : SW} (hi : INV c v w) {i j : Nat} (h1 : i < c 0) (h2 : j < c 0) : F_X5_clash c v w (nI i) (nI j) = F_X5_clash c v w (nI j) (nI i) := by
  unfold F_X5_clash
  rw [clash_comm hi h1 h2]
theorem sheet_reg {c : SC} {v : SV} {w : SW} (hi : INV c v w) {i : Nat} (h1 : i < c 0) : REG (w 1 i 0) := by
  obtain ⟨L, K, a1, a2, a3, a4, a5, a6, a7, a8, a9⟩ := hi.2.1 i h1
  rw [a7]
  exact a9 K a2
theorem clash_iff {c : SC} {v : SV} {w : SW} (hi : INV c v w) {i j : Nat} (h1 : i < c 0) (h2 : j < c 0) : F_X5_clash c v w (nI i) (nI j) ≤ 0 ↔ CH c v w i j = false := by
  unfold F_X5_clash CH
  rw [clash_region hi h1 h2]
  by_cases h : v 1 i 0 = v 1 j 0
  · rw [if_pos h]
    have e1 : F_X5_fieldsOf 0 ≤ 0 := by decide +kernel
    have e2 : F_X5_hasField 0 = 0 := by decide +kernel
    simp [e1, e2]
  · rw [if_neg h]
    rcases meet_fields (sheet_reg hi h1) (sheet_reg hi h2) with ⟨e1, e2⟩ | ⟨e1, e2⟩
    · rw [e2]
      simp [e1]
    · simp [e1, Int32.not_le.mpr e2]
theorem fa_trade {c : SC} {v : SV} {w : SW} (hi : INV c v w) {i j : Nat} (h1 : i < c 0) (h2 : j < c 0) (h : ¬ F_X5_clash c v w (nI i) (nI j) ≤ 0) : ¬ F_X5_ofSheet0 c v w (nI i) = F_X5_ofSheet0 c v w (nI j) := by
  have h0 := hi.1.1
  unfold F_X5_ofSheet0
  rw [cl (by omega), cl (by omega)]
  intro e
  apply h
  unfold F_X5_clash
  rw [clash_region hi h1 h2, if_pos e]
  decide +kernel
/-- the pairs that isFair has counted: before sheet k, and of sheet k those below o -/
def PQ (c : SC) (v : SV) (w : SW) (k o : Nat) : Nat := cnt (CH c v w k) o
def PR (c : SC) (v : SV) (w : SW) : Nat → Nat
  | 0 => 0
  | k + 1 => PR c v w k + PQ c v w k k
theorem pq_yes {c : SC} {v : SV} {w : SW} (hi : INV c v w) {k o : Nat} (h1 : k < c 0) (h2 : o < c 0) (h : ¬ F_X5_clash c v w (nI k) (nI o) ≤ 0) : nI (PR c v w k + PQ c v w k o) + 1 = nI (PR c v w k + PQ c v w k (o + 1)) := by
  have h3 : CH c v w k o = true := by
    cases e : CH c v w k o with
    | true => rfl
    | false => exact absurd ((clash_iff hi h1 h2).mpr e) h
  rw [nI_1]
  unfold PQ
  show _ = nI (_ + if CH c v w k o = true then cnt (CH c v w k) o + 1 else cnt (CH c v w k) o)
  rw [if_pos h3]
  rfl
theorem pq_no {c : SC} {v : SV} {w : SW} (hi : INV c v w) {k o : Nat} (h1 : k < c 0) (h2 : o < c 0) (h : F_X5_clash c v w (nI k) (nI o) ≤ 0) : nI (PR c v w k + PQ c v w k o) + 0 = nI (PR c v w k + PQ c v w k (o + 1)) := by
  have h3 := (clash_iff hi h1 h2).mp h
  rw [Int32.add_zero]
  unfold PQ
  show _ = nI (_ + if CH c v w k o = true then cnt (CH c v w k) o + 1 else cnt (CH c v w k) o)
  rw [if_neg (by rw [h3]; decide)]
/-- and the class counts the same -/
theorem fa_pairs {c : SC} {v : SV} {w : SW} (hi : INV c v w) : F_X5_many6 c v w = nI (PR c v w (c 0)) := by
  have h0 := hi.1.1
  have hs : ∀ i j, i < c 0 → j < c 0 → CH c v w i j = CH c v w j i := by
    intro i j h1 h2
    unfold CH
    rw [clash_comm hi h1 h2]
  -- one sheet's pairs with those behind it
  have inner : ∀ i k j (a : Nat), i < c 0 → j + k = c 0 → FL2_X5_clashingPairs c v w i k j (nI a) = nI (a + (cnt (CH c v w i) (c 0) - cnt (CH c v w i) j)) ∧ cnt (CH c v w i) j ≤ cnt (CH c v w i) (c 0) := by
    intro i k
    induction k with
    | zero =>
      intro j a _ hj
      obtain rfl : j = c 0 := by omega
      exact ⟨by rw [Nat.sub_self]; rfl, Nat.le_refl _⟩
    | succ k ih =>
      intro j a h1 hj
      have hstep : cnt (CH c v w i) (j + 1) = if CH c v w i j = true then cnt (CH c v w i) j + 1 else cnt (CH c v w i) j := rfl
      by_cases hc : CH c v w i j = true
      · rw [if_pos hc] at hstep
        have hn : ¬ F_X5_hasField (F_X5_clashRegion c v w (nI i) (nI j)) = 0 := by
          intro q
          unfold CH at hc
          rw [q] at hc
          exact absurd hc (by decide)
        obtain ⟨g1, g2⟩ := ih (j + 1) (a + 1) h1 (by omega)
        have e : FL2_X5_clashingPairs c v w i (k + 1) j (nI a) = FL2_X5_clashingPairs c v w i k (j + 1) (nI (a + 1)) := by
          show FL2_X5_clashingPairs c v w i k (j + 1) _ = _
          rw [if_neg hn, nI_1]
        rw [e, g1, hstep]
        exact ⟨by congr 1; omega, by omega⟩
      · rw [if_neg hc] at hstep
        have hn : F_X5_hasField (F_X5_clashRegion c v w (nI i) (nI j)) = 0 := by
          by_cases q : F_X5_hasField (F_X5_clashRegion c v w (nI i) (nI j)) = 0
          · exact q
          · exact absurd (by unfold CH; simp [q]) hc
        obtain ⟨g1, g2⟩ := ih (j + 1) a h1 (by omega)
        have e : FL2_X5_clashingPairs c v w i (k + 1) j (nI a) = FL2_X5_clashingPairs c v w i k (j + 1) (nI a) := by
          show FL2_X5_clashingPairs c v w i k (j + 1) _ = _
          rw [if_pos hn]
        rw [e, g1, hstep]
        exact ⟨rfl, by omega⟩
  have one : ∀ i a, i < c 0 → FL2_X5_clashingPairs c v w i (c 0 - (i + 1)) (i + 1) (nI a) = nI (a + (cnt (CH c v w i) (c 0) - cnt (CH c v w i) (i + 1))) := fun i a h => (inner i _ (i + 1) a h (by omega)).1
  have step : ∀ k i a, FL_X5_clashingPairs c v w (k + 1) i (nI a) = FL_X5_clashingPairs c v w k (i + 1) (FL2_X5_clashingPairs c v w i (c 0 - (i + 1)) (i + 1) (nI a)) := fun _ _ _ => rfl
  have z : ∀ i a, FL_X5_clashingPairs c v w 0 i (nI a) = nI a := fun _ _ => rfl
  unfold F_X5_many6 F_X5_clashingPairs
  show FL_X5_clashingPairs c v w (c 0) 0 (nI 0) = _
  -- by the number of sheets
  have key : ∀ n, n = c 0 → n ≤ 5 → FL_X5_clashingPairs c v w n 0 (nI 0) = nI (PR c v w n) := by
    intro n hn hn5
    have cs : ∀ i m, cnt (CH c v w i) (m + 1) = cnt (CH c v w i) m + (if CH c v w i m = true then 1 else 0) := by
      intro i m
      show (if CH c v w i m = true then cnt (CH c v w i) m + 1 else cnt (CH c v w i) m) = _
      split <;> rfl
    have c0 : ∀ i, cnt (CH c v w i) 0 = 0 := fun _ => rfl
    rcases (show n = 0 ∨ n = 1 ∨ n = 2 ∨ n = 3 ∨ n = 4 ∨ n = 5 by omega) with rfl | rfl | rfl | rfl | rfl | rfl
    · rfl
    · rw [step 0 0, one 0 _ (by omega), z]
      congr 1
      rw [← hn]
      simp only [PR, PQ, cs, c0, Nat.zero_add, Nat.reduceAdd]
      omega
    · rw [step 1 0, one 0 _ (by omega), step 0 (0 + 1), one (0 + 1) _ (by omega), z]
      congr 1
      rw [← hn]
      simp only [PR, PQ, cs, c0, Nat.zero_add, Nat.reduceAdd]
      rw [hs 0 1 (by omega) (by omega)]
      omega
    · rw [step 2 0, one 0 _ (by omega), step 1 (0 + 1), one (0 + 1) _ (by omega), step 0 (0 + 1 + 1), one (0 + 1 + 1) _ (by omega), z]
      congr 1
      rw [← hn]
      simp only [PR, PQ, cs, c0, Nat.zero_add, Nat.reduceAdd]
      rw [hs 0 1 (by omega) (by omega), hs 0 2 (by omega) (by omega), hs 1 2 (by omega) (by omega)]
      omega
    · rw [step 3 0, one 0 _ (by omega), step 2 (0 + 1), one (0 + 1) _ (by omega), step 1 (0 + 1 + 1), one (0 + 1 + 1) _ (by omega), step 0 (0 + 1 + 1 + 1), one (0 + 1 + 1 + 1) _ (by omega), z]
      congr 1
      rw [← hn]
      simp only [PR, PQ, cs, c0, Nat.zero_add, Nat.reduceAdd]
      rw [hs 0 1 (by omega) (by omega), hs 0 2 (by omega) (by omega), hs 1 2 (by omega) (by omega), hs 0 3 (by omega) (by omega), hs 1 3 (by omega) (by omega), hs 2 3 (by omega) (by omega)]
      omega
    · rw [step 4 0, one 0 _ (by omega), step 3 (0 + 1), one (0 + 1) _ (by omega), step 2 (0 + 1 + 1), one (0 + 1 + 1) _ (by omega), step 1 (0 + 1 + 1 + 1), one (0 + 1 + 1 + 1) _ (by omega), step 0 (0 + 1 + 1 + 1 + 1), one (0 + 1 + 1 + 1 + 1) _ (by omega), z]
      congr 1
      rw [← hn]
      simp only [PR, PQ, cs, c0, Nat.zero_add, Nat.reduceAdd]
      rw [hs 0 1 (by omega) (by omega), hs 0 2 (by omega) (by omega), hs 1 2 (by omega) (by omega), hs 0 3 (by omega) (by omega), hs 1 3 (by omega) (by omega), hs 2 3 (by omega) (by omega), hs 0 4 (by omega) (by omega), hs 1 4 (by omega) (by omega), hs 2 4 (by omega) (by omega), hs 3 4 (by omega) (by omega)]
      omega
  exact key (c 0) rfl h0
/-! packages -/
theorem FL_firstUnfit_some {c : SC} {v : SV} {w : SW} {i : Nat} {row : Nat → Int32} : ∀ k j, j + k = c 0 → ¬ FL_X5_firstUnfit c v w i row k j = -1 → ∃ q, q < c 0 ∧ FL_X5_firstUnfit c v w i row k j = nI q ∧ ¬ F_X5_wrongWith c v w i row (nI q) = 0 := by
  intro k
  induction k with
  | zero => intro j _ h; exact absurd rfl h
  | succ k ih =>
    intro j hj h
    have e : FL_X5_firstUnfit c v w i row (k + 1) j = (if (F_X5_isIn (v 7 i 1) (nI j)) = 0 then (FL_X5_firstUnfit c v w i row k (j + 1)) else (if (F_X5_wrongWith c v w i row (nI j)) = 0 then (FL_X5_firstUnfit c v w i row k (j + 1)) else (nI j))) := rfl
    rw [e] at h ⊢
    by_cases a : F_X5_isIn (v 7 i 1) (nI j) = 0
    · rw [if_pos a] at h ⊢
      exact ih (j + 1) (by omega) h
    · rw [if_neg a] at h ⊢
      by_cases b : F_X5_wrongWith c v w i row (nI j) = 0
      · rw [if_pos b] at h ⊢
        exact ih (j + 1) (by omega) h
      · rw [if_neg b] at h ⊢
        exact ⟨j, by omega, rfl, b⟩
theorem fu_cases {c : SC} {v : SV} {w : SW} {i : Nat} {row : Nat → Int32} : F_X5_firstUnfit c v w i row = -1 ∨ ∃ q, q < c 0 ∧ F_X5_firstUnfit c v w i row = nI q ∧ ¬ F_X5_wrongWith c v w i row (nI q) = 0 := by
  by_cases h : F_X5_firstUnfit c v w i row = -1
  · exact Or.inl h
  · exact Or.inr (FL_firstUnfit_some (c 0) 0 (by omega) h)
theorem fa_u {c : SC} {v : SV} {w : SW} (hi : INV c v w) {k : Nat} (hk : k < c 4) : (0 ≤ F_X5_ofPack4 c v w (nI k) → ¬ F_X5_ofPack5 c v w (nI k) = 0) ∧ (¬ 0 ≤ F_X5_ofPack4 c v w (nI k) → F_X5_ofPack5 c v w (nI k) = 0) := by
  have h4 := hi.1.2.2.2.2
  have h0 := hi.1.1
  unfold F_X5_ofPack4 F_X5_ofPack5 F_X5_wrongWithFirst
  rw [cl (by omega)]
  rcases fu_cases (c := c) (v := v) (w := w) (i := k) (row := v 57 ((v 7 k 0).toNatClampNeg)) with e | ⟨q, hq, e, hw⟩
  · rw [e]
    exact ⟨fun h => absurd h (by decide), fun _ => if_pos rfl⟩
  · rw [e, if_neg (ne_m1 (nI_pos (by omega)))]
    exact ⟨fun _ => hw, fun h => absurd (nI_pos' (by omega)) h⟩
theorem fa_run {c : SC} {v : SV} {w : SW} (hi : INV c v w) {k : Nat} (hk : k < c 4) (h : F_X5_ofPack2 c v w (nI k) = 1) : F_X5_firstUnfit c v w k (v 57 (v 7 k 0).toNatClampNeg) = -1 ∧ ¬ 0 < F_X5_ofPack5 c v w (nI k) := by
  have h4 := hi.1.2.2.2.2
  obtain ⟨cr, s, d, st, a1, a2, a3, a4, a5, a6, a7, a8, a9, a10⟩ := hi.2.2.2.2 k hk
  unfold F_X5_ofPack2 at h
  rw [cl (by omega), a8] at h
  have hst : st = 1 := (nI_eq (by omega) (by omega)).mp (show nI st = nI 1 from h)
  have e := a10 hst
  have e2 : F_X5_firstUnfit c v w k (v 57 (v 7 k 0).toNatClampNeg) = -1 := by rw [a5, cl (by omega)]; exact e
  refine ⟨e2, ?_⟩
  unfold F_X5_ofPack5 F_X5_wrongWithFirst
  rw [cl (by omega), if_pos e2]
  decide
theorem fa_done {c : SC} {v : SV} {w : SW} (hi : INV c v w) {k : Nat} (hk : k < c 4) : F_X5_ofPack2 c v w (nI k) = 3 ↔ F_X5_ofPack3 c v w (nI k) = 0 := by
  have h4 := hi.1.2.2.2.2
  obtain ⟨cr, s, d, st, a1, a2, a3, a4, a5, a6, a7, a8, a9, a10⟩ := hi.2.2.2.2 k hk
  unfold F_X5_ofPack2 F_X5_ofPack3
  rw [cl (by omega), a7, a8]
  rw [show ((3 : Int32) = nI 3) from rfl, show ((0 : Int32) = nI 0) from rfl, nI_eq (by omega) (by omega), nI_eq (by omega) (by omega)]
  exact a9
theorem fa_crew {c : SC} {v : SV} {w : SW} (hi : INV c v w) {k : Nat} (hk : k < c 4) : ¬ F_X5_ofPack0 c v w (nI k) < 0 ∧ F_X5_ofPack0 c v w (nI k) < 4 := by
  have h4 := hi.1.2.2.2.2
  obtain ⟨cr, s, d, st, a1, a2, a3, a4, a5, -⟩ := hi.2.2.2.2 k hk
  unfold F_X5_ofPack0
  rw [cl (by omega), a5]
  exact ⟨nI_pos (by omega), nI_lt (b := 4) a1 (by decide)⟩
theorem fa_sheet {c : SC} {v : SV} {w : SW} (hi : INV c v w) {k j : Nat} (hk : k < c 4) (hj : j < c 0) (h : F_X5_ofPack2 c v w (nI k) = 1) (hb : ((F_X5_ofPack1 c v w (nI k)) >>> (nI j &&& 31)) &&& (1 : Int32) = (1 : Int32)) : F_X5_has c v w (F_X5_ofPack0 c v w (nI k)) (nI j) = F_X5_ofSheet2 c v w (nI j) ∧ ¬ 0 < F_X5_ofSheet7 c v w (nI j) ∧ F_X5_ofSheet6 c v w (nI j) ≤ 2 := by
  have h4 := hi.1.2.2.2.2
  have h0 := hi.1.1
  obtain ⟨e, -⟩ := fa_run hi hk h
  obtain ⟨cr, s, d, st, a1, a2, a3, a4, a5, a6, a7, a8, a9, a10⟩ := hi.2.2.2.2 k hk
  unfold F_X5_ofPack1 at hb
  rw [cl (by omega), a6, bit_1 (by omega) (by omega)] at hb
  subst hb
  rw [firstUnfit_iff h0] at e
  have e1 := e s hj
  rw [a6, isIn_1 (by omega) (by omega)] at e1
  have e2 := e1.resolve_left (fun q => q rfl)
  unfold F_X5_wrongWith at e2
  unfold F_X5_has F_X5_ofPack0 F_X5_ofSheet2 F_X5_ofSheet7 F_X5_ofSheet6
  rw [cl (i := k) (by omega)]
  rw [cl (i := s) (by omega)] at e2 ⊢
  by_cases p1 : v 1 s 3 = (-1 : Int32)
  · rw [if_pos p1] at e2
    exact absurd e2 (by decide)
  · rw [if_neg p1] at e2
    by_cases p2 : v 57 (v 7 k 0).toNatClampNeg s = v 1 s 3
    · rw [if_pos p2] at e2
      by_cases p3 : F_X5_brokenFrom c v w (nI s) ≤ 0
      · rw [if_pos p3] at e2
        by_cases p4 : F_X5_cloudsOver c v w (nI s) (w 7 k 0) ≤ 0
        · rw [if_pos p4] at e2
          by_cases p5 : v 1 s 5 < (3 : Int32)
          · refine ⟨p2, Int32.not_lt.mpr p3, ?_⟩
            rw [Int32.le_iff_toInt_le]
            rw [Int32.lt_iff_toInt_lt] at p5
            have q3 : (3 : Int32).toInt = 3 := by decide
            have q2 : (2 : Int32).toInt = 2 := by decide
            omega
          · rw [if_neg p5] at e2
            exact absurd e2 (by decide)
        · rw [if_neg p4] at e2
          exact absurd e2 (by decide)
      · rw [if_neg p3] at e2
        exact absurd e2 (by decide)
    · rw [if_neg p2] at e2
      exact absurd e2 (by decide)
/-! the end -/
def FS (c : SC) (v : SV) (w : SW) (i : Nat) : Bool := decide (v 7 i 3 = 2) && decide (F_X5_firstUnfit c v w i (v 57 ((v 7 i 0).toNatClampNeg)) = -1)
theorem fit_cnt {c : SC} {v : SV} {w : SW} : F_X5_fitStopped c v w = nI (cnt (FS c v w) (c 4)) := by
  have key : ∀ k i, i + k = c 4 → FL_X5_fitStopped c v w k i (nI (cnt (FS c v w) i)) = nI (cnt (FS c v w) (c 4)) := by
    intro k
    induction k with
    | zero =>
      intro i hi
      obtain rfl : i = c 4 := by omega
      rfl
    | succ k ih =>
      intro i hi
      rw [← ih (i + 1) (by omega)]
      show FL_X5_fitStopped c v w k (i + 1) _ = FL_X5_fitStopped c v w k (i + 1) _
      congr 1
      show _ = nI (if FS c v w i = true then cnt (FS c v w) i + 1 else cnt (FS c v w) i)
      by_cases h : v 7 i 3 = 2
      · rw [if_pos h]
        by_cases h2 : F_X5_firstUnfit c v w i (v 57 ((v 7 i 0).toNatClampNeg)) = -1
        · rw [if_pos h2, if_pos (by simp [FS, h, h2]), nI_1]
        · rw [if_neg h2, if_neg (by simp [FS, h2])]
      · rw [if_neg h, if_neg (by simp [FS, h])]
  exact key (c 4) 0 (by omega)
theorem freed_le {c : SC} {v : SV} {w : SW} (hi : INV c v w) {q : Nat} : ¬ F_X5_many10 c v w < F_X5_freedBy c v w (nI q) := by
  have h4 := hi.1.2.2.2.2
  unfold F_X5_freedBy F_X5_many10
  rw [fit_cnt, fit_cnt, packs_cnt]
  have a1 := cnt_le (P := FS c v w) (c 4)
  have a2 := cnt_le (P := FS c (uV v 4 (nI q).toNatClampNeg 1 2) w) (c 4)
  have a3 := cnt_le (P := IS v 2) (c 4)
  have a4 : cnt (FS c (uV v 4 (nI q).toNatClampNeg 1 2) w) (c 4) ≤ cnt (IS v 2) (c 4) := by
    refine cnt_mono (c 4) (fun i _ h => ?_)
    unfold FS at h
    simp only [Bool.and_eq_true, decide_eq_true_eq] at h
    exact decide_eq_true (show v 7 i 3 = 2 from h.1)
  rw [Int32.not_lt, Int32.le_iff_toInt_le, Int32.toInt_sub, nI_toInt (by omega), nI_toInt (by omega), nI_toInt (by omega)]
  have e : ((cnt (FS c (uV v 4 (nI q).toNatClampNeg 1 2) w) (c 4) : Int) - (cnt (FS c v w) (c 4) : Int)).bmod (2 ^ 32) = (cnt (FS c (uV v 4 (nI q).toNatClampNeg 1 2) w) (c 4) : Int) - (cnt (FS c v w) (c 4) : Int) := Int.bmod_eq_of_le (by omega) (by omega)
  rw [e]
  omega
theorem query_open {c : SC} {v : SV} {w : SW} (hi : INV c v w) {q : Nat} (hq : q < c 3) : ¬ F_X5_ofQuery c v w (nI q) = 2 := by
  have h3 := hi.1.2.2.2.1
  unfold F_X5_ofQuery
  rw [cl (by omega), hi.2.2.2.1 q hq]
  decide
/-! the start: sheets drawn, checked and issued one by one -/
def INI (c : SC) (v : SV) (w : SW) (k : Nat) : Prop := (c 0 = k ∧ c 1 = 0 ∧ c 2 = 0 ∧ c 3 = 0 ∧ c 4 = 0) ∧ (∀ i, i < k → SHT v w i ∧ v 1 i 3 = 0) ∧ ∀ r j, v 57 r j = -1
def DRA (c : SC) (v : SV) (w : SW) (k : Nat) : Prop := (c 0 = k + 1 ∧ c 1 = 0 ∧ c 2 = 0 ∧ c 3 = 0 ∧ c 4 = 0) ∧ (∀ i, i < k → SHT v w i ∧ v 1 i 3 = 0) ∧ (∀ r j, v 57 r j = -1) ∧ v 1 k 1 = 0 ∧ v 1 k 3 = -1 ∧ v 1 k 6 = 0
theorem INI_inv {c : SC} {v : SV} {w : SW} {k : Nat} (h : INI c v w k) (hk : k ≤ 5) : INV c v w := by
  obtain ⟨⟨h0, h1, h2, h3, h4⟩, hs, -⟩ := h
  exact ⟨by omega, fun i hi => (hs i (by omega)).1, fun i hi => absurd hi (by omega), fun i hi => absurd hi (by omega), fun i hi => absurd hi (by omega)⟩
theorem DRA_bnd {c : SC} {v : SV} {w : SW} {k : Nat} (h : DRA c v w k) (hk : k < 5) : BND c := by
  obtain ⟨⟨h0, h1, h2, h3, h4⟩, -⟩ := h
  exact ⟨by omega, by omega, by omega, by omega, by omega⟩
theorem DRA_wf {c : SC} {v : SV} {w : SW} {k : Nat} (h : DRA c v w k) (hk : k < 5) : WF c v := by
  obtain ⟨⟨h0, h1, h2, h3, h4⟩, hs, -, e1, -⟩ := h
  refine ⟨fun i hi => absurd hi (by omega), fun i hi => absurd hi (by omega), fun i hi => ?_⟩
  by_cases e : i = k
  · rw [e, e1]
    decide
  · obtain ⟨L, K, hL, -, -, a4, -⟩ := (hs i (by omega)).1
    rw [a4]
    exact ⟨nI_pos (by omega), by rw [cl (by omega)]; omega⟩
theorem ini_sheet {c : SC} {v : SV} {w : SW} {k : Nat} (h : INI c v w k) (x1 : Int32) : DRA (uC c 0 (c 0 + 1)) (V_X5_sheet c v w x1) (W_X5_sheet c v w x1) k ∧ V_X5_sheet c v w x1 1 k 2 = 0 := by
  obtain ⟨⟨h0, h1, h2, h3, h4⟩, hs, hr⟩ := h
  unfold V_X5_sheet W_X5_sheet
  have e : ∀ a b f, ¬ (b = c 0 ∧ (a = 1 ∨ a = 12)) → newV_1 v (c 0) x1 a b f = v a b f := by
    intro a b f hn
    unfold newV_1
    rw [if_neg hn]
  have ew : ∀ a b f, ¬ (b = c 0 ∧ (a = 1 ∨ a = 11)) → newW_1 w (c 0) a b f = w a b f := by
    intro a b f hn
    unfold newW_1
    rw [if_neg hn]
  subst h0
  refine ⟨⟨⟨rfl, h1, h2, h3, h4⟩, fun i hi => ⟨?_, ?_⟩, fun r j => ?_, ?_, ?_, ?_⟩, ?_⟩
  · exact SHT_same (hs i hi).1 (e _ _ _ (by omega)) (e _ _ _ (by omega)) (e _ _ _ (by omega)) (e _ _ _ (by omega)) (fun r => e _ _ _ (by omega)) (ew _ _ _ (by omega)) (fun r => ew _ _ _ (by omega))
  · rw [e _ _ _ (by omega)]; exact (hs i hi).2
  · rw [e _ _ _ (by omega)]; exact hr r j
  · simp [newV_1]
  · simp [newV_1]
  · simp [newV_1]
  · simp [newV_1]
theorem ini_last {c : SC} {v : SV} {w : SW} {k : Nat} (h : DRA c v w k) (hk : k < 5) : (nI k).toNatClampNeg = k ∧ (v 1 k 2 = 0 → F_X3_lastStatus c v w (nI k).toNatClampNeg = 0) ∧ (v 1 k 2 = 1 → ¬ F_X5_isReadyToIssue c v w (nI k) = 0) ∧ F_X5_brokenFrom c v w (nI k) = 0 := by
  obtain ⟨⟨h0, h1, h2, h3, h4⟩, hs, -, e1, e3, -⟩ := h
  have hc : (nI k).toNatClampNeg = k := cl (by omega)
  have hb : F_X5_brokenFrom c v w (nI k) = 0 := by
    unfold F_X5_brokenFrom
    rw [h1]
    rfl
  have st : F_X3_lastStatus c v w k = if v 1 k 2 = 0 then 0 else 1 := by
    unfold F_X3_lastStatus F_X3_statusOf
    rw [e1, e3, if_neg (by decide), if_pos (by decide)]
  refine ⟨hc, fun q => ?_, fun q => ?_, hb⟩
  · rw [hc, st, if_pos q]
  · unfold F_X5_isReadyToIssue
    rw [hc, st, if_neg (show ¬ v 1 k 2 = 0 by rw [q]; decide), if_pos rfl, hb, if_pos rfl]
    decide
theorem ini_draw {c : SC} {v : SV} {w : SW} {k : Nat} (h : DRA c v w k) (hk : k < 5) (x2 x3 x4 x5 x6 : Int32) : DRA c (V_X5_draw c v w (nI k) x2 x3 x4 x5 x6) (W_X5_draw c v w (nI k) x2 x3 x4 x5 x6) k ∧ V_X5_draw c v w (nI k) x2 x3 x4 x5 x6 1 k 2 = v 1 k 2 ∧ W_X5_draw c v w (nI k) x2 x3 x4 x5 x6 11 k 0 = F_X5_regionOf x2 x3 x4 x5 := by
  have hc := (ini_last h hk).1
  obtain ⟨hcs, hs, hr, e1, e3, e6⟩ := h
  unfold V_X5_draw W_X5_draw V_X3_drawLast W_X3_drawLast
  rw [hc, e1]
  refine ⟨⟨hcs, fun i hi => ⟨?_, (hs i hi).2⟩, hr, e1, e3, e6⟩, rfl, ?_⟩
  · exact SHT_same (hs i hi).1 rfl rfl rfl rfl (fun r => uV_ne (by omega)) rfl (fun r => uW_ne (by omega))
  · exact uW_eq
theorem ini_check {c : SC} {v : SV} {w : SW} {k : Nat} (h : DRA c v w k) (hk : k < 5) : DRA c (V_X5_check c v w (nI k)) w k ∧ V_X5_check c v w (nI k) 1 k 2 = 1 ∧ F_X5_check c v w (nI k) = 0 := by
  have hc := (ini_last h hk).1
  obtain ⟨hcs, hs, hr, e1, e3, e6⟩ := h
  unfold V_X5_check F_X5_check
  rw [hc]
  have e : ∀ i f, f ≠ 2 → uV v 1 k 2 1 1 i f = v 1 i f := fun i f hf => uV_f hf
  refine ⟨⟨hcs, fun i hi => ⟨?_, (e i 3 (by decide)).trans (hs i hi).2⟩, hr, (e k 1 (by decide)).trans e1, (e k 3 (by decide)).trans e3, (e k 6 (by decide)).trans e6⟩, uV_eq, ?_⟩
  · exact SHT_same (hs i hi).1 (e _ _ (by decide)) (e _ _ (by decide)) (e _ _ (by decide)) (e _ _ (by decide)) (fun _ => rfl) rfl (fun _ => rfl)
  · unfold F_X5_brokenFrom
    rw [hcs.2.1]
    rfl
theorem ini_issue {c : SC} {v : SV} {w : SW} {k : Nat} (h : DRA c v w k) (hk : k < 5) (hR : REG (w 11 k 0)) : INI c (V_X5_issue c v w (nI k)) (W_X5_issue c v w (nI k)) (k + 1) ∧ F_X5_issue c v w (nI k) = 0 := by
  have hc := (ini_last h hk).1
  obtain ⟨⟨h0, h1, h2, h3, h4⟩, hs, hr, e1, e3, e6⟩ := h
  have ec := closePromised_id (c := c) (v := V_X3_setIssued c v w k (v 1 k 1)) (w := W_X3_setIssued c v w k (v 1 k 1)) (x1 := nI k) (fun i hi => absurd hi (by omega))
  have es : ∀ V W, V_X5_stopUnfit c V W = V := by
    intro V W
    unfold V_X5_stopUnfit
    rw [h4]
    rfl
  unfold V_X5_issue W_X5_issue F_X5_issue
  rw [hc, ec, es, e1]
  have z : (0 : Int32).toNatClampNeg = 0 := by decide
  refine ⟨⟨⟨h0, h1, h2, h3, h4⟩, fun i hi => ?_, hr⟩, ?_⟩
  · by_cases e : i = k
    · subst e
      have a3 : V_X3_setIssued c v w i 0 1 i 3 = 0 := (uV_f (by decide)).trans uV_eq
      refine ⟨⟨0, 0, by omega, by omega, by omega, (uV_f (by decide)).trans ((uV_f (by decide)).trans e1), a3, (uV_f (by decide)).trans ((uV_f (by decide)).trans e6), ?_, ?_, fun r hr0 => ?_⟩, a3⟩
      · show W_X3_setIssued c v w i 0 1 i 0 = W_X3_setIssued c v w i 0 11 i 0
        rw [show W_X3_setIssued c v w i 0 1 i 0 = w 11 i (0 : Int32).toNatClampNeg from uW_eq, z]
        rfl
      · show V_X3_setIssued c v w i 0 1 i 4 = V_X3_setIssued c v w i 0 12 i 0
        rw [show V_X3_setIssued c v w i 0 1 i 4 = v 12 i (0 : Int32).toNatClampNeg from uV_eq, z]
        rfl
      · obtain rfl : r = 0 := by omega
        exact hR
    · have n1 : ∀ f, V_X3_setIssued c v w k 0 1 i f = v 1 i f := fun f => (uV_ne (fun q => e q.2)).trans (uV_ne (fun q => e q.2))
      exact ⟨SHT_same (hs i (by omega)).1 (n1 _) (n1 _) (n1 _) (n1 _) (fun _ => rfl) (uW_ne (fun q => e q.2)) (fun _ => rfl), (n1 3).trans (hs i (by omega)).2⟩
  · unfold F_X5_stopUnfit F_X5_unfitRunning
    rw [h4]
    exact (by decide +kernel : F_J6_bitCount_0f7a4 0 = 0)
/-! all crews get the first sending -/
def SNT (c : SC) (v : SV) (w : SW) (n cr : Nat) (aw : Int32) : Prop := INV c v w ∧ c 0 = n ∧ c 2 = 1 ∧ c 3 = 0 ∧ c 4 = 0 ∧ (∀ j, j < 10 → v 13 0 j = if j < n then 0 else -1) ∧ (∀ r j, cr ≤ r → v 57 r j = -1) ∧ v 3 0 1 = aw
theorem packSheets_at {c : SC} {v : SV} {w : SW} {n : Nat} {x1 : Int32} : ∀ (k i : Nat) (V : SV), (∀ j, ¬ (i ≤ j ∧ j < i + k) → VL_X5_packSheets c v w n x1 k i V 13 n j = V 13 n j) ∧ ∀ j, i ≤ j → j < i + k → VL_X5_packSheets c v w n x1 k i V 13 n j = if F_X5_isIn x1 (nI j) = 0 then V 13 n j else V 1 j 3 := by
  intro k
  induction k with
  | zero => intro i V; exact ⟨fun _ _ => rfl, fun j h1 h2 => absurd h2 (by omega)⟩
  | succ k ih =>
    intro i V
    have e : VL_X5_packSheets c v w n x1 (k + 1) i V = VL_X5_packSheets c v w n x1 k (i + 1) (if (F_X5_isIn x1 (nI i)) = 0 then V else (uV V 13 n i (V 1 i 3))) := rfl
    obtain ⟨h1, h2⟩ := ih (i + 1) (if (F_X5_isIn x1 (nI i)) = 0 then V else (uV V 13 n i (V 1 i 3)))
    rw [e]
    have f : ∀ j, j ≠ i → (if (F_X5_isIn x1 (nI i)) = 0 then V else (uV V 13 n i (V 1 i 3))) 13 n j = V 13 n j := by
      intro j hj
      split
      · rfl
      · exact uV_f hj
    have g : ∀ j, (if (F_X5_isIn x1 (nI i)) = 0 then V else (uV V 13 n i (V 1 i 3))) 1 j 3 = V 1 j 3 := by
      intro j
      split
      · rfl
      · rfl
    refine ⟨fun j hj => ?_, fun j hj hj2 => ?_⟩
    · rw [h1 j (by omega), f j (by omega)]
    · by_cases e2 : j = i
      · subst e2
        rw [h1 j (by omega)]
        split
        · rfl
        · exact uV_eq
      · rw [h2 j (by omega) (by omega), f j e2, g j]
theorem ini_send {c : SC} {v : SV} {w : SW} {n : Nat} (h : INI c v w n) (h1 : 1 ≤ n) (hn : n ≤ 5) : SNT (uC c 2 (c 2 + 1)) (V_X5_send c v w 15 (((1 : Int32) <<< (nI n &&& 31)) - (1 : Int32))) w n 0 15 := by
  have hi := INI_inv h hn
  obtain ⟨⟨h0, k1, h2, h3, h4⟩, hs, hr⟩ := h
  refine ⟨INV_send hi (by omega) _ _, h0, by show c 2 + 1 = 1; omega, h3, h4, fun j hj => ?_, fun r j _ => ?_, ?_⟩
  · unfold V_X5_send V_X5_packSheets
    rw [h2]
    obtain ⟨q1, q2⟩ := packSheets_at (c := c) (v := newV_3 v 0 15 (nI (c 5))) (w := w) (n := 0) (x1 := ((1 : Int32) <<< (nI n &&& 31)) - (1 : Int32)) (c 0) 0 (newV_3 v 0 15 (nI (c 5)))
    have m1 : newV_3 v 0 15 (nI (c 5)) 13 0 j = -1 := by simp [newV_3]
    by_cases hjn : j < n
    · rw [q2 j (by omega) (by omega), if_pos hjn]
      have hb : ¬ F_X5_isIn (((1 : Int32) <<< (nI n &&& 31)) - (1 : Int32)) (nI j) = 0 := fun q => by
        have := (isIn_all (n := n) (j := j) (by omega) (by omega)).mp q
        omega
      rw [if_neg hb]
      have m2 : newV_3 v 0 15 (nI (c 5)) 1 j 3 = v 1 j 3 := by simp [newV_3]
      rw [m2]
      exact (hs j hjn).2
    · rw [q1 j (by omega), m1, if_neg hjn]
  · rw [send_frame (by decide) (by decide)]; exact hr r j
  · unfold V_X5_send V_X5_packSheets
    rw [packSheets_frame _ _ _ _ _ _ (by decide), h2]
    simp [newV_3]
theorem take_all {c : SC} {v : SV} {w : SW} {r n : Nat} (hn : n ≤ 10) : ∀ (k i a : Nat) (V : SV), i + k = 10 → (∀ j, i ≤ j → j < 10 → V 13 0 j = (if j < n then 0 else -1) ∧ V 57 r j = -1) → a + (n - i) < 2 ^ 31 → FL_X5_takeLater c v w 0 r k i V (nI a) = nI (a + (n - i)) := by
  intro k
  induction k with
  | zero =>
    intro i a V hi _ _
    have : n - i = 0 := by omega
    rw [this]
    rfl
  | succ k ih =>
    intro i a V hi hV ha
    obtain ⟨e1, e2⟩ := hV i (Nat.le_refl i) (by omega)
    have hs : FL_X5_takeLater c v w 0 r (k + 1) i V (nI a) = FL_X5_takeLater c v w 0 r k (i + 1) (if (V 13 0 i) ≤ (V 57 r i) then V else (uV V 57 r i (V 13 0 i))) (if (V 13 0 i) ≤ (V 57 r i) then (nI a) else ((nI a) + 1)) := rfl
    rw [hs, e1, e2]
    by_cases h : i < n
    · rw [if_pos h, if_neg (by decide), if_neg (by decide), nI_1, ih (i + 1) (a + 1) _ (by omega) (fun j hj hj2 => ?_) (by omega)]
      · congr 1
        omega
      · obtain ⟨g1, g2⟩ := hV j (by omega) hj2
        exact ⟨g1, (uV_f (by omega)).trans g2⟩
    · rw [if_neg h, if_pos (Int32.le_refl _), if_pos (Int32.le_refl _), ih (i + 1) a _ (by omega) (fun j hj hj2 => hV j (by omega) hj2) (by omega)]
      congr 1
      omega
theorem take_frame {c : SC} {v : SV} {w : SW} {i r : Nat} {a b f : Nat} (h : ¬ (a = 57 ∧ b = r)) : V_X5_takeLater c v w i r a b f = v a b f := by
  have key : ∀ (k j : Nat) (V : SV), VL_X5_takeLater c v w i r k j V a b f = V a b f := by
    intro k
    induction k with
    | zero => intro j V; rfl
    | succ k ih =>
      intro j V
      show VL_X5_takeLater c v w i r k (j + 1) _ a b f = _
      rw [ih]
      split
      · rfl
      · exact uV_ne h
  exact key _ _ _
theorem ini_receive {c : SC} {v : SV} {w : SW} {n cr : Nat} {aw : Int32} (h : SNT c v w n cr aw) (hcr : cr < 4) : SNT c (V_X5_receive c v w 0 (nI cr)) w n (cr + 1) (aw &&& (((1 : Int32) <<< (nI cr &&& 31)) ^^^ (-1 : Int32))) ∧ F_X5_receive c v w 0 (nI cr) = nI n := by
  obtain ⟨hi, h0, h2, h3, h4, hs, hr, ha⟩ := h
  have hc : (nI cr).toNatClampNeg = cr := cl (by omega)
  have hz : (0 : Int32).toNatClampNeg = 0 := by decide
  have h5 := hi.1.1
  unfold V_X5_receive F_X5_receive
  rw [hc, hz, ha]
  have fr : ∀ a b f, ¬ (a = 57 ∧ b = cr) → ¬ (a = 3 ∧ b = 0) → V_X5_takeLater c (uV v 3 0 1 (aw &&& (((1 : Int32) <<< (nI cr &&& 31)) ^^^ (-1 : Int32)))) w 0 cr a b f = v a b f := by
    intro a b f g1 g2
    rw [take_frame g1]
    exact uV_ne g2
  refine ⟨⟨⟨hi.1, fun i hi9 => ?_, fun i hi9 => ?_, fun i hi9 => absurd hi9 (by omega), fun i hi9 => absurd hi9 (by omega)⟩, h0, h2, h3, h4, fun j hj => ?_, fun r j hr9 => ?_, ?_⟩, ?_⟩
  · exact SHT_same (hi.2.1 i hi9) (fr _ _ _ (by omega) (by omega)) (fr _ _ _ (by omega) (by omega)) (fr _ _ _ (by omega) (by omega)) (fr _ _ _ (by omega) (by omega)) (fun r => fr _ _ _ (by omega) (by omega)) rfl (fun _ => rfl)
  · rw [fr _ _ _ (by omega) (by omega)]; exact hi.2.2.1 i hi9
  · rw [fr _ _ _ (by omega) (by omega)]; exact hs j hj
  · rw [fr _ _ _ (by omega) (by omega)]; exact hr r j (by omega)
  · rw [take_frame (by omega)]; exact uV_eq
  · unfold F_X5_takeLater
    have e := take_all (c := c) (v := uV v 3 0 1 (aw &&& (((1 : Int32) <<< (nI cr &&& 31)) ^^^ (-1 : Int32)))) (w := w) (r := cr) (n := n) (by omega) 10 0 0 (uV v 3 0 1 (aw &&& (((1 : Int32) <<< (nI cr &&& 31)) ^^^ (-1 : Int32)))) (by omega) (fun j _ hj => ⟨(uV_ne (by omega)).trans (hs j hj), (uV_ne (by omega)).trans (hr cr j (Nat.le_refl cr))⟩) (by omega)
    rw [show (0 + (n - 0)) = n by omega] at e
    exact e
theorem allIssued {c : SC} {v : SV} {w : SW} {x1 : Int32} (h : ∀ i, i < c 0 → ¬ v 1 i 3 = -1) : ¬ F_X5_areAllIssued c v w x1 = 0 := by
  have key : ∀ k i, i + k = c 0 → FL_X5_areAllIssued c v w x1 k i = 1 := by
    intro k
    induction k with
    | zero => intro i _; rfl
    | succ k ih =>
      intro i hi
      have e : FL_X5_areAllIssued c v w x1 (k + 1) i = (if (F_X5_isIn x1 (nI i)) = 0 then (FL_X5_areAllIssued c v w x1 k (i + 1)) else (if (v 1 i 3) = (-1 : Int32) then (0 : Int32) else (FL_X5_areAllIssued c v w x1 k (i + 1)))) := rfl
      rw [e, ih (i + 1) (by omega), if_neg (h i (by omega))]
      split <;> rfl
  unfold F_X5_areAllIssued
  rw [key (c 0) 0 (by omega)]
  decide
theorem INV_all {c : SC} {v : SV} {w : SW} (h : INV c v w) : ∀ i, i < c 0 → ¬ v 1 i 3 = -1 := by
  intro i hi
  obtain ⟨L, K, a1, a2, a3, a4, a5, -⟩ := h.2.1 i hi
  rw [a5]
  exact ne_m1 (nI_pos (by omega))
theorem isSet {c : SC} {v : SV} {w : SW} {x1 : Int32} (h : ¬ x1 < 1 ∧ ¬ ((1 : Int32) <<< (nI (c 0) &&& 31)) ≤ x1) : ¬ F_X5_isSetOfSheets c v w x1 = 0 := by
  unfold F_X5_isSetOfSheets
  rw [if_neg h.1, if_neg h.2]
  decide

