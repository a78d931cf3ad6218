/-! what the law's branches stand on -/
theorem sb_ready {c : SC} {v : SV} {w : SW} {s : Nat} (h : ¬ F_X5_stoppedBy c v w (nI s) < 0) : ¬ F_X5_isReadyToIssue c v w (nI s) = 0 ∧ F_X5_ofSheet3 c v w (nI s) = 1 ∧ F_X5_ofSheet7 c v w (nI s) = 0 := by
  unfold F_X5_stoppedBy at h
  by_cases r : F_X5_isReadyToIssue c v w (nI s) = 0
  · rw [if_pos r] at h
    exact absurd (by decide) h
  · refine ⟨r, ?_⟩
    unfold F_X5_isReadyToIssue at r
    unfold F_X5_ofSheet3 F_X5_ofSheet7
    by_cases h1 : F_X3_lastStatus c v w (nI s).toNatClampNeg = 1
    · rw [if_pos h1] at r
      by_cases h2 : F_X5_brokenFrom c v w (nI s) = 0
      · exact ⟨h1, h2⟩
      · rw [if_neg h2] at r
        exact absurd rfl r
    · rw [if_neg h1] at r
      exact absurd rfl r
theorem sb_not {c : SC} {v : SV} {w : SW} {s : Nat} (hi : INV c v w) (h : F_X5_stoppedBy c v w (nI s) < 0) (h3 : F_X5_ofSheet3 c v w (nI s) = 1) : ¬ F_X5_ofSheet7 c v w (nI s) = 0 := by
  intro h7
  have h4 := hi.1.2.2.2.2
  have r : ¬ F_X5_isReadyToIssue c v w (nI s) = 0 := by
    unfold F_X5_isReadyToIssue
    rw [if_pos (show F_X3_lastStatus c v w (nI s).toNatClampNeg = 1 from h3), if_pos (show F_X5_brokenFrom c v w (nI s) = 0 from h7)]
    decide
  unfold F_X5_stoppedBy at h
  rw [if_neg r] at h
  have e := stop_count (c := c) (v := V_X3_setIssued c v w (nI s).toNatClampNeg (v 1 (nI s).toNatClampNeg 1)) (w := W_X3_setIssued c v w (nI s).toNatClampNeg (v 1 (nI s).toNatClampNeg 1)) h4
  unfold F_X5_stopUnfit at e
  rw [e] at h
  have := cnt_le (P := UNF c (V_X3_setIssued c v w (nI s).toNatClampNeg (v 1 (nI s).toNatClampNeg 1)) (W_X3_setIssued c v w (nI s).toNatClampNeg (v 1 (nI s).toNatClampNeg 1))) (c 4)
  exact absurd h (nI_pos (by omega))
theorem st_gt1 {c : SC} {v : SV} {w : SW} {s : Nat} (hi : INV c v w) (hs : s < c 0) (h : ¬ F_X5_ofSheet3 c v w (nI s) ≤ 1) : F_X3_lastStatus c v w (nI s).toNatClampNeg = 2 ∧ v 1 s 3 = v 1 s 1 := by
  have h0 := hi.1.1
  have hc : (nI s).toNatClampNeg = s := cl (by omega)
  obtain ⟨L, K, a1, a2, a3, a4, a5, -⟩ := hi.2.1 s hs
  unfold F_X5_ofSheet3 at h
  rw [hc] at h ⊢
  unfold F_X3_lastStatus F_X3_statusOf at h ⊢
  by_cases e : v 1 s 1 = v 1 s 3
  · exact ⟨if_pos e, e.symm⟩
  · rw [if_neg e] at h
    have h3 : v 1 s 3 ≤ v 1 s 1 := by
      rw [a4, a5]
      exact nI_le (by omega) (by omega)
    rw [if_pos h3] at h
    exfalso
    apply h
    split <;> decide
theorem room20 {k : Nat} (h : ¬ (20 : Int32) ≤ nI k) (hk : k < 2 ^ 31) : k < 20 := by
  rcases Nat.lt_or_ge k 20 with h1 | h1
  · exact h1
  · exact absurd (show nI 20 ≤ nI k from nI_le h1 hk) h
theorem room8 {k : Nat} (h : ¬ (8 : Int32) ≤ nI k) (hk : k < 2 ^ 31) : k < 8 := by
  rcases Nat.lt_or_ge k 8 with h1 | h1
  · exact h1
  · exact absurd (show nI 8 ≤ nI k from nI_le h1 hk) h
theorem crewset : ∀ q, q < 4 → ¬ ((1 : Int32) <<< (nI q &&& 31)) < 1 ∧ ¬ (15 : Int32) < ((1 : Int32) <<< (nI q &&& 31)) := by decide +kernel
theorem place_ans {c : SC} {v : SV} {w : SW} {x1 x2 x3 x4 x5 : Int32} : F_X5_place c v w x1 x2 x3 x4 x5 = F_X5_fieldsOf (F_X5_regionOf x2 x3 x4 x5) := by
  unfold F_X5_place
  rw [uW_eq]
theorem even_state {c : SC} {v : SV} {w : SW} {k : Nat} (hi : INV c v w) (hk : k < c 4) (h : F_X5_ofPack2 c v w (nI k) - F_X5_ofPack2 c v w (nI k) / (2 : Int32) * (2 : Int32) = 0) : v 7 k 3 = 0 ∨ v 7 k 3 = 2 := by
  have h4 := hi.1.2.2.2.2
  obtain ⟨cr, s, d, st, a1, a2, a3, a4, a5, a6, a7, a8, -⟩ := hi.2.2.2.2 k hk
  unfold F_X5_ofPack2 at h
  rw [cl (by omega), a8] at h
  rw [a8]
  rcases (show st = 0 ∨ st = 1 ∨ st = 2 ∨ st = 3 by omega) with rfl | rfl | rfl | rfl
  · exact Or.inl rfl
  · exact absurd h (by decide)
  · exact Or.inr rfl
  · exact absurd h (by decide)
theorem start_rest {c : SC} {v : SV} {w : SW} {k : Nat} (hk : k < 100) (h : v 7 k 3 = 0 ∨ v 7 k 3 = 2) : ¬ F_X4_isAtRest c v w (nI k).toNatClampNeg = 0 := by
  rw [cl hk]
  unfold F_X4_isAtRest
  rcases h with e | e
  · rw [if_pos e]; decide
  · rw [if_neg (by rw [e]; decide), if_pos e]; decide
theorem start_fit {c : SC} {v : SV} {w : SW} {k : Nat} (hi : INV c v w) (h : ¬ 0 ≤ F_X5_ofPack4 c v w (nI k)) : F_X5_firstUnfit c v w (nI k).toNatClampNeg (v 57 (v 7 (nI k).toNatClampNeg 0).toNatClampNeg) = -1 := by
  have h0 := hi.1.1
  unfold F_X5_ofPack4 at h
  rcases fu_cases (c := c) (v := v) (w := w) (i := (nI k).toNatClampNeg) (row := v 57 ((v 7 (nI k).toNatClampNeg 0).toNatClampNeg)) with e | ⟨q, hq, e, -⟩
  · exact e
  · rw [e] at h
    exact absurd (nI_pos' (by omega)) h
theorem start_ans {c : SC} {v : SV} {w : SW} {k : Nat} : F_X5_start c v w (nI k) = F_X5_ofPack3 c (V_X5_start c v w (nI k)) w (nI k) := by
  unfold F_X5_start F_X5_ofPack3 V_X5_start
  exact (uV_f (by decide)).symm
/-! a query's own corner is clouded -/
theorem FL_clouds_ge {c : SC} {v : SV} {w : SW} {x1 : Int32} {x2 : Int64} : ∀ k i a, i + k = c 3 → ∃ a2, a ≤ a2 ∧ a2 ≤ a + k ∧ FL_X5_cloudsOver c v w x1 x2 k i (nI a) = nI a2 ∧ ((∃ j, i ≤ j ∧ j < c 3 ∧ v 4 j 0 = x1 ∧ ¬ v 4 j 1 = 2 ∧ ¬ F_X5_hasField (w 4 j 0 &&& x2) = 0) → a < a2) := by
  intro k
  induction k with
  | zero =>
    intro i a hi
    refine ⟨a, Nat.le_refl a, Nat.le_refl a, rfl, ?_⟩
    rintro ⟨j, h1, h2, -⟩
    omega
  | succ k ih =>
    intro i a hi
    have e : FL_X5_cloudsOver c v w x1 x2 (k + 1) i (nI a) = FL_X5_cloudsOver c v w x1 x2 k (i + 1) (if (v 4 i 0) = x1 then (if (v 4 i 1) = (2 : Int32) then (nI a) else (if (F_X5_hasField ((w 4 i 0) &&& x2)) = 0 then (nI a) else ((nI a) + 1))) else (nI a)) := rfl
    rw [e]
    by_cases h : v 4 i 0 = x1 ∧ ¬ v 4 i 1 = 2 ∧ ¬ F_X5_hasField (w 4 i 0 &&& x2) = 0
    · rw [if_pos h.1, if_neg h.2.1, if_neg h.2.2, nI_1]
      obtain ⟨a2, g1, g2, g3, -⟩ := ih (i + 1) (a + 1) (by omega)
      exact ⟨a2, by omega, by omega, g3, fun _ => by omega⟩
    · have e2 : (if (v 4 i 0) = x1 then (if (v 4 i 1) = (2 : Int32) then (nI a) else (if (F_X5_hasField ((w 4 i 0) &&& x2)) = 0 then (nI a) else ((nI a) + 1))) else (nI a)) = nI a := by
        by_cases h1 : v 4 i 0 = x1
        · rw [if_pos h1]
          by_cases h2 : v 4 i 1 = 2
          · rw [if_pos h2]
          · rw [if_neg h2]
            by_cases h3 : F_X5_hasField (w 4 i 0 &&& x2) = 0
            · rw [if_pos h3]
            · exact absurd ⟨h1, h2, h3⟩ h
        · rw [if_neg h1]
      rw [e2]
      obtain ⟨a2, g1, g2, g3, g4⟩ := ih (i + 1) a (by omega)
      refine ⟨a2, g1, by omega, g3, ?_⟩
      rintro ⟨j, h1, h2, h3⟩
      rcases Nat.eq_or_lt_of_le h1 with rfl | hlt
      · exact absurd h3 h
      · exact g4 ⟨j, hlt, h2, h3⟩
theorem FL2_clouds_ge {c : SC} {v : SV} {w : SW} {x1 : Int32} {x2 : Int64} : ∀ k i a, ∃ a2, a ≤ a2 ∧ a2 ≤ a + k ∧ FL2_X5_cloudsOver c v w x1 x2 k i (nI a) = nI a2 := by
  intro k
  induction k with
  | zero => intro i a; exact ⟨a, Nat.le_refl a, Nat.le_refl a, rfl⟩
  | succ k ih =>
    intro i a
    have e : FL2_X5_cloudsOver c v w x1 x2 (k + 1) i (nI a) = FL2_X5_cloudsOver c v w x1 x2 k (i + 1) (if (F_X5_hasField ((F_X5_clashRegion c v w x1 (nI i)) &&& x2)) = 0 then (nI a) else ((nI a) + 1)) := rfl
    rw [e]
    by_cases h : F_X5_hasField ((F_X5_clashRegion c v w x1 (nI i)) &&& x2) = 0
    · rw [if_pos h]
      obtain ⟨a2, g1, g2, g3⟩ := ih (i + 1) a
      exact ⟨a2, g1, by omega, g3⟩
    · rw [if_neg h, nI_1]
      obtain ⟨a2, g1, g2, g3⟩ := ih (i + 1) (a + 1)
      exact ⟨a2, by omega, by omega, g3⟩
theorem clouds_new {c : SC} {v : SV} {w : SW} (hi : INV c v w) (hroom : c 3 < 20) {s : Nat} {a b a2 b2 : Nat} (ha : a ≤ a2) (ha2 : a2 < 20) (hb : b ≤ b2) (hb2 : b2 < 20) : (1 : Int32) ≤ F_X5_clouds (uC c 3 (c 3 + 1)) (V_X5_query c v w (nI s) (nI a) (nI b) (nI a2) (nI b2)) (W_X5_query c v w (nI s) (nI a) (nI b) (nI a2) (nI b2)) (nI s) (nI a) (nI b2) := by
  have h4 := hi.1.2.2.2.2
  have h0 := hi.1.1
  unfold F_X5_clouds F_X5_cloudsOver
  obtain ⟨q, g1, g2, g3, g4⟩ := FL_clouds_ge (c := uC c 3 (c 3 + 1)) (v := V_X5_query c v w (nI s) (nI a) (nI b) (nI a2) (nI b2)) (w := W_X5_query c v w (nI s) (nI a) (nI b) (nI a2) (nI b2)) (x1 := nI s) (x2 := F_X5_regionOf (nI a) (nI b2) (nI a) (nI b2)) (uC c 3 (c 3 + 1) 3) 0 0 (by omega)
  have hc3 : uC c 3 (c 3 + 1) 3 = c 3 + 1 := by simp [uC]
  have h4' : uC c 3 (c 3 + 1) 4 ≤ 8 := by simpa [uC] using h4
  have hq : 0 < q := by
    refine g4 ⟨c 3, Nat.zero_le _, by rw [hc3]; omega, ?_, ?_, ?_⟩
    · unfold V_X5_query
      rw [stop_frame (a := 4) (b := c 3) (f := 0) h4' (by omega)]
      simp [newV_4]
    · unfold V_X5_query
      rw [stop_frame (a := 4) (b := c 3) (f := 1) h4' (by omega)]
      simp [newV_4]
    · unfold W_X5_query
      have e : newW_4 w (c 3) (F_X5_regionOf (nI a) (nI b) (nI a2) (nI b2)) 4 (c 3) 0 = F_X5_regionOf (nI a) (nI b) (nI a2) (nI b2) := by simp [newW_4]
      rw [e]
      exact corner ha ha2 hb hb2
  have g3' : FL_X5_cloudsOver (uC c 3 (c 3 + 1)) (V_X5_query c v w (nI s) (nI a) (nI b) (nI a2) (nI b2)) (W_X5_query c v w (nI s) (nI a) (nI b) (nI a2) (nI b2)) (nI s) (F_X5_regionOf (nI a) (nI b2) (nI a) (nI b2)) (uC c 3 (c 3 + 1) 3) 0 (0 : Int32) = nI q := g3
  rw [g3']
  obtain ⟨q2, k1, k2, k3⟩ := FL2_clouds_ge (c := uC c 3 (c 3 + 1)) (v := V_X5_query c v w (nI s) (nI a) (nI b) (nI a2) (nI b2)) (w := W_X5_query c v w (nI s) (nI a) (nI b) (nI a2) (nI b2)) (x1 := nI s) (x2 := F_X5_regionOf (nI a) (nI b2) (nI a) (nI b2)) (uC c 3 (c 3 + 1) 0) 0 q
  have k0 : uC c 3 (c 3 + 1) 0 = c 0 := by simp [uC]
  rw [k3]
  rw [hc3] at g2
  rw [k0] at k2
  exact show nI 1 ≤ nI q2 from nI_le (by omega) (by omega)

