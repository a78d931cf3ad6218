theorem and_nn (x : Int32) : ¬ (x &&& (2147483647 : Int32)) < 0 := by
  rw [Int32.lt_iff_toInt_lt]
  have h0 : (0 : Int32).toInt = 0 := by decide
  have h1 : (x &&& (2147483647 : Int32)).toBitVec.msb = false := by
    rw [Int32.toBitVec_and, BitVec.msb_and]
    have h2 : (2147483647 : Int32).toBitVec.msb = false := by decide
    rw [h2, Bool.and_false]
  have h3 : 0 ≤ (x &&& (2147483647 : Int32)).toBitVec.toInt := BitVec.toInt_nonneg_of_msb_false h1
  rw [h0]
  exact Int.not_lt.mpr h3
theorem in_of {x : Int32} {L : Nat} (h : ¬ x < 0) (h1 : ¬ Int32.ofNat L ≤ x) (hL : L < 2 ^ 31) : vp_in x L := by
  obtain ⟨j, hj, rfl⟩ := nI_of h
  have h2 : j < L := by
    rcases Nat.lt_or_ge j L with h3 | h3
    · exact h3
    · exact absurd (nI_le h3 hj) h1
  exact vp_in_nI h2 hL
def pcPreX (D : va_G) (cl : List vw_C) (tys : List (ClassId × FieldType)) (as : List Value) (b L : Nat) (xs : Nat → Int32) : Array Value → State → Prop := va_Pc as (fun U => pcX D cl tys U ∧ va_X b L xs U U.heap)
theorem pcX_blind {D : va_G} {cl : List vw_C} {tys : List (ClassId × FieldType)} {as : List Value} {b L : Nat} {xs : Nat → Int32} : FrameBlind (pcPreX D cl tys as b L xs) := fun a U g mk h => ⟨h.1, pcX_same (s := U) pcN_ok rfl h.2.1, va_X.moved (Vm.Alike.refl _) h.2.2⟩
theorem pcX_preS {D : va_G} {cl : List vw_C} {tys : List (ClassId × FieldType)} {As : List Value} {b L : Nat} {xs : Nat → Int32} {s : State} {H : Heap} (hX : pcX D cl tys s) (hs : va_X b L xs s H) : PreS s H (pcPreX D cl tys As b L xs) As :=
  ⟨pcX_blind, fun U hU hW => ⟨rfl, pcX_moved pcN_ok hW hX, by rw [hU]; exact va_X.moved hW.alike hs⟩⟩

def F_L_below (x1 x2 : Int32) : Int32 := ((x1 &&& (2147483647 : Int32)) - (x1 &&& (2147483647 : Int32)) / x2 * x2)

set_option maxHeartbeats 4000000 in
set_option maxRecDepth 100000 in
theorem r_L_below (l : Launch) (D : va_G) (cA : Nat → ClassId) (x1 x2 : Int32) (h2 : ¬ x2 = 0) : Met l yL_below wsL_below ({ frames := 0, cells := 0, slots := 0, locals := 0 }) (pcPre D vwCl (tyL cA) [.int x1, .int x2] (fun _ => True)) (va_Qi (fun (r : Int32) (_ : Unit) => r = F_L_below x1 x2) (fun _ _ => True) (fun _ => False)) 0 0 (fun _ => False) := by
  refine Met.ofW (cc := cL_below) (maxL := 2) (ret := (some .int)) (by decide) rfl ?_
  intro p e s m args below meth c0 s₁ B hml hv
  obtain ⟨rfl, hX, hP0⟩ := hv
  have hx := B.exec
  have hb := B.bytes
  have hr := B.returns
  have hts := atoms_spec (ws := wsL_below) B.pre
  have hown : s.vm.findClass RL = some m.cls := findClass_of_methodNamed B.named
  have hlocks := B.notSynchronized
  have hW : pcQ D vwCl (fun _ => False) s.heap [] (fun _ _ => 0) (fun _ _ => .inr (0, [])) s.heap [] := ⟨fun k q h => by simp [pcW] at h, va_S.rf⟩
  have hl := lv_entry ([.int x1, .int x2]) (n := 2) (Nat.le_of_ble_eq_true rfl)
  rw [lg_entry_eq]
  generalize (lg_sl ([.int x1, .int x2]) ++ List.replicate (2 - (lg_sl ([.int x1, .int x2])).length) Slot.unset).toArray = ls at hl ⊢
  have hl : lv_has ls 2 [(0, .int x1), (1, .int x2)] := hl
  refine lv_iload_n hx hb dL_below_0 rfl (lv_at hl 0 rfl) ?_
  refine lv_ldc (v := 2147483647) hx hb hown (hts (.constant RL 7 2147483647) (by decide +kernel)) dL_below_1 ?_
  refine lv_iand hx hb dL_below_3 ?_
  refine lv_iload_n hx hb dL_below_4 rfl (lv_at hl 1 rfl) ?_
  refine lv_irem hx hb dL_below_5 h2 ?_
  exact W.iret (v := ((x1 &&& (2147483647 : Int32)) - (x1 &&& (2147483647 : Int32)) / x2 * x2)) hx hb hr (fun t ht hW9 => ⟨⟨((x1 &&& (2147483647 : Int32)) - (x1 &&& (2147483647 : Int32)) / x2 * x2), (), rfl, rfl, trivial⟩, hW.2.F ht⟩) hW.2.2.2 dL_below_6

theorem below_ok (x : Int32) (n : Nat) (h0 : 0 < n) (hn : n < 2 ^ 31) : ∃ j, j < n ∧ F_L_below x (nI n) = nI j := by
  obtain ⟨a, ha, e⟩ := nI_of (and_nn x)
  refine ⟨a % n, Nat.mod_lt a h0, ?_⟩
  unfold F_L_below
  rw [e]
  exact pk_rem ha h0 hn
theorem min_ok {a j : Nat} (ha : a < 20) (hj : j < 9) : ∃ m, a ≤ m ∧ m < 20 ∧ (if (nI a + nI j) < (19 : Int32) then (nI a + nI j) else (19 : Int32)) = nI m := by
  rw [nI_add]
  by_cases h : nI (a + j) < (19 : Int32)
  · rw [if_pos h]
    have h2 : a + j < 19 := (nI_ltI (by omega) (by decide)).mp (show nI (a + j) < nI 19 from h)
    exact ⟨a + j, by omega, by omega, rfl⟩
  · rw [if_neg h]
    exact ⟨19, by omega, by omega, rfl⟩


set_option maxHeartbeats 4000000 in
set_option maxRecDepth 100000 in
theorem r_L_cell (l : Launch) (D : va_G) (cA : Nat → ClassId) (b L : Nat) (xs : Nat → Int32) (hL : L < 2 ^ 31) (x1 : Int32) (h1 : ¬ x1 < 0) : Met l yL_cell wsL_cell ({ frames := 0, cells := 0, slots := 0, locals := 0 }) (pcPreX D vwCl (tyL cA) [.ref b, .int x1] b L xs) (va_Qi (fun (r : Int32) (_ : Unit) => True) (fun _ _ => True) (fun _ => False)) 0 0 (fun _ => False) := by
  refine Met.ofW (cc := cL_cell) (maxL := 2) (ret := (some .int)) (by decide) rfl ?_
  intro p e s m args below meth c0 s₁ B hml hv
  obtain ⟨rfl, hX, hsc⟩ := hv
  have hbl : b < s.heap.size := by
    obtain ⟨scr, q1, -⟩ := hsc
    exact (Array.getElem?_eq_some_iff.mp q1).1
  have hx := B.exec
  have hb := B.bytes
  have hr := B.returns
  have hts := atoms_spec (ws := wsL_cell) B.pre
  have hown : s.vm.findClass RL = some m.cls := findClass_of_methodNamed B.named
  have hlocks := B.notSynchronized
  have hW : pcQ D vwCl (fun _ => False) s.heap [] (fun _ _ => 0) (fun _ _ => .inr (0, [])) s.heap [] := ⟨fun k q h => by simp [pcW] at h, va_S.rf⟩
  have hl := lv_entry ([.ref b, .int x1]) (n := 2) (Nat.le_of_ble_eq_true rfl)
  rw [lg_entry_eq]
  generalize (lg_sl ([.ref b, .int x1]) ++ List.replicate (2 - (lg_sl ([.ref b, .int x1])).length) Slot.unset).toArray = ls at hl ⊢
  have hl : lv_has ls 2 [(0, .ref b), (1, .int x1)] := hl
  refine lv_iload_n hx hb dL_cell_0 rfl (lv_at hl 1 rfl) ?_
  refine lv_aload_n hx hb dL_cell_1 rfl (lv_at hl 0 rfl) ?_
  refine va_slen hx hb hsc hbl (fun h => h) hW.2 dL_cell_2 ?_
  refine lv_icmp_ge (tgt := 12) hx hb dL_cell_3 (by decide) (fun (c590 : (Int32.ofNat L) ≤ x1) => ?_) (fun (c590 : ¬ (Int32.ofNat L) ≤ x1) => ?_)
  · refine lv_ldc (v := 790386105) hx hb hown (hts (.constant RL 8 790386105) (by decide +kernel)) dL_cell_12 ?_
    refine lv_iload_n hx hb dL_cell_14 rfl (lv_at hl 1 rfl) ?_
    refine lv_iconst (v := 3) hx hb dL_cell_15 (by decide) ?_
    refine lv_iadd hx hb dL_cell_16 ?_
    refine lv_imul hx hb dL_cell_17 ?_
    exact W.iret (v := ((790386105 : Int32) * (x1 + (3 : Int32)))) hx hb hr (fun t ht hW9 => ⟨⟨((790386105 : Int32) * (x1 + (3 : Int32))), (), rfl, trivial, trivial⟩, hW.2.F ht⟩) hW.2.2.2 dL_cell_18
  · refine lv_aload_n hx hb dL_cell_6 rfl (lv_at hl 0 rfl) ?_
    refine lv_iload_n hx hb dL_cell_7 rfl (lv_at hl 1 rfl) ?_
    refine va_sld hx hb hsc hbl (fun h => h) hW.2 (in_of h1 c590 hL) dL_cell_8 ?_
    refine lv_goto (tgt := 18) hx hb dL_cell_9 (by decide) ?_
    exact W.iret (v := (xs x1.toNatClampNeg)) hx hb hr (fun t ht hW9 => ⟨⟨(xs x1.toNatClampNeg), (), rfl, trivial, trivial⟩, hW.2.F ht⟩) hW.2.2.2 dL_cell_18

def rgF (u : Nat × Nat × Nat × Nat) : Nat → Int32 := upd (upd (upd (upd (fun _ => 0) 0 (nI u.1)) 1 (nI u.2.1)) 2 (nI u.2.2.1)) 3 (nI u.2.2.2)
def rgO (u : Nat × Nat × Nat × Nat) : Prop := u.1 ≤ u.2.2.1 ∧ u.2.2.1 < 20 ∧ u.2.1 ≤ u.2.2.2 ∧ u.2.2.2 < 20

set_option maxHeartbeats 4000000 in
set_option maxRecDepth 100000 in
theorem l_L_region (l : Launch) (D : va_G) (cA : Nat → ClassId) (A : Nat → Prop) (x1 : Int32)  : Met l yL_region wsL_region ({ frames := 1, cells := 1, slots := 4, locals := 40 }) (pcPre D vwCl (tyL cA) [.int x1] (fun H => va_P D vwCl [] H ∧ va_D A [] ∧ (∀ q, H.size ≤ q → A q))) (va_Qr (fun (u : Nat × Nat × Nat × Nat) => rgO u) (fun (u : Nat × Nat × Nat × Nat) (q : Nat) t => va_P D vwCl [(q, .inl (cA 0, 4, .inl (rgF u)))] t.heap ∧ va_D A [(q, .inl (cA 0, 4, .inl (rgF u)))]) A) 1 4 A := by
  refine Met.ofW (cc := cL_region) (maxL := 3) (ret := (some (.array .int))) (by decide) rfl ?_
  intro p e s m args below meth c s₁ B hml hv
  obtain ⟨rfl, hX, hP, hD, hA⟩ := hv
  have hx := B.exec
  have hb := B.bytes
  have hr := B.returns
  have hts := atoms_spec (ws := wsL_region) B.pre
  have hown : s.vm.findClass RL = some m.cls := findClass_of_methodNamed B.named
  have hlocks := B.notSynchronized
  have hS : va_S A s.heap s.heap [] := va_S.rf
  have hl := lv_entry ([.int x1]) (n := 3) (Nat.le_of_ble_eq_true rfl)
  rw [lg_entry_eq]
  generalize (lg_sl ([.int x1]) ++ List.replicate (3 - (lg_sl ([.int x1])).length) Slot.unset).toArray = ls at hl ⊢
  have hl : lv_has ls 3 [(0, .int x1)] := hl
  refine lv_iload_n hx hb dL_region_0 rfl (lv_at hl 0 rfl) ?_
  refine lv_bipush (v := 20) hx hb dL_region_1 (by decide) ?_
  refine va_calli (va_runS (As := [.int x1, .int 20]) (rest := []) ⟨hx, hb, hml, hown, hts⟩ (r_L_below l D cA x1 (20 : Int32) (by decide)) (va_cwS 2 hts gL_region_L_below rfl rfl rfl (by decide +kernel) ⟨Nat.le_of_ble_eq_true rfl, Nat.le_of_ble_eq_true rfl⟩) (pc_preS pcN_ok hX trivial) rfl rfl hl.1 rfl (lv_room (Nat.le_of_ble_eq_true rfl)) dL_region_3 ⟨Nat.le_of_ble_eq_true rfl, Nat.le_of_ble_eq_true rfl⟩) hS (fun _ _ h => h.elim) (fun _ h => h.elim) (fun r591 _ t H locs ht hvm hwr591 _ _ hk9 hS => ?_)
  have hP := hP.kept (H1 := H) (fun k q hk => hk9 q.1 ((hP k q hk).lt) id)
  have hP : va_P D vwCl [] H := hP
  have hD : va_D A [] := hD
  replace hwr591 := hwr591.symm
  subst hwr591
  obtain ⟨j592, hj592, ej592⟩ : ∃ j, j < 20 ∧ (F_L_below x1 (20 : Int32)) = nI j := below_ok _ 20 (by decide) (by decide)
  rw [ej592]
  refine lv_istore_n (lv' := [(1, .int (nI j592)), (0, .int x1)]) hx hb dL_region_6 rfl hl (by decide) rfl (fun ls hl => ?_)
  refine lv_iload_n hx hb dL_region_7 rfl (lv_at hl 1 rfl) ?_
  refine lv_iconst (v := 5) hx hb dL_region_8 (by decide) ?_
  refine lv_ishr hx hb dL_region_9 ?_
  refine lv_bipush (v := 20) hx hb dL_region_10 (by decide) ?_
  refine va_calli (va_runS (As := [.int (x1 >>> ((5 : Int32) &&& 31)), .int 20]) (rest := []) ⟨hx, hb, hml, hown, hts⟩ (r_L_below l D cA (x1 >>> ((5 : Int32) &&& 31)) (20 : Int32) (by decide)) (va_cwS 2 hts gL_region_L_below rfl rfl rfl (by decide +kernel) ⟨Nat.le_of_ble_eq_true rfl, Nat.le_of_ble_eq_true rfl⟩) (pc_preS pcN_ok hX trivial) rfl rfl hl.1 rfl (lv_room (Nat.le_of_ble_eq_true rfl)) dL_region_12 ⟨Nat.le_of_ble_eq_true rfl, Nat.le_of_ble_eq_true rfl⟩) hS (fun _ _ h => h.elim) (fun _ h => h.elim) (fun r593 _ t H locs ht hvm hwr593 _ _ hk9 hS => ?_)
  have hP := hP.kept (H1 := H) (fun k q hk => hk9 q.1 ((hP k q hk).lt) id)
  have hP : va_P D vwCl [] H := hP
  have hD : va_D A [] := hD
  replace hwr593 := hwr593.symm
  subst hwr593
  obtain ⟨j594, hj594, ej594⟩ : ∃ j, j < 20 ∧ (F_L_below (x1 >>> ((5 : Int32) &&& 31)) (20 : Int32)) = nI j := below_ok _ 20 (by decide) (by decide)
  rw [ej594]
  refine lv_istore_n (lv' := [(2, .int (nI j594)), (1, .int (nI j592)), (0, .int x1)]) hx hb dL_region_15 rfl hl (by decide) rfl (fun ls hl => ?_)
  refine lv_iconst (v := 4) hx hb dL_region_16 (by decide) ?_
  refine va_newa (atype := .int) (ty := .int) (N' := 4) (a0 := (4, .inl (fun _ => 0))) hx hb (hts (.arrayClass .int) (by decide +kernel)) rfl hX.1 hP hD hS hA (fun _ => rfl) (by decide) (by decide) (Nat.le_of_ble_eq_true rfl) (Nat.le_of_ble_eq_true rfl) (Nat.le_of_ble_eq_true rfl) dL_region_17 (fun q595 y596 H hK9 hP hD hS => ?_)
  obtain rfl : y596 = cA 0 := va_K_last (t0 := 0) hX.1 rfl hK9
  have hP : va_P D vwCl [(q595, .inl (cA 0, 4, .inl (fun _ => 0)))] H := hP
  have hD : va_D A [(q595, .inl (cA 0, 4, .inl (fun _ => 0)))] := hD
  refine W.widen (k := 1) (n := 4) (Nat.le_of_ble_eq_true rfl) (Nat.le_of_ble_eq_true rfl) ?_
  refine lv_dup hx hb dL_region_19 rfl ?_
  refine lv_iconst (v := 0) hx hb dL_region_20 (by decide) ?_
  refine lv_iload_n hx hb dL_region_21 rfl (lv_at hl 1 rfl) ?_
  refine va_iast hx hb hX.1 hP hD hS 0 0 rfl rfl (vp_in_nI (n := 0) (by decide) (by decide)) dL_region_22 (fun H locs hP hD hS => ?_)
  have hP : va_P D vwCl [(q595, .inl (cA 0, 4, .inl (upd (fun _ => 0) 0 (nI j592))))] H := hP
  have hD : va_D A [(q595, .inl (cA 0, 4, .inl (upd (fun _ => 0) 0 (nI j592))))] := hD
  refine lv_dup hx hb dL_region_23 rfl ?_
  refine lv_iconst (v := 1) hx hb dL_region_24 (by decide) ?_
  refine lv_iload_n hx hb dL_region_25 rfl (lv_at hl 0 rfl) ?_
  refine va_iast hx hb hX.1 hP hD hS 0 0 rfl rfl (vp_in_nI (n := 1) (by decide) (by decide)) dL_region_26 (fun H locs hP hD hS => ?_)
  have hP : va_P D vwCl [(q595, .inl (cA 0, 4, .inl (upd (upd (fun _ => 0) 0 (nI j592)) 1 (nI j594))))] H := hP
  have hD : va_D A [(q595, .inl (cA 0, 4, .inl (upd (upd (fun _ => 0) 0 (nI j592)) 1 (nI j594))))] := hD
  refine lv_dup hx hb dL_region_27 rfl ?_
  refine lv_iconst (v := 2) hx hb dL_region_28 (by decide) ?_
  refine lv_bipush (v := 19) hx hb dL_region_29 (by decide) ?_
  refine lv_iload_n hx hb dL_region_31 rfl (lv_at hl 1 rfl) ?_
  refine lv_iload_n hx hb dL_region_32 rfl (lv_at hl 2 rfl) ?_
  refine lv_iconst (v := 3) hx hb dL_region_33 (by decide) ?_
  refine lv_ishr hx hb dL_region_34 ?_
  refine lv_bipush (v := 9) hx hb dL_region_35 (by decide) ?_
  refine va_calli (va_runS (As := [.int (x1 >>> ((3 : Int32) &&& 31)), .int 9]) (rest := [.int (nI j592), .int 19, .int 2, .ref q595, .ref q595]) ⟨hx, hb, hml, hown, hts⟩ (r_L_below l D cA (x1 >>> ((3 : Int32) &&& 31)) (9 : Int32) (by decide)) (va_cwS 2 hts gL_region_L_below rfl rfl rfl (by decide +kernel) ⟨Nat.le_of_ble_eq_true rfl, Nat.le_of_ble_eq_true rfl⟩) (pc_preS pcN_ok hX trivial) rfl rfl hl.1 rfl (lv_room (Nat.le_of_ble_eq_true rfl)) dL_region_37 ⟨Nat.le_of_ble_eq_true rfl, Nat.le_of_ble_eq_true rfl⟩) hS (fun _ _ h => h.elim) (fun _ h => h.elim) (fun r598 _ t H locs ht hvm hwr598 _ _ hk9 hS => ?_)
  have hP := hP.kept (H1 := H) (fun k q hk => hk9 q.1 ((hP k q hk).lt) id)
  have hP : va_P D vwCl [(q595, .inl (cA 0, 4, .inl (upd (upd (fun _ => 0) 0 (nI j592)) 1 (nI j594))))] H := hP
  have hD : va_D A [(q595, .inl (cA 0, 4, .inl (upd (upd (fun _ => 0) 0 (nI j592)) 1 (nI j594))))] := hD
  replace hwr598 := hwr598.symm
  subst hwr598
  obtain ⟨j599, hj599, ej599⟩ : ∃ j, j < 9 ∧ (F_L_below (x1 >>> ((3 : Int32) &&& 31)) (9 : Int32)) = nI j := below_ok _ 9 (by decide) (by decide)
  rw [ej599]
  refine lv_iadd hx hb dL_region_40 ?_
  refine va_mmin hx hb (hml.trans hl.1.symm) hown (hts (.methodLink RL 15 Lib.Math.min.name) (by decide +kernel)) (hts (.static Lib.Math.min.name) (by decide +kernel)) (hts (.initialized "java/lang/Math") (by decide +kernel)) (hts (.code Lib.Math.min.name Lib.Math.min.code 2 (some .int)) (by decide +kernel)) (Nat.le_of_ble_eq_true rfl) (Nat.le_of_ble_eq_true rfl) (Nat.le_of_ble_eq_true rfl) (Nat.le_of_ble_eq_true rfl) dL_region_41 ?_
  obtain ⟨m600, hm600a, hm600b, em600⟩ := min_ok hj592 hj599
  rw [em600]
  refine va_iast hx hb hX.1 hP hD hS 0 0 rfl rfl (vp_in_nI (n := 2) (by decide) (by decide)) dL_region_44 (fun H locs hP hD hS => ?_)
  have hP : va_P D vwCl [(q595, .inl (cA 0, 4, .inl (upd (upd (upd (fun _ => 0) 0 (nI j592)) 1 (nI j594)) 2 (nI m600))))] H := hP
  have hD : va_D A [(q595, .inl (cA 0, 4, .inl (upd (upd (upd (fun _ => 0) 0 (nI j592)) 1 (nI j594)) 2 (nI m600))))] := hD
  refine lv_dup hx hb dL_region_45 rfl ?_
  refine lv_iconst (v := 3) hx hb dL_region_46 (by decide) ?_
  refine lv_bipush (v := 19) hx hb dL_region_47 (by decide) ?_
  refine lv_iload_n hx hb dL_region_49 rfl (lv_at hl 0 rfl) ?_
  refine lv_iload_n hx hb dL_region_50 rfl (lv_at hl 2 rfl) ?_
  refine lv_bipush (v := 7) hx hb dL_region_51 (by decide) ?_
  refine lv_ishr hx hb dL_region_53 ?_
  refine lv_bipush (v := 9) hx hb dL_region_54 (by decide) ?_
  refine va_calli (va_runS (As := [.int (x1 >>> ((7 : Int32) &&& 31)), .int 9]) (rest := [.int (nI j594), .int 19, .int 3, .ref q595, .ref q595]) ⟨hx, hb, hml, hown, hts⟩ (r_L_below l D cA (x1 >>> ((7 : Int32) &&& 31)) (9 : Int32) (by decide)) (va_cwS 2 hts gL_region_L_below rfl rfl rfl (by decide +kernel) ⟨Nat.le_of_ble_eq_true rfl, Nat.le_of_ble_eq_true rfl⟩) (pc_preS pcN_ok hX trivial) rfl rfl hl.1 rfl (lv_room (Nat.le_of_ble_eq_true rfl)) dL_region_56 ⟨Nat.le_of_ble_eq_true rfl, Nat.le_of_ble_eq_true rfl⟩) hS (fun _ _ h => h.elim) (fun _ h => h.elim) (fun r601 _ t H locs ht hvm hwr601 _ _ hk9 hS => ?_)
  have hP := hP.kept (H1 := H) (fun k q hk => hk9 q.1 ((hP k q hk).lt) id)
  have hP : va_P D vwCl [(q595, .inl (cA 0, 4, .inl (upd (upd (upd (fun _ => 0) 0 (nI j592)) 1 (nI j594)) 2 (nI m600))))] H := hP
  have hD : va_D A [(q595, .inl (cA 0, 4, .inl (upd (upd (upd (fun _ => 0) 0 (nI j592)) 1 (nI j594)) 2 (nI m600))))] := hD
  replace hwr601 := hwr601.symm
  subst hwr601
  obtain ⟨j602, hj602, ej602⟩ : ∃ j, j < 9 ∧ (F_L_below (x1 >>> ((7 : Int32) &&& 31)) (9 : Int32)) = nI j := below_ok _ 9 (by decide) (by decide)
  rw [ej602]
  refine lv_iadd hx hb dL_region_59 ?_
  refine va_mmin hx hb (hml.trans hl.1.symm) hown (hts (.methodLink RL 15 Lib.Math.min.name) (by decide +kernel)) (hts (.static Lib.Math.min.name) (by decide +kernel)) (hts (.initialized "java/lang/Math") (by decide +kernel)) (hts (.code Lib.Math.min.name Lib.Math.min.code 2 (some .int)) (by decide +kernel)) (Nat.le_of_ble_eq_true rfl) (Nat.le_of_ble_eq_true rfl) (Nat.le_of_ble_eq_true rfl) (Nat.le_of_ble_eq_true rfl) dL_region_60 ?_
  obtain ⟨m603, hm603a, hm603b, em603⟩ := min_ok hj594 hj602
  rw [em603]
  refine va_iast hx hb hX.1 hP hD hS 0 0 rfl rfl (vp_in_nI (n := 3) (by decide) (by decide)) dL_region_63 (fun H locs hP hD hS => ?_)
  have hP : va_P D vwCl [(q595, .inl (cA 0, 4, .inl (upd (upd (upd (upd (fun _ => 0) 0 (nI j592)) 1 (nI j594)) 2 (nI m600)) 3 (nI m603))))] H := hP
  have hD : va_D A [(q595, .inl (cA 0, 4, .inl (upd (upd (upd (upd (fun _ => 0) 0 (nI j592)) 1 (nI j594)) 2 (nI m600)) 3 (nI m603))))] := hD
  have hP9 := hP.sub (ws' := [(q595, .inl (cA 0, 4, .inl (upd (upd (upd (upd (fun _ => 0) 0 (nI j592)) 1 (nI j594)) 2 (nI m600)) 3 (nI m603))))]) [0] rfl
  have hD9 := hD.sub (ws' := [(q595, .inl (cA 0, 4, .inl (upd (upd (upd (upd (fun _ => 0) 0 (nI j592)) 1 (nI j594)) 2 (nI m600)) 3 (nI m603))))]) [0] (by decide) rfl
  refine W.widen (k := 1) (n := 4) (Nat.le_of_ble_eq_true rfl) (Nat.le_of_ble_eq_true rfl) ?_
  exact W.aret (v := .ref q595) hx hb hr (by first | exact Or.inl ⟨_, rfl⟩ | exact Or.inr ⟨_, rfl⟩) (Or.inr ⟨_, rfl⟩) (fun t ht hW9 => ⟨⟨(j592, j594, m600, m603), q595, rfl, ⟨hm600a, hm600b, hm603a, hm603b⟩, ⟨by show va_P _ _ _ t.heap; rw [ht]; exact hP9, hD9⟩⟩, hS.F ht⟩) hS.2.2 dL_region_64

