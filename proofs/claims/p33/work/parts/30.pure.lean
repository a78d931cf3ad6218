def F_X5_isIn (x1 x2 : Int32) : Int32 := (if (x1 &&& ((1 : Int32) <<< (x2 &&& 31))) = 0 then (0 : Int32) else (1 : Int32))

set_option maxHeartbeats 4000000 in
set_option maxRecDepth 100000 in
theorem r_X5_isIn (l : Launch) (D : va_G) (cA : Nat → ClassId) (x1 x2 : Int32)  : Met l yX5_isIn wsX5_isIn ({ frames := 0, cells := 0, slots := 0, locals := 0 }) (pcPre D vwCl (tyL cA) [.int x1, .int x2] (fun _ => True)) (va_Qi (fun (r : Int32) (_ : Unit) => r = F_X5_isIn x1 x2) (fun _ _ => True) (fun _ => False)) 0 0 (fun _ => False) := by
  refine Met.ofW (cc := cX5_isIn) (maxL := 2) (ret := (some .boolean)) (by decide) rfl ?_
  intro p e s m args below meth c0 s₁ B hml hv
  obtain ⟨rfl, hX, hP0⟩ := hv
  have hx := B.exec
  have hb := B.bytes
  have hr := B.returns
  have hts := atoms_spec (ws := wsX5_isIn) B.pre
  have hown : s.vm.findClass RX5 = some m.cls := findClass_of_methodNamed B.named
  have hlocks := B.notSynchronized
  have hW : pcQ D vwCl (fun _ => False) s.heap [] (fun _ _ => 0) (fun _ _ => .inr (0, [])) s.heap [] := ⟨fun k q h => by simp [pcW] at h, va_S.rf⟩
  have hl := lv_entry ([.int x1, .int x2]) (n := 2) (Nat.le_of_ble_eq_true rfl)
  rw [lg_entry_eq]
  generalize (lg_sl ([.int x1, .int x2]) ++ List.replicate (2 - (lg_sl ([.int x1, .int x2])).length) Slot.unset).toArray = ls at hl ⊢
  have hl : lv_has ls 2 [(0, .int x1), (1, .int x2)] := hl
  refine lv_iload_n hx hb dX5_isIn_0 rfl (lv_at hl 0 rfl) ?_
  refine lv_iconst (v := 1) hx hb dX5_isIn_1 (by decide) ?_
  refine lv_iload_n hx hb dX5_isIn_2 rfl (lv_at hl 1 rfl) ?_
  refine lv_ishl hx hb dX5_isIn_3 ?_
  refine lv_iand hx hb dX5_isIn_4 ?_
  refine lv_if_eq (tgt := 12) hx hb dX5_isIn_5 (by decide) (fun (c1 : (x1 &&& ((1 : Int32) <<< (x2 &&& 31))) = 0) => ?_) (fun (c1 : ¬ (x1 &&& ((1 : Int32) <<< (x2 &&& 31))) = 0) => ?_)
  · refine lv_iconst (v := 0) hx hb dX5_isIn_12 (by decide) ?_
    exact W.zret (v := 0) hx hb hr rfl (fun t ht hW9 => ⟨⟨0, (), rfl, (by unfold F_X5_isIn; rw [if_pos c1]), trivial⟩, hW.2.F ht⟩) hW.2.2.2 dX5_isIn_13
  · refine lv_iconst (v := 1) hx hb dX5_isIn_8 (by decide) ?_
    refine lv_goto (tgt := 13) hx hb dX5_isIn_9 (by decide) ?_
    exact W.zret (v := 1) hx hb hr rfl (fun t ht hW9 => ⟨⟨1, (), rfl, (by unfold F_X5_isIn; rw [if_neg c1]), trivial⟩, hW.2.F ht⟩) hW.2.2.2 dX5_isIn_13

def F_X5_bitsFrom (x1 x2 : Int32) : Int64 := (((2 : Int64) <<< (x2.toInt64 &&& 63)) - ((1 : Int64) <<< (x1.toInt64 &&& 63)))

set_option maxHeartbeats 4000000 in
set_option maxRecDepth 100000 in
theorem r_X5_bitsFrom (l : Launch) (D : va_G) (cA : Nat → ClassId) (x1 x2 : Int32)  : Met l yX5_bitsFrom wsX5_bitsFrom ({ frames := 0, cells := 0, slots := 0, locals := 0 }) (pcPre D vwCl (tyL cA) [.int x1, .int x2] (fun _ => True)) (va_Ql (fun (r : Int64) (_ : Unit) => r = F_X5_bitsFrom x1 x2) (fun _ _ => True) (fun _ => False)) 0 0 (fun _ => False) := by
  refine Met.ofW (cc := cX5_bitsFrom) (maxL := 2) (ret := (some .long)) (by decide) rfl ?_
  intro p e s m args below meth c0 s₁ B hml hv
  obtain ⟨rfl, hX, hP0⟩ := hv
  have hx := B.exec
  have hb := B.bytes
  have hr := B.returns
  have hts := atoms_spec (ws := wsX5_bitsFrom) B.pre
  have hown : s.vm.findClass RX5 = some m.cls := findClass_of_methodNamed B.named
  have hlocks := B.notSynchronized
  have hW : pcQ D vwCl (fun _ => False) s.heap [] (fun _ _ => 0) (fun _ _ => .inr (0, [])) s.heap [] := ⟨fun k q h => by simp [pcW] at h, va_S.rf⟩
  have hl := lv_entry ([.int x1, .int x2]) (n := 2) (Nat.le_of_ble_eq_true rfl)
  rw [lg_entry_eq]
  generalize (lg_sl ([.int x1, .int x2]) ++ List.replicate (2 - (lg_sl ([.int x1, .int x2])).length) Slot.unset).toArray = ls at hl ⊢
  have hl : lv_has ls 2 [(0, .int x1), (1, .int x2)] := hl
  refine lv_ldc2 (v := 2) hx hb hown (hts (.constantLong RX5 384 2) (by decide +kernel)) dX5_bitsFrom_0 ?_
  refine lv_iload_n hx hb dX5_bitsFrom_3 rfl (lv_at hl 1 rfl) ?_
  refine lv_lshl (v := ((2 : Int64) <<< (x2.toInt64 &&& 63))) hx hb dX5_bitsFrom_4 rfl ?_
  refine lv_lconst (v := 1) hx hb dX5_bitsFrom_5 (by decide) ?_
  refine lv_iload_n hx hb dX5_bitsFrom_6 rfl (lv_at hl 0 rfl) ?_
  refine lv_lshl (v := ((1 : Int64) <<< (x1.toInt64 &&& 63))) hx hb dX5_bitsFrom_7 rfl ?_
  refine lv_lsub hx hb dX5_bitsFrom_8 ?_
  exact W.lret (v := (((2 : Int64) <<< (x2.toInt64 &&& 63)) - ((1 : Int64) <<< (x1.toInt64 &&& 63)))) hx hb hr (fun t ht hW9 => ⟨⟨(((2 : Int64) <<< (x2.toInt64 &&& 63)) - ((1 : Int64) <<< (x1.toInt64 &&& 63))), (), rfl, rfl, trivial⟩, hW.2.F ht⟩) hW.2.2.2 dX5_bitsFrom_9

def F_X5_regionOf (x1 x2 x3 x4 : Int32) : Int64 := ((F_X5_bitsFrom x1 x3) ||| ((F_X5_bitsFrom x2 x4) <<< ((20 : Int32).toInt64 &&& 63)))

set_option maxHeartbeats 4000000 in
set_option maxRecDepth 100000 in
theorem r_X5_regionOf (l : Launch) (D : va_G) (cA : Nat → ClassId) (x1 x2 x3 x4 : Int32)  : Met l yX5_regionOf wsX5_regionOf ({ frames := 1, cells := 0, slots := 0, locals := 21 }) (pcPre D vwCl (tyL cA) [.int x1, .int x2, .int x3, .int x4] (fun _ => True)) (va_Ql (fun (r : Int64) (_ : Unit) => r = F_X5_regionOf x1 x2 x3 x4) (fun _ _ => True) (fun _ => False)) 0 0 (fun _ => False) := by
  refine Met.ofW (cc := cX5_regionOf) (maxL := 4) (ret := (some .long)) (by decide) rfl ?_
  intro p e s m args below meth c0 s₁ B hml hv
  obtain ⟨rfl, hX, hP0⟩ := hv
  have hx := B.exec
  have hb := B.bytes
  have hr := B.returns
  have hts := atoms_spec (ws := wsX5_regionOf) B.pre
  have hown : s.vm.findClass RX5 = some m.cls := findClass_of_methodNamed B.named
  have hlocks := B.notSynchronized
  have hW : pcQ D vwCl (fun _ => False) s.heap [] (fun _ _ => 0) (fun _ _ => .inr (0, [])) s.heap [] := ⟨fun k q h => by simp [pcW] at h, va_S.rf⟩
  have hl := lv_entry ([.int x1, .int x2, .int x3, .int x4]) (n := 4) (Nat.le_of_ble_eq_true rfl)
  rw [lg_entry_eq]
  generalize (lg_sl ([.int x1, .int x2, .int x3, .int x4]) ++ List.replicate (4 - (lg_sl ([.int x1, .int x2, .int x3, .int x4])).length) Slot.unset).toArray = ls at hl ⊢
  have hl : lv_has ls 4 [(0, .int x1), (1, .int x2), (2, .int x3), (3, .int x4)] := hl
  refine lv_iload_n hx hb dX5_regionOf_0 rfl (lv_at hl 0 rfl) ?_
  refine lv_iload_n hx hb dX5_regionOf_1 rfl (lv_at hl 2 rfl) ?_
  refine pc_qcalll (va_runS (As := [.int x1, .int x3]) (rest := []) ⟨hx, hb, hml, hown, hts⟩ (r_X5_bitsFrom l D cA x1 x3 ) (va_cwS 2 hts gX5_regionOf_X5_bitsFrom rfl rfl rfl (by decide +kernel) ⟨Nat.le_of_ble_eq_true rfl, Nat.le_of_ble_eq_true rfl⟩) (pc_preS pcN_ok hX trivial) rfl rfl hl.1 rfl (lv_room (Nat.le_of_ble_eq_true rfl)) dX5_regionOf_2 ⟨Nat.le_of_ble_eq_true rfl, Nat.le_of_ble_eq_true rfl⟩) hW (fun r2 H locs hwr2 hW => ?_)
  replace hwr2 := hwr2.symm
  subst hwr2
  refine lv_iload_n hx hb dX5_regionOf_5 rfl (lv_at hl 1 rfl) ?_
  refine lv_iload_n hx hb dX5_regionOf_6 rfl (lv_at hl 3 rfl) ?_
  refine pc_qcalll (va_runS (As := [.int x2, .int x4]) (rest := [.long (F_X5_bitsFrom x1 x3)]) ⟨hx, hb, hml, hown, hts⟩ (r_X5_bitsFrom l D cA x2 x4 ) (va_cwS 2 hts gX5_regionOf_X5_bitsFrom rfl rfl rfl (by decide +kernel) ⟨Nat.le_of_ble_eq_true rfl, Nat.le_of_ble_eq_true rfl⟩) (pc_preS pcN_ok hX trivial) rfl rfl hl.1 rfl (lv_room (Nat.le_of_ble_eq_true rfl)) dX5_regionOf_7 ⟨Nat.le_of_ble_eq_true rfl, Nat.le_of_ble_eq_true rfl⟩) hW (fun r3 H locs hwr3 hW => ?_)
  replace hwr3 := hwr3.symm
  subst hwr3
  refine lv_bipush (v := 20) hx hb dX5_regionOf_10 (by decide) ?_
  refine lv_lshl (v := ((F_X5_bitsFrom x2 x4) <<< ((20 : Int32).toInt64 &&& 63))) hx hb dX5_regionOf_12 rfl ?_
  refine lv_lor hx hb dX5_regionOf_13 ?_
  exact W.lret (v := ((F_X5_bitsFrom x1 x3) ||| ((F_X5_bitsFrom x2 x4) <<< ((20 : Int32).toInt64 &&& 63)))) hx hb hr (fun t ht hW9 => ⟨⟨((F_X5_bitsFrom x1 x3) ||| ((F_X5_bitsFrom x2 x4) <<< ((20 : Int32).toInt64 &&& 63))), (), rfl, rfl, trivial⟩, hW.2.F ht⟩) hW.2.2.2 dX5_regionOf_14

def F_X5_hasField (x1 : Int64) : Int32 := (if (lcI (x1 &&& (1048575 : Int64)) 0) = 0 then (0 : Int32) else (if (lcI (x1 &&& (1099510579200 : Int64)) 0) = 0 then (0 : Int32) else (1 : Int32)))

set_option maxHeartbeats 4000000 in
set_option maxRecDepth 100000 in
theorem r_X5_hasField (l : Launch) (D : va_G) (cA : Nat → ClassId) (x1 : Int64)  : Met l yX5_hasField wsX5_hasField ({ frames := 0, cells := 0, slots := 0, locals := 0 }) (pcPre D vwCl (tyL cA) [.long x1] (fun _ => True)) (va_Qi (fun (r : Int32) (_ : Unit) => r = F_X5_hasField x1) (fun _ _ => True) (fun _ => False)) 0 0 (fun _ => False) := by
  refine Met.ofW (cc := cX5_hasField) (maxL := 2) (ret := (some .boolean)) (by decide) rfl ?_
  intro p e s m args below meth c0 s₁ B hml hv
  obtain ⟨rfl, hX, hP0⟩ := hv
  have hx := B.exec
  have hb := B.bytes
  have hr := B.returns
  have hts := atoms_spec (ws := wsX5_hasField) B.pre
  have hown : s.vm.findClass RX5 = some m.cls := findClass_of_methodNamed B.named
  have hlocks := B.notSynchronized
  have hW : pcQ D vwCl (fun _ => False) s.heap [] (fun _ _ => 0) (fun _ _ => .inr (0, [])) s.heap [] := ⟨fun k q h => by simp [pcW] at h, va_S.rf⟩
  have hl := lv_entry ([.long x1]) (n := 2) (Nat.le_of_ble_eq_true rfl)
  rw [lg_entry_eq]
  generalize (lg_sl ([.long x1]) ++ List.replicate (2 - (lg_sl ([.long x1])).length) Slot.unset).toArray = ls at hl ⊢
  have hl : lv_has ls 2 [(0, .long x1)] := hl
  refine lv_lload_n hx hb dX5_hasField_0 rfl (lv_at hl 0 rfl) ?_
  refine lv_ldc2 (v := 1048575) hx hb hown (hts (.constantLong RX5 386 1048575) (by decide +kernel)) dX5_hasField_1 ?_
  refine lv_land hx hb dX5_hasField_4 ?_
  refine lv_lconst (v := 0) hx hb dX5_hasField_5 (by decide) ?_
  refine lv_lcmpI hx hb dX5_hasField_6 ?_
  refine lv_if_eq (tgt := 24) hx hb dX5_hasField_7 (by decide) (fun (c4 : (lcI (x1 &&& (1048575 : Int64)) 0) = 0) => ?_) (fun (c4 : ¬ (lcI (x1 &&& (1048575 : Int64)) 0) = 0) => ?_)
  · refine lv_iconst (v := 0) hx hb dX5_hasField_24 (by decide) ?_
    exact W.zret (v := 0) hx hb hr rfl (fun t ht hW9 => ⟨⟨0, (), rfl, (by unfold F_X5_hasField; rw [if_pos c4]), trivial⟩, hW.2.F ht⟩) hW.2.2.2 dX5_hasField_25
  · refine lv_lload_n hx hb dX5_hasField_10 rfl (lv_at hl 0 rfl) ?_
    refine lv_ldc2 (v := 1099510579200) hx hb hown (hts (.constantLong RX5 392 1099510579200) (by decide +kernel)) dX5_hasField_11 ?_
    refine lv_land hx hb dX5_hasField_14 ?_
    refine lv_lconst (v := 0) hx hb dX5_hasField_15 (by decide) ?_
    refine lv_lcmpI hx hb dX5_hasField_16 ?_
    refine lv_if_eq (tgt := 24) hx hb dX5_hasField_17 (by decide) (fun (c5 : (lcI (x1 &&& (1099510579200 : Int64)) 0) = 0) => ?_) (fun (c5 : ¬ (lcI (x1 &&& (1099510579200 : Int64)) 0) = 0) => ?_)
    · refine lv_iconst (v := 0) hx hb dX5_hasField_24 (by decide) ?_
      exact W.zret (v := 0) hx hb hr rfl (fun t ht hW9 => ⟨⟨0, (), rfl, (by unfold F_X5_hasField; rw [if_neg c4]; rw [if_pos c5]), trivial⟩, hW.2.F ht⟩) hW.2.2.2 dX5_hasField_25
    · refine lv_iconst (v := 1) hx hb dX5_hasField_20 (by decide) ?_
      refine lv_goto (tgt := 25) hx hb dX5_hasField_21 (by decide) ?_
      exact W.zret (v := 1) hx hb hr rfl (fun t ht hW9 => ⟨⟨1, (), rfl, (by unfold F_X5_hasField; rw [if_neg c4]; rw [if_neg c5]), trivial⟩, hW.2.F ht⟩) hW.2.2.2 dX5_hasField_25


