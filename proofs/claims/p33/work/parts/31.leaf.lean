def F_X3_statusOf (c : SC) (v : SV) (w : SW) (i : Nat) (x1 : Int32) : Int32 := (if x1 = (v 1 i 3) then (2 : Int32) else (if (v 1 i 3) ≤ x1 then (if (v 1 i 2) = 0 then (0 : Int32) else (1 : Int32)) else (3 : Int32)))

set_option maxHeartbeats 4000000 in
set_option maxRecDepth 100000 in
theorem r_X3_statusOf (l : Launch) (D : va_G) (cA : Nat → ClassId) (NL : List (Nat × Nat)) (c : SC) (v : SV) (w : SW) (u : Nat → Int32) (ad : Nat → Nat → Nat) (i : Nat) (x1 : Int32) (hM : MEM c NL) (hBd : BND c) (hi : i < c 0) : Met l yX3_statusOf wsX3_statusOf ({ frames := 0, cells := 0, slots := 0, locals := 0 }) (pcPre D vwCl (tyL cA) [.ref (ad 1 i), .int x1] (fun H => va_P D vwCl (pcW NL ad (ctO cA c v w u ad)) H)) (va_Qi (fun (r : Int32) (_ : Unit) => r = F_X3_statusOf c v w i x1) (fun _ _ => True) (fun _ => False)) 0 0 (fun _ => False) := by
  refine Met.ofW (cc := cX3_statusOf) (maxL := 2) (ret := (some .int)) (by decide) rfl ?_
  intro p e s m args below meth c0 s₁ B hml hv
  obtain ⟨rfl, hX, hP0⟩ := hv
  have hx := B.exec
  have hb := B.bytes
  have hr := B.returns
  have hts := atoms_spec (ws := wsX3_statusOf) B.pre
  have hown : s.vm.findClass RX3 = some m.cls := findClass_of_methodNamed B.named
  have hlocks := B.notSynchronized
  have hW : pcQ D vwCl (fun _ => False) s.heap NL ad (ctO cA c v w u ad) s.heap [] := ⟨hP0, va_S.rf⟩
  have hl := lv_entry ([.ref (ad 1 i), .int x1]) (n := 2) (Nat.le_of_ble_eq_true rfl)
  rw [lg_entry_eq]
  generalize (lg_sl ([.ref (ad 1 i), .int x1]) ++ List.replicate (2 - (lg_sl ([.ref (ad 1 i), .int x1])).length) Slot.unset).toArray = ls at hl ⊢
  have hl : lv_has ls 2 [(0, .ref (ad 1 i)), (1, .int x1)] := hl
  refine lv_iload_n hx hb dX3_statusOf_0 rfl (lv_at hl 1 rfl) ?_
  refine lv_aload_n hx hb dX3_statusOf_1 rfl (lv_at hl 0 rfl) ?_
  refine pc_get (C := RX3) (T := TX3) (N := 10) (ci := 3) hx hb hts (by decide +kernel) hown hX.1 hW.1 1 i (hM.2.2.2.1 i hi).1 rfl rfl 5 (by decide) (hts (.fieldLink RX3 27 "DraftsmanOffice$Sheet" "issued" "I") (by decide +kernel)) (fun _ h9 => h9) rfl dX3_statusOf_2 ?_
  refine lv_icmp_ne (tgt := 10) hx hb dX3_statusOf_5 (by decide) (fun (c6 : ¬ x1 = (v 1 i 3)) => ?_) (fun (c6 : x1 = (v 1 i 3)) => ?_)
  · refine lv_iload_n hx hb dX3_statusOf_10 rfl (lv_at hl 1 rfl) ?_
    refine lv_aload_n hx hb dX3_statusOf_11 rfl (lv_at hl 0 rfl) ?_
    refine pc_get (C := RX3) (T := TX3) (N := 10) (ci := 3) hx hb hts (by decide +kernel) hown hX.1 hW.1 1 i (hM.2.2.2.1 i hi).1 rfl rfl 5 (by decide) (hts (.fieldLink RX3 27 "DraftsmanOffice$Sheet" "issued" "I") (by decide +kernel)) (fun _ h9 => h9) rfl dX3_statusOf_12 ?_
    refine lv_icmp_ge (tgt := 20) hx hb dX3_statusOf_15 (by decide) (fun (c7 : (v 1 i 3) ≤ x1) => ?_) (fun (c7 : ¬ (v 1 i 3) ≤ x1) => ?_)
    · refine lv_aload_n hx hb dX3_statusOf_20 rfl (lv_at hl 0 rfl) ?_
      refine pc_get (C := RX3) (T := TX3) (N := 10) (ci := 3) hx hb hts (by decide +kernel) hown hX.1 hW.1 1 i (hM.2.2.2.1 i hi).1 rfl rfl 4 (by decide) (hts (.fieldLink RX3 23 "DraftsmanOffice$Sheet" "isLastChecked" "Z") (by decide +kernel)) (fun _ h9 => h9) rfl dX3_statusOf_21 ?_
      refine lv_if_eq (tgt := 31) hx hb dX3_statusOf_24 (by decide) (fun (c8 : (v 1 i 2) = 0) => ?_) (fun (c8 : ¬ (v 1 i 2) = 0) => ?_)
      · refine lv_iconst (v := 0) hx hb dX3_statusOf_31 (by decide) ?_
        exact W.iret (v := 0) hx hb hr (fun t ht hW9 => ⟨⟨0, (), rfl, (by unfold F_X3_statusOf; rw [if_neg c6]; rw [if_pos c7]; rw [if_pos c8]), trivial⟩, hW.2.F ht⟩) hW.2.2.2 dX3_statusOf_32
      · refine lv_iconst (v := 1) hx hb dX3_statusOf_27 (by decide) ?_
        refine lv_goto (tgt := 32) hx hb dX3_statusOf_28 (by decide) ?_
        exact W.iret (v := 1) hx hb hr (fun t ht hW9 => ⟨⟨1, (), rfl, (by unfold F_X3_statusOf; rw [if_neg c6]; rw [if_pos c7]; rw [if_neg c8]), trivial⟩, hW.2.F ht⟩) hW.2.2.2 dX3_statusOf_32
    · refine lv_iconst (v := 3) hx hb dX3_statusOf_18 (by decide) ?_
      exact W.iret (v := 3) hx hb hr (fun t ht hW9 => ⟨⟨3, (), rfl, (by unfold F_X3_statusOf; rw [if_neg c6]; rw [if_neg c7]), trivial⟩, hW.2.F ht⟩) hW.2.2.2 dX3_statusOf_19
  · refine lv_iconst (v := 2) hx hb dX3_statusOf_8 (by decide) ?_
    exact W.iret (v := 2) hx hb hr (fun t ht hW9 => ⟨⟨2, (), rfl, (by unfold F_X3_statusOf; rw [if_pos c6]), trivial⟩, hW.2.F ht⟩) hW.2.2.2 dX3_statusOf_9

def F_X3_lastStatus (c : SC) (v : SV) (w : SW) (i : Nat) : Int32 := (F_X3_statusOf c v w i (v 1 i 1))

set_option maxHeartbeats 4000000 in
set_option maxRecDepth 100000 in
theorem r_X3_lastStatus (l : Launch) (D : va_G) (cA : Nat → ClassId) (NL : List (Nat × Nat)) (c : SC) (v : SV) (w : SW) (u : Nat → Int32) (ad : Nat → Nat → Nat) (i : Nat) (hM : MEM c NL) (hBd : BND c) (hi : i < c 0) : Met l yX3_lastStatus wsX3_lastStatus ({ frames := 1, cells := 0, slots := 0, locals := 21 }) (pcPre D vwCl (tyL cA) [.ref (ad 1 i)] (fun H => va_P D vwCl (pcW NL ad (ctO cA c v w u ad)) H)) (va_Qi (fun (r : Int32) (_ : Unit) => r = F_X3_lastStatus c v w i) (fun _ _ => True) (fun _ => False)) 0 0 (fun _ => False) := by
  refine Met.ofW (cc := cX3_lastStatus) (maxL := 1) (ret := (some .int)) (by decide) rfl ?_
  intro p e s m args below meth c0 s₁ B hml hv
  obtain ⟨rfl, hX, hP0⟩ := hv
  have hx := B.exec
  have hb := B.bytes
  have hr := B.returns
  have hts := atoms_spec (ws := wsX3_lastStatus) B.pre
  have hown : s.vm.findClass RX3 = some m.cls := findClass_of_methodNamed B.named
  have hlocks := B.notSynchronized
  have hW : pcQ D vwCl (fun _ => False) s.heap NL ad (ctO cA c v w u ad) s.heap [] := ⟨hP0, va_S.rf⟩
  have hl := lv_entry ([.ref (ad 1 i)]) (n := 1) (Nat.le_of_ble_eq_true rfl)
  rw [lg_entry_eq]
  generalize (lg_sl ([.ref (ad 1 i)]) ++ List.replicate (1 - (lg_sl ([.ref (ad 1 i)])).length) Slot.unset).toArray = ls at hl ⊢
  have hl : lv_has ls 1 [(0, .ref (ad 1 i))] := hl
  refine lv_aload_n hx hb dX3_lastStatus_0 rfl (lv_at hl 0 rfl) ?_
  refine lv_aload_n hx hb dX3_lastStatus_1 rfl (lv_at hl 0 rfl) ?_
  refine pc_get (C := RX3) (T := TX3) (N := 10) (ci := 3) hx hb hts (by decide +kernel) hown hX.1 hW.1 1 i (hM.2.2.2.1 i hi).1 rfl rfl 3 (by decide) (hts (.fieldLink RX3 19 "DraftsmanOffice$Sheet" "last" "I") (by decide +kernel)) (fun _ h9 => h9) rfl dX3_lastStatus_2 ?_
  refine pc_qcalli (va_runV (As := [.int (v 1 i 1)]) (rest := []) ⟨hx, hb, hml, hown, hts⟩ (r_X3_statusOf l D cA NL c v w u ad i (v 1 i 1) hM hBd hi) (cwV 1 hts gX3_lastStatus_X3_statusOf rfl rfl rfl (by decide +kernel) ⟨Nat.le_of_ble_eq_true rfl, Nat.le_of_ble_eq_true rfl⟩) (pc_preV pcN_ok hX hW.1 (hM.2.2.2.1 i hi).1 rfl rfl hW.1) rfl rfl hl.1 rfl (lv_room (Nat.le_of_ble_eq_true rfl)) dX3_lastStatus_5 ⟨Nat.le_of_ble_eq_true rfl, Nat.le_of_ble_eq_true rfl⟩) hW (fun r9 H locs hwr9 hW => ?_)
  replace hwr9 := hwr9.symm
  subst hwr9
  exact W.iret (v := (F_X3_statusOf c v w i (v 1 i 1))) hx hb hr (fun t ht hW9 => ⟨⟨(F_X3_statusOf c v w i (v 1 i 1)), (), rfl, rfl, trivial⟩, hW.2.F ht⟩) hW.2.2.2 dX3_lastStatus_8

def F_X4_isAtRest (c : SC) (v : SV) (w : SW) (i : Nat) : Int32 := (if (v 7 i 3) = 0 then (1 : Int32) else (if (v 7 i 3) = (2 : Int32) then (1 : Int32) else (0 : Int32)))

set_option maxHeartbeats 4000000 in
set_option maxRecDepth 100000 in
theorem r_X4_isAtRest (l : Launch) (D : va_G) (cA : Nat → ClassId) (NL : List (Nat × Nat)) (c : SC) (v : SV) (w : SW) (u : Nat → Int32) (ad : Nat → Nat → Nat) (i : Nat) (hM : MEM c NL) (hBd : BND c) (hi : i < c 4) : Met l yX4_isAtRest wsX4_isAtRest ({ frames := 0, cells := 0, slots := 0, locals := 0 }) (pcPre D vwCl (tyL cA) [.ref (ad 7 i)] (fun H => va_P D vwCl (pcW NL ad (ctO cA c v w u ad)) H)) (va_Qi (fun (r : Int32) (_ : Unit) => r = F_X4_isAtRest c v w i) (fun _ _ => True) (fun _ => False)) 0 0 (fun _ => False) := by
  refine Met.ofW (cc := cX4_isAtRest) (maxL := 1) (ret := (some .boolean)) (by decide) rfl ?_
  intro p e s m args below meth c0 s₁ B hml hv
  obtain ⟨rfl, hX, hP0⟩ := hv
  have hx := B.exec
  have hb := B.bytes
  have hr := B.returns
  have hts := atoms_spec (ws := wsX4_isAtRest) B.pre
  have hown : s.vm.findClass RX4 = some m.cls := findClass_of_methodNamed B.named
  have hlocks := B.notSynchronized
  have hW : pcQ D vwCl (fun _ => False) s.heap NL ad (ctO cA c v w u ad) s.heap [] := ⟨hP0, va_S.rf⟩
  have hl := lv_entry ([.ref (ad 7 i)]) (n := 1) (Nat.le_of_ble_eq_true rfl)
  rw [lg_entry_eq]
  generalize (lg_sl ([.ref (ad 7 i)]) ++ List.replicate (1 - (lg_sl ([.ref (ad 7 i)])).length) Slot.unset).toArray = ls at hl ⊢
  have hl : lv_has ls 1 [(0, .ref (ad 7 i))] := hl
  refine lv_aload_n hx hb dX4_isAtRest_0 rfl (lv_at hl 0 rfl) ?_
  refine pc_get (C := RX4) (T := TX4) (N := 6) (ci := 4) hx hb hts (by decide +kernel) hown hX.1 hW.1 7 i (hM.2.2.2.2.2.2.2 i hi) rfl rfl 4 (by decide) (hts (.fieldLink RX4 17 "DraftsmanOffice$WorkPackage" "state" "I") (by decide +kernel)) (fun _ h9 => h9) rfl dX4_isAtRest_1 ?_
  refine lv_if_eq (tgt := 15) hx hb dX4_isAtRest_4 (by decide) (fun (c10 : (v 7 i 3) = 0) => ?_) (fun (c10 : ¬ (v 7 i 3) = 0) => ?_)
  · refine lv_iconst (v := 1) hx hb dX4_isAtRest_15 (by decide) ?_
    refine lv_goto (tgt := 20) hx hb dX4_isAtRest_16 (by decide) ?_
    exact W.zret (v := 1) hx hb hr rfl (fun t ht hW9 => ⟨⟨1, (), rfl, (by unfold F_X4_isAtRest; rw [if_pos c10]), trivial⟩, hW.2.F ht⟩) hW.2.2.2 dX4_isAtRest_20
  · refine lv_aload_n hx hb dX4_isAtRest_7 rfl (lv_at hl 0 rfl) ?_
    refine pc_get (C := RX4) (T := TX4) (N := 6) (ci := 4) hx hb hts (by decide +kernel) hown hX.1 hW.1 7 i (hM.2.2.2.2.2.2.2 i hi) rfl rfl 4 (by decide) (hts (.fieldLink RX4 17 "DraftsmanOffice$WorkPackage" "state" "I") (by decide +kernel)) (fun _ h9 => h9) rfl dX4_isAtRest_8 ?_
    refine lv_iconst (v := 2) hx hb dX4_isAtRest_11 (by decide) ?_
    refine lv_icmp_ne (tgt := 19) hx hb dX4_isAtRest_12 (by decide) (fun (c11 : ¬ (v 7 i 3) = (2 : Int32)) => ?_) (fun (c11 : (v 7 i 3) = (2 : Int32)) => ?_)
    · refine lv_iconst (v := 0) hx hb dX4_isAtRest_19 (by decide) ?_
      exact W.zret (v := 0) hx hb hr rfl (fun t ht hW9 => ⟨⟨0, (), rfl, (by unfold F_X4_isAtRest; rw [if_neg c10]; rw [if_neg c11]), trivial⟩, hW.2.F ht⟩) hW.2.2.2 dX4_isAtRest_20
    · refine lv_iconst (v := 1) hx hb dX4_isAtRest_15 (by decide) ?_
      refine lv_goto (tgt := 20) hx hb dX4_isAtRest_16 (by decide) ?_
      exact W.zret (v := 1) hx hb hr rfl (fun t ht hW9 => ⟨⟨1, (), rfl, (by unfold F_X4_isAtRest; rw [if_neg c10]; rw [if_pos c11]), trivial⟩, hW.2.F ht⟩) hW.2.2.2 dX4_isAtRest_20

