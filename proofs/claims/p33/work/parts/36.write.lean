theorem uV_back {v : SV} {k i f : Nat} {x : Int32} : uV (uV v k i f x) k i f (v k i f) = v := by
  funext a b d
  by_cases h : a = k ∧ d = f ∧ b = i
  · obtain ⟨rfl, rfl, rfl⟩ := h
    simp [uV]
  · simp [uV, h]
theorem ne_m1 {x : Int32} (h : ¬ x < 0) : ¬ x = -1 := fun e => h (e ▸ (by decide))
theorem in6 {x : Int32} (h : ¬ x < 0) (h6 : x.toNatClampNeg < 6) (hl : x + 1 < 6) : ¬ x + 1 < 0 ∧ (x + 1).toNatClampNeg < 6 := by
  obtain ⟨j, hj, rfl⟩ := nI_of h
  rw [nI_clamp hj] at h6
  rw [nI_1] at hl ⊢
  rw [Int32.lt_iff_toInt_lt, nI_toInt (by omega)] at hl
  have h7 : (6 : Int32).toInt = 6 := by decide
  exact ⟨nI_nn (by omega), by rw [nI_clamp (by omega)]; omega⟩
theorem WF_of {c : SC} {v v2 : SV} (h : WF c v) (e : ∀ i, v2 2 i 1 = v 2 i 1 ∧ v2 7 i 0 = v 7 i 0 ∧ v2 1 i 1 = v 1 i 1) : WF c v2 := by
  refine ⟨fun i hi => ?_, fun i hi => ?_, fun i hi => ?_⟩
  · rw [(e i).1]; exact h.1 i hi
  · rw [(e i).2.1]; exact h.2.1 i hi
  · rw [(e i).2.2]; exact h.2.2 i hi

def V_X3_setIssued (c : SC) (v : SV) (w : SW) (i : Nat) (x1 : Int32) : SV := (uV (uV v 1 i 3 x1) 1 i 4 (v 12 i x1.toNatClampNeg))
def W_X3_setIssued (c : SC) (v : SV) (w : SW) (i : Nat) (x1 : Int32) : SW := (uW w 1 i 0 (w 11 i x1.toNatClampNeg))

set_option maxHeartbeats 4000000 in
set_option maxRecDepth 100000 in
theorem m_X3_setIssued (l : Launch) (D : va_G) (cA : Nat → ClassId) (NL : List (Nat × Nat)) (c : SC) (v : SV) (w : SW) (u : Nat → Int32) (ad : Nat → Nat → Nat) (A : Nat → Prop) (i : Nat) (x1 : Int32) (hM : MEM c NL) (hBd : BND c) (hi : i < c 0) (h6n : ¬ x1 < 0) (h6 : x1.toNatClampNeg < 6) : Met l yX3_setIssued wsX3_setIssued ({ frames := 0, cells := 0, slots := 0, locals := 0 }) (pcPre D vwCl (tyL cA) [.ref (ad 1 i), .int x1] (fun H => va_P D vwCl (pcW NL ad (ctO cA c v w u ad)) H ∧ va_D A (pcW NL ad (ctO cA c v w u ad)) ∧ ∀ q, H.size ≤ q → A q)) (va_Qv (fun (_ : Unit) => True) (fun (_ : Unit) t => va_P D vwCl (pcW NL ad (ctO cA c (V_X3_setIssued c v w i x1) (W_X3_setIssued c v w i x1) u ad)) t.heap) A) 0 0 A := by
  refine Met.ofW (cc := cX3_setIssued) (maxL := 2) (ret := none) (by decide) rfl ?_
  intro p e s m args below meth c0 s₁ B hml hv
  obtain ⟨rfl, hX, hP0, hD, hA⟩ := hv
  have hx := B.exec
  have hb := B.bytes
  have hr := B.returns
  have hts := atoms_spec (ws := wsX3_setIssued) B.pre
  have hown : s.vm.findClass RX3 = some m.cls := findClass_of_methodNamed B.named
  have hlocks := B.notSynchronized
  have hW : pcS D vwCl A s.heap NL ad (ctO cA c v w u ad) s.heap [] := ⟨hP0, hD, va_S.rf⟩
  have hl := lv_entry ([.ref (ad 1 i), .int x1]) (n := 2) (Nat.le_of_ble_eq_true rfl)
  rw [lg_entry_eq]
  generalize (lg_sl ([.ref (ad 1 i), .int x1]) ++ List.replicate (2 - (lg_sl ([.ref (ad 1 i), .int x1])).length) Slot.unset).toArray = ls at hl ⊢
  have hl : lv_has ls 2 [(0, .ref (ad 1 i)), (1, .int x1)] := hl
  refine lv_aload_n hx hb dX3_setIssued_0 rfl (lv_at hl 0 rfl) ?_
  refine lv_iload_n hx hb dX3_setIssued_1 rfl (lv_at hl 1 rfl) ?_
  refine pc_put (v := .int x1) (C := RX3) (T := TX3) (N := 10) (ci := 3) (ty := .int) hx hb hts (by decide +kernel) tyX3 tyX3_ok nmX3 hown hX.1 hW 1 i (hM.2.2.2.1 i hi).1 rfl rfl 5 (by decide) (hts (.fieldLink RX3 27 "DraftsmanOffice$Sheet" "issued" "I") (by decide +kernel)) (fun _ h9 => h9) rfl (by decide +kernel) rfl rfl (Nat.le_of_ble_eq_true rfl) dX3_setIssued_2 (fun H locs hW => ?_)
  have hW : pcS D vwCl A s.heap NL ad (ctO cA c (uV v 1 i 3 x1) w u ad) H locs := pcS_eq hW ctO_put_1_5
  refine lv_aload_n hx hb dX3_setIssued_5 rfl (lv_at hl 0 rfl) ?_
  refine lv_iload_n hx hb dX3_setIssued_6 rfl (lv_at hl 1 rfl) ?_
  refine lv_iconst (v := -1) hx hb dX3_setIssued_7 (by decide) ?_
  refine lv_icmp_ne (tgt := 15) hx hb dX3_setIssued_8 (by decide) (fun _ => ?_) (fun c227 => absurd c227 (ne_m1 h6n))
  refine lv_aload_n hx hb dX3_setIssued_15 rfl (lv_at hl 0 rfl) ?_
  refine pc_get (C := RX3) (T := TX3) (N := 10) (ci := 3) hx hb hts (by decide +kernel) hown hX.1 hW.1 1 i (hM.2.2.2.1 i hi).1 rfl rfl 1 (by decide) (hts (.fieldLink RX3 9 "DraftsmanOffice$Sheet" "regions" "[J") (by decide +kernel)) (fun _ h9 => h9) rfl dX3_setIssued_16 ?_
  refine lv_iload_n hx hb dX3_setIssued_19 rfl (lv_at hl 1 rfl) ?_
  refine pc_lald (f := (w 11 i)) hx hb hX.1 hW.1 11 i 1 (hM.2.2.2.1 i hi).2.1 rfl rfl (fun q => q.elim h6n (fun q => absurd h6 (Nat.not_lt.mpr q))) dX3_setIssued_20 ?_
  refine pc_put (v := .long (w 11 i x1.toNatClampNeg)) (C := RX3) (T := TX3) (N := 10) (ci := 3) (ty := .long) hx hb hts (by decide +kernel) tyX3 tyX3_ok nmX3 hown hX.1 hW 1 i (hM.2.2.2.1 i hi).1 rfl rfl 6 (by decide) (hts (.fieldLink RX3 30 "DraftsmanOffice$Sheet" "issuedRegion" "J") (by decide +kernel)) (fun _ h9 => h9) rfl (by decide +kernel) rfl rfl (Nat.le_of_ble_eq_true rfl) dX3_setIssued_21 (fun H locs hW => ?_)
  have hW : pcS D vwCl A s.heap NL ad (ctO cA c (uV v 1 i 3 x1) (uW w 1 i 0 (w 11 i x1.toNatClampNeg)) u ad) H locs := pcS_eq hW ctO_put_1_6
  refine lv_aload_n hx hb dX3_setIssued_24 rfl (lv_at hl 0 rfl) ?_
  refine lv_iload_n hx hb dX3_setIssued_25 rfl (lv_at hl 1 rfl) ?_
  refine lv_iconst (v := -1) hx hb dX3_setIssued_26 (by decide) ?_
  refine lv_icmp_ne (tgt := 34) hx hb dX3_setIssued_27 (by decide) (fun _ => ?_) (fun c228 => absurd c228 (ne_m1 h6n))
  refine lv_aload_n hx hb dX3_setIssued_34 rfl (lv_at hl 0 rfl) ?_
  refine pc_get (C := RX3) (T := TX3) (N := 10) (ci := 3) hx hb hts (by decide +kernel) hown hX.1 hW.1 1 i (hM.2.2.2.1 i hi).1 rfl rfl 2 (by decide) (hts (.fieldLink RX3 15 "DraftsmanOffice$Sheet" "details" "[I") (by decide +kernel)) (fun _ h9 => h9) rfl dX3_setIssued_35 ?_
  refine lv_iload_n hx hb dX3_setIssued_38 rfl (lv_at hl 1 rfl) ?_
  refine pc_iald (f := (v 12 i)) hx hb hX.1 hW.1 12 i 0 (hM.2.2.2.1 i hi).2.2 rfl rfl (fun q => q.elim h6n (fun q => absurd h6 (Nat.not_lt.mpr q))) dX3_setIssued_39 ?_
  refine pc_put (v := .int (v 12 i x1.toNatClampNeg)) (C := RX3) (T := TX3) (N := 10) (ci := 3) (ty := .int) hx hb hts (by decide +kernel) tyX3 tyX3_ok nmX3 hown hX.1 hW 1 i (hM.2.2.2.1 i hi).1 rfl rfl 7 (by decide) (hts (.fieldLink RX3 34 "DraftsmanOffice$Sheet" "issuedDetails" "I") (by decide +kernel)) (fun _ h9 => h9) rfl (by decide +kernel) rfl rfl (Nat.le_of_ble_eq_true rfl) dX3_setIssued_40 (fun H locs hW => ?_)
  have hW : pcS D vwCl A s.heap NL ad (ctO cA c (uV (uV v 1 i 3 x1) 1 i 4 (v 12 i x1.toNatClampNeg)) (uW w 1 i 0 (w 11 i x1.toNatClampNeg)) u ad) H locs := pcS_eq hW ctO_put_1_7
  have e9v : V_X3_setIssued c v w i x1 = (uV (uV v 1 i 3 x1) 1 i 4 (v 12 i x1.toNatClampNeg)) := rfl
  have e9w : W_X3_setIssued c v w i x1 = (uW w 1 i 0 (w 11 i x1.toNatClampNeg)) := rfl
  exact W.vret hx hb hr (fun t ht hW9 => ⟨⟨(), rfl, trivial, (by show va_P D vwCl (pcW NL ad (ctO cA c (V_X3_setIssued c v w i x1) (W_X3_setIssued c v w i x1) u ad)) t.heap; rw [e9v]; rw [e9w]; rw [ht]; exact hW.1)⟩, hW.2.2.F ht⟩) hW.2.2.2.2 dX3_setIssued_43

theorem wf_setIssued {c : SC} {v : SV} {w : SW} {i : Nat} {x1 : Int32} (h : WF c v) : WF c (V_X3_setIssued c v w i x1) := WF_of h (fun j => ⟨rfl, rfl, rfl⟩)

def V_X3_drawLast (c : SC) (v : SV) (w : SW) (i : Nat) (x1 : Int64) (x2 : Int32) : SV := (uV v 12 i ((v 1 i 1).toNatClampNeg) x2)
def W_X3_drawLast (c : SC) (v : SV) (w : SW) (i : Nat) (x1 : Int64) (x2 : Int32) : SW := (uW w 11 i ((v 1 i 1).toNatClampNeg) x1)

set_option maxHeartbeats 4000000 in
set_option maxRecDepth 100000 in
theorem m_X3_drawLast (l : Launch) (D : va_G) (cA : Nat → ClassId) (NL : List (Nat × Nat)) (c : SC) (v : SV) (w : SW) (u : Nat → Int32) (ad : Nat → Nat → Nat) (A : Nat → Prop) (i : Nat) (x1 : Int64) (x2 : Int32) (hM : MEM c NL) (hBd : BND c) (hF : WF c v) (hi : i < c 0) : Met l yX3_drawLast wsX3_drawLast ({ frames := 0, cells := 0, slots := 0, locals := 0 }) (pcPre D vwCl (tyL cA) [.ref (ad 1 i), .long x1, .int x2] (fun H => va_P D vwCl (pcW NL ad (ctO cA c v w u ad)) H ∧ va_D A (pcW NL ad (ctO cA c v w u ad)) ∧ ∀ q, H.size ≤ q → A q)) (va_Qv (fun (_ : Unit) => True) (fun (_ : Unit) t => va_P D vwCl (pcW NL ad (ctO cA c (V_X3_drawLast c v w i x1 x2) (W_X3_drawLast c v w i x1 x2) u ad)) t.heap) A) 0 0 A := by
  refine Met.ofW (cc := cX3_drawLast) (maxL := 4) (ret := none) (by decide) rfl ?_
  intro p e s m args below meth c0 s₁ B hml hv
  obtain ⟨rfl, hX, hP0, hD, hA⟩ := hv
  have hx := B.exec
  have hb := B.bytes
  have hr := B.returns
  have hts := atoms_spec (ws := wsX3_drawLast) B.pre
  have hown : s.vm.findClass RX3 = some m.cls := findClass_of_methodNamed B.named
  have hlocks := B.notSynchronized
  have hW : pcS D vwCl A s.heap NL ad (ctO cA c v w u ad) s.heap [] := ⟨hP0, hD, va_S.rf⟩
  have hl := lv_entry ([.ref (ad 1 i), .long x1, .int x2]) (n := 4) (Nat.le_of_ble_eq_true rfl)
  rw [lg_entry_eq]
  generalize (lg_sl ([.ref (ad 1 i), .long x1, .int x2]) ++ List.replicate (4 - (lg_sl ([.ref (ad 1 i), .long x1, .int x2])).length) Slot.unset).toArray = ls at hl ⊢
  have hl : lv_has ls 4 [(0, .ref (ad 1 i)), (1, .long x1), (3, .int x2)] := hl
  refine lv_aload_n hx hb dX3_drawLast_0 rfl (lv_at hl 0 rfl) ?_
  refine pc_get (C := RX3) (T := TX3) (N := 10) (ci := 3) hx hb hts (by decide +kernel) hown hX.1 hW.1 1 i (hM.2.2.2.1 i hi).1 rfl rfl 1 (by decide) (hts (.fieldLink RX3 9 "DraftsmanOffice$Sheet" "regions" "[J") (by decide +kernel)) (fun _ h9 => h9) rfl dX3_drawLast_1 ?_
  refine lv_aload_n hx hb dX3_drawLast_4 rfl (lv_at hl 0 rfl) ?_
  refine pc_get (C := RX3) (T := TX3) (N := 10) (ci := 3) hx hb hts (by decide +kernel) hown hX.1 hW.1 1 i (hM.2.2.2.1 i hi).1 rfl rfl 3 (by decide) (hts (.fieldLink RX3 19 "DraftsmanOffice$Sheet" "last" "I") (by decide +kernel)) (fun _ h9 => h9) rfl dX3_drawLast_5 ?_
  refine lv_lload_n hx hb dX3_drawLast_8 rfl (lv_at hl 1 rfl) ?_
  refine pc_last (f := (w 11 i)) hx hb hX.1 hW 11 i 1 (hM.2.2.2.1 i hi).2.1 rfl rfl (fun q => q.elim (hF.2.2 i hi).1 (fun q => absurd (hF.2.2 i hi).2 (Nat.not_lt.mpr q))) dX3_drawLast_9 (fun H locs hW => ?_)
  have hW : pcS D vwCl A s.heap NL ad (ctO cA c v (uW w 11 i ((v 1 i 1).toNatClampNeg) x1) u ad) H locs := pcS_eq hW ctO_lst_11
  refine lv_aload_n hx hb dX3_drawLast_10 rfl (lv_at hl 0 rfl) ?_
  refine pc_get (C := RX3) (T := TX3) (N := 10) (ci := 3) hx hb hts (by decide +kernel) hown hX.1 hW.1 1 i (hM.2.2.2.1 i hi).1 rfl rfl 2 (by decide) (hts (.fieldLink RX3 15 "DraftsmanOffice$Sheet" "details" "[I") (by decide +kernel)) (fun _ h9 => h9) rfl dX3_drawLast_11 ?_
  refine lv_aload_n hx hb dX3_drawLast_14 rfl (lv_at hl 0 rfl) ?_
  refine pc_get (C := RX3) (T := TX3) (N := 10) (ci := 3) hx hb hts (by decide +kernel) hown hX.1 hW.1 1 i (hM.2.2.2.1 i hi).1 rfl rfl 3 (by decide) (hts (.fieldLink RX3 19 "DraftsmanOffice$Sheet" "last" "I") (by decide +kernel)) (fun _ h9 => h9) rfl dX3_drawLast_15 ?_
  refine lv_iload_n hx hb dX3_drawLast_18 rfl (lv_at hl 2 rfl) ?_
  refine pc_iast (f := (v 12 i)) hx hb hX.1 hW 12 i 0 (hM.2.2.2.1 i hi).2.2 rfl rfl (fun q => q.elim (hF.2.2 i hi).1 (fun q => absurd (hF.2.2 i hi).2 (Nat.not_lt.mpr q))) dX3_drawLast_19 (fun H locs hW => ?_)
  have hW : pcS D vwCl A s.heap NL ad (ctO cA c (uV v 12 i ((v 1 i 1).toNatClampNeg) x2) (uW w 11 i ((v 1 i 1).toNatClampNeg) x1) u ad) H locs := pcS_eq hW ctO_ist_12
  have e9v : V_X3_drawLast c v w i x1 x2 = (uV v 12 i ((v 1 i 1).toNatClampNeg) x2) := rfl
  have e9w : W_X3_drawLast c v w i x1 x2 = (uW w 11 i ((v 1 i 1).toNatClampNeg) x1) := rfl
  exact W.vret hx hb hr (fun t ht hW9 => ⟨⟨(), rfl, trivial, (by show va_P D vwCl (pcW NL ad (ctO cA c (V_X3_drawLast c v w i x1 x2) (W_X3_drawLast c v w i x1 x2) u ad)) t.heap; rw [e9v]; rw [e9w]; rw [ht]; exact hW.1)⟩, hW.2.2.F ht⟩) hW.2.2.2.2 dX3_drawLast_20

theorem wf_drawLast {c : SC} {v : SV} {w : SW} {i : Nat} {x1 : Int64} {x2 : Int32} (h : WF c v) : WF c (V_X3_drawLast c v w i x1 x2) := WF_of h (fun j => ⟨rfl, rfl, rfl⟩)

def V_X3_beginRevision (c : SC) (v : SV) (w : SW) (i : Nat) : SV := (uV (uV (uV (uV v 12 i (((v 1 i 1) + (1 : Int32)).toNatClampNeg) (v 12 i ((v 1 i 1).toNatClampNeg))) 1 i 1 ((v 1 i 1) + (1 : Int32))) 1 i 2 0) 1 i 5 0)
def W_X3_beginRevision (c : SC) (v : SV) (w : SW) (i : Nat) : SW := (uW w 11 i (((v 1 i 1) + (1 : Int32)).toNatClampNeg) (w 11 i ((v 1 i 1).toNatClampNeg)))

set_option maxHeartbeats 4000000 in
set_option maxRecDepth 100000 in
theorem m_X3_beginRevision (l : Launch) (D : va_G) (cA : Nat → ClassId) (NL : List (Nat × Nat)) (c : SC) (v : SV) (w : SW) (u : Nat → Int32) (ad : Nat → Nat → Nat) (A : Nat → Prop) (i : Nat) (hM : MEM c NL) (hBd : BND c) (hF : WF c v) (hi : i < c 0) (h16 : v 1 i 1 + 1 < 6) : Met l yX3_beginRevision wsX3_beginRevision ({ frames := 0, cells := 0, slots := 0, locals := 0 }) (pcPre D vwCl (tyL cA) [.ref (ad 1 i)] (fun H => va_P D vwCl (pcW NL ad (ctO cA c v w u ad)) H ∧ va_D A (pcW NL ad (ctO cA c v w u ad)) ∧ ∀ q, H.size ≤ q → A q)) (va_Qv (fun (_ : Unit) => True) (fun (_ : Unit) t => va_P D vwCl (pcW NL ad (ctO cA c (V_X3_beginRevision c v w i) (W_X3_beginRevision c v w i) u ad)) t.heap) A) 0 0 A := by
  refine Met.ofW (cc := cX3_beginRevision) (maxL := 2) (ret := none) (by decide) rfl ?_
  intro p e s m args below meth c0 s₁ B hml hv
  obtain ⟨rfl, hX, hP0, hD, hA⟩ := hv
  have hx := B.exec
  have hb := B.bytes
  have hr := B.returns
  have hts := atoms_spec (ws := wsX3_beginRevision) B.pre
  have hown : s.vm.findClass RX3 = some m.cls := findClass_of_methodNamed B.named
  have hlocks := B.notSynchronized
  have hW : pcS D vwCl A s.heap NL ad (ctO cA c v w u ad) s.heap [] := ⟨hP0, hD, va_S.rf⟩
  have hl := lv_entry ([.ref (ad 1 i)]) (n := 2) (Nat.le_of_ble_eq_true rfl)
  rw [lg_entry_eq]
  generalize (lg_sl ([.ref (ad 1 i)]) ++ List.replicate (2 - (lg_sl ([.ref (ad 1 i)])).length) Slot.unset).toArray = ls at hl ⊢
  have hl : lv_has ls 2 [(0, .ref (ad 1 i))] := hl
  refine lv_aload_n hx hb dX3_beginRevision_0 rfl (lv_at hl 0 rfl) ?_
  refine pc_get (C := RX3) (T := TX3) (N := 10) (ci := 3) hx hb hts (by decide +kernel) hown hX.1 hW.1 1 i (hM.2.2.2.1 i hi).1 rfl rfl 3 (by decide) (hts (.fieldLink RX3 19 "DraftsmanOffice$Sheet" "last" "I") (by decide +kernel)) (fun _ h9 => h9) rfl dX3_beginRevision_1 ?_
  refine lv_iconst (v := 1) hx hb dX3_beginRevision_4 (by decide) ?_
  refine lv_iadd hx hb dX3_beginRevision_5 ?_
  refine lv_istore_n (lv' := [(1, .int ((v 1 i 1) + (1 : Int32))), (0, .ref (ad 1 i))]) hx hb dX3_beginRevision_6 rfl hl (by decide) rfl (fun ls hl => ?_)
  refine lv_iload_n hx hb dX3_beginRevision_7 rfl (lv_at hl 0 rfl) ?_
  refine lv_bipush (v := 6) hx hb dX3_beginRevision_8 (by decide) ?_
  refine lv_icmp_ge (tgt := 58) hx hb dX3_beginRevision_10 (by decide) (fun c229 => absurd c229 (Int32.not_le.mpr h16)) (fun _ => ?_)
  refine lv_aload_n hx hb dX3_beginRevision_13 rfl (lv_at hl 1 rfl) ?_
  refine pc_get (C := RX3) (T := TX3) (N := 10) (ci := 3) hx hb hts (by decide +kernel) hown hX.1 hW.1 1 i (hM.2.2.2.1 i hi).1 rfl rfl 1 (by decide) (hts (.fieldLink RX3 9 "DraftsmanOffice$Sheet" "regions" "[J") (by decide +kernel)) (fun _ h9 => h9) rfl dX3_beginRevision_14 ?_
  refine lv_iload_n hx hb dX3_beginRevision_17 rfl (lv_at hl 0 rfl) ?_
  refine lv_aload_n hx hb dX3_beginRevision_18 rfl (lv_at hl 1 rfl) ?_
  refine pc_get (C := RX3) (T := TX3) (N := 10) (ci := 3) hx hb hts (by decide +kernel) hown hX.1 hW.1 1 i (hM.2.2.2.1 i hi).1 rfl rfl 1 (by decide) (hts (.fieldLink RX3 9 "DraftsmanOffice$Sheet" "regions" "[J") (by decide +kernel)) (fun _ h9 => h9) rfl dX3_beginRevision_19 ?_
  refine lv_aload_n hx hb dX3_beginRevision_22 rfl (lv_at hl 1 rfl) ?_
  refine pc_get (C := RX3) (T := TX3) (N := 10) (ci := 3) hx hb hts (by decide +kernel) hown hX.1 hW.1 1 i (hM.2.2.2.1 i hi).1 rfl rfl 3 (by decide) (hts (.fieldLink RX3 19 "DraftsmanOffice$Sheet" "last" "I") (by decide +kernel)) (fun _ h9 => h9) rfl dX3_beginRevision_23 ?_
  refine pc_lald (f := (w 11 i)) hx hb hX.1 hW.1 11 i 1 (hM.2.2.2.1 i hi).2.1 rfl rfl (fun q => q.elim (hF.2.2 i hi).1 (fun q => absurd (hF.2.2 i hi).2 (Nat.not_lt.mpr q))) dX3_beginRevision_26 ?_
  refine pc_last (f := (w 11 i)) hx hb hX.1 hW 11 i 1 (hM.2.2.2.1 i hi).2.1 rfl rfl (fun q => q.elim (in6 (hF.2.2 i hi).1 (hF.2.2 i hi).2 h16).1 (fun q => absurd (in6 (hF.2.2 i hi).1 (hF.2.2 i hi).2 h16).2 (Nat.not_lt.mpr q))) dX3_beginRevision_27 (fun H locs hW => ?_)
  have hW : pcS D vwCl A s.heap NL ad (ctO cA c v (uW w 11 i (((v 1 i 1) + (1 : Int32)).toNatClampNeg) (w 11 i ((v 1 i 1).toNatClampNeg))) u ad) H locs := pcS_eq hW ctO_lst_11
  refine lv_aload_n hx hb dX3_beginRevision_28 rfl (lv_at hl 1 rfl) ?_
  refine pc_get (C := RX3) (T := TX3) (N := 10) (ci := 3) hx hb hts (by decide +kernel) hown hX.1 hW.1 1 i (hM.2.2.2.1 i hi).1 rfl rfl 2 (by decide) (hts (.fieldLink RX3 15 "DraftsmanOffice$Sheet" "details" "[I") (by decide +kernel)) (fun _ h9 => h9) rfl dX3_beginRevision_29 ?_
  refine lv_iload_n hx hb dX3_beginRevision_32 rfl (lv_at hl 0 rfl) ?_
  refine lv_aload_n hx hb dX3_beginRevision_33 rfl (lv_at hl 1 rfl) ?_
  refine pc_get (C := RX3) (T := TX3) (N := 10) (ci := 3) hx hb hts (by decide +kernel) hown hX.1 hW.1 1 i (hM.2.2.2.1 i hi).1 rfl rfl 2 (by decide) (hts (.fieldLink RX3 15 "DraftsmanOffice$Sheet" "details" "[I") (by decide +kernel)) (fun _ h9 => h9) rfl dX3_beginRevision_34 ?_
  refine lv_aload_n hx hb dX3_beginRevision_37 rfl (lv_at hl 1 rfl) ?_
  refine pc_get (C := RX3) (T := TX3) (N := 10) (ci := 3) hx hb hts (by decide +kernel) hown hX.1 hW.1 1 i (hM.2.2.2.1 i hi).1 rfl rfl 3 (by decide) (hts (.fieldLink RX3 19 "DraftsmanOffice$Sheet" "last" "I") (by decide +kernel)) (fun _ h9 => h9) rfl dX3_beginRevision_38 ?_
  refine pc_iald (f := (v 12 i)) hx hb hX.1 hW.1 12 i 0 (hM.2.2.2.1 i hi).2.2 rfl rfl (fun q => q.elim (hF.2.2 i hi).1 (fun q => absurd (hF.2.2 i hi).2 (Nat.not_lt.mpr q))) dX3_beginRevision_41 ?_
  refine pc_iast (f := (v 12 i)) hx hb hX.1 hW 12 i 0 (hM.2.2.2.1 i hi).2.2 rfl rfl (fun q => q.elim (in6 (hF.2.2 i hi).1 (hF.2.2 i hi).2 h16).1 (fun q => absurd (in6 (hF.2.2 i hi).1 (hF.2.2 i hi).2 h16).2 (Nat.not_lt.mpr q))) dX3_beginRevision_42 (fun H locs hW => ?_)
  have hW : pcS D vwCl A s.heap NL ad (ctO cA c (uV v 12 i (((v 1 i 1) + (1 : Int32)).toNatClampNeg) (v 12 i ((v 1 i 1).toNatClampNeg))) (uW w 11 i (((v 1 i 1) + (1 : Int32)).toNatClampNeg) (w 11 i ((v 1 i 1).toNatClampNeg))) u ad) H locs := pcS_eq hW ctO_ist_12
  refine lv_aload_n hx hb dX3_beginRevision_43 rfl (lv_at hl 1 rfl) ?_
  refine lv_iload_n hx hb dX3_beginRevision_44 rfl (lv_at hl 0 rfl) ?_
  refine pc_put (v := .int ((v 1 i 1) + (1 : Int32))) (C := RX3) (T := TX3) (N := 10) (ci := 3) (ty := .int) hx hb hts (by decide +kernel) tyX3 tyX3_ok nmX3 hown hX.1 hW 1 i (hM.2.2.2.1 i hi).1 rfl rfl 3 (by decide) (hts (.fieldLink RX3 19 "DraftsmanOffice$Sheet" "last" "I") (by decide +kernel)) (fun _ h9 => h9) rfl (by decide +kernel) rfl rfl (Nat.le_of_ble_eq_true rfl) dX3_beginRevision_45 (fun H locs hW => ?_)
  have hW : pcS D vwCl A s.heap NL ad (ctO cA c (uV (uV v 12 i (((v 1 i 1) + (1 : Int32)).toNatClampNeg) (v 12 i ((v 1 i 1).toNatClampNeg))) 1 i 1 ((v 1 i 1) + (1 : Int32))) (uW w 11 i (((v 1 i 1) + (1 : Int32)).toNatClampNeg) (w 11 i ((v 1 i 1).toNatClampNeg))) u ad) H locs := pcS_eq hW ctO_put_1_3
  refine lv_aload_n hx hb dX3_beginRevision_48 rfl (lv_at hl 1 rfl) ?_
  refine lv_iconst (v := 0) hx hb dX3_beginRevision_49 (by decide) ?_
  refine pc_put (v := .int 0) (C := RX3) (T := TX3) (N := 10) (ci := 3) (ty := .boolean) hx hb hts (by decide +kernel) tyX3 tyX3_ok nmX3 hown hX.1 hW 1 i (hM.2.2.2.1 i hi).1 rfl rfl 4 (by decide) (hts (.fieldLink RX3 23 "DraftsmanOffice$Sheet" "isLastChecked" "Z") (by decide +kernel)) (fun _ h9 => h9) rfl (by decide +kernel) rfl rfl (Nat.le_of_ble_eq_true rfl) dX3_beginRevision_50 (fun H locs hW => ?_)
  have hW : pcS D vwCl A s.heap NL ad (ctO cA c (uV (uV (uV v 12 i (((v 1 i 1) + (1 : Int32)).toNatClampNeg) (v 12 i ((v 1 i 1).toNatClampNeg))) 1 i 1 ((v 1 i 1) + (1 : Int32))) 1 i 2 0) (uW w 11 i (((v 1 i 1) + (1 : Int32)).toNatClampNeg) (w 11 i ((v 1 i 1).toNatClampNeg))) u ad) H locs := pcS_eq hW ctO_put_1_4
  refine lv_aload_n hx hb dX3_beginRevision_53 rfl (lv_at hl 1 rfl) ?_
  refine lv_iconst (v := 0) hx hb dX3_beginRevision_54 (by decide) ?_
  refine pc_put (v := .int 0) (C := RX3) (T := TX3) (N := 10) (ci := 3) (ty := .int) hx hb hts (by decide +kernel) tyX3 tyX3_ok nmX3 hown hX.1 hW 1 i (hM.2.2.2.1 i hi).1 rfl rfl 8 (by decide) (hts (.fieldLink RX3 37 "DraftsmanOffice$Sheet" "marks" "I") (by decide +kernel)) (fun _ h9 => h9) rfl (by decide +kernel) rfl rfl (Nat.le_of_ble_eq_true rfl) dX3_beginRevision_55 (fun H locs hW => ?_)
  have hW : pcS D vwCl A s.heap NL ad (ctO cA c (uV (uV (uV (uV v 12 i (((v 1 i 1) + (1 : Int32)).toNatClampNeg) (v 12 i ((v 1 i 1).toNatClampNeg))) 1 i 1 ((v 1 i 1) + (1 : Int32))) 1 i 2 0) 1 i 5 0) (uW w 11 i (((v 1 i 1) + (1 : Int32)).toNatClampNeg) (w 11 i ((v 1 i 1).toNatClampNeg))) u ad) H locs := pcS_eq hW ctO_put_1_8
  have e9v : V_X3_beginRevision c v w i = (uV (uV (uV (uV v 12 i (((v 1 i 1) + (1 : Int32)).toNatClampNeg) (v 12 i ((v 1 i 1).toNatClampNeg))) 1 i 1 ((v 1 i 1) + (1 : Int32))) 1 i 2 0) 1 i 5 0) := rfl
  have e9w : W_X3_beginRevision c v w i = (uW w 11 i (((v 1 i 1) + (1 : Int32)).toNatClampNeg) (w 11 i ((v 1 i 1).toNatClampNeg))) := rfl
  exact W.vret hx hb hr (fun t ht hW9 => ⟨⟨(), rfl, trivial, (by show va_P D vwCl (pcW NL ad (ctO cA c (V_X3_beginRevision c v w i) (W_X3_beginRevision c v w i) u ad)) t.heap; rw [e9v]; rw [e9w]; rw [ht]; exact hW.1)⟩, hW.2.2.F ht⟩) hW.2.2.2.2 dX3_beginRevision_58

def V_X4_workADay (c : SC) (v : SV) (w : SW) (i : Nat) : SV := (if 0 < ((uV v 7 i 2 ((v 7 i 2) - (1 : Int32))) 7 i 2) then (uV v 7 i 2 ((v 7 i 2) - (1 : Int32))) else (uV (uV v 7 i 2 ((v 7 i 2) - (1 : Int32))) 7 i 3 3))

set_option maxHeartbeats 4000000 in
set_option maxRecDepth 100000 in
theorem m_X4_workADay (l : Launch) (D : va_G) (cA : Nat → ClassId) (NL : List (Nat × Nat)) (c : SC) (v : SV) (w : SW) (u : Nat → Int32) (ad : Nat → Nat → Nat) (A : Nat → Prop) (i : Nat) (hM : MEM c NL) (hBd : BND c) (hi : i < c 4) : Met l yX4_workADay wsX4_workADay ({ frames := 0, cells := 0, slots := 0, locals := 0 }) (pcPre D vwCl (tyL cA) [.ref (ad 7 i)] (fun H => va_P D vwCl (pcW NL ad (ctO cA c v w u ad)) H ∧ va_D A (pcW NL ad (ctO cA c v w u ad)) ∧ ∀ q, H.size ≤ q → A q)) (va_Qv (fun (_ : Unit) => True) (fun (_ : Unit) t => va_P D vwCl (pcW NL ad (ctO cA c (V_X4_workADay c v w i) w u ad)) t.heap) A) 0 0 A := by
  refine Met.ofW (cc := cX4_workADay) (maxL := 1) (ret := none) (by decide) rfl ?_
  intro p e s m args below meth c0 s₁ B hml hv
  obtain ⟨rfl, hX, hP0, hD, hA⟩ := hv
  have hx := B.exec
  have hb := B.bytes
  have hr := B.returns
  have hts := atoms_spec (ws := wsX4_workADay) B.pre
  have hown : s.vm.findClass RX4 = some m.cls := findClass_of_methodNamed B.named
  have hlocks := B.notSynchronized
  have hW : pcS D vwCl A s.heap NL ad (ctO cA c v w u ad) s.heap [] := ⟨hP0, hD, va_S.rf⟩
  have hl := lv_entry ([.ref (ad 7 i)]) (n := 1) (Nat.le_of_ble_eq_true rfl)
  rw [lg_entry_eq]
  generalize (lg_sl ([.ref (ad 7 i)]) ++ List.replicate (1 - (lg_sl ([.ref (ad 7 i)])).length) Slot.unset).toArray = ls at hl ⊢
  have hl : lv_has ls 1 [(0, .ref (ad 7 i))] := hl
  refine lv_aload_n hx hb dX4_workADay_0 rfl (lv_at hl 0 rfl) ?_
  refine lv_dup hx hb dX4_workADay_1 rfl ?_
  refine pc_get (C := RX4) (T := TX4) (N := 6) (ci := 4) hx hb hts (by decide +kernel) hown hX.1 hW.1 7 i (hM.2.2.2.2.2.2.2 i hi) rfl rfl 2 (by decide) (hts (.fieldLink RX4 30 "DraftsmanOffice$WorkPackage" "daysLeft" "I") (by decide +kernel)) (fun _ h9 => h9) rfl dX4_workADay_2 ?_
  refine lv_iconst (v := 1) hx hb dX4_workADay_5 (by decide) ?_
  refine lv_isub hx hb dX4_workADay_6 ?_
  refine pc_put (v := .int ((v 7 i 2) - (1 : Int32))) (C := RX4) (T := TX4) (N := 6) (ci := 4) (ty := .int) hx hb hts (by decide +kernel) tyX4 tyX4_ok nmX4 hown hX.1 hW 7 i (hM.2.2.2.2.2.2.2 i hi) rfl rfl 2 (by decide) (hts (.fieldLink RX4 30 "DraftsmanOffice$WorkPackage" "daysLeft" "I") (by decide +kernel)) (fun _ h9 => h9) rfl (by decide +kernel) rfl rfl (Nat.le_of_ble_eq_true rfl) dX4_workADay_7 (fun H locs hW => ?_)
  have hW : pcS D vwCl A s.heap NL ad (ctO cA c (uV v 7 i 2 ((v 7 i 2) - (1 : Int32))) w u ad) H locs := pcS_eq hW ctO_put_7_2
  refine lv_aload_n hx hb dX4_workADay_10 rfl (lv_at hl 0 rfl) ?_
  refine pc_get (C := RX4) (T := TX4) (N := 6) (ci := 4) hx hb hts (by decide +kernel) hown hX.1 hW.1 7 i (hM.2.2.2.2.2.2.2 i hi) rfl rfl 2 (by decide) (hts (.fieldLink RX4 30 "DraftsmanOffice$WorkPackage" "daysLeft" "I") (by decide +kernel)) (fun _ h9 => h9) rfl dX4_workADay_11 ?_
  refine lv_if_gt (tgt := 22) hx hb dX4_workADay_14 (by decide) (fun (c230 : 0 < ((uV v 7 i 2 ((v 7 i 2) - (1 : Int32))) 7 i 2)) => ?_) (fun (c230 : ¬ 0 < ((uV v 7 i 2 ((v 7 i 2) - (1 : Int32))) 7 i 2)) => ?_)
  · have e9v : V_X4_workADay c v w i = (uV v 7 i 2 ((v 7 i 2) - (1 : Int32))) := (by unfold V_X4_workADay; rw [if_pos c230])
    exact W.vret hx hb hr (fun t ht hW9 => ⟨⟨(), rfl, trivial, (by show va_P D vwCl (pcW NL ad (ctO cA c (V_X4_workADay c v w i) w u ad)) t.heap; rw [e9v]; rw [ht]; exact hW.1)⟩, hW.2.2.F ht⟩) hW.2.2.2.2 dX4_workADay_22
  · refine lv_aload_n hx hb dX4_workADay_17 rfl (lv_at hl 0 rfl) ?_
    refine lv_iconst (v := 3) hx hb dX4_workADay_18 (by decide) ?_
    refine pc_put (v := .int 3) (C := RX4) (T := TX4) (N := 6) (ci := 4) (ty := .int) hx hb hts (by decide +kernel) tyX4 tyX4_ok nmX4 hown hX.1 hW 7 i (hM.2.2.2.2.2.2.2 i hi) rfl rfl 4 (by decide) (hts (.fieldLink RX4 17 "DraftsmanOffice$WorkPackage" "state" "I") (by decide +kernel)) (fun _ h9 => h9) rfl (by decide +kernel) rfl rfl (Nat.le_of_ble_eq_true rfl) dX4_workADay_19 (fun H locs hW => ?_)
    have hW : pcS D vwCl A s.heap NL ad (ctO cA c (uV (uV v 7 i 2 ((v 7 i 2) - (1 : Int32))) 7 i 3 3) w u ad) H locs := pcS_eq hW ctO_put_7_4
    have e9v : V_X4_workADay c v w i = (uV (uV v 7 i 2 ((v 7 i 2) - (1 : Int32))) 7 i 3 3) := (by unfold V_X4_workADay; rw [if_neg c230])
    exact W.vret hx hb hr (fun t ht hW9 => ⟨⟨(), rfl, trivial, (by show va_P D vwCl (pcW NL ad (ctO cA c (V_X4_workADay c v w i) w u ad)) t.heap; rw [e9v]; rw [ht]; exact hW.1)⟩, hW.2.2.F ht⟩) hW.2.2.2.2 dX4_workADay_22

theorem wf_workADay {c : SC} {v : SV} {w : SW} {i : Nat} (h : WF c v) : WF c (V_X4_workADay c v w i) := by
  refine WF_of h (fun j => ?_)
  unfold V_X4_workADay
  repeat' split
  all_goals exact ⟨rfl, rfl, rfl⟩

def VL_X5_stopUnfit (c : SC) (v : SV) (w : SW)   : Nat → Nat → SV → SV
  | 0, _, Vs236 => Vs236
  | k233 + 1, i232, Vs236 => VL_X5_stopUnfit c v w k233 (i232 + 1) (if (F_X5_isIn (F_X5_unfitRunning c v w) (nI i232)) = 0 then Vs236 else (uV (uV Vs236 7 i232 3 2) 7 i232 4 ((Vs236 7 i232 4) + (1 : Int32))))
def F_X5_stopUnfit (c : SC) (v : SV) (w : SW)  : Int32 := (F_J6_bitCount_0f7a4 (F_X5_unfitRunning c v w))
def V_X5_stopUnfit (c : SC) (v : SV) (w : SW)  : SV := (VL_X5_stopUnfit c v w (c 4) 0 v)

set_option maxHeartbeats 4000000 in
set_option maxRecDepth 100000 in
theorem m_X5_stopUnfit (l : Launch) (D : va_G) (cA : Nat → ClassId) (NL : List (Nat × Nat)) (c : SC) (v : SV) (w : SW) (u : Nat → Int32) (ad : Nat → Nat → Nat) (A : Nat → Prop)  (hM : MEM c NL) (hBd : BND c) (hF : WF c v) : Met l yX5_stopUnfit wsX5_stopUnfit ({ frames := 6, cells := 0, slots := 0, locals := 141 }) (pcPre D vwCl (tyL cA) [.ref (ad 5 0)] (fun H => va_P D vwCl (pcW NL ad (ctO cA c v w u ad)) H ∧ va_D A (pcW NL ad (ctO cA c v w u ad)) ∧ ∀ q, H.size ≤ q → A q)) (va_Qi (fun (r : Int32) (_ : Unit) => r = F_X5_stopUnfit c v w) (fun (_ : Unit) t => va_P D vwCl (pcW NL ad (ctO cA c (V_X5_stopUnfit c v w) w u ad)) t.heap) A) 0 0 A := by
  refine Met.ofW (cc := cX5_stopUnfit) (maxL := 3) (ret := (some .int)) (by decide) rfl ?_
  intro p e s m args below meth c0 s₁ B hml hv
  obtain ⟨rfl, hX, hP0, hD, hA⟩ := hv
  have hx := B.exec
  have hb := B.bytes
  have hr := B.returns
  have hts := atoms_spec (ws := wsX5_stopUnfit) B.pre
  have hown : s.vm.findClass RX5 = some m.cls := findClass_of_methodNamed B.named
  have hlocks := B.notSynchronized
  have hW : pcS D vwCl A s.heap NL ad (ctO cA c v w u ad) s.heap [] := ⟨hP0, hD, va_S.rf⟩
  have hl := lv_entry ([.ref (ad 5 0)]) (n := 3) (Nat.le_of_ble_eq_true rfl)
  rw [lg_entry_eq]
  generalize (lg_sl ([.ref (ad 5 0)]) ++ List.replicate (3 - (lg_sl ([.ref (ad 5 0)])).length) Slot.unset).toArray = ls at hl ⊢
  have hl : lv_has ls 3 [(0, .ref (ad 5 0))] := hl
  refine lv_aload_n hx hb dX5_stopUnfit_0 rfl (lv_at hl 0 rfl) ?_
  refine pc_rcalli (va_runV (As := []) (rest := []) ⟨hx, hb, hml, hown, hts⟩ (r_X5_unfitRunning l D cA NL c v w u ad  hM hBd hF ) (cwV 0 hts gX5_stopUnfit_X5_unfitRunning rfl rfl rfl (by decide +kernel) ⟨Nat.le_of_ble_eq_true rfl, Nat.le_of_ble_eq_true rfl⟩) (pc_preV pcN_ok hX hW.1 hM.1 rfl rfl hW.1) rfl rfl hl.1 rfl (lv_room (Nat.le_of_ble_eq_true rfl)) dX5_stopUnfit_1 ⟨Nat.le_of_ble_eq_true rfl, Nat.le_of_ble_eq_true rfl⟩) hW (fun r231 H locs hwr231 hW => ?_)
  replace hwr231 := hwr231.symm
  subst hwr231
  refine lv_istore_n (lv' := [(1, .int (F_X5_unfitRunning c v w)), (0, .ref (ad 5 0))]) hx hb dX5_stopUnfit_4 rfl hl (by decide) rfl (fun ls hl => ?_)
  refine lv_iconst (v := 0) hx hb dX5_stopUnfit_5 (by decide) ?_
  refine lv_istore_n (lv' := [(2, .int 0), (1, .int (F_X5_unfitRunning c v w)), (0, .ref (ad 5 0))]) hx hb dX5_stopUnfit_6 rfl hl (by decide) rfl (fun ls hl => ?_)
  have K235 : ∀ (k233 i232 : Nat) (Vs236 : SV) (H : Heap) (locs : List Loc) (ls : Array Slot), i232 + k233 = c 4 → (VL_X5_stopUnfit c v w k233 i232 Vs236) = (VL_X5_stopUnfit c v w (c 4) 0 v) → pcS D vwCl A s.heap NL ad (ctO cA c Vs236 w u ad) H locs → lv_has ls 3 [(2, .int (nI i232)), (1, .int (F_X5_unfitRunning c v w)), (0, .ref (ad 5 0))] → W p l e (headSpec wsX5_stopUnfit ({ frames := 6, cells := 0, slots := 0, locals := 141 })).room s m ([.ref (ad 5 0)] : List Value).toArray below meth c0 H locs 0 0 (MQ below (va_Qi (fun (r : Int32) (_ : Unit) => r = F_X5_stopUnfit c v w) (fun (_ : Unit) t => va_P D vwCl (pcW NL ad (ctO cA c (V_X5_stopUnfit c v w) w u ad)) t.heap) A) ([.ref (ad 5 0)] : List Value).toArray s 0 0 A) (F0 m 7 ls []) := by
    intro k233
    induction k233 with
    | zero =>
      intro i232 Vs236 H locs ls hk heV hW hl
      have ei : i232 = c 4 := by omega
      rw [ei] at hl
      obtain rfl : (VL_X5_stopUnfit c v w (c 4) 0 v) = Vs236 := heV.symm
      clear heV
      refine lv_iload_n hx hb dX5_stopUnfit_7 rfl (lv_at hl 0 rfl) ?_
      refine lv_aload_n hx hb dX5_stopUnfit_8 rfl (lv_at hl 2 rfl) ?_
      refine pc_get (C := RX5) (T := TX5) (N := 13) (ci := 5) hx hb hts (by decide +kernel) hown hX.1 hW.1 5 0 hM.1 rfl rfl 11 (by decide) (hts (.fieldLink RX5 61 "DraftsmanOffice" "packageCount" "I") (by decide +kernel)) (fun _ h9 => h9) rfl dX5_stopUnfit_9 ?_
      refine lv_icmp_ge (tgt := 54) hx hb dX5_stopUnfit_12 (by decide) (fun _ => ?_) (fun c237 => absurd (Int32.le_refl _) c237)
      refine lv_iload_n hx hb dX5_stopUnfit_54 rfl (lv_at hl 1 rfl) ?_
      refine pc_rcalli (va_runS (As := [.int (F_X5_unfitRunning c v w)]) (rest := []) ⟨hx, hb, hml, hown, hts⟩ (r_J6_bitCount_0f7a4 l D cA (F_X5_unfitRunning c v w) ) (va_cwS 1 hts gX5_stopUnfit_J6_bitCount_0f7a4 rfl rfl rfl (by decide +kernel) ⟨Nat.le_of_ble_eq_true rfl, Nat.le_of_ble_eq_true rfl⟩) (pc_preS pcN_ok hX trivial) rfl rfl hl.1 rfl (lv_room (Nat.le_of_ble_eq_true rfl)) dX5_stopUnfit_55 ⟨Nat.le_of_ble_eq_true rfl, Nat.le_of_ble_eq_true rfl⟩) hW (fun r238 H locs hwr238 hW => ?_)
      replace hwr238 := hwr238.symm
      subst hwr238
      have e9v : V_X5_stopUnfit c v w = (VL_X5_stopUnfit c v w (c 4) 0 v) := rfl
      exact W.iret (v := (F_J6_bitCount_0f7a4 (F_X5_unfitRunning c v w))) hx hb hr (fun t ht hW9 => ⟨⟨(F_J6_bitCount_0f7a4 (F_X5_unfitRunning c v w)), (), rfl, rfl, (by show va_P D vwCl (pcW NL ad (ctO cA c (V_X5_stopUnfit c v w) w u ad)) t.heap; rw [e9v]; rw [ht]; exact hW.1)⟩, hW.2.2.F ht⟩) hW.2.2.2.2 dX5_stopUnfit_58
    | succ k233 ihk233 =>
      intro i232 Vs236 H locs ls hk heV hW hl
      have hlt : i232 < c 4 := by omega
      have hlt9i232 := hlt
      refine lv_iload_n hx hb dX5_stopUnfit_7 rfl (lv_at hl 0 rfl) ?_
      refine lv_aload_n hx hb dX5_stopUnfit_8 rfl (lv_at hl 2 rfl) ?_
      refine pc_get (C := RX5) (T := TX5) (N := 13) (ci := 5) hx hb hts (by decide +kernel) hown hX.1 hW.1 5 0 hM.1 rfl rfl 11 (by decide) (hts (.fieldLink RX5 61 "DraftsmanOffice" "packageCount" "I") (by decide +kernel)) (fun _ h9 => h9) rfl dX5_stopUnfit_9 ?_
      refine lv_icmp_ge (tgt := 54) hx hb dX5_stopUnfit_12 (by decide) (fun c239 => absurd c239 (nI_ge hlt (Nat.lt_of_le_of_lt hBd.2.2.2.2 (by decide)))) (fun _ => ?_)
      refine lv_iload_n hx hb dX5_stopUnfit_15 rfl (lv_at hl 1 rfl) ?_
      refine lv_iload_n hx hb dX5_stopUnfit_16 rfl (lv_at hl 0 rfl) ?_
      refine pc_rcalli (va_runS (As := [.int (F_X5_unfitRunning c v w), .int (nI i232)]) (rest := []) ⟨hx, hb, hml, hown, hts⟩ (r_X5_isIn l D cA (F_X5_unfitRunning c v w) (nI i232) ) (va_cwS 2 hts gX5_stopUnfit_X5_isIn rfl rfl rfl (by decide +kernel) ⟨Nat.le_of_ble_eq_true rfl, Nat.le_of_ble_eq_true rfl⟩) (pc_preS pcN_ok hX trivial) rfl rfl hl.1 rfl (lv_room (Nat.le_of_ble_eq_true rfl)) dX5_stopUnfit_17 ⟨Nat.le_of_ble_eq_true rfl, Nat.le_of_ble_eq_true rfl⟩) hW (fun r240 H locs hwr240 hW => ?_)
      replace hwr240 := hwr240.symm
      subst hwr240
      refine lv_if_eq (tgt := 48) hx hb dX5_stopUnfit_20 (by decide) (fun (c241 : (F_X5_isIn (F_X5_unfitRunning c v w) (nI i232)) = 0) => ?_) (fun (c241 : ¬ (F_X5_isIn (F_X5_unfitRunning c v w) (nI i232)) = 0) => ?_)
      · refine lv_iinc (v := nI (i232 + 1)) (lv' := [(2, .int (nI (i232 + 1))), (1, .int (F_X5_unfitRunning c v w)), (0, .ref (ad 5 0))]) hx hb dX5_stopUnfit_48 hl (k := 0) rfl (nI_1 i232) (by decide) rfl (fun ls hl => ?_)
        refine lv_goto (tgt := 7) hx hb dX5_stopUnfit_51 (by decide) ?_
        have he9V : (VL_X5_stopUnfit c v w k233 (i232 + 1) Vs236) = (VL_X5_stopUnfit c v w (c 4) 0 v) := by rw [← heV]; show (VL_X5_stopUnfit c v w k233 (i232 + 1) Vs236) = (VL_X5_stopUnfit c v w (k233 + 1) i232 Vs236); simp only [VL_X5_stopUnfit, if_pos c241]
        exact ihk233 (i232 + 1) Vs236  H locs ls (by omega) he9V hW (lv_sub hl [0, 1, 2] rfl)
      · refine lv_aload_n hx hb dX5_stopUnfit_23 rfl (lv_at hl 2 rfl) ?_
        refine pc_get (C := RX5) (T := TX5) (N := 13) (ci := 5) hx hb hts (by decide +kernel) hown hX.1 hW.1 5 0 hM.1 rfl rfl 4 (by decide) (hts (.fieldLink RX5 35 "DraftsmanOffice" "packages" "[LDraftsmanOffice$WorkPackage;") (by decide +kernel)) (fun _ h9 => h9) rfl dX5_stopUnfit_24 ?_
        refine lv_iload_n hx hb dX5_stopUnfit_27 rfl (lv_at hl 0 rfl) ?_
        refine pc_aald (r := .ref (ad 7 i232)) hx hb hX.1 hW.1 54 0 7 (hM.2.1 54 (by decide) (by decide)) rfl rfl rfl (vp_in_nI (Nat.lt_of_lt_of_le hlt9i232 hBd.2.2.2.2) (by decide)) (by rw [nI_clamp (Nat.lt_of_lt_of_le (Nat.lt_of_lt_of_le hlt9i232 hBd.2.2.2.2) (by decide)), sRf_in hlt9i232]; rfl) dX5_stopUnfit_28 ?_
        refine lv_iconst (v := 2) hx hb dX5_stopUnfit_29 (by decide) ?_
        refine pc_putN (v := .int 2) (C := RX4) (T := TX4) (N := 6) (ci := 4) (ty := .int) hx hb hts (by decide +kernel) tyX4 tyX4_ok nmX4 hown hX.1 hW 7 i232 (hM.2.2.2.2.2.2.2 i232 hlt9i232) rfl rfl 4 (by decide) (hX.2.1 (.fieldLinkNest RX5 264 "DraftsmanOffice$WorkPackage" "state" "I" R_host) (by decide +kernel)) (fun _ h9 => h9) rfl (by decide +kernel) rfl rfl (Nat.le_of_ble_eq_true rfl) dX5_stopUnfit_30 (fun H locs hW => ?_)
        have hW : pcS D vwCl A s.heap NL ad (ctO cA c (uV Vs236 7 i232 3 2) w u ad) H locs := pcS_eq hW ctO_put_7_4
        refine lv_aload_n hx hb dX5_stopUnfit_33 rfl (lv_at hl 2 rfl) ?_
        refine pc_get (C := RX5) (T := TX5) (N := 13) (ci := 5) hx hb hts (by decide +kernel) hown hX.1 hW.1 5 0 hM.1 rfl rfl 4 (by decide) (hts (.fieldLink RX5 35 "DraftsmanOffice" "packages" "[LDraftsmanOffice$WorkPackage;") (by decide +kernel)) (fun _ h9 => h9) rfl dX5_stopUnfit_34 ?_
        refine lv_iload_n hx hb dX5_stopUnfit_37 rfl (lv_at hl 0 rfl) ?_
        refine pc_aald (r := .ref (ad 7 i232)) hx hb hX.1 hW.1 54 0 7 (hM.2.1 54 (by decide) (by decide)) rfl rfl rfl (vp_in_nI (Nat.lt_of_lt_of_le hlt9i232 hBd.2.2.2.2) (by decide)) (by rw [nI_clamp (Nat.lt_of_lt_of_le (Nat.lt_of_lt_of_le hlt9i232 hBd.2.2.2.2) (by decide)), sRf_in hlt9i232]; rfl) dX5_stopUnfit_38 ?_
        refine lv_dup hx hb dX5_stopUnfit_39 rfl ?_
        refine pc_getN (C := RX4) (T := TX4) (N := 6) (ci := 4) hx hb hts (by decide +kernel) hown hX.1 hW.1 7 i232 (hM.2.2.2.2.2.2.2 i232 hlt9i232) rfl rfl 5 (by decide) (hX.2.1 (.fieldLinkNest RX5 298 "DraftsmanOffice$WorkPackage" "stops" "I" R_host) (by decide +kernel)) (fun _ h9 => h9) rfl dX5_stopUnfit_40 ?_
        refine lv_iconst (v := 1) hx hb dX5_stopUnfit_43 (by decide) ?_
        refine lv_iadd hx hb dX5_stopUnfit_44 ?_
        refine pc_putN (v := .int ((Vs236 7 i232 4) + (1 : Int32))) (C := RX4) (T := TX4) (N := 6) (ci := 4) (ty := .int) hx hb hts (by decide +kernel) tyX4 tyX4_ok nmX4 hown hX.1 hW 7 i232 (hM.2.2.2.2.2.2.2 i232 hlt9i232) rfl rfl 5 (by decide) (hX.2.1 (.fieldLinkNest RX5 298 "DraftsmanOffice$WorkPackage" "stops" "I" R_host) (by decide +kernel)) (fun _ h9 => h9) rfl (by decide +kernel) rfl rfl (Nat.le_of_ble_eq_true rfl) dX5_stopUnfit_45 (fun H locs hW => ?_)
        have hW : pcS D vwCl A s.heap NL ad (ctO cA c (uV (uV Vs236 7 i232 3 2) 7 i232 4 ((Vs236 7 i232 4) + (1 : Int32))) w u ad) H locs := pcS_eq hW ctO_put_7_5
        refine lv_iinc (v := nI (i232 + 1)) (lv' := [(2, .int (nI (i232 + 1))), (1, .int (F_X5_unfitRunning c v w)), (0, .ref (ad 5 0))]) hx hb dX5_stopUnfit_48 hl (k := 0) rfl (nI_1 i232) (by decide) rfl (fun ls hl => ?_)
        refine lv_goto (tgt := 7) hx hb dX5_stopUnfit_51 (by decide) ?_
        have he9V : (VL_X5_stopUnfit c v w k233 (i232 + 1) (uV (uV Vs236 7 i232 3 2) 7 i232 4 ((Vs236 7 i232 4) + (1 : Int32)))) = (VL_X5_stopUnfit c v w (c 4) 0 v) := by rw [← heV]; show (VL_X5_stopUnfit c v w k233 (i232 + 1) (uV (uV Vs236 7 i232 3 2) 7 i232 4 ((Vs236 7 i232 4) + (1 : Int32)))) = (VL_X5_stopUnfit c v w (k233 + 1) i232 Vs236); simp only [VL_X5_stopUnfit, if_neg c241]
        exact ihk233 (i232 + 1) (uV (uV Vs236 7 i232 3 2) 7 i232 4 ((Vs236 7 i232 4) + (1 : Int32)))  H locs ls (by omega) he9V hW (lv_sub hl [0, 1, 2] rfl)
  exact K235 (c 4) 0 v _ _ ls (by omega) rfl hW (lv_sub hl [0, 1, 2] rfl)

theorem wfl_stopUnfit {c : SC} {v : SV} {w : SW}  : ∀ (k i : Nat) (V : SV) (j : Nat), VL_X5_stopUnfit c v w k i V 2 j 1 = V 2 j 1 ∧ VL_X5_stopUnfit c v w k i V 7 j 0 = V 7 j 0 ∧ VL_X5_stopUnfit c v w k i V 1 j 1 = V 1 j 1 := by
  intro k
  induction k with
  | zero => intro i V j; exact ⟨rfl, rfl, rfl⟩
  | succ k ih =>
    intro i V j
    have e : VL_X5_stopUnfit c v w (k + 1) i V = VL_X5_stopUnfit c v w k (i + 1) _ := rfl
    rw [e, (ih (i + 1) _ j).1, (ih (i + 1) _ j).2.1, (ih (i + 1) _ j).2.2]
    repeat' split
    all_goals exact ⟨rfl, rfl, rfl⟩
theorem wf_stopUnfit {c : SC} {v : SV} {w : SW} (h : WF c v) : WF c (V_X5_stopUnfit c v w) := WF_of h (fun j => wfl_stopUnfit (c := c) (v := v) (w := w) _ _ _ j)

def VL_X5_mark (c : SC) (v : SV) (w : SW)  (x1 : Int32) : Nat → Nat → SV → SV
  | 0, _, Vs246 => Vs246
  | k243 + 1, i242, Vs246 => VL_X5_mark c v w x1 k243 (i242 + 1) (if (F_X5_isIn x1 (nI i242)) = 0 then Vs246 else (uV Vs246 1 i242 5 ((Vs246 1 i242 5) + (1 : Int32))))
def V_X5_mark (c : SC) (v : SV) (w : SW) (x1 : Int32) : SV := (VL_X5_mark c v w x1 (c 0) 0 v)

set_option maxHeartbeats 4000000 in
set_option maxRecDepth 100000 in
theorem m_X5_mark (l : Launch) (D : va_G) (cA : Nat → ClassId) (NL : List (Nat × Nat)) (c : SC) (v : SV) (w : SW) (u : Nat → Int32) (ad : Nat → Nat → Nat) (A : Nat → Prop) (x1 : Int32) (hM : MEM c NL) (hBd : BND c) : Met l yX5_mark wsX5_mark ({ frames := 1, cells := 0, slots := 0, locals := 21 }) (pcPre D vwCl (tyL cA) [.ref (ad 5 0), .int x1] (fun H => va_P D vwCl (pcW NL ad (ctO cA c v w u ad)) H ∧ va_D A (pcW NL ad (ctO cA c v w u ad)) ∧ ∀ q, H.size ≤ q → A q)) (va_Qv (fun (_ : Unit) => True) (fun (_ : Unit) t => va_P D vwCl (pcW NL ad (ctO cA c (V_X5_mark c v w x1) w u ad)) t.heap) A) 0 0 A := by
  refine Met.ofW (cc := cX5_mark) (maxL := 3) (ret := none) (by decide) rfl ?_
  intro p e s m args below meth c0 s₁ B hml hv
  obtain ⟨rfl, hX, hP0, hD, hA⟩ := hv
  have hx := B.exec
  have hb := B.bytes
  have hr := B.returns
  have hts := atoms_spec (ws := wsX5_mark) B.pre
  have hown : s.vm.findClass RX5 = some m.cls := findClass_of_methodNamed B.named
  have hlocks := B.notSynchronized
  have hW : pcS D vwCl A s.heap NL ad (ctO cA c v w u ad) s.heap [] := ⟨hP0, hD, va_S.rf⟩
  have hl := lv_entry ([.ref (ad 5 0), .int x1]) (n := 3) (Nat.le_of_ble_eq_true rfl)
  rw [lg_entry_eq]
  generalize (lg_sl ([.ref (ad 5 0), .int x1]) ++ List.replicate (3 - (lg_sl ([.ref (ad 5 0), .int x1])).length) Slot.unset).toArray = ls at hl ⊢
  have hl : lv_has ls 3 [(0, .ref (ad 5 0)), (1, .int x1)] := hl
  refine lv_iconst (v := 0) hx hb dX5_mark_0 (by decide) ?_
  refine lv_istore_n (lv' := [(2, .int 0), (0, .ref (ad 5 0)), (1, .int x1)]) hx hb dX5_mark_1 rfl hl (by decide) rfl (fun ls hl => ?_)
  have K245 : ∀ (k243 i242 : Nat) (Vs246 : SV) (H : Heap) (locs : List Loc) (ls : Array Slot), i242 + k243 = c 0 → (VL_X5_mark c v w x1 k243 i242 Vs246) = (VL_X5_mark c v w x1 (c 0) 0 v) → pcS D vwCl A s.heap NL ad (ctO cA c Vs246 w u ad) H locs → lv_has ls 3 [(2, .int (nI i242)), (0, .ref (ad 5 0)), (1, .int x1)] → W p l e (headSpec wsX5_mark ({ frames := 1, cells := 0, slots := 0, locals := 21 })).room s m ([.ref (ad 5 0), .int x1] : List Value).toArray below meth c0 H locs 0 0 (MQ below (va_Qv (fun (_ : Unit) => True) (fun (_ : Unit) t => va_P D vwCl (pcW NL ad (ctO cA c (V_X5_mark c v w x1) w u ad)) t.heap) A) ([.ref (ad 5 0), .int x1] : List Value).toArray s 0 0 A) (F0 m 2 ls []) := by
    intro k243
    induction k243 with
    | zero =>
      intro i242 Vs246 H locs ls hk heV hW hl
      have ei : i242 = c 0 := by omega
      rw [ei] at hl
      obtain rfl : (VL_X5_mark c v w x1 (c 0) 0 v) = Vs246 := heV.symm
      clear heV
      refine lv_iload_n hx hb dX5_mark_2 rfl (lv_at hl 0 rfl) ?_
      refine lv_aload_n hx hb dX5_mark_3 rfl (lv_at hl 1 rfl) ?_
      refine pc_get (C := RX5) (T := TX5) (N := 13) (ci := 5) hx hb hts (by decide +kernel) hown hX.1 hW.1 5 0 hM.1 rfl rfl 7 (by decide) (hts (.fieldLink RX5 48 "DraftsmanOffice" "sheetCount" "I") (by decide +kernel)) (fun _ h9 => h9) rfl dX5_mark_4 ?_
      refine lv_icmp_ge (tgt := 39) hx hb dX5_mark_7 (by decide) (fun _ => ?_) (fun c247 => absurd (Int32.le_refl _) c247)
      have e9v : V_X5_mark c v w x1 = (VL_X5_mark c v w x1 (c 0) 0 v) := rfl
      exact W.vret hx hb hr (fun t ht hW9 => ⟨⟨(), rfl, trivial, (by show va_P D vwCl (pcW NL ad (ctO cA c (V_X5_mark c v w x1) w u ad)) t.heap; rw [e9v]; rw [ht]; exact hW.1)⟩, hW.2.2.F ht⟩) hW.2.2.2.2 dX5_mark_39
    | succ k243 ihk243 =>
      intro i242 Vs246 H locs ls hk heV hW hl
      have hlt : i242 < c 0 := by omega
      have hlt9i242 := hlt
      refine lv_iload_n hx hb dX5_mark_2 rfl (lv_at hl 0 rfl) ?_
      refine lv_aload_n hx hb dX5_mark_3 rfl (lv_at hl 1 rfl) ?_
      refine pc_get (C := RX5) (T := TX5) (N := 13) (ci := 5) hx hb hts (by decide +kernel) hown hX.1 hW.1 5 0 hM.1 rfl rfl 7 (by decide) (hts (.fieldLink RX5 48 "DraftsmanOffice" "sheetCount" "I") (by decide +kernel)) (fun _ h9 => h9) rfl dX5_mark_4 ?_
      refine lv_icmp_ge (tgt := 39) hx hb dX5_mark_7 (by decide) (fun c248 => absurd c248 (nI_ge hlt (Nat.lt_of_le_of_lt hBd.1 (by decide)))) (fun _ => ?_)
      refine lv_iload_n hx hb dX5_mark_10 rfl (lv_at hl 2 rfl) ?_
      refine lv_iload_n hx hb dX5_mark_11 rfl (lv_at hl 0 rfl) ?_
      refine pc_rcalli (va_runS (As := [.int x1, .int (nI i242)]) (rest := []) ⟨hx, hb, hml, hown, hts⟩ (r_X5_isIn l D cA x1 (nI i242) ) (va_cwS 2 hts gX5_mark_X5_isIn rfl rfl rfl (by decide +kernel) ⟨Nat.le_of_ble_eq_true rfl, Nat.le_of_ble_eq_true rfl⟩) (pc_preS pcN_ok hX trivial) rfl rfl hl.1 rfl (lv_room (Nat.le_of_ble_eq_true rfl)) dX5_mark_12 ⟨Nat.le_of_ble_eq_true rfl, Nat.le_of_ble_eq_true rfl⟩) hW (fun r249 H locs hwr249 hW => ?_)
      replace hwr249 := hwr249.symm
      subst hwr249
      refine lv_if_eq (tgt := 33) hx hb dX5_mark_15 (by decide) (fun (c250 : (F_X5_isIn x1 (nI i242)) = 0) => ?_) (fun (c250 : ¬ (F_X5_isIn x1 (nI i242)) = 0) => ?_)
      · refine lv_iinc (v := nI (i242 + 1)) (lv' := [(2, .int (nI (i242 + 1))), (0, .ref (ad 5 0)), (1, .int x1)]) hx hb dX5_mark_33 hl (k := 0) rfl (nI_1 i242) (by decide) rfl (fun ls hl => ?_)
        refine lv_goto (tgt := 2) hx hb dX5_mark_36 (by decide) ?_
        have he9V : (VL_X5_mark c v w x1 k243 (i242 + 1) Vs246) = (VL_X5_mark c v w x1 (c 0) 0 v) := by rw [← heV]; show (VL_X5_mark c v w x1 k243 (i242 + 1) Vs246) = (VL_X5_mark c v w x1 (k243 + 1) i242 Vs246); simp only [VL_X5_mark, if_pos c250]
        exact ihk243 (i242 + 1) Vs246  H locs ls (by omega) he9V hW (lv_sub hl [0, 1, 2] rfl)
      · refine lv_aload_n hx hb dX5_mark_18 rfl (lv_at hl 1 rfl) ?_
        refine pc_get (C := RX5) (T := TX5) (N := 13) (ci := 5) hx hb hts (by decide +kernel) hown hX.1 hW.1 5 0 hM.1 rfl rfl 0 (by decide) (hts (.fieldLink RX5 11 "DraftsmanOffice" "sheets" "[LDraftsmanOffice$Sheet;") (by decide +kernel)) (fun _ h9 => h9) rfl dX5_mark_19 ?_
        refine lv_iload_n hx hb dX5_mark_22 rfl (lv_at hl 0 rfl) ?_
        refine pc_aald (r := .ref (ad 1 i242)) hx hb hX.1 hW.1 50 0 3 (hM.2.1 50 (by decide) (by decide)) rfl rfl rfl (vp_in_nI (Nat.lt_of_lt_of_le hlt9i242 hBd.1) (by decide)) (by rw [nI_clamp (Nat.lt_of_lt_of_le (Nat.lt_of_lt_of_le hlt9i242 hBd.1) (by decide)), sRf_in hlt9i242]; rfl) dX5_mark_23 ?_
        refine lv_dup hx hb dX5_mark_24 rfl ?_
        refine pc_getN (C := RX3) (T := TX3) (N := 10) (ci := 3) hx hb hts (by decide +kernel) hown hX.1 hW.1 1 i242 (hM.2.2.2.1 i242 hlt9i242).1 rfl rfl 8 (by decide) (hX.2.1 (.fieldLinkNest RX5 166 "DraftsmanOffice$Sheet" "marks" "I" R_host) (by decide +kernel)) (fun _ h9 => h9) rfl dX5_mark_25 ?_
        refine lv_iconst (v := 1) hx hb dX5_mark_28 (by decide) ?_
        refine lv_iadd hx hb dX5_mark_29 ?_
        refine pc_putN (v := .int ((Vs246 1 i242 5) + (1 : Int32))) (C := RX3) (T := TX3) (N := 10) (ci := 3) (ty := .int) hx hb hts (by decide +kernel) tyX3 tyX3_ok nmX3 hown hX.1 hW 1 i242 (hM.2.2.2.1 i242 hlt9i242).1 rfl rfl 8 (by decide) (hX.2.1 (.fieldLinkNest RX5 166 "DraftsmanOffice$Sheet" "marks" "I" R_host) (by decide +kernel)) (fun _ h9 => h9) rfl (by decide +kernel) rfl rfl (Nat.le_of_ble_eq_true rfl) dX5_mark_30 (fun H locs hW => ?_)
        have hW : pcS D vwCl A s.heap NL ad (ctO cA c (uV Vs246 1 i242 5 ((Vs246 1 i242 5) + (1 : Int32))) w u ad) H locs := pcS_eq hW ctO_put_1_8
        refine lv_iinc (v := nI (i242 + 1)) (lv' := [(2, .int (nI (i242 + 1))), (0, .ref (ad 5 0)), (1, .int x1)]) hx hb dX5_mark_33 hl (k := 0) rfl (nI_1 i242) (by decide) rfl (fun ls hl => ?_)
        refine lv_goto (tgt := 2) hx hb dX5_mark_36 (by decide) ?_
        have he9V : (VL_X5_mark c v w x1 k243 (i242 + 1) (uV Vs246 1 i242 5 ((Vs246 1 i242 5) + (1 : Int32)))) = (VL_X5_mark c v w x1 (c 0) 0 v) := by rw [← heV]; show (VL_X5_mark c v w x1 k243 (i242 + 1) (uV Vs246 1 i242 5 ((Vs246 1 i242 5) + (1 : Int32)))) = (VL_X5_mark c v w x1 (k243 + 1) i242 Vs246); simp only [VL_X5_mark, if_neg c250]
        exact ihk243 (i242 + 1) (uV Vs246 1 i242 5 ((Vs246 1 i242 5) + (1 : Int32)))  H locs ls (by omega) he9V hW (lv_sub hl [0, 1, 2] rfl)
  exact K245 (c 0) 0 v _ _ ls (by omega) rfl hW (lv_sub hl [0, 1, 2] rfl)

theorem wfl_mark {c : SC} {v : SV} {w : SW} {x1 : Int32} : ∀ (k i : Nat) (V : SV) (j : Nat), VL_X5_mark c v w x1 k i V 2 j 1 = V 2 j 1 ∧ VL_X5_mark c v w x1 k i V 7 j 0 = V 7 j 0 ∧ VL_X5_mark c v w x1 k i V 1 j 1 = V 1 j 1 := by
  intro k
  induction k with
  | zero => intro i V j; exact ⟨rfl, rfl, rfl⟩
  | succ k ih =>
    intro i V j
    have e : VL_X5_mark c v w x1 (k + 1) i V = VL_X5_mark c v w x1 k (i + 1) _ := rfl
    rw [e, (ih (i + 1) _ j).1, (ih (i + 1) _ j).2.1, (ih (i + 1) _ j).2.2]
    repeat' split
    all_goals exact ⟨rfl, rfl, rfl⟩
theorem wf_mark {c : SC} {v : SV} {w : SW} {x1 : Int32} (h : WF c v) : WF c (V_X5_mark c v w x1) := WF_of h (fun j => wfl_mark (c := c) (v := v) (w := w) (x1 := x1) _ _ _ j)

def VL_X5_closePromised (c : SC) (v : SV) (w : SW)  (x1 : Int32) : Nat → Nat → SV → SV
  | 0, _, Vs255 => Vs255
  | k252 + 1, i251, Vs255 => VL_X5_closePromised c v w x1 k252 (i251 + 1) (if (Vs255 4 i251 0) = x1 then (if (Vs255 4 i251 1) = (1 : Int32) then (uV Vs255 4 i251 1 2) else Vs255) else Vs255)
def V_X5_closePromised (c : SC) (v : SV) (w : SW) (x1 : Int32) : SV := (VL_X5_closePromised c v w x1 (c 3) 0 v)

set_option maxHeartbeats 4000000 in
set_option maxRecDepth 100000 in
theorem m_X5_closePromised (l : Launch) (D : va_G) (cA : Nat → ClassId) (NL : List (Nat × Nat)) (c : SC) (v : SV) (w : SW) (u : Nat → Int32) (ad : Nat → Nat → Nat) (A : Nat → Prop) (x1 : Int32) (hM : MEM c NL) (hBd : BND c) : Met l yX5_closePromised wsX5_closePromised ({ frames := 0, cells := 0, slots := 0, locals := 0 }) (pcPre D vwCl (tyL cA) [.ref (ad 5 0), .int x1] (fun H => va_P D vwCl (pcW NL ad (ctO cA c v w u ad)) H ∧ va_D A (pcW NL ad (ctO cA c v w u ad)) ∧ ∀ q, H.size ≤ q → A q)) (va_Qv (fun (_ : Unit) => True) (fun (_ : Unit) t => va_P D vwCl (pcW NL ad (ctO cA c (V_X5_closePromised c v w x1) w u ad)) t.heap) A) 0 0 A := by
  refine Met.ofW (cc := cX5_closePromised) (maxL := 3) (ret := none) (by decide) rfl ?_
  intro p e s m args below meth c0 s₁ B hml hv
  obtain ⟨rfl, hX, hP0, hD, hA⟩ := hv
  have hx := B.exec
  have hb := B.bytes
  have hr := B.returns
  have hts := atoms_spec (ws := wsX5_closePromised) B.pre
  have hown : s.vm.findClass RX5 = some m.cls := findClass_of_methodNamed B.named
  have hlocks := B.notSynchronized
  have hW : pcS D vwCl A s.heap NL ad (ctO cA c v w u ad) s.heap [] := ⟨hP0, hD, va_S.rf⟩
  have hl := lv_entry ([.ref (ad 5 0), .int x1]) (n := 3) (Nat.le_of_ble_eq_true rfl)
  rw [lg_entry_eq]
  generalize (lg_sl ([.ref (ad 5 0), .int x1]) ++ List.replicate (3 - (lg_sl ([.ref (ad 5 0), .int x1])).length) Slot.unset).toArray = ls at hl ⊢
  have hl : lv_has ls 3 [(0, .ref (ad 5 0)), (1, .int x1)] := hl
  refine lv_iconst (v := 0) hx hb dX5_closePromised_0 (by decide) ?_
  refine lv_istore_n (lv' := [(2, .int 0), (0, .ref (ad 5 0)), (1, .int x1)]) hx hb dX5_closePromised_1 rfl hl (by decide) rfl (fun ls hl => ?_)
  have K254 : ∀ (k252 i251 : Nat) (Vs255 : SV) (H : Heap) (locs : List Loc) (ls : Array Slot), i251 + k252 = c 3 → (VL_X5_closePromised c v w x1 k252 i251 Vs255) = (VL_X5_closePromised c v w x1 (c 3) 0 v) → pcS D vwCl A s.heap NL ad (ctO cA c Vs255 w u ad) H locs → lv_has ls 3 [(2, .int (nI i251)), (0, .ref (ad 5 0)), (1, .int x1)] → W p l e (headSpec wsX5_closePromised ({ frames := 0, cells := 0, slots := 0, locals := 0 })).room s m ([.ref (ad 5 0), .int x1] : List Value).toArray below meth c0 H locs 0 0 (MQ below (va_Qv (fun (_ : Unit) => True) (fun (_ : Unit) t => va_P D vwCl (pcW NL ad (ctO cA c (V_X5_closePromised c v w x1) w u ad)) t.heap) A) ([.ref (ad 5 0), .int x1] : List Value).toArray s 0 0 A) (F0 m 2 ls []) := by
    intro k252
    induction k252 with
    | zero =>
      intro i251 Vs255 H locs ls hk heV hW hl
      have ei : i251 = c 3 := by omega
      rw [ei] at hl
      obtain rfl : (VL_X5_closePromised c v w x1 (c 3) 0 v) = Vs255 := heV.symm
      clear heV
      refine lv_iload_n hx hb dX5_closePromised_2 rfl (lv_at hl 0 rfl) ?_
      refine lv_aload_n hx hb dX5_closePromised_3 rfl (lv_at hl 1 rfl) ?_
      refine pc_get (C := RX5) (T := TX5) (N := 13) (ci := 5) hx hb hts (by decide +kernel) hown hX.1 hW.1 5 0 hM.1 rfl rfl 10 (by decide) (hts (.fieldLink RX5 58 "DraftsmanOffice" "queryCount" "I") (by decide +kernel)) (fun _ h9 => h9) rfl dX5_closePromised_4 ?_
      refine lv_icmp_ge (tgt := 52) hx hb dX5_closePromised_7 (by decide) (fun _ => ?_) (fun c256 => absurd (Int32.le_refl _) c256)
      have e9v : V_X5_closePromised c v w x1 = (VL_X5_closePromised c v w x1 (c 3) 0 v) := rfl
      exact W.vret hx hb hr (fun t ht hW9 => ⟨⟨(), rfl, trivial, (by show va_P D vwCl (pcW NL ad (ctO cA c (V_X5_closePromised c v w x1) w u ad)) t.heap; rw [e9v]; rw [ht]; exact hW.1)⟩, hW.2.2.F ht⟩) hW.2.2.2.2 dX5_closePromised_52
    | succ k252 ihk252 =>
      intro i251 Vs255 H locs ls hk heV hW hl
      have hlt : i251 < c 3 := by omega
      have hlt9i251 := hlt
      refine lv_iload_n hx hb dX5_closePromised_2 rfl (lv_at hl 0 rfl) ?_
      refine lv_aload_n hx hb dX5_closePromised_3 rfl (lv_at hl 1 rfl) ?_
      refine pc_get (C := RX5) (T := TX5) (N := 13) (ci := 5) hx hb hts (by decide +kernel) hown hX.1 hW.1 5 0 hM.1 rfl rfl 10 (by decide) (hts (.fieldLink RX5 58 "DraftsmanOffice" "queryCount" "I") (by decide +kernel)) (fun _ h9 => h9) rfl dX5_closePromised_4 ?_
      refine lv_icmp_ge (tgt := 52) hx hb dX5_closePromised_7 (by decide) (fun c257 => absurd c257 (nI_ge hlt (Nat.lt_of_le_of_lt hBd.2.2.2.1 (by decide)))) (fun _ => ?_)
      refine lv_aload_n hx hb dX5_closePromised_10 rfl (lv_at hl 1 rfl) ?_
      refine pc_get (C := RX5) (T := TX5) (N := 13) (ci := 5) hx hb hts (by decide +kernel) hown hX.1 hW.1 5 0 hM.1 rfl rfl 3 (by decide) (hts (.fieldLink RX5 29 "DraftsmanOffice" "queries" "[LDraftsmanOffice$Query;") (by decide +kernel)) (fun _ h9 => h9) rfl dX5_closePromised_11 ?_
      refine lv_iload_n hx hb dX5_closePromised_14 rfl (lv_at hl 0 rfl) ?_
      refine pc_aald (r := .ref (ad 4 i251)) hx hb hX.1 hW.1 53 0 6 (hM.2.1 53 (by decide) (by decide)) rfl rfl rfl (vp_in_nI (Nat.lt_of_lt_of_le hlt9i251 hBd.2.2.2.1) (by decide)) (by rw [nI_clamp (Nat.lt_of_lt_of_le (Nat.lt_of_lt_of_le hlt9i251 hBd.2.2.2.1) (by decide)), sRf_in hlt9i251]; rfl) dX5_closePromised_15 ?_
      refine pc_getN (C := RX0) (T := TX0) (N := 3) (ci := 0) hx hb hts (by decide +kernel) hown hX.1 hW.1 4 i251 (hM.2.2.2.2.2.2.1 i251 hlt9i251) rfl rfl 0 (by decide) (hX.2.1 (.fieldLinkNest RX5 406 "DraftsmanOffice$Query" "sheet" "I" R_host) (by decide +kernel)) (fun _ h9 => h9) rfl dX5_closePromised_16 ?_
      refine lv_iload_n hx hb dX5_closePromised_19 rfl (lv_at hl 2 rfl) ?_
      refine lv_icmp_ne (tgt := 46) hx hb dX5_closePromised_20 (by decide) (fun (c258 : ¬ (Vs255 4 i251 0) = x1) => ?_) (fun (c258 : (Vs255 4 i251 0) = x1) => ?_)
      · refine lv_iinc (v := nI (i251 + 1)) (lv' := [(2, .int (nI (i251 + 1))), (0, .ref (ad 5 0)), (1, .int x1)]) hx hb dX5_closePromised_46 hl (k := 0) rfl (nI_1 i251) (by decide) rfl (fun ls hl => ?_)
        refine lv_goto (tgt := 2) hx hb dX5_closePromised_49 (by decide) ?_
        have he9V : (VL_X5_closePromised c v w x1 k252 (i251 + 1) Vs255) = (VL_X5_closePromised c v w x1 (c 3) 0 v) := by rw [← heV]; show (VL_X5_closePromised c v w x1 k252 (i251 + 1) Vs255) = (VL_X5_closePromised c v w x1 (k252 + 1) i251 Vs255); simp only [VL_X5_closePromised, if_neg c258]
        exact ihk252 (i251 + 1) Vs255  H locs ls (by omega) he9V hW (lv_sub hl [0, 1, 2] rfl)
      · refine lv_aload_n hx hb dX5_closePromised_23 rfl (lv_at hl 1 rfl) ?_
        refine pc_get (C := RX5) (T := TX5) (N := 13) (ci := 5) hx hb hts (by decide +kernel) hown hX.1 hW.1 5 0 hM.1 rfl rfl 3 (by decide) (hts (.fieldLink RX5 29 "DraftsmanOffice" "queries" "[LDraftsmanOffice$Query;") (by decide +kernel)) (fun _ h9 => h9) rfl dX5_closePromised_24 ?_
        refine lv_iload_n hx hb dX5_closePromised_27 rfl (lv_at hl 0 rfl) ?_
        refine pc_aald (r := .ref (ad 4 i251)) hx hb hX.1 hW.1 53 0 6 (hM.2.1 53 (by decide) (by decide)) rfl rfl rfl (vp_in_nI (Nat.lt_of_lt_of_le hlt9i251 hBd.2.2.2.1) (by decide)) (by rw [nI_clamp (Nat.lt_of_lt_of_le (Nat.lt_of_lt_of_le hlt9i251 hBd.2.2.2.1) (by decide)), sRf_in hlt9i251]; rfl) dX5_closePromised_28 ?_
        refine pc_getN (C := RX0) (T := TX0) (N := 3) (ci := 0) hx hb hts (by decide +kernel) hown hX.1 hW.1 4 i251 (hM.2.2.2.2.2.2.1 i251 hlt9i251) rfl rfl 2 (by decide) (hX.2.1 (.fieldLinkNest RX5 237 "DraftsmanOffice$Query" "state" "I" R_host) (by decide +kernel)) (fun _ h9 => h9) rfl dX5_closePromised_29 ?_
        refine lv_iconst (v := 1) hx hb dX5_closePromised_32 (by decide) ?_
        refine lv_icmp_ne (tgt := 46) hx hb dX5_closePromised_33 (by decide) (fun (c259 : ¬ (Vs255 4 i251 1) = (1 : Int32)) => ?_) (fun (c259 : (Vs255 4 i251 1) = (1 : Int32)) => ?_)
        · refine lv_iinc (v := nI (i251 + 1)) (lv' := [(2, .int (nI (i251 + 1))), (0, .ref (ad 5 0)), (1, .int x1)]) hx hb dX5_closePromised_46 hl (k := 0) rfl (nI_1 i251) (by decide) rfl (fun ls hl => ?_)
          refine lv_goto (tgt := 2) hx hb dX5_closePromised_49 (by decide) ?_
          have he9V : (VL_X5_closePromised c v w x1 k252 (i251 + 1) Vs255) = (VL_X5_closePromised c v w x1 (c 3) 0 v) := by rw [← heV]; show (VL_X5_closePromised c v w x1 k252 (i251 + 1) Vs255) = (VL_X5_closePromised c v w x1 (k252 + 1) i251 Vs255); simp only [VL_X5_closePromised, if_pos c258, if_neg c259]
          exact ihk252 (i251 + 1) Vs255  H locs ls (by omega) he9V hW (lv_sub hl [0, 1, 2] rfl)
        · refine lv_aload_n hx hb dX5_closePromised_36 rfl (lv_at hl 1 rfl) ?_
          refine pc_get (C := RX5) (T := TX5) (N := 13) (ci := 5) hx hb hts (by decide +kernel) hown hX.1 hW.1 5 0 hM.1 rfl rfl 3 (by decide) (hts (.fieldLink RX5 29 "DraftsmanOffice" "queries" "[LDraftsmanOffice$Query;") (by decide +kernel)) (fun _ h9 => h9) rfl dX5_closePromised_37 ?_
          refine lv_iload_n hx hb dX5_closePromised_40 rfl (lv_at hl 0 rfl) ?_
          refine pc_aald (r := .ref (ad 4 i251)) hx hb hX.1 hW.1 53 0 6 (hM.2.1 53 (by decide) (by decide)) rfl rfl rfl (vp_in_nI (Nat.lt_of_lt_of_le hlt9i251 hBd.2.2.2.1) (by decide)) (by rw [nI_clamp (Nat.lt_of_lt_of_le (Nat.lt_of_lt_of_le hlt9i251 hBd.2.2.2.1) (by decide)), sRf_in hlt9i251]; rfl) dX5_closePromised_41 ?_
          refine lv_iconst (v := 2) hx hb dX5_closePromised_42 (by decide) ?_
          refine pc_putN (v := .int 2) (C := RX0) (T := TX0) (N := 3) (ci := 0) (ty := .int) hx hb hts (by decide +kernel) tyX0 tyX0_ok nmX0 hown hX.1 hW 4 i251 (hM.2.2.2.2.2.2.1 i251 hlt9i251) rfl rfl 2 (by decide) (hX.2.1 (.fieldLinkNest RX5 237 "DraftsmanOffice$Query" "state" "I" R_host) (by decide +kernel)) (fun _ h9 => h9) rfl (by decide +kernel) rfl rfl (Nat.le_of_ble_eq_true rfl) dX5_closePromised_43 (fun H locs hW => ?_)
          have hW : pcS D vwCl A s.heap NL ad (ctO cA c (uV Vs255 4 i251 1 2) w u ad) H locs := pcS_eq hW ctO_put_4_2
          refine lv_iinc (v := nI (i251 + 1)) (lv' := [(2, .int (nI (i251 + 1))), (0, .ref (ad 5 0)), (1, .int x1)]) hx hb dX5_closePromised_46 hl (k := 0) rfl (nI_1 i251) (by decide) rfl (fun ls hl => ?_)
          refine lv_goto (tgt := 2) hx hb dX5_closePromised_49 (by decide) ?_
          have he9V : (VL_X5_closePromised c v w x1 k252 (i251 + 1) (uV Vs255 4 i251 1 2)) = (VL_X5_closePromised c v w x1 (c 3) 0 v) := by rw [← heV]; show (VL_X5_closePromised c v w x1 k252 (i251 + 1) (uV Vs255 4 i251 1 2)) = (VL_X5_closePromised c v w x1 (k252 + 1) i251 Vs255); simp only [VL_X5_closePromised, if_pos c258, if_pos c259]
          exact ihk252 (i251 + 1) (uV Vs255 4 i251 1 2)  H locs ls (by omega) he9V hW (lv_sub hl [0, 1, 2] rfl)
  exact K254 (c 3) 0 v _ _ ls (by omega) rfl hW (lv_sub hl [0, 1, 2] rfl)

theorem wfl_closePromised {c : SC} {v : SV} {w : SW} {x1 : Int32} : ∀ (k i : Nat) (V : SV) (j : Nat), VL_X5_closePromised c v w x1 k i V 2 j 1 = V 2 j 1 ∧ VL_X5_closePromised c v w x1 k i V 7 j 0 = V 7 j 0 ∧ VL_X5_closePromised c v w x1 k i V 1 j 1 = V 1 j 1 := by
  intro k
  induction k with
  | zero => intro i V j; exact ⟨rfl, rfl, rfl⟩
  | succ k ih =>
    intro i V j
    have e : VL_X5_closePromised c v w x1 (k + 1) i V = VL_X5_closePromised c v w x1 k (i + 1) _ := rfl
    rw [e, (ih (i + 1) _ j).1, (ih (i + 1) _ j).2.1, (ih (i + 1) _ j).2.2]
    repeat' split
    all_goals exact ⟨rfl, rfl, rfl⟩
theorem wf_closePromised {c : SC} {v : SV} {w : SW} {x1 : Int32} (h : WF c v) : WF c (V_X5_closePromised c v w x1) := WF_of h (fun j => wfl_closePromised (c := c) (v := v) (w := w) (x1 := x1) _ _ _ j)

def VL_X5_packSheets (c : SC) (v : SV) (w : SW)  (i : Nat) (x1 : Int32) : Nat → Nat → SV → SV
  | 0, _, Vs264 => Vs264
  | k261 + 1, i260, Vs264 => VL_X5_packSheets c v w i x1 k261 (i260 + 1) (if (F_X5_isIn x1 (nI i260)) = 0 then Vs264 else (uV Vs264 13 i i260 (Vs264 1 i260 3)))
def V_X5_packSheets (c : SC) (v : SV) (w : SW) (i : Nat) (x1 : Int32) : SV := (VL_X5_packSheets c v w i x1 (c 0) 0 v)

set_option maxHeartbeats 4000000 in
set_option maxRecDepth 100000 in
theorem m_X5_packSheets (l : Launch) (D : va_G) (cA : Nat → ClassId) (NL : List (Nat × Nat)) (c : SC) (v : SV) (w : SW) (u : Nat → Int32) (ad : Nat → Nat → Nat) (A : Nat → Prop) (i : Nat) (x1 : Int32) (hM : MEM c NL) (hBd : BND c) (hi1 : (3, i) ∈ NL) (hi2 : (13, i) ∈ NL) : Met l yX5_packSheets wsX5_packSheets ({ frames := 1, cells := 0, slots := 0, locals := 21 }) (pcPre D vwCl (tyL cA) [.ref (ad 5 0), .ref (ad 3 i), .int x1] (fun H => va_P D vwCl (pcW NL ad (ctO cA c v w u ad)) H ∧ va_D A (pcW NL ad (ctO cA c v w u ad)) ∧ ∀ q, H.size ≤ q → A q)) (va_Qv (fun (_ : Unit) => True) (fun (_ : Unit) t => va_P D vwCl (pcW NL ad (ctO cA c (V_X5_packSheets c v w i x1) w u ad)) t.heap) A) 0 0 A := by
  refine Met.ofW (cc := cX5_packSheets) (maxL := 4) (ret := none) (by decide) rfl ?_
  intro p e s m args below meth c0 s₁ B hml hv
  obtain ⟨rfl, hX, hP0, hD, hA⟩ := hv
  have hx := B.exec
  have hb := B.bytes
  have hr := B.returns
  have hts := atoms_spec (ws := wsX5_packSheets) B.pre
  have hown : s.vm.findClass RX5 = some m.cls := findClass_of_methodNamed B.named
  have hlocks := B.notSynchronized
  have hW : pcS D vwCl A s.heap NL ad (ctO cA c v w u ad) s.heap [] := ⟨hP0, hD, va_S.rf⟩
  have hl := lv_entry ([.ref (ad 5 0), .ref (ad 3 i), .int x1]) (n := 4) (Nat.le_of_ble_eq_true rfl)
  rw [lg_entry_eq]
  generalize (lg_sl ([.ref (ad 5 0), .ref (ad 3 i), .int x1]) ++ List.replicate (4 - (lg_sl ([.ref (ad 5 0), .ref (ad 3 i), .int x1])).length) Slot.unset).toArray = ls at hl ⊢
  have hl : lv_has ls 4 [(0, .ref (ad 5 0)), (1, .ref (ad 3 i)), (2, .int x1)] := hl
  refine lv_iconst (v := 0) hx hb dX5_packSheets_0 (by decide) ?_
  refine lv_istore_n (lv' := [(3, .int 0), (0, .ref (ad 5 0)), (1, .ref (ad 3 i)), (2, .int x1)]) hx hb dX5_packSheets_1 rfl hl (by decide) rfl (fun ls hl => ?_)
  have K263 : ∀ (k261 i260 : Nat) (Vs264 : SV) (H : Heap) (locs : List Loc) (ls : Array Slot), i260 + k261 = c 0 → (VL_X5_packSheets c v w i x1 k261 i260 Vs264) = (VL_X5_packSheets c v w i x1 (c 0) 0 v) → pcS D vwCl A s.heap NL ad (ctO cA c Vs264 w u ad) H locs → lv_has ls 4 [(3, .int (nI i260)), (0, .ref (ad 5 0)), (1, .ref (ad 3 i)), (2, .int x1)] → W p l e (headSpec wsX5_packSheets ({ frames := 1, cells := 0, slots := 0, locals := 21 })).room s m ([.ref (ad 5 0), .ref (ad 3 i), .int x1] : List Value).toArray below meth c0 H locs 0 0 (MQ below (va_Qv (fun (_ : Unit) => True) (fun (_ : Unit) t => va_P D vwCl (pcW NL ad (ctO cA c (V_X5_packSheets c v w i x1) w u ad)) t.heap) A) ([.ref (ad 5 0), .ref (ad 3 i), .int x1] : List Value).toArray s 0 0 A) (F0 m 2 ls []) := by
    intro k261
    induction k261 with
    | zero =>
      intro i260 Vs264 H locs ls hk heV hW hl
      have ei : i260 = c 0 := by omega
      rw [ei] at hl
      obtain rfl : (VL_X5_packSheets c v w i x1 (c 0) 0 v) = Vs264 := heV.symm
      clear heV
      refine lv_iload_n hx hb dX5_packSheets_2 rfl (lv_at hl 0 rfl) ?_
      refine lv_aload_n hx hb dX5_packSheets_3 rfl (lv_at hl 1 rfl) ?_
      refine pc_get (C := RX5) (T := TX5) (N := 13) (ci := 5) hx hb hts (by decide +kernel) hown hX.1 hW.1 5 0 hM.1 rfl rfl 7 (by decide) (hts (.fieldLink RX5 48 "DraftsmanOffice" "sheetCount" "I") (by decide +kernel)) (fun _ h9 => h9) rfl dX5_packSheets_4 ?_
      refine lv_icmp_ge (tgt := 39) hx hb dX5_packSheets_7 (by decide) (fun _ => ?_) (fun c265 => absurd (Int32.le_refl _) c265)
      have e9v : V_X5_packSheets c v w i x1 = (VL_X5_packSheets c v w i x1 (c 0) 0 v) := rfl
      exact W.vret hx hb hr (fun t ht hW9 => ⟨⟨(), rfl, trivial, (by show va_P D vwCl (pcW NL ad (ctO cA c (V_X5_packSheets c v w i x1) w u ad)) t.heap; rw [e9v]; rw [ht]; exact hW.1)⟩, hW.2.2.F ht⟩) hW.2.2.2.2 dX5_packSheets_39
    | succ k261 ihk261 =>
      intro i260 Vs264 H locs ls hk heV hW hl
      have hlt : i260 < c 0 := by omega
      have hlt9i260 := hlt
      refine lv_iload_n hx hb dX5_packSheets_2 rfl (lv_at hl 0 rfl) ?_
      refine lv_aload_n hx hb dX5_packSheets_3 rfl (lv_at hl 1 rfl) ?_
      refine pc_get (C := RX5) (T := TX5) (N := 13) (ci := 5) hx hb hts (by decide +kernel) hown hX.1 hW.1 5 0 hM.1 rfl rfl 7 (by decide) (hts (.fieldLink RX5 48 "DraftsmanOffice" "sheetCount" "I") (by decide +kernel)) (fun _ h9 => h9) rfl dX5_packSheets_4 ?_
      refine lv_icmp_ge (tgt := 39) hx hb dX5_packSheets_7 (by decide) (fun c266 => absurd c266 (nI_ge hlt (Nat.lt_of_le_of_lt hBd.1 (by decide)))) (fun _ => ?_)
      refine lv_iload_n hx hb dX5_packSheets_10 rfl (lv_at hl 3 rfl) ?_
      refine lv_iload_n hx hb dX5_packSheets_11 rfl (lv_at hl 0 rfl) ?_
      refine pc_rcalli (va_runS (As := [.int x1, .int (nI i260)]) (rest := []) ⟨hx, hb, hml, hown, hts⟩ (r_X5_isIn l D cA x1 (nI i260) ) (va_cwS 2 hts gX5_packSheets_X5_isIn rfl rfl rfl (by decide +kernel) ⟨Nat.le_of_ble_eq_true rfl, Nat.le_of_ble_eq_true rfl⟩) (pc_preS pcN_ok hX trivial) rfl rfl hl.1 rfl (lv_room (Nat.le_of_ble_eq_true rfl)) dX5_packSheets_12 ⟨Nat.le_of_ble_eq_true rfl, Nat.le_of_ble_eq_true rfl⟩) hW (fun r267 H locs hwr267 hW => ?_)
      replace hwr267 := hwr267.symm
      subst hwr267
      refine lv_if_eq (tgt := 33) hx hb dX5_packSheets_15 (by decide) (fun (c268 : (F_X5_isIn x1 (nI i260)) = 0) => ?_) (fun (c268 : ¬ (F_X5_isIn x1 (nI i260)) = 0) => ?_)
      · refine lv_iinc (v := nI (i260 + 1)) (lv' := [(3, .int (nI (i260 + 1))), (0, .ref (ad 5 0)), (1, .ref (ad 3 i)), (2, .int x1)]) hx hb dX5_packSheets_33 hl (k := 0) rfl (nI_1 i260) (by decide) rfl (fun ls hl => ?_)
        refine lv_goto (tgt := 2) hx hb dX5_packSheets_36 (by decide) ?_
        have he9V : (VL_X5_packSheets c v w i x1 k261 (i260 + 1) Vs264) = (VL_X5_packSheets c v w i x1 (c 0) 0 v) := by rw [← heV]; show (VL_X5_packSheets c v w i x1 k261 (i260 + 1) Vs264) = (VL_X5_packSheets c v w i x1 (k261 + 1) i260 Vs264); simp only [VL_X5_packSheets, if_pos c268]
        exact ihk261 (i260 + 1) Vs264  H locs ls (by omega) he9V hW (lv_sub hl [0, 1, 2, 3] rfl)
      · refine lv_aload_n hx hb dX5_packSheets_18 rfl (lv_at hl 2 rfl) ?_
        refine pc_getN (C := RX2) (T := TX2) (N := 3) (ci := 2) hx hb hts (by decide +kernel) hown hX.1 hW.1 3 i hi1 rfl rfl 1 (by decide) (hX.2.1 (.fieldLinkNest RX5 403 "DraftsmanOffice$Sending" "revisions" "[I" R_host) (by decide +kernel)) (fun _ h9 => h9) rfl dX5_packSheets_19 ?_
        refine lv_iload_n hx hb dX5_packSheets_22 rfl (lv_at hl 0 rfl) ?_
        refine lv_aload_n hx hb dX5_packSheets_23 rfl (lv_at hl 1 rfl) ?_
        refine pc_get (C := RX5) (T := TX5) (N := 13) (ci := 5) hx hb hts (by decide +kernel) hown hX.1 hW.1 5 0 hM.1 rfl rfl 0 (by decide) (hts (.fieldLink RX5 11 "DraftsmanOffice" "sheets" "[LDraftsmanOffice$Sheet;") (by decide +kernel)) (fun _ h9 => h9) rfl dX5_packSheets_24 ?_
        refine lv_iload_n hx hb dX5_packSheets_27 rfl (lv_at hl 0 rfl) ?_
        refine pc_aald (r := .ref (ad 1 i260)) hx hb hX.1 hW.1 50 0 3 (hM.2.1 50 (by decide) (by decide)) rfl rfl rfl (vp_in_nI (Nat.lt_of_lt_of_le hlt9i260 hBd.1) (by decide)) (by rw [nI_clamp (Nat.lt_of_lt_of_le (Nat.lt_of_lt_of_le hlt9i260 hBd.1) (by decide)), sRf_in hlt9i260]; rfl) dX5_packSheets_28 ?_
        refine pc_getN (C := RX3) (T := TX3) (N := 10) (ci := 3) hx hb hts (by decide +kernel) hown hX.1 hW.1 1 i260 (hM.2.2.2.1 i260 hlt9i260).1 rfl rfl 5 (by decide) (hX.2.1 (.fieldLinkNest RX5 156 "DraftsmanOffice$Sheet" "issued" "I" R_host) (by decide +kernel)) (fun _ h9 => h9) rfl dX5_packSheets_29 ?_
        refine pc_iast (f := (Vs264 13 i)) hx hb hX.1 hW 13 i 0 hi2 rfl rfl (vp_in_nI (Nat.lt_of_lt_of_le hlt9i260 hBd.1) (by decide)) dX5_packSheets_32 (fun H locs hW => ?_)
        rw [nI_clamp (Nat.lt_of_lt_of_le (Nat.lt_of_lt_of_le hlt9i260 hBd.1) (by decide))] at hW
        have hW : pcS D vwCl A s.heap NL ad (ctO cA c (uV Vs264 13 i i260 (Vs264 1 i260 3)) w u ad) H locs := pcS_eq hW ctO_ist_13
        refine lv_iinc (v := nI (i260 + 1)) (lv' := [(3, .int (nI (i260 + 1))), (0, .ref (ad 5 0)), (1, .ref (ad 3 i)), (2, .int x1)]) hx hb dX5_packSheets_33 hl (k := 0) rfl (nI_1 i260) (by decide) rfl (fun ls hl => ?_)
        refine lv_goto (tgt := 2) hx hb dX5_packSheets_36 (by decide) ?_
        have he9V : (VL_X5_packSheets c v w i x1 k261 (i260 + 1) (uV Vs264 13 i i260 (Vs264 1 i260 3))) = (VL_X5_packSheets c v w i x1 (c 0) 0 v) := by rw [← heV]; show (VL_X5_packSheets c v w i x1 k261 (i260 + 1) (uV Vs264 13 i i260 (Vs264 1 i260 3))) = (VL_X5_packSheets c v w i x1 (k261 + 1) i260 Vs264); simp only [VL_X5_packSheets, if_neg c268]
        exact ihk261 (i260 + 1) (uV Vs264 13 i i260 (Vs264 1 i260 3))  H locs ls (by omega) he9V hW (lv_sub hl [0, 1, 2, 3] rfl)
  exact K263 (c 0) 0 v _ _ ls (by omega) rfl hW (lv_sub hl [0, 1, 2, 3] rfl)

def VL_X5_takeLater (c : SC) (v : SV) (w : SW)  (i rr : Nat) : Nat → Nat → SV → SV
  | 0, _, Vs273 => Vs273
  | k270 + 1, i269, Vs273 => VL_X5_takeLater c v w i rr k270 (i269 + 1) (if (Vs273 13 i i269) ≤ (Vs273 57 rr i269) then Vs273 else (uV Vs273 57 rr i269 (Vs273 13 i i269)))
def FL_X5_takeLater (c : SC) (v : SV) (w : SW)  (i rr : Nat) : Nat → Nat → SV → Int32 → Int32
  | 0, _, _, s271 => s271
  | k270 + 1, i269, Vs273, s271 => FL_X5_takeLater c v w i rr k270 (i269 + 1) (if (Vs273 13 i i269) ≤ (Vs273 57 rr i269) then Vs273 else (uV Vs273 57 rr i269 (Vs273 13 i i269))) (if (Vs273 13 i i269) ≤ (Vs273 57 rr i269) then s271 else (s271 + 1))
def F_X5_takeLater (c : SC) (v : SV) (w : SW) (i rr : Nat) : Int32 := (FL_X5_takeLater c v w i rr (10) 0 v (0 : Int32))
def V_X5_takeLater (c : SC) (v : SV) (w : SW) (i rr : Nat) : SV := (VL_X5_takeLater c v w i rr (10) 0 v)

set_option maxHeartbeats 4000000 in
set_option maxRecDepth 100000 in
theorem m_X5_takeLater (l : Launch) (D : va_G) (cA : Nat → ClassId) (NL : List (Nat × Nat)) (c : SC) (v : SV) (w : SW) (u : Nat → Int32) (ad : Nat → Nat → Nat) (A : Nat → Prop) (i rr : Nat) (hM : MEM c NL) (hBd : BND c) (hi : i < c 2) (h14 : rr < 4) : Met l yX5_takeLater wsX5_takeLater ({ frames := 0, cells := 0, slots := 0, locals := 0 }) (pcPre D vwCl (tyL cA) [.ref (ad 3 i), .ref (ad 57 rr)] (fun H => va_P D vwCl (pcW NL ad (ctO cA c v w u ad)) H ∧ va_D A (pcW NL ad (ctO cA c v w u ad)) ∧ ∀ q, H.size ≤ q → A q)) (va_Qi (fun (r : Int32) (_ : Unit) => r = F_X5_takeLater c v w i rr) (fun (_ : Unit) t => va_P D vwCl (pcW NL ad (ctO cA c (V_X5_takeLater c v w i rr) w u ad)) t.heap) A) 0 0 A := by
  refine Met.ofW (cc := cX5_takeLater) (maxL := 4) (ret := (some .int)) (by decide) rfl ?_
  intro p e s m args below meth c0 s₁ B hml hv
  obtain ⟨rfl, hX, hP0, hD, hA⟩ := hv
  have hx := B.exec
  have hb := B.bytes
  have hr := B.returns
  have hts := atoms_spec (ws := wsX5_takeLater) B.pre
  have hown : s.vm.findClass RX5 = some m.cls := findClass_of_methodNamed B.named
  have hlocks := B.notSynchronized
  have hW : pcS D vwCl A s.heap NL ad (ctO cA c v w u ad) s.heap [] := ⟨hP0, hD, va_S.rf⟩
  have hl := lv_entry ([.ref (ad 3 i), .ref (ad 57 rr)]) (n := 4) (Nat.le_of_ble_eq_true rfl)
  rw [lg_entry_eq]
  generalize (lg_sl ([.ref (ad 3 i), .ref (ad 57 rr)]) ++ List.replicate (4 - (lg_sl ([.ref (ad 3 i), .ref (ad 57 rr)])).length) Slot.unset).toArray = ls at hl ⊢
  have hl : lv_has ls 4 [(0, .ref (ad 3 i)), (1, .ref (ad 57 rr))] := hl
  refine lv_iconst (v := 0) hx hb dX5_takeLater_0 (by decide) ?_
  refine lv_istore_n (lv' := [(2, .int 0), (0, .ref (ad 3 i)), (1, .ref (ad 57 rr))]) hx hb dX5_takeLater_1 rfl hl (by decide) rfl (fun ls hl => ?_)
  refine lv_iconst (v := 0) hx hb dX5_takeLater_2 (by decide) ?_
  refine lv_istore_n (lv' := [(3, .int 0), (2, .int 0), (0, .ref (ad 3 i)), (1, .ref (ad 57 rr))]) hx hb dX5_takeLater_3 rfl hl (by decide) rfl (fun ls hl => ?_)
  have K272 : ∀ (k270 i269 : Nat) (Vs273 : SV) (s271 : Int32) (H : Heap) (locs : List Loc) (ls : Array Slot), i269 + k270 = 10 → (VL_X5_takeLater c v w i rr k270 i269 Vs273) = (VL_X5_takeLater c v w i rr (10) 0 v) → (FL_X5_takeLater c v w i rr k270 i269 Vs273 s271) = (FL_X5_takeLater c v w i rr (10) 0 v (0 : Int32)) → pcS D vwCl A s.heap NL ad (ctO cA c Vs273 w u ad) H locs → lv_has ls 4 [(3, .int (nI i269)), (2, .int s271), (0, .ref (ad 3 i)), (1, .ref (ad 57 rr))] → W p l e (headSpec wsX5_takeLater ({ frames := 0, cells := 0, slots := 0, locals := 0 })).room s m ([.ref (ad 3 i), .ref (ad 57 rr)] : List Value).toArray below meth c0 H locs 0 0 (MQ below (va_Qi (fun (r : Int32) (_ : Unit) => r = F_X5_takeLater c v w i rr) (fun (_ : Unit) t => va_P D vwCl (pcW NL ad (ctO cA c (V_X5_takeLater c v w i rr) w u ad)) t.heap) A) ([.ref (ad 3 i), .ref (ad 57 rr)] : List Value).toArray s 0 0 A) (F0 m 4 ls []) := by
    intro k270
    induction k270 with
    | zero =>
      intro i269 Vs273 s271 H locs ls hk heV heF hW hl
      have ei : i269 = 10 := by omega
      rw [ei] at hl
      obtain rfl : (VL_X5_takeLater c v w i rr (10) 0 v) = Vs273 := heV.symm
      clear heV
      obtain rfl : (FL_X5_takeLater c v w i rr (10) 0 v (0 : Int32)) = s271 := heF.symm
      clear heF
      refine lv_iload_n hx hb dX5_takeLater_4 rfl (lv_at hl 0 rfl) ?_
      refine lv_bipush (v := 10) hx hb dX5_takeLater_5 (by decide) ?_
      refine lv_icmp_ge (tgt := 40) hx hb dX5_takeLater_7 (by decide) (fun _ => ?_) (fun c274 => absurd (Int32.le_refl _) c274)
      refine lv_iload_n hx hb dX5_takeLater_40 rfl (lv_at hl 1 rfl) ?_
      have e9v : V_X5_takeLater c v w i rr = (VL_X5_takeLater c v w i rr (10) 0 v) := rfl
      exact W.iret (v := (FL_X5_takeLater c v w i rr (10) 0 v (0 : Int32))) hx hb hr (fun t ht hW9 => ⟨⟨(FL_X5_takeLater c v w i rr (10) 0 v (0 : Int32)), (), rfl, rfl, (by show va_P D vwCl (pcW NL ad (ctO cA c (V_X5_takeLater c v w i rr) w u ad)) t.heap; rw [e9v]; rw [ht]; exact hW.1)⟩, hW.2.2.F ht⟩) hW.2.2.2.2 dX5_takeLater_41
    | succ k270 ihk270 =>
      intro i269 Vs273 s271 H locs ls hk heV heF hW hl
      have hlt : i269 < 10 := by omega
      have hlt9i269 := hlt
      refine lv_iload_n hx hb dX5_takeLater_4 rfl (lv_at hl 0 rfl) ?_
      refine lv_bipush (v := 10) hx hb dX5_takeLater_5 (by decide) ?_
      refine lv_icmp_ge (tgt := 40) hx hb dX5_takeLater_7 (by decide) (fun c275 => absurd c275 (nI_ge hlt (by decide))) (fun _ => ?_)
      refine lv_aload_n hx hb dX5_takeLater_10 rfl (lv_at hl 2 rfl) ?_
      refine pc_getN (C := RX2) (T := TX2) (N := 3) (ci := 2) hx hb hts (by decide +kernel) hown hX.1 hW.1 3 i (hM.2.2.2.2.2.1 i hi).1 rfl rfl 1 (by decide) (hX.2.1 (.fieldLinkNest RX5 403 "DraftsmanOffice$Sending" "revisions" "[I" R_host) (by decide +kernel)) (fun _ h9 => h9) rfl dX5_takeLater_11 ?_
      refine lv_iload_n hx hb dX5_takeLater_14 rfl (lv_at hl 0 rfl) ?_
      refine pc_iald (f := (Vs273 13 i)) hx hb hX.1 hW.1 13 i 0 (hM.2.2.2.2.2.1 i hi).2 rfl rfl (vp_in_nI hlt9i269 (by decide)) dX5_takeLater_15 ?_
      rw [nI_clamp (Nat.lt_of_lt_of_le hlt9i269 (by decide))]
      refine lv_aload_n hx hb dX5_takeLater_16 rfl (lv_at hl 3 rfl) ?_
      refine lv_iload_n hx hb dX5_takeLater_17 rfl (lv_at hl 0 rfl) ?_
      refine pc_iald (f := (Vs273 57 rr)) hx hb hX.1 hW.1 57 rr 0 (hM.2.2.1 rr h14) rfl rfl (vp_in_nI hlt9i269 (by decide)) dX5_takeLater_18 ?_
      rw [nI_clamp (Nat.lt_of_lt_of_le hlt9i269 (by decide))]
      refine lv_icmp_le (tgt := 34) hx hb dX5_takeLater_19 (by decide) (fun (c276 : (Vs273 13 i i269) ≤ (Vs273 57 rr i269)) => ?_) (fun (c276 : ¬ (Vs273 13 i i269) ≤ (Vs273 57 rr i269)) => ?_)
      · refine lv_iinc (v := nI (i269 + 1)) (lv' := [(3, .int (nI (i269 + 1))), (2, .int s271), (0, .ref (ad 3 i)), (1, .ref (ad 57 rr))]) hx hb dX5_takeLater_34 hl (k := 0) rfl (nI_1 i269) (by decide) rfl (fun ls hl => ?_)
        refine lv_goto (tgt := 4) hx hb dX5_takeLater_37 (by decide) ?_
        have he9V : (VL_X5_takeLater c v w i rr k270 (i269 + 1) Vs273) = (VL_X5_takeLater c v w i rr (10) 0 v) := by rw [← heV]; show (VL_X5_takeLater c v w i rr k270 (i269 + 1) Vs273) = (VL_X5_takeLater c v w i rr (k270 + 1) i269 Vs273); simp only [VL_X5_takeLater, if_pos c276]
        have he9F : (FL_X5_takeLater c v w i rr k270 (i269 + 1) Vs273 s271) = (FL_X5_takeLater c v w i rr (10) 0 v (0 : Int32)) := by rw [← heF]; show (FL_X5_takeLater c v w i rr k270 (i269 + 1) Vs273 s271) = (FL_X5_takeLater c v w i rr (k270 + 1) i269 Vs273 s271); simp only [FL_X5_takeLater, if_pos c276]
        exact ihk270 (i269 + 1) Vs273 s271 H locs ls (by omega) he9V he9F hW (lv_sub hl [0, 1, 2, 3] rfl)
      · refine lv_aload_n hx hb dX5_takeLater_22 rfl (lv_at hl 3 rfl) ?_
        refine lv_iload_n hx hb dX5_takeLater_23 rfl (lv_at hl 0 rfl) ?_
        refine lv_aload_n hx hb dX5_takeLater_24 rfl (lv_at hl 2 rfl) ?_
        refine pc_getN (C := RX2) (T := TX2) (N := 3) (ci := 2) hx hb hts (by decide +kernel) hown hX.1 hW.1 3 i (hM.2.2.2.2.2.1 i hi).1 rfl rfl 1 (by decide) (hX.2.1 (.fieldLinkNest RX5 403 "DraftsmanOffice$Sending" "revisions" "[I" R_host) (by decide +kernel)) (fun _ h9 => h9) rfl dX5_takeLater_25 ?_
        refine lv_iload_n hx hb dX5_takeLater_28 rfl (lv_at hl 0 rfl) ?_
        refine pc_iald (f := (Vs273 13 i)) hx hb hX.1 hW.1 13 i 0 (hM.2.2.2.2.2.1 i hi).2 rfl rfl (vp_in_nI hlt9i269 (by decide)) dX5_takeLater_29 ?_
        rw [nI_clamp (Nat.lt_of_lt_of_le hlt9i269 (by decide))]
        refine pc_iast (f := (Vs273 57 rr)) hx hb hX.1 hW 57 rr 0 (hM.2.2.1 rr h14) rfl rfl (vp_in_nI hlt9i269 (by decide)) dX5_takeLater_30 (fun H locs hW => ?_)
        rw [nI_clamp (Nat.lt_of_lt_of_le hlt9i269 (by decide))] at hW
        have hW : pcS D vwCl A s.heap NL ad (ctO cA c (uV Vs273 57 rr i269 (Vs273 13 i i269)) w u ad) H locs := pcS_eq hW ctO_ist_57
        refine lv_iinc (v := (s271 + 1)) (lv' := [(2, .int (s271 + 1)), (3, .int (nI i269)), (0, .ref (ad 3 i)), (1, .ref (ad 57 rr))]) hx hb dX5_takeLater_31 hl (k := 1) rfl rfl (by decide) rfl (fun ls hl => ?_)
        refine lv_iinc (v := nI (i269 + 1)) (lv' := [(3, .int (nI (i269 + 1))), (2, .int (s271 + 1)), (0, .ref (ad 3 i)), (1, .ref (ad 57 rr))]) hx hb dX5_takeLater_34 hl (k := 1) rfl (nI_1 i269) (by decide) rfl (fun ls hl => ?_)
        refine lv_goto (tgt := 4) hx hb dX5_takeLater_37 (by decide) ?_
        have he9V : (VL_X5_takeLater c v w i rr k270 (i269 + 1) (uV Vs273 57 rr i269 (Vs273 13 i i269))) = (VL_X5_takeLater c v w i rr (10) 0 v) := by rw [← heV]; show (VL_X5_takeLater c v w i rr k270 (i269 + 1) (uV Vs273 57 rr i269 (Vs273 13 i i269))) = (VL_X5_takeLater c v w i rr (k270 + 1) i269 Vs273); simp only [VL_X5_takeLater, if_neg c276]
        have he9F : (FL_X5_takeLater c v w i rr k270 (i269 + 1) (uV Vs273 57 rr i269 (Vs273 13 i i269)) (s271 + 1)) = (FL_X5_takeLater c v w i rr (10) 0 v (0 : Int32)) := by rw [← heF]; show (FL_X5_takeLater c v w i rr k270 (i269 + 1) (uV Vs273 57 rr i269 (Vs273 13 i i269)) (s271 + 1)) = (FL_X5_takeLater c v w i rr (k270 + 1) i269 Vs273 s271); simp only [FL_X5_takeLater, if_neg c276]
        exact ihk270 (i269 + 1) (uV Vs273 57 rr i269 (Vs273 13 i i269)) (s271 + 1) H locs ls (by omega) he9V he9F hW (lv_sub hl [0, 1, 2, 3] rfl)
  exact K272 (10) 0 v (0 : Int32) _ _ ls (by omega) rfl rfl hW (lv_sub hl [0, 1, 2, 3] rfl)

theorem wfl_takeLater {c : SC} {v : SV} {w : SW} {i rr : Nat} : ∀ (k a : Nat) (V : SV) (j : Nat), VL_X5_takeLater c v w i rr k a V 2 j 1 = V 2 j 1 ∧ VL_X5_takeLater c v w i rr k a V 7 j 0 = V 7 j 0 ∧ VL_X5_takeLater c v w i rr k a V 1 j 1 = V 1 j 1 := by
  intro k
  induction k with
  | zero => intro a V j; exact ⟨rfl, rfl, rfl⟩
  | succ k ih =>
    intro a V j
    have e : VL_X5_takeLater c v w i rr (k + 1) a V = VL_X5_takeLater c v w i rr k (a + 1) _ := rfl
    rw [e, (ih (a + 1) _ j).1, (ih (a + 1) _ j).2.1, (ih (a + 1) _ j).2.2]
    repeat' split
    all_goals exact ⟨rfl, rfl, rfl⟩
theorem wf_takeLater {c : SC} {v : SV} {w : SW} {i rr : Nat} (h : WF c v) : WF c (V_X5_takeLater c v w i rr) := WF_of h (fun j => wfl_takeLater (c := c) (v := v) (w := w) (i := i) (rr := rr) _ _ _ j)

def UL_X5_takeLater_row (c : SC) (v : SV) (w : SW)   (i : Nat) : Nat → Nat → (Nat → Int32) → (Nat → Int32)
  | 0, _, Us281 => Us281
  | k278 + 1, i277, Us281 => UL_X5_takeLater_row c v w i k278 (i277 + 1) (if (v 13 i i277) ≤ (Us281 i277) then Us281 else (upd Us281 i277 (v 13 i i277)))
def FL_X5_takeLater_row (c : SC) (v : SV) (w : SW)   (i : Nat) : Nat → Nat → (Nat → Int32) → Int32 → Int32
  | 0, _, _, s279 => s279
  | k278 + 1, i277, Us281, s279 => FL_X5_takeLater_row c v w i k278 (i277 + 1) (if (v 13 i i277) ≤ (Us281 i277) then Us281 else (upd Us281 i277 (v 13 i i277))) (if (v 13 i i277) ≤ (Us281 i277) then s279 else (s279 + 1))
def F_X5_takeLater_row (c : SC) (v : SV) (w : SW) (u : Nat → Int32) (i : Nat) : Int32 := (FL_X5_takeLater_row c v w i (10) 0 u (0 : Int32))
def U_X5_takeLater_row (c : SC) (v : SV) (w : SW) (u : Nat → Int32) (i : Nat) : (Nat → Int32) := (UL_X5_takeLater_row c v w i (10) 0 u)

set_option maxHeartbeats 4000000 in
set_option maxRecDepth 100000 in
theorem m_X5_takeLater_row (l : Launch) (D : va_G) (cA : Nat → ClassId) (NL : List (Nat × Nat)) (c : SC) (v : SV) (w : SW) (u : Nat → Int32) (ad : Nat → Nat → Nat) (A : Nat → Prop) (i : Nat) (hM : MEM c NL) (hBd : BND c) (hi : i < c 2) : Met l yX5_takeLater wsX5_takeLater ({ frames := 0, cells := 0, slots := 0, locals := 0 }) (pcPre D vwCl (tyL cA) [.ref (ad 3 i), .ref (ad 56 0)] (fun H => va_P D vwCl (pcW NL ad (ctO cA c v w u ad)) H ∧ va_D A (pcW NL ad (ctO cA c v w u ad)) ∧ ∀ q, H.size ≤ q → A q)) (va_Qi (fun (r : Int32) (_ : Unit) => r = F_X5_takeLater_row c v w u i) (fun (_ : Unit) t => va_P D vwCl (pcW NL ad (ctO cA c v w (U_X5_takeLater_row c v w u i) ad)) t.heap) A) 0 0 A := by
  refine Met.ofW (cc := cX5_takeLater) (maxL := 4) (ret := (some .int)) (by decide) rfl ?_
  intro p e s m args below meth c0 s₁ B hml hv
  obtain ⟨rfl, hX, hP0, hD, hA⟩ := hv
  have hx := B.exec
  have hb := B.bytes
  have hr := B.returns
  have hts := atoms_spec (ws := wsX5_takeLater) B.pre
  have hown : s.vm.findClass RX5 = some m.cls := findClass_of_methodNamed B.named
  have hlocks := B.notSynchronized
  have hW : pcS D vwCl A s.heap NL ad (ctO cA c v w u ad) s.heap [] := ⟨hP0, hD, va_S.rf⟩
  have hl := lv_entry ([.ref (ad 3 i), .ref (ad 56 0)]) (n := 4) (Nat.le_of_ble_eq_true rfl)
  rw [lg_entry_eq]
  generalize (lg_sl ([.ref (ad 3 i), .ref (ad 56 0)]) ++ List.replicate (4 - (lg_sl ([.ref (ad 3 i), .ref (ad 56 0)])).length) Slot.unset).toArray = ls at hl ⊢
  have hl : lv_has ls 4 [(0, .ref (ad 3 i)), (1, .ref (ad 56 0))] := hl
  refine lv_iconst (v := 0) hx hb dX5_takeLater_0 (by decide) ?_
  refine lv_istore_n (lv' := [(2, .int 0), (0, .ref (ad 3 i)), (1, .ref (ad 56 0))]) hx hb dX5_takeLater_1 rfl hl (by decide) rfl (fun ls hl => ?_)
  refine lv_iconst (v := 0) hx hb dX5_takeLater_2 (by decide) ?_
  refine lv_istore_n (lv' := [(3, .int 0), (2, .int 0), (0, .ref (ad 3 i)), (1, .ref (ad 56 0))]) hx hb dX5_takeLater_3 rfl hl (by decide) rfl (fun ls hl => ?_)
  have K280 : ∀ (k278 i277 : Nat) (Us281 : (Nat → Int32)) (s279 : Int32) (H : Heap) (locs : List Loc) (ls : Array Slot), i277 + k278 = 10 → (UL_X5_takeLater_row c v w i k278 i277 Us281) = (UL_X5_takeLater_row c v w i (10) 0 u) → (FL_X5_takeLater_row c v w i k278 i277 Us281 s279) = (FL_X5_takeLater_row c v w i (10) 0 u (0 : Int32)) → pcS D vwCl A s.heap NL ad (ctO cA c v w Us281 ad) H locs → lv_has ls 4 [(3, .int (nI i277)), (2, .int s279), (0, .ref (ad 3 i)), (1, .ref (ad 56 0))] → W p l e (headSpec wsX5_takeLater ({ frames := 0, cells := 0, slots := 0, locals := 0 })).room s m ([.ref (ad 3 i), .ref (ad 56 0)] : List Value).toArray below meth c0 H locs 0 0 (MQ below (va_Qi (fun (r : Int32) (_ : Unit) => r = F_X5_takeLater_row c v w u i) (fun (_ : Unit) t => va_P D vwCl (pcW NL ad (ctO cA c v w (U_X5_takeLater_row c v w u i) ad)) t.heap) A) ([.ref (ad 3 i), .ref (ad 56 0)] : List Value).toArray s 0 0 A) (F0 m 4 ls []) := by
    intro k278
    induction k278 with
    | zero =>
      intro i277 Us281 s279 H locs ls hk heU heF hW hl
      have ei : i277 = 10 := by omega
      rw [ei] at hl
      obtain rfl : (UL_X5_takeLater_row c v w i (10) 0 u) = Us281 := heU.symm
      clear heU
      obtain rfl : (FL_X5_takeLater_row c v w i (10) 0 u (0 : Int32)) = s279 := heF.symm
      clear heF
      refine lv_iload_n hx hb dX5_takeLater_4 rfl (lv_at hl 0 rfl) ?_
      refine lv_bipush (v := 10) hx hb dX5_takeLater_5 (by decide) ?_
      refine lv_icmp_ge (tgt := 40) hx hb dX5_takeLater_7 (by decide) (fun _ => ?_) (fun c282 => absurd (Int32.le_refl _) c282)
      refine lv_iload_n hx hb dX5_takeLater_40 rfl (lv_at hl 1 rfl) ?_
      have e9u : U_X5_takeLater_row c v w u i = (UL_X5_takeLater_row c v w i (10) 0 u) := rfl
      exact W.iret (v := (FL_X5_takeLater_row c v w i (10) 0 u (0 : Int32))) hx hb hr (fun t ht hW9 => ⟨⟨(FL_X5_takeLater_row c v w i (10) 0 u (0 : Int32)), (), rfl, rfl, (by show va_P D vwCl (pcW NL ad (ctO cA c v w (U_X5_takeLater_row c v w u i) ad)) t.heap; rw [e9u]; rw [ht]; exact hW.1)⟩, hW.2.2.F ht⟩) hW.2.2.2.2 dX5_takeLater_41
    | succ k278 ihk278 =>
      intro i277 Us281 s279 H locs ls hk heU heF hW hl
      have hlt : i277 < 10 := by omega
      have hlt9i277 := hlt
      refine lv_iload_n hx hb dX5_takeLater_4 rfl (lv_at hl 0 rfl) ?_
      refine lv_bipush (v := 10) hx hb dX5_takeLater_5 (by decide) ?_
      refine lv_icmp_ge (tgt := 40) hx hb dX5_takeLater_7 (by decide) (fun c283 => absurd c283 (nI_ge hlt (by decide))) (fun _ => ?_)
      refine lv_aload_n hx hb dX5_takeLater_10 rfl (lv_at hl 2 rfl) ?_
      refine pc_getN (C := RX2) (T := TX2) (N := 3) (ci := 2) hx hb hts (by decide +kernel) hown hX.1 hW.1 3 i (hM.2.2.2.2.2.1 i hi).1 rfl rfl 1 (by decide) (hX.2.1 (.fieldLinkNest RX5 403 "DraftsmanOffice$Sending" "revisions" "[I" R_host) (by decide +kernel)) (fun _ h9 => h9) rfl dX5_takeLater_11 ?_
      refine lv_iload_n hx hb dX5_takeLater_14 rfl (lv_at hl 0 rfl) ?_
      refine pc_iald (f := (v 13 i)) hx hb hX.1 hW.1 13 i 0 (hM.2.2.2.2.2.1 i hi).2 rfl rfl (vp_in_nI hlt9i277 (by decide)) dX5_takeLater_15 ?_
      rw [nI_clamp (Nat.lt_of_lt_of_le hlt9i277 (by decide))]
      refine lv_aload_n hx hb dX5_takeLater_16 rfl (lv_at hl 3 rfl) ?_
      refine lv_iload_n hx hb dX5_takeLater_17 rfl (lv_at hl 0 rfl) ?_
      refine pc_iald (f := Us281) hx hb hX.1 hW.1 56 0 0 (hM.2.1 56 (by decide) (by decide)) rfl rfl (vp_in_nI hlt9i277 (by decide)) dX5_takeLater_18 ?_
      rw [nI_clamp (Nat.lt_of_lt_of_le hlt9i277 (by decide))]
      refine lv_icmp_le (tgt := 34) hx hb dX5_takeLater_19 (by decide) (fun (c284 : (v 13 i i277) ≤ (Us281 i277)) => ?_) (fun (c284 : ¬ (v 13 i i277) ≤ (Us281 i277)) => ?_)
      · refine lv_iinc (v := nI (i277 + 1)) (lv' := [(3, .int (nI (i277 + 1))), (2, .int s279), (0, .ref (ad 3 i)), (1, .ref (ad 56 0))]) hx hb dX5_takeLater_34 hl (k := 0) rfl (nI_1 i277) (by decide) rfl (fun ls hl => ?_)
        refine lv_goto (tgt := 4) hx hb dX5_takeLater_37 (by decide) ?_
        have he9U : (UL_X5_takeLater_row c v w i k278 (i277 + 1) Us281) = (UL_X5_takeLater_row c v w i (10) 0 u) := by rw [← heU]; show (UL_X5_takeLater_row c v w i k278 (i277 + 1) Us281) = (UL_X5_takeLater_row c v w i (k278 + 1) i277 Us281); simp only [UL_X5_takeLater_row, if_pos c284]
        have he9F : (FL_X5_takeLater_row c v w i k278 (i277 + 1) Us281 s279) = (FL_X5_takeLater_row c v w i (10) 0 u (0 : Int32)) := by rw [← heF]; show (FL_X5_takeLater_row c v w i k278 (i277 + 1) Us281 s279) = (FL_X5_takeLater_row c v w i (k278 + 1) i277 Us281 s279); simp only [FL_X5_takeLater_row, if_pos c284]
        exact ihk278 (i277 + 1) Us281 s279 H locs ls (by omega) he9U he9F hW (lv_sub hl [0, 1, 2, 3] rfl)
      · refine lv_aload_n hx hb dX5_takeLater_22 rfl (lv_at hl 3 rfl) ?_
        refine lv_iload_n hx hb dX5_takeLater_23 rfl (lv_at hl 0 rfl) ?_
        refine lv_aload_n hx hb dX5_takeLater_24 rfl (lv_at hl 2 rfl) ?_
        refine pc_getN (C := RX2) (T := TX2) (N := 3) (ci := 2) hx hb hts (by decide +kernel) hown hX.1 hW.1 3 i (hM.2.2.2.2.2.1 i hi).1 rfl rfl 1 (by decide) (hX.2.1 (.fieldLinkNest RX5 403 "DraftsmanOffice$Sending" "revisions" "[I" R_host) (by decide +kernel)) (fun _ h9 => h9) rfl dX5_takeLater_25 ?_
        refine lv_iload_n hx hb dX5_takeLater_28 rfl (lv_at hl 0 rfl) ?_
        refine pc_iald (f := (v 13 i)) hx hb hX.1 hW.1 13 i 0 (hM.2.2.2.2.2.1 i hi).2 rfl rfl (vp_in_nI hlt9i277 (by decide)) dX5_takeLater_29 ?_
        rw [nI_clamp (Nat.lt_of_lt_of_le hlt9i277 (by decide))]
        refine pc_iast (f := Us281) hx hb hX.1 hW 56 0 0 (hM.2.1 56 (by decide) (by decide)) rfl rfl (vp_in_nI hlt9i277 (by decide)) dX5_takeLater_30 (fun H locs hW => ?_)
        rw [nI_clamp (Nat.lt_of_lt_of_le hlt9i277 (by decide))] at hW
        have hW : pcS D vwCl A s.heap NL ad (ctO cA c v w (upd Us281 i277 (v 13 i i277)) ad) H locs := pcS_eq hW ctO_row
        refine lv_iinc (v := (s279 + 1)) (lv' := [(2, .int (s279 + 1)), (3, .int (nI i277)), (0, .ref (ad 3 i)), (1, .ref (ad 56 0))]) hx hb dX5_takeLater_31 hl (k := 1) rfl rfl (by decide) rfl (fun ls hl => ?_)
        refine lv_iinc (v := nI (i277 + 1)) (lv' := [(3, .int (nI (i277 + 1))), (2, .int (s279 + 1)), (0, .ref (ad 3 i)), (1, .ref (ad 56 0))]) hx hb dX5_takeLater_34 hl (k := 1) rfl (nI_1 i277) (by decide) rfl (fun ls hl => ?_)
        refine lv_goto (tgt := 4) hx hb dX5_takeLater_37 (by decide) ?_
        have he9U : (UL_X5_takeLater_row c v w i k278 (i277 + 1) (upd Us281 i277 (v 13 i i277))) = (UL_X5_takeLater_row c v w i (10) 0 u) := by rw [← heU]; show (UL_X5_takeLater_row c v w i k278 (i277 + 1) (upd Us281 i277 (v 13 i i277))) = (UL_X5_takeLater_row c v w i (k278 + 1) i277 Us281); simp only [UL_X5_takeLater_row, if_neg c284]
        have he9F : (FL_X5_takeLater_row c v w i k278 (i277 + 1) (upd Us281 i277 (v 13 i i277)) (s279 + 1)) = (FL_X5_takeLater_row c v w i (10) 0 u (0 : Int32)) := by rw [← heF]; show (FL_X5_takeLater_row c v w i k278 (i277 + 1) (upd Us281 i277 (v 13 i i277)) (s279 + 1)) = (FL_X5_takeLater_row c v w i (k278 + 1) i277 Us281 s279); simp only [FL_X5_takeLater_row, if_neg c284]
        exact ihk278 (i277 + 1) (upd Us281 i277 (v 13 i i277)) (s279 + 1) H locs ls (by omega) he9U he9F hW (lv_sub hl [0, 1, 2, 3] rfl)
  exact K280 (10) 0 u (0 : Int32) _ _ ls (by omega) rfl rfl hW (lv_sub hl [0, 1, 2, 3] rfl)

