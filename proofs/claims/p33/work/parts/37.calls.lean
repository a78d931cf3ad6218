def F_X5_check (c : SC) (v : SV) (w : SW) (x1 : Int32) : Int32 := (F_X5_brokenFrom c (uV v 1 x1.toNatClampNeg 2 1) w x1)
def V_X5_check (c : SC) (v : SV) (w : SW) (x1 : Int32) : SV := (uV v 1 x1.toNatClampNeg 2 1)

set_option maxHeartbeats 4000000 in
set_option maxRecDepth 100000 in
theorem m_X5_check (l : Launch) (D : va_G) (cA : Nat → ClassId) (NL : List (Nat × Nat)) (c : SC) (v : SV) (w : SW) (u : Nat → Int32) (ad : Nat → Nat → Nat) (A : Nat → Prop) (x1 : Int32) (hM : MEM c NL) (hBd : BND c) (hF : WF c v) (h1n : ¬ x1 < 0) (h1 : x1.toNatClampNeg < c 0) (hs : F_X3_lastStatus c v w x1.toNatClampNeg = 0) : Met l yX5_check wsX5_check ({ frames := 3, cells := 0, slots := 0, locals := 65 }) (pcPre D vwCl (tyL cA) [.ref (ad 5 0), .int x1] (fun H => va_P D vwCl (pcW NL ad (ctO cA c v w u ad)) H ∧ va_D A (pcW NL ad (ctO cA c v w u ad)) ∧ ∀ q, H.size ≤ q → A q)) (va_Qi (fun (r : Int32) (_ : Unit) => r = F_X5_check c v w x1) (fun (_ : Unit) t => va_P D vwCl (pcW NL ad (ctO cA c (V_X5_check c v w x1) w u ad)) t.heap) A) 0 0 A := by
  refine Met.ofW (cc := cX5_check) (maxL := 3) (ret := (some .int)) (by decide) rfl ?_
  intro p e s m args below meth c0 s₁ B hml hv
  obtain ⟨rfl, hX, hP0, hD, hA⟩ := hv
  have hx := B.exec
  have hb := B.bytes
  have hr := B.returns
  have hts := atoms_spec (ws := wsX5_check) B.pre
  have hown : s.vm.findClass RX5 = some m.cls := findClass_of_methodNamed B.named
  have hlocks := B.notSynchronized
  have hW : pcS D vwCl A s.heap NL ad (ctO cA c v w u ad) s.heap [] := ⟨hP0, hD, va_S.rf⟩
  have hl := lv_entry ([.ref (ad 5 0), .int x1]) (n := 3) (Nat.le_of_ble_eq_true rfl)
  rw [lg_entry_eq]
  generalize (lg_sl ([.ref (ad 5 0), .int x1]) ++ List.replicate (3 - (lg_sl ([.ref (ad 5 0), .int x1])).length) Slot.unset).toArray = ls at hl ⊢
  have hl : lv_has ls 3 [(0, .ref (ad 5 0)), (1, .int x1)] := hl
  refine lv_aload_n hx hb dX5_check_0 rfl (lv_at hl 0 rfl) ?_
  refine lv_iload_n hx hb dX5_check_1 rfl (lv_at hl 1 rfl) ?_
  refine pc_rcallv (va_runV (As := [.int x1]) (rest := []) ⟨hx, hb, hml, hown, hts⟩ (r_X5_requireSheet l D cA NL c v w u ad x1 hM hBd hF h1n h1) (cwV 1 hts gX5_check_X5_requireSheet rfl rfl rfl (by decide +kernel) ⟨Nat.le_of_ble_eq_true rfl, Nat.le_of_ble_eq_true rfl⟩) (pc_preV pcN_ok hX hW.1 hM.1 rfl rfl hW.1) rfl rfl hl.1 rfl (lv_room (Nat.le_of_ble_eq_true rfl)) dX5_check_2 ⟨Nat.le_of_ble_eq_true rfl, Nat.le_of_ble_eq_true rfl⟩) hW (fun H locs _ hW => ?_)
  refine lv_aload_n hx hb dX5_check_5 rfl (lv_at hl 0 rfl) ?_
  refine pc_get (C := RX5) (T := TX5) (N := 13) (ci := 5) hx hb hts (by decide +kernel) hown hX.1 hW.1 5 0 hM.1 rfl rfl 0 (by decide) (hts (.fieldLink RX5 11 "DraftsmanOffice" "sheets" "[LDraftsmanOffice$Sheet;") (by decide +kernel)) (fun _ h9 => h9) rfl dX5_check_6 ?_
  refine lv_iload_n hx hb dX5_check_9 rfl (lv_at hl 1 rfl) ?_
  refine pc_aald (r := .ref (ad 1 x1.toNatClampNeg)) hx hb hX.1 hW.1 50 0 3 (hM.2.1 50 (by decide) (by decide)) rfl rfl rfl (fun q => q.elim h1n (fun q => absurd (Nat.lt_of_lt_of_le h1 hBd.1) (Nat.not_lt.mpr q))) (by rw [sRf_in h1]; rfl) dX5_check_10 ?_
  refine lv_astore_n (lv' := [(2, .ref (ad 1 x1.toNatClampNeg)), (0, .ref (ad 5 0)), (1, .int x1)]) hx hb dX5_check_11 rfl hl (by decide) rfl (fun ls hl => ?_)
  refine lv_aload_n hx hb dX5_check_12 rfl (lv_at hl 0 rfl) ?_
  refine pc_rcalli (va_runVN (As := []) (rest := []) ⟨hx, hb, hml, hown, hts⟩ (r_X3_lastStatus l D cA NL c v w u ad x1.toNatClampNeg hM hBd h1) ⟨va_cnB 0 hts gX5_check_X3_lastStatus_n97 rfl rfl rfl (hX.2.1 (.methodLinkNest RX5 97 yX3_lastStatus R_host) (by decide +kernel)) (hts (.initialized RX3) (by decide +kernel)) (by decide +kernel) ⟨Nat.le_of_ble_eq_true rfl, Nat.le_of_ble_eq_true rfl⟩, hts (.instanceMethod yX3_lastStatus) (by decide +kernel), hts (.selects RX3 yX3_lastStatus yX3_lastStatus) (by decide +kernel)⟩ (pc_preV pcN_ok hX hW.1 (hM.2.2.2.1 x1.toNatClampNeg h1).1 rfl rfl hW.1) rfl rfl hl.1 rfl (lv_room (Nat.le_of_ble_eq_true rfl)) dX5_check_13 ⟨Nat.le_of_ble_eq_true rfl, Nat.le_of_ble_eq_true rfl⟩) hW (fun r286 H locs hwr286 hW => ?_)
  replace hwr286 := hwr286.symm
  subst hwr286
  refine lv_if_eq (tgt := 29) hx hb dX5_check_16 (by decide) (fun _ => ?_) (fun c287 => absurd hs c287)
  refine lv_aload_n hx hb dX5_check_29 rfl (lv_at hl 0 rfl) ?_
  refine lv_iconst (v := 1) hx hb dX5_check_30 (by decide) ?_
  refine pc_putN (v := .int 1) (C := RX3) (T := TX3) (N := 10) (ci := 3) (ty := .boolean) hx hb hts (by decide +kernel) tyX3 tyX3_ok nmX3 hown hX.1 hW 1 x1.toNatClampNeg (hM.2.2.2.1 x1.toNatClampNeg h1).1 rfl rfl 4 (by decide) (hX.2.1 (.fieldLinkNest RX5 123 "DraftsmanOffice$Sheet" "isLastChecked" "Z" R_host) (by decide +kernel)) (fun _ h9 => h9) rfl (by decide +kernel) rfl rfl (Nat.le_of_ble_eq_true rfl) dX5_check_31 (fun H locs hW => ?_)
  have hW : pcS D vwCl A s.heap NL ad (ctO cA c (uV v 1 x1.toNatClampNeg 2 1) w u ad) H locs := pcS_eq hW ctO_put_1_4
  refine lv_aload_n hx hb dX5_check_34 rfl (lv_at hl 1 rfl) ?_
  refine lv_iload_n hx hb dX5_check_35 rfl (lv_at hl 2 rfl) ?_
  refine pc_rcalli (va_runV (As := [.int x1]) (rest := []) ⟨hx, hb, hml, hown, hts⟩ (r_X5_brokenFrom l D cA NL c (uV v 1 x1.toNatClampNeg 2 1) w u ad x1 hM hBd hF ) (cwV 1 hts gX5_check_X5_brokenFrom rfl rfl rfl (by decide +kernel) ⟨Nat.le_of_ble_eq_true rfl, Nat.le_of_ble_eq_true rfl⟩) (pc_preV pcN_ok hX hW.1 hM.1 rfl rfl hW.1) rfl rfl hl.1 rfl (lv_room (Nat.le_of_ble_eq_true rfl)) dX5_check_36 ⟨Nat.le_of_ble_eq_true rfl, Nat.le_of_ble_eq_true rfl⟩) hW (fun r288 H locs hwr288 hW => ?_)
  replace hwr288 := hwr288.symm
  subst hwr288
  have e9v : V_X5_check c v w x1 = (uV v 1 x1.toNatClampNeg 2 1) := rfl
  exact W.iret (v := (F_X5_brokenFrom c (uV v 1 x1.toNatClampNeg 2 1) w x1)) hx hb hr (fun t ht hW9 => ⟨⟨(F_X5_brokenFrom c (uV v 1 x1.toNatClampNeg 2 1) w x1), (), rfl, rfl, (by show va_P D vwCl (pcW NL ad (ctO cA c (V_X5_check c v w x1) w u ad)) t.heap; rw [e9v]; rw [ht]; exact hW.1)⟩, hW.2.2.F ht⟩) hW.2.2.2.2 dX5_check_39

def F_X5_issue (c : SC) (v : SV) (w : SW) (x1 : Int32) : Int32 := (F_X5_stopUnfit c (V_X5_closePromised c (V_X3_setIssued c v w x1.toNatClampNeg (v 1 x1.toNatClampNeg 1)) (W_X3_setIssued c v w x1.toNatClampNeg (v 1 x1.toNatClampNeg 1)) x1) (W_X3_setIssued c v w x1.toNatClampNeg (v 1 x1.toNatClampNeg 1)))
def V_X5_issue (c : SC) (v : SV) (w : SW) (x1 : Int32) : SV := (V_X5_stopUnfit c (V_X5_closePromised c (V_X3_setIssued c v w x1.toNatClampNeg (v 1 x1.toNatClampNeg 1)) (W_X3_setIssued c v w x1.toNatClampNeg (v 1 x1.toNatClampNeg 1)) x1) (W_X3_setIssued c v w x1.toNatClampNeg (v 1 x1.toNatClampNeg 1)))
def W_X5_issue (c : SC) (v : SV) (w : SW) (x1 : Int32) : SW := (W_X3_setIssued c v w x1.toNatClampNeg (v 1 x1.toNatClampNeg 1))

set_option maxHeartbeats 4000000 in
set_option maxRecDepth 100000 in
theorem m_X5_issue (l : Launch) (D : va_G) (cA : Nat → ClassId) (NL : List (Nat × Nat)) (c : SC) (v : SV) (w : SW) (u : Nat → Int32) (ad : Nat → Nat → Nat) (A : Nat → Prop) (x1 : Int32) (hM : MEM c NL) (hBd : BND c) (hF : WF c v) (h1n : ¬ x1 < 0) (h1 : x1.toNatClampNeg < c 0) (hs : ¬ F_X5_isReadyToIssue c v w x1 = 0) : Met l yX5_issue wsX5_issue ({ frames := 7, cells := 0, slots := 0, locals := 163 }) (pcPre D vwCl (tyL cA) [.ref (ad 5 0), .int x1] (fun H => va_P D vwCl (pcW NL ad (ctO cA c v w u ad)) H ∧ va_D A (pcW NL ad (ctO cA c v w u ad)) ∧ ∀ q, H.size ≤ q → A q)) (va_Qi (fun (r : Int32) (_ : Unit) => r = F_X5_issue c v w x1) (fun (_ : Unit) t => va_P D vwCl (pcW NL ad (ctO cA c (V_X5_issue c v w x1) (W_X5_issue c v w x1) u ad)) t.heap) A) 0 0 A := by
  refine Met.ofW (cc := cX5_issue) (maxL := 3) (ret := (some .int)) (by decide) rfl ?_
  intro p e s m args below meth c0 s₁ B hml hv
  obtain ⟨rfl, hX, hP0, hD, hA⟩ := hv
  have hx := B.exec
  have hb := B.bytes
  have hr := B.returns
  have hts := atoms_spec (ws := wsX5_issue) B.pre
  have hown : s.vm.findClass RX5 = some m.cls := findClass_of_methodNamed B.named
  have hlocks := B.notSynchronized
  have hW : pcS D vwCl A s.heap NL ad (ctO cA c v w u ad) s.heap [] := ⟨hP0, hD, va_S.rf⟩
  have hl := lv_entry ([.ref (ad 5 0), .int x1]) (n := 3) (Nat.le_of_ble_eq_true rfl)
  rw [lg_entry_eq]
  generalize (lg_sl ([.ref (ad 5 0), .int x1]) ++ List.replicate (3 - (lg_sl ([.ref (ad 5 0), .int x1])).length) Slot.unset).toArray = ls at hl ⊢
  have hl : lv_has ls 3 [(0, .ref (ad 5 0)), (1, .int x1)] := hl
  refine lv_aload_n hx hb dX5_issue_0 rfl (lv_at hl 0 rfl) ?_
  refine lv_iload_n hx hb dX5_issue_1 rfl (lv_at hl 1 rfl) ?_
  refine pc_rcallv (va_runV (As := [.int x1]) (rest := []) ⟨hx, hb, hml, hown, hts⟩ (r_X5_requireSheet l D cA NL c v w u ad x1 hM hBd hF h1n h1) (cwV 1 hts gX5_issue_X5_requireSheet rfl rfl rfl (by decide +kernel) ⟨Nat.le_of_ble_eq_true rfl, Nat.le_of_ble_eq_true rfl⟩) (pc_preV pcN_ok hX hW.1 hM.1 rfl rfl hW.1) rfl rfl hl.1 rfl (lv_room (Nat.le_of_ble_eq_true rfl)) dX5_issue_2 ⟨Nat.le_of_ble_eq_true rfl, Nat.le_of_ble_eq_true rfl⟩) hW (fun H locs _ hW => ?_)
  refine lv_aload_n hx hb dX5_issue_5 rfl (lv_at hl 0 rfl) ?_
  refine lv_iload_n hx hb dX5_issue_6 rfl (lv_at hl 1 rfl) ?_
  refine pc_rcalli (va_runV (As := [.int x1]) (rest := []) ⟨hx, hb, hml, hown, hts⟩ (r_X5_isReadyToIssue l D cA NL c v w u ad x1 hM hBd hF h1n h1) (cwV 1 hts gX5_issue_X5_isReadyToIssue rfl rfl rfl (by decide +kernel) ⟨Nat.le_of_ble_eq_true rfl, Nat.le_of_ble_eq_true rfl⟩) (pc_preV pcN_ok hX hW.1 hM.1 rfl rfl hW.1) rfl rfl hl.1 rfl (lv_room (Nat.le_of_ble_eq_true rfl)) dX5_issue_7 ⟨Nat.le_of_ble_eq_true rfl, Nat.le_of_ble_eq_true rfl⟩) hW (fun r290 H locs hwr290 hW => ?_)
  replace hwr290 := hwr290.symm
  subst hwr290
  refine lv_if_ne (tgt := 23) hx hb dX5_issue_10 (by decide) (fun _ => ?_) (fun c291 => absurd c291 hs)
  refine lv_aload_n hx hb dX5_issue_23 rfl (lv_at hl 0 rfl) ?_
  refine pc_get (C := RX5) (T := TX5) (N := 13) (ci := 5) hx hb hts (by decide +kernel) hown hX.1 hW.1 5 0 hM.1 rfl rfl 0 (by decide) (hts (.fieldLink RX5 11 "DraftsmanOffice" "sheets" "[LDraftsmanOffice$Sheet;") (by decide +kernel)) (fun _ h9 => h9) rfl dX5_issue_24 ?_
  refine lv_iload_n hx hb dX5_issue_27 rfl (lv_at hl 1 rfl) ?_
  refine pc_aald (r := .ref (ad 1 x1.toNatClampNeg)) hx hb hX.1 hW.1 50 0 3 (hM.2.1 50 (by decide) (by decide)) rfl rfl rfl (fun q => q.elim h1n (fun q => absurd (Nat.lt_of_lt_of_le h1 hBd.1) (Nat.not_lt.mpr q))) (by rw [sRf_in h1]; rfl) dX5_issue_28 ?_
  refine lv_astore_n (lv' := [(2, .ref (ad 1 x1.toNatClampNeg)), (0, .ref (ad 5 0)), (1, .int x1)]) hx hb dX5_issue_29 rfl hl (by decide) rfl (fun ls hl => ?_)
  refine lv_aload_n hx hb dX5_issue_30 rfl (lv_at hl 0 rfl) ?_
  refine lv_aload_n hx hb dX5_issue_31 rfl (lv_at hl 0 rfl) ?_
  refine pc_getN (C := RX3) (T := TX3) (N := 10) (ci := 3) hx hb hts (by decide +kernel) hown hX.1 hW.1 1 x1.toNatClampNeg (hM.2.2.2.1 x1.toNatClampNeg h1).1 rfl rfl 3 (by decide) (hX.2.1 (.fieldLinkNest RX5 115 "DraftsmanOffice$Sheet" "last" "I" R_host) (by decide +kernel)) (fun _ h9 => h9) rfl dX5_issue_32 ?_
  have hD9 := hW.2.1
  refine pc_mcallv (va_runVN (As := [.int (v 1 x1.toNatClampNeg 1)]) (rest := []) ⟨hx, hb, hml, hown, hts⟩ (m_X3_setIssued l D cA NL c v w u ad A x1.toNatClampNeg (v 1 x1.toNatClampNeg 1) hM hBd h1 (hF.2.2 x1.toNatClampNeg h1).1 (hF.2.2 x1.toNatClampNeg h1).2) ⟨va_cnB 1 hts gX5_issue_X3_setIssued_n137 rfl rfl rfl (hX.2.1 (.methodLinkNest RX5 137 yX3_setIssued R_host) (by decide +kernel)) (hts (.initialized RX3) (by decide +kernel)) (by decide +kernel) ⟨Nat.le_of_ble_eq_true rfl, Nat.le_of_ble_eq_true rfl⟩, hts (.instanceMethod yX3_setIssued) (by decide +kernel), hts (.selects RX3 yX3_setIssued yX3_setIssued) (by decide +kernel)⟩ (pc_preV pcN_ok hX hW.1 (hM.2.2.2.1 x1.toNatClampNeg h1).1 rfl rfl ⟨hW.1, hW.2.1, fun q h => hA q (Nat.le_trans hW.2.2.1 h)⟩) rfl rfl hl.1 rfl (lv_room (Nat.le_of_ble_eq_true rfl)) dX5_issue_35 ⟨Nat.le_of_ble_eq_true rfl, Nat.le_of_ble_eq_true rfl⟩) hW.2.2 (fun _ H locs _ hB hS9 => ?_)
  have hW : pcS D vwCl A s.heap NL ad (ctO cA c (V_X3_setIssued c v w x1.toNatClampNeg (v 1 x1.toNatClampNeg 1)) (W_X3_setIssued c v w x1.toNatClampNeg (v 1 x1.toNatClampNeg 1)) u ad) H locs := ⟨hB, pcD_ct hD9, hS9⟩
  refine lv_aload_n hx hb dX5_issue_38 rfl (lv_at hl 1 rfl) ?_
  refine lv_iload_n hx hb dX5_issue_39 rfl (lv_at hl 2 rfl) ?_
  have hD9 := hW.2.1
  refine pc_mcallv (va_runV (As := [.int x1]) (rest := []) ⟨hx, hb, hml, hown, hts⟩ (m_X5_closePromised l D cA NL c (V_X3_setIssued c v w x1.toNatClampNeg (v 1 x1.toNatClampNeg 1)) (W_X3_setIssued c v w x1.toNatClampNeg (v 1 x1.toNatClampNeg 1)) u ad A x1 hM hBd ) (cwV 1 hts gX5_issue_X5_closePromised rfl rfl rfl (by decide +kernel) ⟨Nat.le_of_ble_eq_true rfl, Nat.le_of_ble_eq_true rfl⟩) (pc_preV pcN_ok hX hW.1 hM.1 rfl rfl ⟨hW.1, hW.2.1, fun q h => hA q (Nat.le_trans hW.2.2.1 h)⟩) rfl rfl hl.1 rfl (lv_room (Nat.le_of_ble_eq_true rfl)) dX5_issue_40 ⟨Nat.le_of_ble_eq_true rfl, Nat.le_of_ble_eq_true rfl⟩) hW.2.2 (fun _ H locs _ hB hS9 => ?_)
  have hW : pcS D vwCl A s.heap NL ad (ctO cA c (V_X5_closePromised c (V_X3_setIssued c v w x1.toNatClampNeg (v 1 x1.toNatClampNeg 1)) (W_X3_setIssued c v w x1.toNatClampNeg (v 1 x1.toNatClampNeg 1)) x1) (W_X3_setIssued c v w x1.toNatClampNeg (v 1 x1.toNatClampNeg 1)) u ad) H locs := ⟨hB, pcD_ct hD9, hS9⟩
  refine lv_aload_n hx hb dX5_issue_43 rfl (lv_at hl 1 rfl) ?_
  have hD9 := hW.2.1
  refine pc_mcalli (va_runV (As := []) (rest := []) ⟨hx, hb, hml, hown, hts⟩ (m_X5_stopUnfit l D cA NL c (V_X5_closePromised c (V_X3_setIssued c v w x1.toNatClampNeg (v 1 x1.toNatClampNeg 1)) (W_X3_setIssued c v w x1.toNatClampNeg (v 1 x1.toNatClampNeg 1)) x1) (W_X3_setIssued c v w x1.toNatClampNeg (v 1 x1.toNatClampNeg 1)) u ad A  hM hBd (wf_closePromised (wf_setIssued hF)) ) (cwV 0 hts gX5_issue_X5_stopUnfit rfl rfl rfl (by decide +kernel) ⟨Nat.le_of_ble_eq_true rfl, Nat.le_of_ble_eq_true rfl⟩) (pc_preV pcN_ok hX hW.1 hM.1 rfl rfl ⟨hW.1, hW.2.1, fun q h => hA q (Nat.le_trans hW.2.2.1 h)⟩) rfl rfl hl.1 rfl (lv_room (Nat.le_of_ble_eq_true rfl)) dX5_issue_44 ⟨Nat.le_of_ble_eq_true rfl, Nat.le_of_ble_eq_true rfl⟩) hW.2.2 (fun r294 _ H locs hwr294 hB hS9 => ?_)
  replace hwr294 := hwr294.symm
  subst hwr294
  have hW : pcS D vwCl A s.heap NL ad (ctO cA c (V_X5_stopUnfit c (V_X5_closePromised c (V_X3_setIssued c v w x1.toNatClampNeg (v 1 x1.toNatClampNeg 1)) (W_X3_setIssued c v w x1.toNatClampNeg (v 1 x1.toNatClampNeg 1)) x1) (W_X3_setIssued c v w x1.toNatClampNeg (v 1 x1.toNatClampNeg 1))) (W_X3_setIssued c v w x1.toNatClampNeg (v 1 x1.toNatClampNeg 1)) u ad) H locs := ⟨hB, pcD_ct hD9, hS9⟩
  have e9v : V_X5_issue c v w x1 = (V_X5_stopUnfit c (V_X5_closePromised c (V_X3_setIssued c v w x1.toNatClampNeg (v 1 x1.toNatClampNeg 1)) (W_X3_setIssued c v w x1.toNatClampNeg (v 1 x1.toNatClampNeg 1)) x1) (W_X3_setIssued c v w x1.toNatClampNeg (v 1 x1.toNatClampNeg 1))) := rfl
  have e9w : W_X5_issue c v w x1 = (W_X3_setIssued c v w x1.toNatClampNeg (v 1 x1.toNatClampNeg 1)) := rfl
  exact W.iret (v := (F_X5_stopUnfit c (V_X5_closePromised c (V_X3_setIssued c v w x1.toNatClampNeg (v 1 x1.toNatClampNeg 1)) (W_X3_setIssued c v w x1.toNatClampNeg (v 1 x1.toNatClampNeg 1)) x1) (W_X3_setIssued c v w x1.toNatClampNeg (v 1 x1.toNatClampNeg 1)))) hx hb hr (fun t ht hW9 => ⟨⟨(F_X5_stopUnfit c (V_X5_closePromised c (V_X3_setIssued c v w x1.toNatClampNeg (v 1 x1.toNatClampNeg 1)) (W_X3_setIssued c v w x1.toNatClampNeg (v 1 x1.toNatClampNeg 1)) x1) (W_X3_setIssued c v w x1.toNatClampNeg (v 1 x1.toNatClampNeg 1))), (), rfl, rfl, (by show va_P D vwCl (pcW NL ad (ctO cA c (V_X5_issue c v w x1) (W_X5_issue c v w x1) u ad)) t.heap; rw [e9v]; rw [e9w]; rw [ht]; exact hW.1)⟩, hW.2.2.F ht⟩) hW.2.2.2.2 dX5_issue_47

def F_X5_revise (c : SC) (v : SV) (w : SW) (x1 : Int32) : Int32 := ((V_X3_beginRevision c v w x1.toNatClampNeg) 1 x1.toNatClampNeg 1)
def V_X5_revise (c : SC) (v : SV) (w : SW) (x1 : Int32) : SV := (V_X3_beginRevision c v w x1.toNatClampNeg)
def W_X5_revise (c : SC) (v : SV) (w : SW) (x1 : Int32) : SW := (W_X3_beginRevision c v w x1.toNatClampNeg)

set_option maxHeartbeats 4000000 in
set_option maxRecDepth 100000 in
theorem m_X5_revise (l : Launch) (D : va_G) (cA : Nat → ClassId) (NL : List (Nat × Nat)) (c : SC) (v : SV) (w : SW) (u : Nat → Int32) (ad : Nat → Nat → Nat) (A : Nat → Prop) (x1 : Int32) (hM : MEM c NL) (hBd : BND c) (hF : WF c v) (h1n : ¬ x1 < 0) (h1 : x1.toNatClampNeg < c 0) (hs : F_X3_lastStatus c v w x1.toNatClampNeg = 2) (h16 : v 1 x1.toNatClampNeg 1 + 1 < 6) : Met l yX5_revise wsX5_revise ({ frames := 2, cells := 0, slots := 0, locals := 41 }) (pcPre D vwCl (tyL cA) [.ref (ad 5 0), .int x1] (fun H => va_P D vwCl (pcW NL ad (ctO cA c v w u ad)) H ∧ va_D A (pcW NL ad (ctO cA c v w u ad)) ∧ ∀ q, H.size ≤ q → A q)) (va_Qi (fun (r : Int32) (_ : Unit) => r = F_X5_revise c v w x1) (fun (_ : Unit) t => va_P D vwCl (pcW NL ad (ctO cA c (V_X5_revise c v w x1) (W_X5_revise c v w x1) u ad)) t.heap) A) 0 0 A := by
  refine Met.ofW (cc := cX5_revise) (maxL := 3) (ret := (some .int)) (by decide) rfl ?_
  intro p e s m args below meth c0 s₁ B hml hv
  obtain ⟨rfl, hX, hP0, hD, hA⟩ := hv
  have hx := B.exec
  have hb := B.bytes
  have hr := B.returns
  have hts := atoms_spec (ws := wsX5_revise) B.pre
  have hown : s.vm.findClass RX5 = some m.cls := findClass_of_methodNamed B.named
  have hlocks := B.notSynchronized
  have hW : pcS D vwCl A s.heap NL ad (ctO cA c v w u ad) s.heap [] := ⟨hP0, hD, va_S.rf⟩
  have hl := lv_entry ([.ref (ad 5 0), .int x1]) (n := 3) (Nat.le_of_ble_eq_true rfl)
  rw [lg_entry_eq]
  generalize (lg_sl ([.ref (ad 5 0), .int x1]) ++ List.replicate (3 - (lg_sl ([.ref (ad 5 0), .int x1])).length) Slot.unset).toArray = ls at hl ⊢
  have hl : lv_has ls 3 [(0, .ref (ad 5 0)), (1, .int x1)] := hl
  refine lv_aload_n hx hb dX5_revise_0 rfl (lv_at hl 0 rfl) ?_
  refine lv_iload_n hx hb dX5_revise_1 rfl (lv_at hl 1 rfl) ?_
  refine pc_rcallv (va_runV (As := [.int x1]) (rest := []) ⟨hx, hb, hml, hown, hts⟩ (r_X5_requireSheet l D cA NL c v w u ad x1 hM hBd hF h1n h1) (cwV 1 hts gX5_revise_X5_requireSheet rfl rfl rfl (by decide +kernel) ⟨Nat.le_of_ble_eq_true rfl, Nat.le_of_ble_eq_true rfl⟩) (pc_preV pcN_ok hX hW.1 hM.1 rfl rfl hW.1) rfl rfl hl.1 rfl (lv_room (Nat.le_of_ble_eq_true rfl)) dX5_revise_2 ⟨Nat.le_of_ble_eq_true rfl, Nat.le_of_ble_eq_true rfl⟩) hW (fun H locs _ hW => ?_)
  refine lv_aload_n hx hb dX5_revise_5 rfl (lv_at hl 0 rfl) ?_
  refine pc_get (C := RX5) (T := TX5) (N := 13) (ci := 5) hx hb hts (by decide +kernel) hown hX.1 hW.1 5 0 hM.1 rfl rfl 0 (by decide) (hts (.fieldLink RX5 11 "DraftsmanOffice" "sheets" "[LDraftsmanOffice$Sheet;") (by decide +kernel)) (fun _ h9 => h9) rfl dX5_revise_6 ?_
  refine lv_iload_n hx hb dX5_revise_9 rfl (lv_at hl 1 rfl) ?_
  refine pc_aald (r := .ref (ad 1 x1.toNatClampNeg)) hx hb hX.1 hW.1 50 0 3 (hM.2.1 50 (by decide) (by decide)) rfl rfl rfl (fun q => q.elim h1n (fun q => absurd (Nat.lt_of_lt_of_le h1 hBd.1) (Nat.not_lt.mpr q))) (by rw [sRf_in h1]; rfl) dX5_revise_10 ?_
  refine lv_astore_n (lv' := [(2, .ref (ad 1 x1.toNatClampNeg)), (0, .ref (ad 5 0)), (1, .int x1)]) hx hb dX5_revise_11 rfl hl (by decide) rfl (fun ls hl => ?_)
  refine lv_aload_n hx hb dX5_revise_12 rfl (lv_at hl 0 rfl) ?_
  refine pc_rcalli (va_runVN (As := []) (rest := []) ⟨hx, hb, hml, hown, hts⟩ (r_X3_lastStatus l D cA NL c v w u ad x1.toNatClampNeg hM hBd h1) ⟨va_cnB 0 hts gX5_revise_X3_lastStatus_n97 rfl rfl rfl (hX.2.1 (.methodLinkNest RX5 97 yX3_lastStatus R_host) (by decide +kernel)) (hts (.initialized RX3) (by decide +kernel)) (by decide +kernel) ⟨Nat.le_of_ble_eq_true rfl, Nat.le_of_ble_eq_true rfl⟩, hts (.instanceMethod yX3_lastStatus) (by decide +kernel), hts (.selects RX3 yX3_lastStatus yX3_lastStatus) (by decide +kernel)⟩ (pc_preV pcN_ok hX hW.1 (hM.2.2.2.1 x1.toNatClampNeg h1).1 rfl rfl hW.1) rfl rfl hl.1 rfl (lv_room (Nat.le_of_ble_eq_true rfl)) dX5_revise_13 ⟨Nat.le_of_ble_eq_true rfl, Nat.le_of_ble_eq_true rfl⟩) hW (fun r296 H locs hwr296 hW => ?_)
  replace hwr296 := hwr296.symm
  subst hwr296
  refine lv_iconst (v := 2) hx hb dX5_revise_16 (by decide) ?_
  refine lv_icmp_ne (tgt := 31) hx hb dX5_revise_17 (by decide) (fun c297 => absurd c297 (fun q => q hs)) (fun _ => ?_)
  refine lv_aload_n hx hb dX5_revise_20 rfl (lv_at hl 0 rfl) ?_
  refine pc_getN (C := RX3) (T := TX3) (N := 10) (ci := 3) hx hb hts (by decide +kernel) hown hX.1 hW.1 1 x1.toNatClampNeg (hM.2.2.2.1 x1.toNatClampNeg h1).1 rfl rfl 3 (by decide) (hX.2.1 (.fieldLinkNest RX5 115 "DraftsmanOffice$Sheet" "last" "I" R_host) (by decide +kernel)) (fun _ h9 => h9) rfl dX5_revise_21 ?_
  refine lv_iconst (v := 1) hx hb dX5_revise_24 (by decide) ?_
  refine lv_iadd hx hb dX5_revise_25 ?_
  refine lv_bipush (v := 6) hx hb dX5_revise_26 (by decide) ?_
  refine lv_icmp_lt (tgt := 41) hx hb dX5_revise_28 (by decide) (fun _ => ?_) (fun c298 => absurd h16 c298)
  refine lv_aload_n hx hb dX5_revise_41 rfl (lv_at hl 0 rfl) ?_
  have hD9 := hW.2.1
  refine pc_mcallv (va_runVN (As := []) (rest := []) ⟨hx, hb, hml, hown, hts⟩ (m_X3_beginRevision l D cA NL c v w u ad A x1.toNatClampNeg hM hBd hF h1 h16) ⟨va_cnB 0 hts gX5_revise_X3_beginRevision_n120 rfl rfl rfl (hX.2.1 (.methodLinkNest RX5 120 yX3_beginRevision R_host) (by decide +kernel)) (hts (.initialized RX3) (by decide +kernel)) (by decide +kernel) ⟨Nat.le_of_ble_eq_true rfl, Nat.le_of_ble_eq_true rfl⟩, hts (.instanceMethod yX3_beginRevision) (by decide +kernel), hts (.selects RX3 yX3_beginRevision yX3_beginRevision) (by decide +kernel)⟩ (pc_preV pcN_ok hX hW.1 (hM.2.2.2.1 x1.toNatClampNeg h1).1 rfl rfl ⟨hW.1, hW.2.1, fun q h => hA q (Nat.le_trans hW.2.2.1 h)⟩) rfl rfl hl.1 rfl (lv_room (Nat.le_of_ble_eq_true rfl)) dX5_revise_42 ⟨Nat.le_of_ble_eq_true rfl, Nat.le_of_ble_eq_true rfl⟩) hW.2.2 (fun _ H locs _ hB hS9 => ?_)
  have hW : pcS D vwCl A s.heap NL ad (ctO cA c (V_X3_beginRevision c v w x1.toNatClampNeg) (W_X3_beginRevision c v w x1.toNatClampNeg) u ad) H locs := ⟨hB, pcD_ct hD9, hS9⟩
  refine lv_aload_n hx hb dX5_revise_45 rfl (lv_at hl 0 rfl) ?_
  refine pc_getN (C := RX3) (T := TX3) (N := 10) (ci := 3) hx hb hts (by decide +kernel) hown hX.1 hW.1 1 x1.toNatClampNeg (hM.2.2.2.1 x1.toNatClampNeg h1).1 rfl rfl 3 (by decide) (hX.2.1 (.fieldLinkNest RX5 115 "DraftsmanOffice$Sheet" "last" "I" R_host) (by decide +kernel)) (fun _ h9 => h9) rfl dX5_revise_46 ?_
  have e9v : V_X5_revise c v w x1 = (V_X3_beginRevision c v w x1.toNatClampNeg) := rfl
  have e9w : W_X5_revise c v w x1 = (W_X3_beginRevision c v w x1.toNatClampNeg) := rfl
  exact W.iret (v := ((V_X3_beginRevision c v w x1.toNatClampNeg) 1 x1.toNatClampNeg 1)) hx hb hr (fun t ht hW9 => ⟨⟨((V_X3_beginRevision c v w x1.toNatClampNeg) 1 x1.toNatClampNeg 1), (), rfl, rfl, (by show va_P D vwCl (pcW NL ad (ctO cA c (V_X5_revise c v w x1) (W_X5_revise c v w x1) u ad)) t.heap; rw [e9v]; rw [e9w]; rw [ht]; exact hW.1)⟩, hW.2.2.F ht⟩) hW.2.2.2.2 dX5_revise_49

def F_X5_receive (c : SC) (v : SV) (w : SW) (x1 x2 : Int32) : Int32 := (F_X5_takeLater c (uV v 3 x1.toNatClampNeg 1 ((v 3 x1.toNatClampNeg 1) &&& (((1 : Int32) <<< (x2 &&& 31)) ^^^ (-1 : Int32)))) w x1.toNatClampNeg x2.toNatClampNeg)
def V_X5_receive (c : SC) (v : SV) (w : SW) (x1 x2 : Int32) : SV := (V_X5_takeLater c (uV v 3 x1.toNatClampNeg 1 ((v 3 x1.toNatClampNeg 1) &&& (((1 : Int32) <<< (x2 &&& 31)) ^^^ (-1 : Int32)))) w x1.toNatClampNeg x2.toNatClampNeg)

set_option maxHeartbeats 4000000 in
set_option maxRecDepth 100000 in
theorem m_X5_receive (l : Launch) (D : va_G) (cA : Nat → ClassId) (NL : List (Nat × Nat)) (c : SC) (v : SV) (w : SW) (u : Nat → Int32) (ad : Nat → Nat → Nat) (A : Nat → Prop) (x1 x2 : Int32) (hM : MEM c NL) (hBd : BND c) (hF : WF c v) (h1n : ¬ x1 < 0) (h1 : x1.toNatClampNeg < c 2) (g1 : ¬ x2 < 0) (g2 : x2 < 4) (hs : ¬ F_X5_isIn (v 3 x1.toNatClampNeg 1) x2 = 0) : Met l yX5_receive wsX5_receive ({ frames := 1, cells := 0, slots := 0, locals := 23 }) (pcPre D vwCl (tyL cA) [.ref (ad 5 0), .int x1, .int x2] (fun H => va_P D vwCl (pcW NL ad (ctO cA c v w u ad)) H ∧ va_D A (pcW NL ad (ctO cA c v w u ad)) ∧ ∀ q, H.size ≤ q → A q)) (va_Qi (fun (r : Int32) (_ : Unit) => r = F_X5_receive c v w x1 x2) (fun (_ : Unit) t => va_P D vwCl (pcW NL ad (ctO cA c (V_X5_receive c v w x1 x2) w u ad)) t.heap) A) 0 0 A := by
  refine Met.ofW (cc := cX5_receive) (maxL := 4) (ret := (some .int)) (by decide) rfl ?_
  intro p e s m args below meth c0 s₁ B hml hv
  obtain ⟨rfl, hX, hP0, hD, hA⟩ := hv
  have hx := B.exec
  have hb := B.bytes
  have hr := B.returns
  have hts := atoms_spec (ws := wsX5_receive) B.pre
  have hown : s.vm.findClass RX5 = some m.cls := findClass_of_methodNamed B.named
  have hlocks := B.notSynchronized
  have hW : pcS D vwCl A s.heap NL ad (ctO cA c v w u ad) s.heap [] := ⟨hP0, hD, va_S.rf⟩
  have hl := lv_entry ([.ref (ad 5 0), .int x1, .int x2]) (n := 4) (Nat.le_of_ble_eq_true rfl)
  rw [lg_entry_eq]
  generalize (lg_sl ([.ref (ad 5 0), .int x1, .int x2]) ++ List.replicate (4 - (lg_sl ([.ref (ad 5 0), .int x1, .int x2])).length) Slot.unset).toArray = ls at hl ⊢
  have hl : lv_has ls 4 [(0, .ref (ad 5 0)), (1, .int x1), (2, .int x2)] := hl
  refine lv_iload_n hx hb dX5_receive_0 rfl (lv_at hl 1 rfl) ?_
  refine lv_if_lt (tgt := 12) hx hb dX5_receive_1 (by decide) (fun c300 => absurd c300 h1n) (fun _ => ?_)
  refine lv_iload_n hx hb dX5_receive_4 rfl (lv_at hl 1 rfl) ?_
  refine lv_aload_n hx hb dX5_receive_5 rfl (lv_at hl 0 rfl) ?_
  refine pc_get (C := RX5) (T := TX5) (N := 13) (ci := 5) hx hb hts (by decide +kernel) hown hX.1 hW.1 5 0 hM.1 rfl rfl 9 (by decide) (hts (.fieldLink RX5 55 "DraftsmanOffice" "sendingCount" "I") (by decide +kernel)) (fun _ h9 => h9) rfl dX5_receive_6 ?_
  refine lv_icmp_lt (tgt := 22) hx hb dX5_receive_9 (by decide) (fun _ => ?_) (fun c301 => absurd (lt_nI h1n h1 (Nat.lt_of_le_of_lt hBd.2.2.1 (by decide))) c301)
  refine lv_iload_n hx hb dX5_receive_22 rfl (lv_at hl 2 rfl) ?_
  refine pc_rcallv (va_runS (As := [.int x2]) (rest := []) ⟨hx, hb, hml, hown, hts⟩ (r_X5_requireCrew l D cA x2 g1 g2) (va_cwS 1 hts gX5_receive_X5_requireCrew rfl rfl rfl (by decide +kernel) ⟨Nat.le_of_ble_eq_true rfl, Nat.le_of_ble_eq_true rfl⟩) (pc_preS pcN_ok hX trivial) rfl rfl hl.1 rfl (lv_room (Nat.le_of_ble_eq_true rfl)) dX5_receive_23 ⟨Nat.le_of_ble_eq_true rfl, Nat.le_of_ble_eq_true rfl⟩) hW (fun H locs _ hW => ?_)
  refine lv_aload_n hx hb dX5_receive_26 rfl (lv_at hl 0 rfl) ?_
  refine pc_get (C := RX5) (T := TX5) (N := 13) (ci := 5) hx hb hts (by decide +kernel) hown hX.1 hW.1 5 0 hM.1 rfl rfl 2 (by decide) (hts (.fieldLink RX5 23 "DraftsmanOffice" "sendings" "[LDraftsmanOffice$Sending;") (by decide +kernel)) (fun _ h9 => h9) rfl dX5_receive_27 ?_
  refine lv_iload_n hx hb dX5_receive_30 rfl (lv_at hl 1 rfl) ?_
  refine pc_aald (r := .ref (ad 3 x1.toNatClampNeg)) hx hb hX.1 hW.1 52 0 5 (hM.2.1 52 (by decide) (by decide)) rfl rfl rfl (fun q => q.elim h1n (fun q => absurd (Nat.lt_of_lt_of_le h1 hBd.2.2.1) (Nat.not_lt.mpr q))) (by rw [sRf_in h1]; rfl) dX5_receive_31 ?_
  refine lv_astore_n (lv' := [(3, .ref (ad 3 x1.toNatClampNeg)), (0, .ref (ad 5 0)), (1, .int x1), (2, .int x2)]) hx hb dX5_receive_32 rfl hl (by decide) rfl (fun ls hl => ?_)
  refine lv_aload_n hx hb dX5_receive_33 rfl (lv_at hl 0 rfl) ?_
  refine pc_getN (C := RX2) (T := TX2) (N := 3) (ci := 2) hx hb hts (by decide +kernel) hown hX.1 hW.1 3 x1.toNatClampNeg (hM.2.2.2.2.2.1 x1.toNatClampNeg h1).1 rfl rfl 2 (by decide) (hX.2.1 (.fieldLinkNest RX5 213 "DraftsmanOffice$Sending" "awaitedBy" "I" R_host) (by decide +kernel)) (fun _ h9 => h9) rfl dX5_receive_34 ?_
  refine lv_iload_n hx hb dX5_receive_37 rfl (lv_at hl 3 rfl) ?_
  refine pc_rcalli (va_runS (As := [.int (v 3 x1.toNatClampNeg 1), .int x2]) (rest := []) ⟨hx, hb, hml, hown, hts⟩ (r_X5_isIn l D cA (v 3 x1.toNatClampNeg 1) x2 ) (va_cwS 2 hts gX5_receive_X5_isIn rfl rfl rfl (by decide +kernel) ⟨Nat.le_of_ble_eq_true rfl, Nat.le_of_ble_eq_true rfl⟩) (pc_preS pcN_ok hX trivial) rfl rfl hl.1 rfl (lv_room (Nat.le_of_ble_eq_true rfl)) dX5_receive_38 ⟨Nat.le_of_ble_eq_true rfl, Nat.le_of_ble_eq_true rfl⟩) hW (fun r303 H locs hwr303 hW => ?_)
  replace hwr303 := hwr303.symm
  subst hwr303
  refine lv_if_ne (tgt := 54) hx hb dX5_receive_41 (by decide) (fun _ => ?_) (fun c304 => absurd c304 hs)
  refine lv_aload_n hx hb dX5_receive_54 rfl (lv_at hl 0 rfl) ?_
  refine lv_dup hx hb dX5_receive_55 rfl ?_
  refine pc_getN (C := RX2) (T := TX2) (N := 3) (ci := 2) hx hb hts (by decide +kernel) hown hX.1 hW.1 3 x1.toNatClampNeg (hM.2.2.2.2.2.1 x1.toNatClampNeg h1).1 rfl rfl 2 (by decide) (hX.2.1 (.fieldLinkNest RX5 213 "DraftsmanOffice$Sending" "awaitedBy" "I" R_host) (by decide +kernel)) (fun _ h9 => h9) rfl dX5_receive_56 ?_
  refine lv_iconst (v := 1) hx hb dX5_receive_59 (by decide) ?_
  refine lv_iload_n hx hb dX5_receive_60 rfl (lv_at hl 3 rfl) ?_
  refine lv_ishl hx hb dX5_receive_61 ?_
  refine lv_iconst (v := -1) hx hb dX5_receive_62 (by decide) ?_
  refine lv_ixor hx hb dX5_receive_63 ?_
  refine lv_iand hx hb dX5_receive_64 ?_
  refine pc_putN (v := .int ((v 3 x1.toNatClampNeg 1) &&& (((1 : Int32) <<< (x2 &&& 31)) ^^^ (-1 : Int32)))) (C := RX2) (T := TX2) (N := 3) (ci := 2) (ty := .int) hx hb hts (by decide +kernel) tyX2 tyX2_ok nmX2 hown hX.1 hW 3 x1.toNatClampNeg (hM.2.2.2.2.2.1 x1.toNatClampNeg h1).1 rfl rfl 2 (by decide) (hX.2.1 (.fieldLinkNest RX5 213 "DraftsmanOffice$Sending" "awaitedBy" "I" R_host) (by decide +kernel)) (fun _ h9 => h9) rfl (by decide +kernel) rfl rfl (Nat.le_of_ble_eq_true rfl) dX5_receive_65 (fun H locs hW => ?_)
  have hW : pcS D vwCl A s.heap NL ad (ctO cA c (uV v 3 x1.toNatClampNeg 1 ((v 3 x1.toNatClampNeg 1) &&& (((1 : Int32) <<< (x2 &&& 31)) ^^^ (-1 : Int32)))) w u ad) H locs := pcS_eq hW ctO_put_3_2
  refine lv_aload_n hx hb dX5_receive_68 rfl (lv_at hl 0 rfl) ?_
  refine lv_aload_n hx hb dX5_receive_69 rfl (lv_at hl 1 rfl) ?_
  refine pc_get (C := RX5) (T := TX5) (N := 13) (ci := 5) hx hb hts (by decide +kernel) hown hX.1 hW.1 5 0 hM.1 rfl rfl 5 (by decide) (hts (.fieldLink RX5 41 "DraftsmanOffice" "crewHas" "[[I") (by decide +kernel)) (fun _ h9 => h9) rfl dX5_receive_70 ?_
  refine lv_iload_n hx hb dX5_receive_73 rfl (lv_at hl 3 rfl) ?_
  refine pc_aald (r := .ref (ad 57 x2.toNatClampNeg)) hx hb hX.1 hW.1 55 0 2 (hM.2.1 55 (by decide) (by decide)) rfl rfl rfl (fun q => q.elim g1 (fun q => absurd (by have h4 := Int32.lt_iff_toInt_lt.mp g2; obtain ⟨j, hj, rfl⟩ := nI_of g1; rw [nI_clamp hj]; rw [nI_toInt hj] at h4; have h5 : (4 : Int32).toInt = 4 := (by decide); omega) (Nat.not_lt.mpr q))) (by rw [sRf_in (by have h4 := Int32.lt_iff_toInt_lt.mp g2; obtain ⟨j, hj, rfl⟩ := nI_of g1; rw [nI_clamp hj]; rw [nI_toInt hj] at h4; have h5 : (4 : Int32).toInt = 4 := (by decide); omega)]; rfl) dX5_receive_74 ?_
  have hD9 := hW.2.1
  refine pc_mcalli (va_runS (As := [.ref (ad 3 x1.toNatClampNeg), .ref (ad 57 x2.toNatClampNeg)]) (rest := []) ⟨hx, hb, hml, hown, hts⟩ (m_X5_takeLater l D cA NL c (uV v 3 x1.toNatClampNeg 1 ((v 3 x1.toNatClampNeg 1) &&& (((1 : Int32) <<< (x2 &&& 31)) ^^^ (-1 : Int32)))) w u ad A x1.toNatClampNeg x2.toNatClampNeg hM hBd h1 (by have h4 := Int32.lt_iff_toInt_lt.mp g2; obtain ⟨j, hj, rfl⟩ := nI_of g1; rw [nI_clamp hj]; rw [nI_toInt hj] at h4; have h5 : (4 : Int32).toInt = 4 := (by decide); omega)) (va_cwS 2 hts gX5_receive_X5_takeLater rfl rfl rfl (by decide +kernel) ⟨Nat.le_of_ble_eq_true rfl, Nat.le_of_ble_eq_true rfl⟩) (pc_preS pcN_ok hX ⟨hW.1, hW.2.1, fun q h => hA q (Nat.le_trans hW.2.2.1 h)⟩) rfl rfl hl.1 rfl (lv_room (Nat.le_of_ble_eq_true rfl)) dX5_receive_75 ⟨Nat.le_of_ble_eq_true rfl, Nat.le_of_ble_eq_true rfl⟩) hW.2.2 (fun r305 _ H locs hwr305 hB hS9 => ?_)
  replace hwr305 := hwr305.symm
  subst hwr305
  have hW : pcS D vwCl A s.heap NL ad (ctO cA c (V_X5_takeLater c (uV v 3 x1.toNatClampNeg 1 ((v 3 x1.toNatClampNeg 1) &&& (((1 : Int32) <<< (x2 &&& 31)) ^^^ (-1 : Int32)))) w x1.toNatClampNeg x2.toNatClampNeg) w u ad) H locs := ⟨hB, pcD_ct hD9, hS9⟩
  have e9v : V_X5_receive c v w x1 x2 = (V_X5_takeLater c (uV v 3 x1.toNatClampNeg 1 ((v 3 x1.toNatClampNeg 1) &&& (((1 : Int32) <<< (x2 &&& 31)) ^^^ (-1 : Int32)))) w x1.toNatClampNeg x2.toNatClampNeg) := rfl
  exact W.iret (v := (F_X5_takeLater c (uV v 3 x1.toNatClampNeg 1 ((v 3 x1.toNatClampNeg 1) &&& (((1 : Int32) <<< (x2 &&& 31)) ^^^ (-1 : Int32)))) w x1.toNatClampNeg x2.toNatClampNeg)) hx hb hr (fun t ht hW9 => ⟨⟨(F_X5_takeLater c (uV v 3 x1.toNatClampNeg 1 ((v 3 x1.toNatClampNeg 1) &&& (((1 : Int32) <<< (x2 &&& 31)) ^^^ (-1 : Int32)))) w x1.toNatClampNeg x2.toNatClampNeg), (), rfl, rfl, (by show va_P D vwCl (pcW NL ad (ctO cA c (V_X5_receive c v w x1 x2) w u ad)) t.heap; rw [e9v]; rw [ht]; exact hW.1)⟩, hW.2.2.F ht⟩) hW.2.2.2.2 dX5_receive_78

def F_X5_place (c : SC) (v : SV) (w : SW) (x1 x2 x3 x4 x5 : Int32) : Int32 := (F_X5_fieldsOf ((uW w 7 x1.toNatClampNeg 0 (F_X5_regionOf x2 x3 x4 x5)) 7 x1.toNatClampNeg 0))
def V_X5_place (c : SC) (v : SV) (w : SW) (x1 x2 x3 x4 x5 : Int32) : SV := (V_X5_stopUnfit c v (uW w 7 x1.toNatClampNeg 0 (F_X5_regionOf x2 x3 x4 x5)))
def W_X5_place (c : SC) (v : SV) (w : SW) (x1 x2 x3 x4 x5 : Int32) : SW := (uW w 7 x1.toNatClampNeg 0 (F_X5_regionOf x2 x3 x4 x5))

set_option maxHeartbeats 4000000 in
set_option maxRecDepth 100000 in
theorem m_X5_place (l : Launch) (D : va_G) (cA : Nat → ClassId) (NL : List (Nat × Nat)) (c : SC) (v : SV) (w : SW) (u : Nat → Int32) (ad : Nat → Nat → Nat) (A : Nat → Prop) (x1 x2 x3 x4 x5 : Int32) (hM : MEM c NL) (hBd : BND c) (hF : WF c v) (h1n : ¬ x1 < 0) (h1 : x1.toNatClampNeg < c 4) (g1 : ¬ x2 < 0) (g2 : ¬ x4 < x2) (g3 : ¬ 20 ≤ x4) (g4 : ¬ x3 < 0) (g5 : ¬ x5 < x3) (g6 : x5 < 20) (hs : ¬ v 7 x1.toNatClampNeg 3 = 3) : Met l yX5_place wsX5_place ({ frames := 7, cells := 0, slots := 0, locals := 163 }) (pcPre D vwCl (tyL cA) [.ref (ad 5 0), .int x1, .int x2, .int x3, .int x4, .int x5] (fun H => va_P D vwCl (pcW NL ad (ctO cA c v w u ad)) H ∧ va_D A (pcW NL ad (ctO cA c v w u ad)) ∧ ∀ q, H.size ≤ q → A q)) (va_Qi (fun (r : Int32) (_ : Unit) => r = F_X5_place c v w x1 x2 x3 x4 x5) (fun (_ : Unit) t => va_P D vwCl (pcW NL ad (ctO cA c (V_X5_place c v w x1 x2 x3 x4 x5) (W_X5_place c v w x1 x2 x3 x4 x5) u ad)) t.heap) A) 0 0 A := by
  refine Met.ofW (cc := cX5_place) (maxL := 7) (ret := (some .int)) (by decide) rfl ?_
  intro p e s m args below meth c0 s₁ B hml hv
  obtain ⟨rfl, hX, hP0, hD, hA⟩ := hv
  have hx := B.exec
  have hb := B.bytes
  have hr := B.returns
  have hts := atoms_spec (ws := wsX5_place) B.pre
  have hown : s.vm.findClass RX5 = some m.cls := findClass_of_methodNamed B.named
  have hlocks := B.notSynchronized
  have hW : pcS D vwCl A s.heap NL ad (ctO cA c v w u ad) s.heap [] := ⟨hP0, hD, va_S.rf⟩
  have hl := lv_entry ([.ref (ad 5 0), .int x1, .int x2, .int x3, .int x4, .int x5]) (n := 7) (Nat.le_of_ble_eq_true rfl)
  rw [lg_entry_eq]
  generalize (lg_sl ([.ref (ad 5 0), .int x1, .int x2, .int x3, .int x4, .int x5]) ++ List.replicate (7 - (lg_sl ([.ref (ad 5 0), .int x1, .int x2, .int x3, .int x4, .int x5])).length) Slot.unset).toArray = ls at hl ⊢
  have hl : lv_has ls 7 [(0, .ref (ad 5 0)), (1, .int x1), (2, .int x2), (3, .int x3), (4, .int x4), (5, .int x5)] := hl
  refine lv_aload_n hx hb dX5_place_0 rfl (lv_at hl 0 rfl) ?_
  refine lv_iload_n hx hb dX5_place_1 rfl (lv_at hl 1 rfl) ?_
  refine pc_rcallv (va_runV (As := [.int x1]) (rest := []) ⟨hx, hb, hml, hown, hts⟩ (r_X5_requirePackage l D cA NL c v w u ad x1 hM hBd hF h1n h1) (cwV 1 hts gX5_place_X5_requirePackage rfl rfl rfl (by decide +kernel) ⟨Nat.le_of_ble_eq_true rfl, Nat.le_of_ble_eq_true rfl⟩) (pc_preV pcN_ok hX hW.1 hM.1 rfl rfl hW.1) rfl rfl hl.1 rfl (lv_room (Nat.le_of_ble_eq_true rfl)) dX5_place_2 ⟨Nat.le_of_ble_eq_true rfl, Nat.le_of_ble_eq_true rfl⟩) hW (fun H locs _ hW => ?_)
  refine lv_iload_n hx hb dX5_place_5 rfl (lv_at hl 2 rfl) ?_
  refine lv_iload_n hx hb dX5_place_6 rfl (lv_at hl 3 rfl) ?_
  refine lv_iload hx hb dX5_place_7 (lv_at hl 4 rfl) ?_
  refine lv_iload hx hb dX5_place_9 (lv_at hl 5 rfl) ?_
  refine pc_rcallv (va_runS (As := [.int x2, .int x3, .int x4, .int x5]) (rest := []) ⟨hx, hb, hml, hown, hts⟩ (r_X5_requireRegion l D cA x2 x3 x4 x5 g1 g2 g3 g4 g5 g6) (va_cwS 4 hts gX5_place_X5_requireRegion rfl rfl rfl (by decide +kernel) ⟨Nat.le_of_ble_eq_true rfl, Nat.le_of_ble_eq_true rfl⟩) (pc_preS pcN_ok hX trivial) rfl rfl hl.1 rfl (lv_room (Nat.le_of_ble_eq_true rfl)) dX5_place_11 ⟨Nat.le_of_ble_eq_true rfl, Nat.le_of_ble_eq_true rfl⟩) hW (fun H locs _ hW => ?_)
  refine lv_aload_n hx hb dX5_place_14 rfl (lv_at hl 0 rfl) ?_
  refine pc_get (C := RX5) (T := TX5) (N := 13) (ci := 5) hx hb hts (by decide +kernel) hown hX.1 hW.1 5 0 hM.1 rfl rfl 4 (by decide) (hts (.fieldLink RX5 35 "DraftsmanOffice" "packages" "[LDraftsmanOffice$WorkPackage;") (by decide +kernel)) (fun _ h9 => h9) rfl dX5_place_15 ?_
  refine lv_iload_n hx hb dX5_place_18 rfl (lv_at hl 1 rfl) ?_
  refine pc_aald (r := .ref (ad 7 x1.toNatClampNeg)) hx hb hX.1 hW.1 54 0 7 (hM.2.1 54 (by decide) (by decide)) rfl rfl rfl (fun q => q.elim h1n (fun q => absurd (Nat.lt_of_lt_of_le h1 hBd.2.2.2.2) (Nat.not_lt.mpr q))) (by rw [sRf_in h1]; rfl) dX5_place_19 ?_
  refine lv_astore (lv' := [(6, .ref (ad 7 x1.toNatClampNeg)), (0, .ref (ad 5 0)), (1, .int x1), (2, .int x2), (3, .int x3), (4, .int x4), (5, .int x5)]) hx hb dX5_place_20 hl (by decide) rfl (fun ls hl => ?_)
  refine lv_aload hx hb dX5_place_22 (lv_at hl 0 rfl) ?_
  refine pc_getN (C := RX4) (T := TX4) (N := 6) (ci := 4) hx hb hts (by decide +kernel) hown hX.1 hW.1 7 x1.toNatClampNeg (hM.2.2.2.2.2.2.2 x1.toNatClampNeg h1) rfl rfl 4 (by decide) (hX.2.1 (.fieldLinkNest RX5 264 "DraftsmanOffice$WorkPackage" "state" "I" R_host) (by decide +kernel)) (fun _ h9 => h9) rfl dX5_place_24 ?_
  refine lv_iconst (v := 3) hx hb dX5_place_27 (by decide) ?_
  refine lv_icmp_ne (tgt := 42) hx hb dX5_place_28 (by decide) (fun _ => ?_) (fun c308 => absurd c308 hs)
  refine lv_aload hx hb dX5_place_42 (lv_at hl 0 rfl) ?_
  refine lv_iload_n hx hb dX5_place_44 rfl (lv_at hl 3 rfl) ?_
  refine lv_iload_n hx hb dX5_place_45 rfl (lv_at hl 4 rfl) ?_
  refine lv_iload hx hb dX5_place_46 (lv_at hl 5 rfl) ?_
  refine lv_iload hx hb dX5_place_48 (lv_at hl 6 rfl) ?_
  refine pc_rcalll (va_runS (As := [.int x2, .int x3, .int x4, .int x5]) (rest := [.ref (ad 7 x1.toNatClampNeg)]) ⟨hx, hb, hml, hown, hts⟩ (r_X5_regionOf l D cA x2 x3 x4 x5 ) (va_cwS 4 hts gX5_place_X5_regionOf rfl rfl rfl (by decide +kernel) ⟨Nat.le_of_ble_eq_true rfl, Nat.le_of_ble_eq_true rfl⟩) (pc_preS pcN_ok hX trivial) rfl rfl hl.1 rfl (lv_room (Nat.le_of_ble_eq_true rfl)) dX5_place_50 ⟨Nat.le_of_ble_eq_true rfl, Nat.le_of_ble_eq_true rfl⟩) hW (fun r309 H locs hwr309 hW => ?_)
  replace hwr309 := hwr309.symm
  subst hwr309
  refine pc_putN (v := .long (F_X5_regionOf x2 x3 x4 x5)) (C := RX4) (T := TX4) (N := 6) (ci := 4) (ty := .long) hx hb hts (by decide +kernel) tyX4 tyX4_ok nmX4 hown hX.1 hW 7 x1.toNatClampNeg (hM.2.2.2.2.2.2.2 x1.toNatClampNeg h1) rfl rfl 3 (by decide) (hX.2.1 (.fieldLinkNest RX5 267 "DraftsmanOffice$WorkPackage" "region" "J" R_host) (by decide +kernel)) (fun _ h9 => h9) rfl (by decide +kernel) rfl rfl (Nat.le_of_ble_eq_true rfl) dX5_place_53 (fun H locs hW => ?_)
  have hW : pcS D vwCl A s.heap NL ad (ctO cA c v (uW w 7 x1.toNatClampNeg 0 (F_X5_regionOf x2 x3 x4 x5)) u ad) H locs := pcS_eq hW ctO_put_7_3
  refine lv_aload_n hx hb dX5_place_56 rfl (lv_at hl 1 rfl) ?_
  have hD9 := hW.2.1
  refine pc_mcalli (va_runV (As := []) (rest := []) ⟨hx, hb, hml, hown, hts⟩ (m_X5_stopUnfit l D cA NL c v (uW w 7 x1.toNatClampNeg 0 (F_X5_regionOf x2 x3 x4 x5)) u ad A  hM hBd hF ) (cwV 0 hts gX5_place_X5_stopUnfit rfl rfl rfl (by decide +kernel) ⟨Nat.le_of_ble_eq_true rfl, Nat.le_of_ble_eq_true rfl⟩) (pc_preV pcN_ok hX hW.1 hM.1 rfl rfl ⟨hW.1, hW.2.1, fun q h => hA q (Nat.le_trans hW.2.2.1 h)⟩) rfl rfl hl.1 rfl (lv_room (Nat.le_of_ble_eq_true rfl)) dX5_place_57 ⟨Nat.le_of_ble_eq_true rfl, Nat.le_of_ble_eq_true rfl⟩) hW.2.2 (fun r310 _ H locs hwr310 hB hS9 => ?_)
  replace hwr310 := hwr310.symm
  subst hwr310
  have hW : pcS D vwCl A s.heap NL ad (ctO cA c (V_X5_stopUnfit c v (uW w 7 x1.toNatClampNeg 0 (F_X5_regionOf x2 x3 x4 x5))) (uW w 7 x1.toNatClampNeg 0 (F_X5_regionOf x2 x3 x4 x5)) u ad) H locs := ⟨hB, pcD_ct hD9, hS9⟩
  refine lv_pop hx hb dX5_place_60 rfl ?_
  refine lv_aload hx hb dX5_place_61 (lv_at hl 0 rfl) ?_
  refine pc_getN (C := RX4) (T := TX4) (N := 6) (ci := 4) hx hb hts (by decide +kernel) hown hX.1 hW.1 7 x1.toNatClampNeg (hM.2.2.2.2.2.2.2 x1.toNatClampNeg h1) rfl rfl 3 (by decide) (hX.2.1 (.fieldLinkNest RX5 267 "DraftsmanOffice$WorkPackage" "region" "J" R_host) (by decide +kernel)) (fun _ h9 => h9) rfl dX5_place_63 ?_
  refine pc_rcalli (va_runS (As := [.long ((uW w 7 x1.toNatClampNeg 0 (F_X5_regionOf x2 x3 x4 x5)) 7 x1.toNatClampNeg 0)]) (rest := []) ⟨hx, hb, hml, hown, hts⟩ (r_X5_fieldsOf l D cA ((uW w 7 x1.toNatClampNeg 0 (F_X5_regionOf x2 x3 x4 x5)) 7 x1.toNatClampNeg 0) ) (va_cwS 1 hts gX5_place_X5_fieldsOf rfl rfl rfl (by decide +kernel) ⟨Nat.le_of_ble_eq_true rfl, Nat.le_of_ble_eq_true rfl⟩) (pc_preS pcN_ok hX trivial) rfl rfl hl.1 rfl (lv_room (Nat.le_of_ble_eq_true rfl)) dX5_place_66 ⟨Nat.le_of_ble_eq_true rfl, Nat.le_of_ble_eq_true rfl⟩) hW (fun r311 H locs hwr311 hW => ?_)
  replace hwr311 := hwr311.symm
  subst hwr311
  have e9v : V_X5_place c v w x1 x2 x3 x4 x5 = (V_X5_stopUnfit c v (uW w 7 x1.toNatClampNeg 0 (F_X5_regionOf x2 x3 x4 x5))) := rfl
  have e9w : W_X5_place c v w x1 x2 x3 x4 x5 = (uW w 7 x1.toNatClampNeg 0 (F_X5_regionOf x2 x3 x4 x5)) := rfl
  exact W.iret (v := (F_X5_fieldsOf ((uW w 7 x1.toNatClampNeg 0 (F_X5_regionOf x2 x3 x4 x5)) 7 x1.toNatClampNeg 0))) hx hb hr (fun t ht hW9 => ⟨⟨(F_X5_fieldsOf ((uW w 7 x1.toNatClampNeg 0 (F_X5_regionOf x2 x3 x4 x5)) 7 x1.toNatClampNeg 0)), (), rfl, rfl, (by show va_P D vwCl (pcW NL ad (ctO cA c (V_X5_place c v w x1 x2 x3 x4 x5) (W_X5_place c v w x1 x2 x3 x4 x5) u ad)) t.heap; rw [e9v]; rw [e9w]; rw [ht]; exact hW.1)⟩, hW.2.2.F ht⟩) hW.2.2.2.2 dX5_place_69

def F_X5_start (c : SC) (v : SV) (w : SW) (x1 : Int32) : Int32 := (v 7 x1.toNatClampNeg 2)
def V_X5_start (c : SC) (v : SV) (w : SW) (x1 : Int32) : SV := (uV v 7 x1.toNatClampNeg 3 1)

set_option maxHeartbeats 4000000 in
set_option maxRecDepth 100000 in
theorem m_X5_start (l : Launch) (D : va_G) (cA : Nat → ClassId) (NL : List (Nat × Nat)) (c : SC) (v : SV) (w : SW) (u : Nat → Int32) (ad : Nat → Nat → Nat) (A : Nat → Prop) (x1 : Int32) (hM : MEM c NL) (hBd : BND c) (hF : WF c v) (h1n : ¬ x1 < 0) (h1 : x1.toNatClampNeg < c 4) (hs : ¬ F_X4_isAtRest c v w x1.toNatClampNeg = 0) (hu : F_X5_firstUnfit c v w x1.toNatClampNeg (v 57 (v 7 x1.toNatClampNeg 0).toNatClampNeg) = -1) : Met l yX5_start wsX5_start ({ frames := 5, cells := 0, slots := 0, locals := 118 }) (pcPre D vwCl (tyL cA) [.ref (ad 5 0), .int x1] (fun H => va_P D vwCl (pcW NL ad (ctO cA c v w u ad)) H ∧ va_D A (pcW NL ad (ctO cA c v w u ad)) ∧ ∀ q, H.size ≤ q → A q)) (va_Qi (fun (r : Int32) (_ : Unit) => r = F_X5_start c v w x1) (fun (_ : Unit) t => va_P D vwCl (pcW NL ad (ctO cA c (V_X5_start c v w x1) w u ad)) t.heap) A) 0 0 A := by
  refine Met.ofW (cc := cX5_start) (maxL := 3) (ret := (some .int)) (by decide) rfl ?_
  intro p e s m args below meth c0 s₁ B hml hv
  obtain ⟨rfl, hX, hP0, hD, hA⟩ := hv
  have hx := B.exec
  have hb := B.bytes
  have hr := B.returns
  have hts := atoms_spec (ws := wsX5_start) B.pre
  have hown : s.vm.findClass RX5 = some m.cls := findClass_of_methodNamed B.named
  have hlocks := B.notSynchronized
  have hW : pcS D vwCl A s.heap NL ad (ctO cA c v w u ad) s.heap [] := ⟨hP0, hD, va_S.rf⟩
  have hl := lv_entry ([.ref (ad 5 0), .int x1]) (n := 3) (Nat.le_of_ble_eq_true rfl)
  rw [lg_entry_eq]
  generalize (lg_sl ([.ref (ad 5 0), .int x1]) ++ List.replicate (3 - (lg_sl ([.ref (ad 5 0), .int x1])).length) Slot.unset).toArray = ls at hl ⊢
  have hl : lv_has ls 3 [(0, .ref (ad 5 0)), (1, .int x1)] := hl
  refine lv_aload_n hx hb dX5_start_0 rfl (lv_at hl 0 rfl) ?_
  refine lv_iload_n hx hb dX5_start_1 rfl (lv_at hl 1 rfl) ?_
  refine pc_rcallv (va_runV (As := [.int x1]) (rest := []) ⟨hx, hb, hml, hown, hts⟩ (r_X5_requirePackage l D cA NL c v w u ad x1 hM hBd hF h1n h1) (cwV 1 hts gX5_start_X5_requirePackage rfl rfl rfl (by decide +kernel) ⟨Nat.le_of_ble_eq_true rfl, Nat.le_of_ble_eq_true rfl⟩) (pc_preV pcN_ok hX hW.1 hM.1 rfl rfl hW.1) rfl rfl hl.1 rfl (lv_room (Nat.le_of_ble_eq_true rfl)) dX5_start_2 ⟨Nat.le_of_ble_eq_true rfl, Nat.le_of_ble_eq_true rfl⟩) hW (fun H locs _ hW => ?_)
  refine lv_aload_n hx hb dX5_start_5 rfl (lv_at hl 0 rfl) ?_
  refine pc_get (C := RX5) (T := TX5) (N := 13) (ci := 5) hx hb hts (by decide +kernel) hown hX.1 hW.1 5 0 hM.1 rfl rfl 4 (by decide) (hts (.fieldLink RX5 35 "DraftsmanOffice" "packages" "[LDraftsmanOffice$WorkPackage;") (by decide +kernel)) (fun _ h9 => h9) rfl dX5_start_6 ?_
  refine lv_iload_n hx hb dX5_start_9 rfl (lv_at hl 1 rfl) ?_
  refine pc_aald (r := .ref (ad 7 x1.toNatClampNeg)) hx hb hX.1 hW.1 54 0 7 (hM.2.1 54 (by decide) (by decide)) rfl rfl rfl (fun q => q.elim h1n (fun q => absurd (Nat.lt_of_lt_of_le h1 hBd.2.2.2.2) (Nat.not_lt.mpr q))) (by rw [sRf_in h1]; rfl) dX5_start_10 ?_
  refine lv_astore_n (lv' := [(2, .ref (ad 7 x1.toNatClampNeg)), (0, .ref (ad 5 0)), (1, .int x1)]) hx hb dX5_start_11 rfl hl (by decide) rfl (fun ls hl => ?_)
  refine lv_aload_n hx hb dX5_start_12 rfl (lv_at hl 0 rfl) ?_
  refine pc_rcalli (va_runVN (As := []) (rest := []) ⟨hx, hb, hml, hown, hts⟩ (r_X4_isAtRest l D cA NL c v w u ad x1.toNatClampNeg hM hBd h1) ⟨va_cnB 0 hts gX5_start_X4_isAtRest_n270 rfl rfl rfl (hX.2.1 (.methodLinkNest RX5 270 yX4_isAtRest R_host) (by decide +kernel)) (hts (.initialized RX4) (by decide +kernel)) (by decide +kernel) ⟨Nat.le_of_ble_eq_true rfl, Nat.le_of_ble_eq_true rfl⟩, hts (.instanceMethod yX4_isAtRest) (by decide +kernel), hts (.selects RX4 yX4_isAtRest yX4_isAtRest) (by decide +kernel)⟩ (pc_preV pcN_ok hX hW.1 (hM.2.2.2.2.2.2.2 x1.toNatClampNeg h1) rfl rfl hW.1) rfl rfl hl.1 rfl (lv_room (Nat.le_of_ble_eq_true rfl)) dX5_start_13 ⟨Nat.le_of_ble_eq_true rfl, Nat.le_of_ble_eq_true rfl⟩) hW (fun r313 H locs hwr313 hW => ?_)
  replace hwr313 := hwr313.symm
  subst hwr313
  refine lv_if_eq (tgt := 37) hx hb dX5_start_16 (by decide) (fun c314 => absurd c314 hs) (fun _ => ?_)
  refine lv_aload_n hx hb dX5_start_19 rfl (lv_at hl 1 rfl) ?_
  refine lv_aload_n hx hb dX5_start_20 rfl (lv_at hl 0 rfl) ?_
  refine lv_aload_n hx hb dX5_start_21 rfl (lv_at hl 1 rfl) ?_
  refine pc_get (C := RX5) (T := TX5) (N := 13) (ci := 5) hx hb hts (by decide +kernel) hown hX.1 hW.1 5 0 hM.1 rfl rfl 5 (by decide) (hts (.fieldLink RX5 41 "DraftsmanOffice" "crewHas" "[[I") (by decide +kernel)) (fun _ h9 => h9) rfl dX5_start_22 ?_
  refine lv_aload_n hx hb dX5_start_25 rfl (lv_at hl 0 rfl) ?_
  refine pc_getN (C := RX4) (T := TX4) (N := 6) (ci := 4) hx hb hts (by decide +kernel) hown hX.1 hW.1 7 x1.toNatClampNeg (hM.2.2.2.2.2.2.2 x1.toNatClampNeg h1) rfl rfl 0 (by decide) (hX.2.1 (.fieldLinkNest RX5 274 "DraftsmanOffice$WorkPackage" "crew" "I" R_host) (by decide +kernel)) (fun _ h9 => h9) rfl dX5_start_26 ?_
  refine pc_aald (r := .ref (ad 57 ((v 7 x1.toNatClampNeg 0).toNatClampNeg))) hx hb hX.1 hW.1 55 0 2 (hM.2.1 55 (by decide) (by decide)) rfl rfl rfl (fun q => q.elim (hF.2.1 x1.toNatClampNeg h1).1 (fun q => absurd (hF.2.1 x1.toNatClampNeg h1).2 (Nat.not_lt.mpr q))) (by rw [sRf_in (hF.2.1 x1.toNatClampNeg h1).2]; rfl) dX5_start_29 ?_
  refine pc_rcalli (va_runV (As := [.ref (ad 7 x1.toNatClampNeg), .ref (ad 57 ((v 7 x1.toNatClampNeg 0).toNatClampNeg))]) (rest := []) ⟨hx, hb, hml, hown, hts⟩ (r_X5_firstUnfit l D cA NL c v w u ad x1.toNatClampNeg 57 ((v 7 x1.toNatClampNeg 0).toNatClampNeg) (v 57 ((v 7 x1.toNatClampNeg 0).toNatClampNeg)) hM hBd hF h1 (hM.2.2.1 ((v 7 x1.toNatClampNeg 0).toNatClampNeg) (hF.2.1 x1.toNatClampNeg h1).2) rfl) (cwV 2 hts gX5_start_X5_firstUnfit rfl rfl rfl (by decide +kernel) ⟨Nat.le_of_ble_eq_true rfl, Nat.le_of_ble_eq_true rfl⟩) (pc_preV pcN_ok hX hW.1 hM.1 rfl rfl hW.1) rfl rfl hl.1 rfl (lv_room (Nat.le_of_ble_eq_true rfl)) dX5_start_30 ⟨Nat.le_of_ble_eq_true rfl, Nat.le_of_ble_eq_true rfl⟩) hW (fun r315 H locs hwr315 hW => ?_)
  replace hwr315 := hwr315.symm
  subst hwr315
  refine lv_iconst (v := -1) hx hb dX5_start_33 (by decide) ?_
  refine lv_icmp_eq (tgt := 48) hx hb dX5_start_34 (by decide) (fun _ => ?_) (fun c316 => absurd hu c316)
  refine lv_aload_n hx hb dX5_start_48 rfl (lv_at hl 0 rfl) ?_
  refine lv_iconst (v := 1) hx hb dX5_start_49 (by decide) ?_
  refine pc_putN (v := .int 1) (C := RX4) (T := TX4) (N := 6) (ci := 4) (ty := .int) hx hb hts (by decide +kernel) tyX4 tyX4_ok nmX4 hown hX.1 hW 7 x1.toNatClampNeg (hM.2.2.2.2.2.2.2 x1.toNatClampNeg h1) rfl rfl 4 (by decide) (hX.2.1 (.fieldLinkNest RX5 264 "DraftsmanOffice$WorkPackage" "state" "I" R_host) (by decide +kernel)) (fun _ h9 => h9) rfl (by decide +kernel) rfl rfl (Nat.le_of_ble_eq_true rfl) dX5_start_50 (fun H locs hW => ?_)
  have hW : pcS D vwCl A s.heap NL ad (ctO cA c (uV v 7 x1.toNatClampNeg 3 1) w u ad) H locs := pcS_eq hW ctO_put_7_4
  refine lv_aload_n hx hb dX5_start_53 rfl (lv_at hl 0 rfl) ?_
  refine pc_getN (C := RX4) (T := TX4) (N := 6) (ci := 4) hx hb hts (by decide +kernel) hown hX.1 hW.1 7 x1.toNatClampNeg (hM.2.2.2.2.2.2.2 x1.toNatClampNeg h1) rfl rfl 2 (by decide) (hX.2.1 (.fieldLinkNest RX5 283 "DraftsmanOffice$WorkPackage" "daysLeft" "I" R_host) (by decide +kernel)) (fun _ h9 => h9) rfl dX5_start_54 ?_
  have e9v : V_X5_start c v w x1 = (uV v 7 x1.toNatClampNeg 3 1) := rfl
  exact W.iret (v := (v 7 x1.toNatClampNeg 2)) hx hb hr (fun t ht hW9 => ⟨⟨(v 7 x1.toNatClampNeg 2), (), rfl, rfl, (by show va_P D vwCl (pcW NL ad (ctO cA c (V_X5_start c v w x1) w u ad)) t.heap; rw [e9v]; rw [ht]; exact hW.1)⟩, hW.2.2.F ht⟩) hW.2.2.2.2 dX5_start_57

def F_X5_draw (c : SC) (v : SV) (w : SW) (x1 x2 x3 x4 x5 x6 : Int32) : Int32 := (F_X5_fieldsOf (F_X5_regionOf x2 x3 x4 x5))
def V_X5_draw (c : SC) (v : SV) (w : SW) (x1 x2 x3 x4 x5 x6 : Int32) : SV := (V_X3_drawLast c v w x1.toNatClampNeg (F_X5_regionOf x2 x3 x4 x5) x6)
def W_X5_draw (c : SC) (v : SV) (w : SW) (x1 x2 x3 x4 x5 x6 : Int32) : SW := (W_X3_drawLast c v w x1.toNatClampNeg (F_X5_regionOf x2 x3 x4 x5) x6)

set_option maxHeartbeats 4000000 in
set_option maxRecDepth 100000 in
theorem m_X5_draw (l : Launch) (D : va_G) (cA : Nat → ClassId) (NL : List (Nat × Nat)) (c : SC) (v : SV) (w : SW) (u : Nat → Int32) (ad : Nat → Nat → Nat) (A : Nat → Prop) (x1 x2 x3 x4 x5 x6 : Int32) (hM : MEM c NL) (hBd : BND c) (hF : WF c v) (h1n : ¬ x1 < 0) (h1 : x1.toNatClampNeg < c 0) (g1 : ¬ x2 < 0) (g2 : ¬ x4 < x2) (g3 : ¬ 20 ≤ x4) (g4 : ¬ x3 < 0) (g5 : ¬ x5 < x3) (g6 : x5 < 20) (g7 : ¬ x6 < 0) (g8 : x6 ≤ 255) (hs : F_X3_lastStatus c v w x1.toNatClampNeg = 0) : Met l yX5_draw wsX5_draw ({ frames := 2, cells := 0, slots := 0, locals := 44 }) (pcPre D vwCl (tyL cA) [.ref (ad 5 0), .int x1, .int x2, .int x3, .int x4, .int x5, .int x6] (fun H => va_P D vwCl (pcW NL ad (ctO cA c v w u ad)) H ∧ va_D A (pcW NL ad (ctO cA c v w u ad)) ∧ ∀ q, H.size ≤ q → A q)) (va_Qi (fun (r : Int32) (_ : Unit) => r = F_X5_draw c v w x1 x2 x3 x4 x5 x6) (fun (_ : Unit) t => va_P D vwCl (pcW NL ad (ctO cA c (V_X5_draw c v w x1 x2 x3 x4 x5 x6) (W_X5_draw c v w x1 x2 x3 x4 x5 x6) u ad)) t.heap) A) 0 0 A := by
  refine Met.ofW (cc := cX5_draw) (maxL := 10) (ret := (some .int)) (by decide) rfl ?_
  intro p e s m args below meth c0 s₁ B hml hv
  obtain ⟨rfl, hX, hP0, hD, hA⟩ := hv
  have hx := B.exec
  have hb := B.bytes
  have hr := B.returns
  have hts := atoms_spec (ws := wsX5_draw) B.pre
  have hown : s.vm.findClass RX5 = some m.cls := findClass_of_methodNamed B.named
  have hlocks := B.notSynchronized
  have hW : pcS D vwCl A s.heap NL ad (ctO cA c v w u ad) s.heap [] := ⟨hP0, hD, va_S.rf⟩
  have hl := lv_entry ([.ref (ad 5 0), .int x1, .int x2, .int x3, .int x4, .int x5, .int x6]) (n := 10) (Nat.le_of_ble_eq_true rfl)
  rw [lg_entry_eq]
  generalize (lg_sl ([.ref (ad 5 0), .int x1, .int x2, .int x3, .int x4, .int x5, .int x6]) ++ List.replicate (10 - (lg_sl ([.ref (ad 5 0), .int x1, .int x2, .int x3, .int x4, .int x5, .int x6])).length) Slot.unset).toArray = ls at hl ⊢
  have hl : lv_has ls 10 [(0, .ref (ad 5 0)), (1, .int x1), (2, .int x2), (3, .int x3), (4, .int x4), (5, .int x5), (6, .int x6)] := hl
  refine lv_aload_n hx hb dX5_draw_0 rfl (lv_at hl 0 rfl) ?_
  refine lv_iload_n hx hb dX5_draw_1 rfl (lv_at hl 1 rfl) ?_
  refine pc_rcallv (va_runV (As := [.int x1]) (rest := []) ⟨hx, hb, hml, hown, hts⟩ (r_X5_requireSheet l D cA NL c v w u ad x1 hM hBd hF h1n h1) (cwV 1 hts gX5_draw_X5_requireSheet rfl rfl rfl (by decide +kernel) ⟨Nat.le_of_ble_eq_true rfl, Nat.le_of_ble_eq_true rfl⟩) (pc_preV pcN_ok hX hW.1 hM.1 rfl rfl hW.1) rfl rfl hl.1 rfl (lv_room (Nat.le_of_ble_eq_true rfl)) dX5_draw_2 ⟨Nat.le_of_ble_eq_true rfl, Nat.le_of_ble_eq_true rfl⟩) hW (fun H locs _ hW => ?_)
  refine lv_iload_n hx hb dX5_draw_5 rfl (lv_at hl 2 rfl) ?_
  refine lv_iload_n hx hb dX5_draw_6 rfl (lv_at hl 3 rfl) ?_
  refine lv_iload hx hb dX5_draw_7 (lv_at hl 4 rfl) ?_
  refine lv_iload hx hb dX5_draw_9 (lv_at hl 5 rfl) ?_
  refine pc_rcallv (va_runS (As := [.int x2, .int x3, .int x4, .int x5]) (rest := []) ⟨hx, hb, hml, hown, hts⟩ (r_X5_requireRegion l D cA x2 x3 x4 x5 g1 g2 g3 g4 g5 g6) (va_cwS 4 hts gX5_draw_X5_requireRegion rfl rfl rfl (by decide +kernel) ⟨Nat.le_of_ble_eq_true rfl, Nat.le_of_ble_eq_true rfl⟩) (pc_preS pcN_ok hX trivial) rfl rfl hl.1 rfl (lv_room (Nat.le_of_ble_eq_true rfl)) dX5_draw_11 ⟨Nat.le_of_ble_eq_true rfl, Nat.le_of_ble_eq_true rfl⟩) hW (fun H locs _ hW => ?_)
  refine lv_iload hx hb dX5_draw_14 (lv_at hl 6 rfl) ?_
  refine lv_if_lt (tgt := 27) hx hb dX5_draw_16 (by decide) (fun c319 => absurd c319 g7) (fun _ => ?_)
  refine lv_iload hx hb dX5_draw_19 (lv_at hl 6 rfl) ?_
  refine lv_sipush (v := 255) hx hb dX5_draw_21 (by decide) ?_
  refine lv_icmp_le (tgt := 37) hx hb dX5_draw_24 (by decide) (fun _ => ?_) (fun c320 => absurd g8 c320)
  refine lv_aload_n hx hb dX5_draw_37 rfl (lv_at hl 0 rfl) ?_
  refine pc_get (C := RX5) (T := TX5) (N := 13) (ci := 5) hx hb hts (by decide +kernel) hown hX.1 hW.1 5 0 hM.1 rfl rfl 0 (by decide) (hts (.fieldLink RX5 11 "DraftsmanOffice" "sheets" "[LDraftsmanOffice$Sheet;") (by decide +kernel)) (fun _ h9 => h9) rfl dX5_draw_38 ?_
  refine lv_iload_n hx hb dX5_draw_41 rfl (lv_at hl 1 rfl) ?_
  refine pc_aald (r := .ref (ad 1 x1.toNatClampNeg)) hx hb hX.1 hW.1 50 0 3 (hM.2.1 50 (by decide) (by decide)) rfl rfl rfl (fun q => q.elim h1n (fun q => absurd (Nat.lt_of_lt_of_le h1 hBd.1) (Nat.not_lt.mpr q))) (by rw [sRf_in h1]; rfl) dX5_draw_42 ?_
  refine lv_astore (lv' := [(7, .ref (ad 1 x1.toNatClampNeg)), (0, .ref (ad 5 0)), (1, .int x1), (2, .int x2), (3, .int x3), (4, .int x4), (5, .int x5), (6, .int x6)]) hx hb dX5_draw_43 hl (by decide) rfl (fun ls hl => ?_)
  refine lv_aload hx hb dX5_draw_45 (lv_at hl 0 rfl) ?_
  refine pc_rcalli (va_runVN (As := []) (rest := []) ⟨hx, hb, hml, hown, hts⟩ (r_X3_lastStatus l D cA NL c v w u ad x1.toNatClampNeg hM hBd h1) ⟨va_cnB 0 hts gX5_draw_X3_lastStatus_n97 rfl rfl rfl (hX.2.1 (.methodLinkNest RX5 97 yX3_lastStatus R_host) (by decide +kernel)) (hts (.initialized RX3) (by decide +kernel)) (by decide +kernel) ⟨Nat.le_of_ble_eq_true rfl, Nat.le_of_ble_eq_true rfl⟩, hts (.instanceMethod yX3_lastStatus) (by decide +kernel), hts (.selects RX3 yX3_lastStatus yX3_lastStatus) (by decide +kernel)⟩ (pc_preV pcN_ok hX hW.1 (hM.2.2.2.1 x1.toNatClampNeg h1).1 rfl rfl hW.1) rfl rfl hl.1 rfl (lv_room (Nat.le_of_ble_eq_true rfl)) dX5_draw_47 ⟨Nat.le_of_ble_eq_true rfl, Nat.le_of_ble_eq_true rfl⟩) hW (fun r321 H locs hwr321 hW => ?_)
  replace hwr321 := hwr321.symm
  subst hwr321
  refine lv_if_eq (tgt := 63) hx hb dX5_draw_50 (by decide) (fun _ => ?_) (fun c322 => absurd hs c322)
  refine lv_iload_n hx hb dX5_draw_63 rfl (lv_at hl 3 rfl) ?_
  refine lv_iload_n hx hb dX5_draw_64 rfl (lv_at hl 4 rfl) ?_
  refine lv_iload hx hb dX5_draw_65 (lv_at hl 5 rfl) ?_
  refine lv_iload hx hb dX5_draw_67 (lv_at hl 6 rfl) ?_
  refine pc_rcalll (va_runS (As := [.int x2, .int x3, .int x4, .int x5]) (rest := []) ⟨hx, hb, hml, hown, hts⟩ (r_X5_regionOf l D cA x2 x3 x4 x5 ) (va_cwS 4 hts gX5_draw_X5_regionOf rfl rfl rfl (by decide +kernel) ⟨Nat.le_of_ble_eq_true rfl, Nat.le_of_ble_eq_true rfl⟩) (pc_preS pcN_ok hX trivial) rfl rfl hl.1 rfl (lv_room (Nat.le_of_ble_eq_true rfl)) dX5_draw_69 ⟨Nat.le_of_ble_eq_true rfl, Nat.le_of_ble_eq_true rfl⟩) hW (fun r323 H locs hwr323 hW => ?_)
  replace hwr323 := hwr323.symm
  subst hwr323
  refine lv_lstore (lv' := [(8, .long (F_X5_regionOf x2 x3 x4 x5)), (7, .ref (ad 1 x1.toNatClampNeg)), (0, .ref (ad 5 0)), (1, .int x1), (2, .int x2), (3, .int x3), (4, .int x4), (5, .int x5), (6, .int x6)]) hx hb dX5_draw_72 hl (by decide) rfl (fun ls hl => ?_)
  refine lv_aload hx hb dX5_draw_74 (lv_at hl 1 rfl) ?_
  refine lv_lload hx hb dX5_draw_76 (lv_at hl 0 rfl) ?_
  refine lv_iload hx hb dX5_draw_78 (lv_at hl 8 rfl) ?_
  have hD9 := hW.2.1
  refine pc_mcallv (va_runVN (As := [.long (F_X5_regionOf x2 x3 x4 x5), .int x6]) (rest := []) ⟨hx, hb, hml, hown, hts⟩ (m_X3_drawLast l D cA NL c v w u ad A x1.toNatClampNeg (F_X5_regionOf x2 x3 x4 x5) x6 hM hBd hF h1) ⟨va_cnB 2 hts gX5_draw_X3_drawLast_n107 rfl rfl rfl (hX.2.1 (.methodLinkNest RX5 107 yX3_drawLast R_host) (by decide +kernel)) (hts (.initialized RX3) (by decide +kernel)) (by decide +kernel) ⟨Nat.le_of_ble_eq_true rfl, Nat.le_of_ble_eq_true rfl⟩, hts (.instanceMethod yX3_drawLast) (by decide +kernel), hts (.selects RX3 yX3_drawLast yX3_drawLast) (by decide +kernel)⟩ (pc_preV pcN_ok hX hW.1 (hM.2.2.2.1 x1.toNatClampNeg h1).1 rfl rfl ⟨hW.1, hW.2.1, fun q h => hA q (Nat.le_trans hW.2.2.1 h)⟩) rfl rfl hl.1 rfl (lv_room (Nat.le_of_ble_eq_true rfl)) dX5_draw_80 ⟨Nat.le_of_ble_eq_true rfl, Nat.le_of_ble_eq_true rfl⟩) hW.2.2 (fun _ H locs _ hB hS9 => ?_)
  have hW : pcS D vwCl A s.heap NL ad (ctO cA c (V_X3_drawLast c v w x1.toNatClampNeg (F_X5_regionOf x2 x3 x4 x5) x6) (W_X3_drawLast c v w x1.toNatClampNeg (F_X5_regionOf x2 x3 x4 x5) x6) u ad) H locs := ⟨hB, pcD_ct hD9, hS9⟩
  refine lv_lload hx hb dX5_draw_83 (lv_at hl 0 rfl) ?_
  refine pc_rcalli (va_runS (As := [.long (F_X5_regionOf x2 x3 x4 x5)]) (rest := []) ⟨hx, hb, hml, hown, hts⟩ (r_X5_fieldsOf l D cA (F_X5_regionOf x2 x3 x4 x5) ) (va_cwS 1 hts gX5_draw_X5_fieldsOf rfl rfl rfl (by decide +kernel) ⟨Nat.le_of_ble_eq_true rfl, Nat.le_of_ble_eq_true rfl⟩) (pc_preS pcN_ok hX trivial) rfl rfl hl.1 rfl (lv_room (Nat.le_of_ble_eq_true rfl)) dX5_draw_85 ⟨Nat.le_of_ble_eq_true rfl, Nat.le_of_ble_eq_true rfl⟩) hW (fun r325 H locs hwr325 hW => ?_)
  replace hwr325 := hwr325.symm
  subst hwr325
  have e9v : V_X5_draw c v w x1 x2 x3 x4 x5 x6 = (V_X3_drawLast c v w x1.toNatClampNeg (F_X5_regionOf x2 x3 x4 x5) x6) := rfl
  have e9w : W_X5_draw c v w x1 x2 x3 x4 x5 x6 = (W_X3_drawLast c v w x1.toNatClampNeg (F_X5_regionOf x2 x3 x4 x5) x6) := rfl
  exact W.iret (v := (F_X5_fieldsOf (F_X5_regionOf x2 x3 x4 x5))) hx hb hr (fun t ht hW9 => ⟨⟨(F_X5_fieldsOf (F_X5_regionOf x2 x3 x4 x5)), (), rfl, rfl, (by show va_P D vwCl (pcW NL ad (ctO cA c (V_X5_draw c v w x1 x2 x3 x4 x5 x6) (W_X5_draw c v w x1 x2 x3 x4 x5 x6) u ad)) t.heap; rw [e9v]; rw [e9w]; rw [ht]; exact hW.1)⟩, hW.2.2.F ht⟩) hW.2.2.2.2 dX5_draw_88

theorem wfe_workADay {c : SC} {v : SV} {w : SW} {i : Nat} (j : Nat) : V_X4_workADay c v w i 2 j 1 = v 2 j 1 ∧ V_X4_workADay c v w i 7 j 0 = v 7 j 0 ∧ V_X4_workADay c v w i 1 j 1 = v 1 j 1 := by
  unfold V_X4_workADay
  repeat' split
  all_goals exact ⟨rfl, rfl, rfl⟩

def VL_X5_day (c : SC) (v : SV) (w : SW)   : Nat → Nat → SV → SV
  | 0, _, Vs330 => Vs330
  | k327 + 1, i326, Vs330 => VL_X5_day c v w k327 (i326 + 1) (if (Vs330 7 i326 3) = (1 : Int32) then (if ((V_X4_workADay (uC c 5 ((c 5) + 1)) Vs330 w i326) 7 i326 3) = (3 : Int32) then (V_X5_mark (uC c 5 ((c 5) + 1)) (V_X4_workADay (uC c 5 ((c 5) + 1)) Vs330 w i326) w ((V_X4_workADay (uC c 5 ((c 5) + 1)) Vs330 w i326) 7 i326 1)) else (V_X4_workADay (uC c 5 ((c 5) + 1)) Vs330 w i326)) else Vs330)
def FL_X5_day (c : SC) (v : SV) (w : SW)   : Nat → Nat → SV → Int32 → Int32
  | 0, _, _, s328 => s328
  | k327 + 1, i326, Vs330, s328 => FL_X5_day c v w k327 (i326 + 1) (if (Vs330 7 i326 3) = (1 : Int32) then (if ((V_X4_workADay (uC c 5 ((c 5) + 1)) Vs330 w i326) 7 i326 3) = (3 : Int32) then (V_X5_mark (uC c 5 ((c 5) + 1)) (V_X4_workADay (uC c 5 ((c 5) + 1)) Vs330 w i326) w ((V_X4_workADay (uC c 5 ((c 5) + 1)) Vs330 w i326) 7 i326 1)) else (V_X4_workADay (uC c 5 ((c 5) + 1)) Vs330 w i326)) else Vs330) (if (Vs330 7 i326 3) = (1 : Int32) then (if ((V_X4_workADay (uC c 5 ((c 5) + 1)) Vs330 w i326) 7 i326 3) = (3 : Int32) then (s328 + 1) else s328) else s328)
def F_X5_day (c : SC) (v : SV) (w : SW)  : Int32 := (FL_X5_day c v w (c 4) 0 v (0 : Int32))
def V_X5_day (c : SC) (v : SV) (w : SW)  : SV := (V_X5_stopUnfit (uC c 5 ((c 5) + 1)) (VL_X5_day c v w (c 4) 0 v) w)

theorem wfl_day {c : SC} {v : SV} {w : SW}  : ∀ (k i : Nat) (V : SV) (j : Nat), VL_X5_day c v w k i V 2 j 1 = V 2 j 1 ∧ VL_X5_day c v w k i V 7 j 0 = V 7 j 0 ∧ VL_X5_day c v w k i V 1 j 1 = V 1 j 1 := by
  intro k
  induction k with
  | zero => intro i V j; exact ⟨rfl, rfl, rfl⟩
  | succ k ih =>
    intro i V j
    have e : VL_X5_day c v w (k + 1) i V = VL_X5_day c v w k (i + 1) _ := rfl
    rw [e, (ih (i + 1) _ j).1, (ih (i + 1) _ j).2.1, (ih (i + 1) _ j).2.2]
    repeat' split
    all_goals first | exact ⟨rfl, rfl, rfl⟩ | skip
    all_goals (have e1 := wfe_workADay (c := uC c 5 (c 5 + 1)) (v := V) (w := w) (i := i) j; first | exact e1 | (have e2 := wfl_mark (c := uC c 5 (c 5 + 1)) (v := V_X4_workADay (uC c 5 (c 5 + 1)) V w i) (w := w) (x1 := (V_X4_workADay (uC c 5 (c 5 + 1)) V w i) 7 i 1) (c 0) 0 (V_X4_workADay (uC c 5 (c 5 + 1)) V w i) j; exact ⟨e2.1.trans e1.1, e2.2.1.trans e1.2.1, e2.2.2.trans e1.2.2⟩))
theorem wf_day {c : SC} {v : SV} {w : SW} (h : WF c v) : WF c (VL_X5_day c v w (c 4) 0 v) := WF_of h (fun j => wfl_day (c := c) (v := v) (w := w) _ _ _ j)
set_option maxHeartbeats 4000000 in
set_option maxRecDepth 100000 in
theorem m_X5_day (l : Launch) (D : va_G) (cA : Nat → ClassId) (NL : List (Nat × Nat)) (c : SC) (v : SV) (w : SW) (u : Nat → Int32) (ad : Nat → Nat → Nat) (A : Nat → Prop)  (hM : MEM c NL) (hBd : BND c) (hF : WF c v) : Met l yX5_day wsX5_day ({ frames := 7, cells := 0, slots := 0, locals := 163 }) (pcPre D vwCl (tyL cA) [.ref (ad 5 0)] (fun H => va_P D vwCl (pcW NL ad (ctO cA c v w u ad)) H ∧ va_D A (pcW NL ad (ctO cA c v w u ad)) ∧ ∀ q, H.size ≤ q → A q)) (va_Qi (fun (r : Int32) (_ : Unit) => r = F_X5_day c v w) (fun (_ : Unit) t => va_P D vwCl (pcW NL ad (ctO cA (uC c 5 (c 5 + 1)) (V_X5_day c v w) w u ad)) t.heap) A) 0 0 A := by
  refine Met.ofW (cc := cX5_day) (maxL := 4) (ret := (some .int)) (by decide) rfl ?_
  intro p e s m args below meth c0 s₁ B hml hv
  obtain ⟨rfl, hX, hP0, hD, hA⟩ := hv
  have hx := B.exec
  have hb := B.bytes
  have hr := B.returns
  have hts := atoms_spec (ws := wsX5_day) B.pre
  have hown : s.vm.findClass RX5 = some m.cls := findClass_of_methodNamed B.named
  have hlocks := B.notSynchronized
  have hW : pcS D vwCl A s.heap NL ad (ctO cA c v w u ad) s.heap [] := ⟨hP0, hD, va_S.rf⟩
  have hl := lv_entry ([.ref (ad 5 0)]) (n := 4) (Nat.le_of_ble_eq_true rfl)
  rw [lg_entry_eq]
  generalize (lg_sl ([.ref (ad 5 0)]) ++ List.replicate (4 - (lg_sl ([.ref (ad 5 0)])).length) Slot.unset).toArray = ls at hl ⊢
  have hl : lv_has ls 4 [(0, .ref (ad 5 0))] := hl
  refine lv_aload_n hx hb dX5_day_0 rfl (lv_at hl 0 rfl) ?_
  refine lv_dup hx hb dX5_day_1 rfl ?_
  refine pc_get (C := RX5) (T := TX5) (N := 13) (ci := 5) hx hb hts (by decide +kernel) hown hX.1 hW.1 5 0 hM.1 rfl rfl 12 (by decide) (hts (.fieldLink RX5 64 "DraftsmanOffice" "today" "I") (by decide +kernel)) (fun _ h9 => h9) rfl dX5_day_2 ?_
  refine lv_iconst (v := 1) hx hb dX5_day_5 (by decide) ?_
  refine lv_iadd hx hb dX5_day_6 ?_
  rw [nI_1]
  refine pc_put (v := .int (nI ((c 5) + 1))) (C := RX5) (T := TX5) (N := 13) (ci := 5) (ty := .int) hx hb hts (by decide +kernel) tyX5 tyX5_ok nmX5 hown hX.1 hW 5 0 hM.1 rfl rfl 12 (by decide) (hts (.fieldLink RX5 64 "DraftsmanOffice" "today" "I") (by decide +kernel)) (fun _ h9 => h9) rfl (by decide +kernel) rfl rfl (Nat.le_of_ble_eq_true rfl) dX5_day_7 (fun H locs hW => ?_)
  have hW : pcS D vwCl A s.heap NL ad (ctO cA (uC c 5 ((c 5) + 1)) v w u ad) H locs := pcS_eq hW ctO_day
  refine lv_iconst (v := 0) hx hb dX5_day_10 (by decide) ?_
  refine lv_istore_n (lv' := [(1, .int 0), (0, .ref (ad 5 0))]) hx hb dX5_day_11 rfl hl (by decide) rfl (fun ls hl => ?_)
  refine lv_iconst (v := 0) hx hb dX5_day_12 (by decide) ?_
  refine lv_istore_n (lv' := [(2, .int 0), (1, .int 0), (0, .ref (ad 5 0))]) hx hb dX5_day_13 rfl hl (by decide) rfl (fun ls hl => ?_)
  have K329 : ∀ (k327 i326 : Nat) (Vs330 : SV) (s328 : Int32) (H : Heap) (locs : List Loc) (ls : Array Slot), i326 + k327 = c 4 → (VL_X5_day c v w k327 i326 Vs330) = (VL_X5_day c v w (c 4) 0 v) → (FL_X5_day c v w k327 i326 Vs330 s328) = (FL_X5_day c v w (c 4) 0 v (0 : Int32)) → pcS D vwCl A s.heap NL ad (ctO cA (uC c 5 ((c 5) + 1)) Vs330 w u ad) H locs → lv_has ls 4 [(2, .int (nI i326)), (1, .int s328), (0, .ref (ad 5 0))] → W p l e (headSpec wsX5_day ({ frames := 7, cells := 0, slots := 0, locals := 163 })).room s m ([.ref (ad 5 0)] : List Value).toArray below meth c0 H locs 0 0 (MQ below (va_Qi (fun (r : Int32) (_ : Unit) => r = F_X5_day c v w) (fun (_ : Unit) t => va_P D vwCl (pcW NL ad (ctO cA (uC c 5 (c 5 + 1)) (V_X5_day c v w) w u ad)) t.heap) A) ([.ref (ad 5 0)] : List Value).toArray s 0 0 A) (F0 m 14 ls []) := by
    intro k327
    induction k327 with
    | zero =>
      intro i326 Vs330 s328 H locs ls hk heV heF hW hl
      have ei : i326 = c 4 := by omega
      rw [ei] at hl
      obtain rfl : (VL_X5_day c v w (c 4) 0 v) = Vs330 := heV.symm
      clear heV
      obtain rfl : (FL_X5_day c v w (c 4) 0 v (0 : Int32)) = s328 := heF.symm
      clear heF
      refine lv_iload_n hx hb dX5_day_14 rfl (lv_at hl 0 rfl) ?_
      refine lv_aload_n hx hb dX5_day_15 rfl (lv_at hl 2 rfl) ?_
      refine pc_get (C := RX5) (T := TX5) (N := 13) (ci := 5) hx hb hts (by decide +kernel) hown hX.1 hW.1 5 0 hM.1 rfl rfl 11 (by decide) (hts (.fieldLink RX5 61 "DraftsmanOffice" "packageCount" "I") (by decide +kernel)) (fun _ h9 => h9) rfl dX5_day_16 ?_
      refine lv_icmp_ge (tgt := 69) hx hb dX5_day_19 (by decide) (fun _ => ?_) (fun c331 => absurd (Int32.le_refl _) c331)
      refine lv_aload_n hx hb dX5_day_69 rfl (lv_at hl 2 rfl) ?_
      have hD9 := hW.2.1
      refine pc_mcalli (va_runV (As := []) (rest := []) ⟨hx, hb, hml, hown, hts⟩ (m_X5_stopUnfit l D cA NL (uC c 5 ((c 5) + 1)) (VL_X5_day c v w (c 4) 0 v) w u ad A  hM hBd (wf_day hF) ) (cwV 0 hts gX5_day_X5_stopUnfit rfl rfl rfl (by decide +kernel) ⟨Nat.le_of_ble_eq_true rfl, Nat.le_of_ble_eq_true rfl⟩) (pc_preV pcN_ok hX hW.1 hM.1 rfl rfl ⟨hW.1, hW.2.1, fun q h => hA q (Nat.le_trans hW.2.2.1 h)⟩) rfl rfl hl.1 rfl (lv_room (Nat.le_of_ble_eq_true rfl)) dX5_day_70 ⟨Nat.le_of_ble_eq_true rfl, Nat.le_of_ble_eq_true rfl⟩) hW.2.2 (fun r332 _ H locs hwr332 hB hS9 => ?_)
      replace hwr332 := hwr332.symm
      subst hwr332
      have hW : pcS D vwCl A s.heap NL ad (ctO cA (uC c 5 ((c 5) + 1)) (V_X5_stopUnfit (uC c 5 ((c 5) + 1)) (VL_X5_day c v w (c 4) 0 v) w) w u ad) H locs := ⟨hB, pcD_ct hD9, hS9⟩
      refine lv_pop hx hb dX5_day_73 rfl ?_
      refine lv_iload_n hx hb dX5_day_74 rfl (lv_at hl 1 rfl) ?_
      have e9v : V_X5_day c v w = (V_X5_stopUnfit (uC c 5 ((c 5) + 1)) (VL_X5_day c v w (c 4) 0 v) w) := rfl
      exact W.iret (v := (FL_X5_day c v w (c 4) 0 v (0 : Int32))) hx hb hr (fun t ht hW9 => ⟨⟨(FL_X5_day c v w (c 4) 0 v (0 : Int32)), (), rfl, rfl, (by show va_P D vwCl (pcW NL ad (ctO cA (uC c 5 (c 5 + 1)) (V_X5_day c v w) w u ad)) t.heap; rw [e9v]; rw [ht]; exact hW.1)⟩, hW.2.2.F ht⟩) hW.2.2.2.2 dX5_day_75
    | succ k327 ihk327 =>
      intro i326 Vs330 s328 H locs ls hk heV heF hW hl
      have hlt : i326 < c 4 := by omega
      have hlt9i326 := hlt
      refine lv_iload_n hx hb dX5_day_14 rfl (lv_at hl 0 rfl) ?_
      refine lv_aload_n hx hb dX5_day_15 rfl (lv_at hl 2 rfl) ?_
      refine pc_get (C := RX5) (T := TX5) (N := 13) (ci := 5) hx hb hts (by decide +kernel) hown hX.1 hW.1 5 0 hM.1 rfl rfl 11 (by decide) (hts (.fieldLink RX5 61 "DraftsmanOffice" "packageCount" "I") (by decide +kernel)) (fun _ h9 => h9) rfl dX5_day_16 ?_
      refine lv_icmp_ge (tgt := 69) hx hb dX5_day_19 (by decide) (fun c333 => absurd c333 (nI_ge hlt (Nat.lt_of_le_of_lt hBd.2.2.2.2 (by decide)))) (fun _ => ?_)
      refine lv_aload_n hx hb dX5_day_22 rfl (lv_at hl 2 rfl) ?_
      refine pc_get (C := RX5) (T := TX5) (N := 13) (ci := 5) hx hb hts (by decide +kernel) hown hX.1 hW.1 5 0 hM.1 rfl rfl 4 (by decide) (hts (.fieldLink RX5 35 "DraftsmanOffice" "packages" "[LDraftsmanOffice$WorkPackage;") (by decide +kernel)) (fun _ h9 => h9) rfl dX5_day_23 ?_
      refine lv_iload_n hx hb dX5_day_26 rfl (lv_at hl 0 rfl) ?_
      refine pc_aald (r := .ref (ad 7 i326)) hx hb hX.1 hW.1 54 0 7 (hM.2.1 54 (by decide) (by decide)) rfl rfl rfl (vp_in_nI (Nat.lt_of_lt_of_le hlt9i326 hBd.2.2.2.2) (by decide)) (by rw [nI_clamp (Nat.lt_of_lt_of_le (Nat.lt_of_lt_of_le hlt9i326 hBd.2.2.2.2) (by decide)), sRf_in (n := (uC c 5 ((c 5) + 1)) 4) hlt9i326]; rfl) dX5_day_27 ?_
      refine lv_astore_n (lv' := [(3, .ref (ad 7 i326)), (2, .int (nI i326)), (1, .int s328), (0, .ref (ad 5 0))]) hx hb dX5_day_28 rfl hl (by decide) rfl (fun ls hl => ?_)
      refine lv_aload_n hx hb dX5_day_29 rfl (lv_at hl 0 rfl) ?_
      refine pc_getN (C := RX4) (T := TX4) (N := 6) (ci := 4) hx hb hts (by decide +kernel) hown hX.1 hW.1 7 i326 (hM.2.2.2.2.2.2.2 i326 hlt9i326) rfl rfl 4 (by decide) (hX.2.1 (.fieldLinkNest RX5 264 "DraftsmanOffice$WorkPackage" "state" "I" R_host) (by decide +kernel)) (fun _ h9 => h9) rfl dX5_day_30 ?_
      refine lv_iconst (v := 1) hx hb dX5_day_33 (by decide) ?_
      refine lv_icmp_eq (tgt := 40) hx hb dX5_day_34 (by decide) (fun (c334 : (Vs330 7 i326 3) = (1 : Int32)) => ?_) (fun (c334 : ¬ (Vs330 7 i326 3) = (1 : Int32)) => ?_)
      · refine lv_aload_n hx hb dX5_day_40 rfl (lv_at hl 0 rfl) ?_
        have hD9 := hW.2.1
        refine pc_mcallv (va_runVN (As := []) (rest := []) ⟨hx, hb, hml, hown, hts⟩ (m_X4_workADay l D cA NL (uC c 5 ((c 5) + 1)) Vs330 w u ad A i326 hM hBd hlt9i326) ⟨va_cnB 0 hts gX5_day_X4_workADay_n286 rfl rfl rfl (hX.2.1 (.methodLinkNest RX5 286 yX4_workADay R_host) (by decide +kernel)) (hts (.initialized RX4) (by decide +kernel)) (by decide +kernel) ⟨Nat.le_of_ble_eq_true rfl, Nat.le_of_ble_eq_true rfl⟩, hts (.instanceMethod yX4_workADay) (by decide +kernel), hts (.selects RX4 yX4_workADay yX4_workADay) (by decide +kernel)⟩ (pc_preV pcN_ok hX hW.1 (hM.2.2.2.2.2.2.2 i326 hlt9i326) rfl rfl ⟨hW.1, hW.2.1, fun q h => hA q (Nat.le_trans hW.2.2.1 h)⟩) rfl rfl hl.1 rfl (lv_room (Nat.le_of_ble_eq_true rfl)) dX5_day_41 ⟨Nat.le_of_ble_eq_true rfl, Nat.le_of_ble_eq_true rfl⟩) hW.2.2 (fun _ H locs _ hB hS9 => ?_)
        have hW : pcS D vwCl A s.heap NL ad (ctO cA (uC c 5 ((c 5) + 1)) (V_X4_workADay (uC c 5 ((c 5) + 1)) Vs330 w i326) w u ad) H locs := ⟨hB, pcD_ct hD9, hS9⟩
        refine lv_aload_n hx hb dX5_day_44 rfl (lv_at hl 0 rfl) ?_
        refine pc_getN (C := RX4) (T := TX4) (N := 6) (ci := 4) hx hb hts (by decide +kernel) hown hX.1 hW.1 7 i326 (hM.2.2.2.2.2.2.2 i326 hlt9i326) rfl rfl 4 (by decide) (hX.2.1 (.fieldLinkNest RX5 264 "DraftsmanOffice$WorkPackage" "state" "I" R_host) (by decide +kernel)) (fun _ h9 => h9) rfl dX5_day_45 ?_
        refine lv_iconst (v := 3) hx hb dX5_day_48 (by decide) ?_
        refine lv_icmp_ne (tgt := 63) hx hb dX5_day_49 (by decide) (fun (c336 : ¬ ((V_X4_workADay (uC c 5 ((c 5) + 1)) Vs330 w i326) 7 i326 3) = (3 : Int32)) => ?_) (fun (c336 : ((V_X4_workADay (uC c 5 ((c 5) + 1)) Vs330 w i326) 7 i326 3) = (3 : Int32)) => ?_)
        · refine lv_iinc (v := nI (i326 + 1)) (lv' := [(2, .int (nI (i326 + 1))), (3, .ref (ad 7 i326)), (1, .int s328), (0, .ref (ad 5 0))]) hx hb dX5_day_63 hl (k := 1) rfl (nI_1 i326) (by decide) rfl (fun ls hl => ?_)
          refine lv_goto (tgt := 14) hx hb dX5_day_66 (by decide) ?_
          have he9V : (VL_X5_day c v w k327 (i326 + 1) (V_X4_workADay (uC c 5 ((c 5) + 1)) Vs330 w i326)) = (VL_X5_day c v w (c 4) 0 v) := by rw [← heV]; show (VL_X5_day c v w k327 (i326 + 1) (V_X4_workADay (uC c 5 ((c 5) + 1)) Vs330 w i326)) = (VL_X5_day c v w (k327 + 1) i326 Vs330); simp only [VL_X5_day, if_pos c334, if_neg c336]
          have he9F : (FL_X5_day c v w k327 (i326 + 1) (V_X4_workADay (uC c 5 ((c 5) + 1)) Vs330 w i326) s328) = (FL_X5_day c v w (c 4) 0 v (0 : Int32)) := by rw [← heF]; show (FL_X5_day c v w k327 (i326 + 1) (V_X4_workADay (uC c 5 ((c 5) + 1)) Vs330 w i326) s328) = (FL_X5_day c v w (k327 + 1) i326 Vs330 s328); simp only [FL_X5_day, if_pos c334, if_neg c336]
          exact ihk327 (i326 + 1) (V_X4_workADay (uC c 5 ((c 5) + 1)) Vs330 w i326) s328 H locs ls (by omega) he9V he9F hW (lv_sub hl [0, 2, 3] rfl)
        · refine lv_iinc (v := (s328 + 1)) (lv' := [(1, .int (s328 + 1)), (3, .ref (ad 7 i326)), (2, .int (nI i326)), (0, .ref (ad 5 0))]) hx hb dX5_day_52 hl (k := 2) rfl rfl (by decide) rfl (fun ls hl => ?_)
          refine lv_aload_n hx hb dX5_day_55 rfl (lv_at hl 3 rfl) ?_
          refine lv_aload_n hx hb dX5_day_56 rfl (lv_at hl 1 rfl) ?_
          refine pc_getN (C := RX4) (T := TX4) (N := 6) (ci := 4) hx hb hts (by decide +kernel) hown hX.1 hW.1 7 i326 (hM.2.2.2.2.2.2.2 i326 hlt9i326) rfl rfl 1 (by decide) (hX.2.1 (.fieldLinkNest RX5 289 "DraftsmanOffice$WorkPackage" "sheets" "I" R_host) (by decide +kernel)) (fun _ h9 => h9) rfl dX5_day_57 ?_
          have hD9 := hW.2.1
          refine pc_mcallv (va_runV (As := [.int ((V_X4_workADay (uC c 5 ((c 5) + 1)) Vs330 w i326) 7 i326 1)]) (rest := []) ⟨hx, hb, hml, hown, hts⟩ (m_X5_mark l D cA NL (uC c 5 ((c 5) + 1)) (V_X4_workADay (uC c 5 ((c 5) + 1)) Vs330 w i326) w u ad A ((V_X4_workADay (uC c 5 ((c 5) + 1)) Vs330 w i326) 7 i326 1) hM hBd ) (cwV 1 hts gX5_day_X5_mark rfl rfl rfl (by decide +kernel) ⟨Nat.le_of_ble_eq_true rfl, Nat.le_of_ble_eq_true rfl⟩) (pc_preV pcN_ok hX hW.1 hM.1 rfl rfl ⟨hW.1, hW.2.1, fun q h => hA q (Nat.le_trans hW.2.2.1 h)⟩) rfl rfl hl.1 rfl (lv_room (Nat.le_of_ble_eq_true rfl)) dX5_day_60 ⟨Nat.le_of_ble_eq_true rfl, Nat.le_of_ble_eq_true rfl⟩) hW.2.2 (fun _ H locs _ hB hS9 => ?_)
          have hW : pcS D vwCl A s.heap NL ad (ctO cA (uC c 5 ((c 5) + 1)) (V_X5_mark (uC c 5 ((c 5) + 1)) (V_X4_workADay (uC c 5 ((c 5) + 1)) Vs330 w i326) w ((V_X4_workADay (uC c 5 ((c 5) + 1)) Vs330 w i326) 7 i326 1)) w u ad) H locs := ⟨hB, pcD_ct hD9, hS9⟩
          refine lv_iinc (v := nI (i326 + 1)) (lv' := [(2, .int (nI (i326 + 1))), (1, .int (s328 + 1)), (3, .ref (ad 7 i326)), (0, .ref (ad 5 0))]) hx hb dX5_day_63 hl (k := 2) rfl (nI_1 i326) (by decide) rfl (fun ls hl => ?_)
          refine lv_goto (tgt := 14) hx hb dX5_day_66 (by decide) ?_
          have he9V : (VL_X5_day c v w k327 (i326 + 1) (V_X5_mark (uC c 5 ((c 5) + 1)) (V_X4_workADay (uC c 5 ((c 5) + 1)) Vs330 w i326) w ((V_X4_workADay (uC c 5 ((c 5) + 1)) Vs330 w i326) 7 i326 1))) = (VL_X5_day c v w (c 4) 0 v) := by rw [← heV]; show (VL_X5_day c v w k327 (i326 + 1) (V_X5_mark (uC c 5 ((c 5) + 1)) (V_X4_workADay (uC c 5 ((c 5) + 1)) Vs330 w i326) w ((V_X4_workADay (uC c 5 ((c 5) + 1)) Vs330 w i326) 7 i326 1))) = (VL_X5_day c v w (k327 + 1) i326 Vs330); simp only [VL_X5_day, if_pos c334, if_pos c336]
          have he9F : (FL_X5_day c v w k327 (i326 + 1) (V_X5_mark (uC c 5 ((c 5) + 1)) (V_X4_workADay (uC c 5 ((c 5) + 1)) Vs330 w i326) w ((V_X4_workADay (uC c 5 ((c 5) + 1)) Vs330 w i326) 7 i326 1)) (s328 + 1)) = (FL_X5_day c v w (c 4) 0 v (0 : Int32)) := by rw [← heF]; show (FL_X5_day c v w k327 (i326 + 1) (V_X5_mark (uC c 5 ((c 5) + 1)) (V_X4_workADay (uC c 5 ((c 5) + 1)) Vs330 w i326) w ((V_X4_workADay (uC c 5 ((c 5) + 1)) Vs330 w i326) 7 i326 1)) (s328 + 1)) = (FL_X5_day c v w (k327 + 1) i326 Vs330 s328); simp only [FL_X5_day, if_pos c334, if_pos c336]
          exact ihk327 (i326 + 1) (V_X5_mark (uC c 5 ((c 5) + 1)) (V_X4_workADay (uC c 5 ((c 5) + 1)) Vs330 w i326) w ((V_X4_workADay (uC c 5 ((c 5) + 1)) Vs330 w i326) 7 i326 1)) (s328 + 1) H locs ls (by omega) he9V he9F hW (lv_sub hl [0, 1, 3] rfl)
      · refine lv_goto (tgt := 63) hx hb dX5_day_37 (by decide) ?_
        refine lv_iinc (v := nI (i326 + 1)) (lv' := [(2, .int (nI (i326 + 1))), (3, .ref (ad 7 i326)), (1, .int s328), (0, .ref (ad 5 0))]) hx hb dX5_day_63 hl (k := 1) rfl (nI_1 i326) (by decide) rfl (fun ls hl => ?_)
        refine lv_goto (tgt := 14) hx hb dX5_day_66 (by decide) ?_
        have he9V : (VL_X5_day c v w k327 (i326 + 1) Vs330) = (VL_X5_day c v w (c 4) 0 v) := by rw [← heV]; show (VL_X5_day c v w k327 (i326 + 1) Vs330) = (VL_X5_day c v w (k327 + 1) i326 Vs330); simp only [VL_X5_day, if_neg c334]
        have he9F : (FL_X5_day c v w k327 (i326 + 1) Vs330 s328) = (FL_X5_day c v w (c 4) 0 v (0 : Int32)) := by rw [← heF]; show (FL_X5_day c v w k327 (i326 + 1) Vs330 s328) = (FL_X5_day c v w (k327 + 1) i326 Vs330 s328); simp only [FL_X5_day, if_neg c334]
        exact ihk327 (i326 + 1) Vs330 s328 H locs ls (by omega) he9V he9F hW (lv_sub hl [0, 2, 3] rfl)
  exact K329 (c 4) 0 v (0 : Int32) _ _ ls (by omega) rfl rfl hW (lv_sub hl [0, 1, 2] rfl)

/-- the issued revision's region and details are the sheet's own: what is taken back stands as before -/
def RI (c : SC) (v : SV) (w : SW) : Prop := ∀ j, j < c 0 → (¬ v 1 j 3 < 0 ∧ (v 1 j 3).toNatClampNeg < 6) ∧ w 1 j 0 = w 11 j (v 1 j 3).toNatClampNeg ∧ v 1 j 4 = v 12 j (v 1 j 3).toNatClampNeg
theorem setIssued_backV {c : SC} {v : SV} {w w2 : SW} {j : Nat} {x : Int32} (h : v 1 j 4 = v 12 j (v 1 j 3).toNatClampNeg) : V_X3_setIssued c (V_X3_setIssued c v w j x) w2 j (v 1 j 3) = v := by
  funext a b d
  simp only [V_X3_setIssued, uV]
  repeat' split
  all_goals first | rfl | skip
  all_goals simp_all
theorem setIssued_backW {c : SC} {v v2 : SV} {w : SW} {j : Nat} {x : Int32} (h : w 1 j 0 = w 11 j (v 1 j 3).toNatClampNeg) : W_X3_setIssued c v2 (W_X3_setIssued c v w j x) j (v 1 j 3) = w := by
  funext a b d
  simp only [W_X3_setIssued, uW]
  repeat' split
  all_goals first | rfl | skip
  all_goals simp_all

def F_X5_stoppedBy (c : SC) (v : SV) (w : SW) (x1 : Int32) : Int32 := (if (F_X5_isReadyToIssue c v w x1) = 0 then (-1 : Int32) else (F_J6_bitCount_0f7a4 (F_X5_unfitRunning c (V_X3_setIssued c v w x1.toNatClampNeg (v 1 x1.toNatClampNeg 1)) (W_X3_setIssued c v w x1.toNatClampNeg (v 1 x1.toNatClampNeg 1)))))

set_option maxHeartbeats 4000000 in
set_option maxRecDepth 100000 in
theorem m_X5_stoppedBy (l : Launch) (D : va_G) (cA : Nat → ClassId) (NL : List (Nat × Nat)) (c : SC) (v : SV) (w : SW) (u : Nat → Int32) (ad : Nat → Nat → Nat) (A : Nat → Prop) (x1 : Int32) (hM : MEM c NL) (hBd : BND c) (hF : WF c v) (hRI : RI c v w) (h1n : ¬ x1 < 0) (h1 : x1.toNatClampNeg < c 0) : Met l yX5_stoppedBy wsX5_stoppedBy ({ frames := 6, cells := 0, slots := 0, locals := 141 }) (pcPre D vwCl (tyL cA) [.ref (ad 5 0), .int x1] (fun H => va_P D vwCl (pcW NL ad (ctO cA c v w u ad)) H ∧ va_D A (pcW NL ad (ctO cA c v w u ad)) ∧ ∀ q, H.size ≤ q → A q)) (va_Qi (fun (r : Int32) (_ : Unit) => r = F_X5_stoppedBy c v w x1) (fun (_ : Unit) t => va_P D vwCl (pcW NL ad (ctO cA c v w u ad)) t.heap) A) 0 0 A := by
  refine Met.ofW (cc := cX5_stoppedBy) (maxL := 5) (ret := (some .int)) (by decide) rfl ?_
  intro p e s m args below meth c0 s₁ B hml hv
  obtain ⟨rfl, hX, hP0, hD, hA⟩ := hv
  have hx := B.exec
  have hb := B.bytes
  have hr := B.returns
  have hts := atoms_spec (ws := wsX5_stoppedBy) B.pre
  have hown : s.vm.findClass RX5 = some m.cls := findClass_of_methodNamed B.named
  have hlocks := B.notSynchronized
  have hW : pcS D vwCl A s.heap NL ad (ctO cA c v w u ad) s.heap [] := ⟨hP0, hD, va_S.rf⟩
  have hl := lv_entry ([.ref (ad 5 0), .int x1]) (n := 5) (Nat.le_of_ble_eq_true rfl)
  rw [lg_entry_eq]
  generalize (lg_sl ([.ref (ad 5 0), .int x1]) ++ List.replicate (5 - (lg_sl ([.ref (ad 5 0), .int x1])).length) Slot.unset).toArray = ls at hl ⊢
  have hl : lv_has ls 5 [(0, .ref (ad 5 0)), (1, .int x1)] := hl
  refine lv_aload_n hx hb dX5_stoppedBy_0 rfl (lv_at hl 0 rfl) ?_
  refine lv_iload_n hx hb dX5_stoppedBy_1 rfl (lv_at hl 1 rfl) ?_
  refine pc_rcallv (va_runV (As := [.int x1]) (rest := []) ⟨hx, hb, hml, hown, hts⟩ (r_X5_requireSheet l D cA NL c v w u ad x1 hM hBd hF h1n h1) (cwV 1 hts gX5_stoppedBy_X5_requireSheet rfl rfl rfl (by decide +kernel) ⟨Nat.le_of_ble_eq_true rfl, Nat.le_of_ble_eq_true rfl⟩) (pc_preV pcN_ok hX hW.1 hM.1 rfl rfl hW.1) rfl rfl hl.1 rfl (lv_room (Nat.le_of_ble_eq_true rfl)) dX5_stoppedBy_2 ⟨Nat.le_of_ble_eq_true rfl, Nat.le_of_ble_eq_true rfl⟩) hW (fun H locs _ hW => ?_)
  refine lv_aload_n hx hb dX5_stoppedBy_5 rfl (lv_at hl 0 rfl) ?_
  refine lv_iload_n hx hb dX5_stoppedBy_6 rfl (lv_at hl 1 rfl) ?_
  refine pc_rcalli (va_runV (As := [.int x1]) (rest := []) ⟨hx, hb, hml, hown, hts⟩ (r_X5_isReadyToIssue l D cA NL c v w u ad x1 hM hBd hF h1n h1) (cwV 1 hts gX5_stoppedBy_X5_isReadyToIssue rfl rfl rfl (by decide +kernel) ⟨Nat.le_of_ble_eq_true rfl, Nat.le_of_ble_eq_true rfl⟩) (pc_preV pcN_ok hX hW.1 hM.1 rfl rfl hW.1) rfl rfl hl.1 rfl (lv_room (Nat.le_of_ble_eq_true rfl)) dX5_stoppedBy_7 ⟨Nat.le_of_ble_eq_true rfl, Nat.le_of_ble_eq_true rfl⟩) hW (fun r339 H locs hwr339 hW => ?_)
  replace hwr339 := hwr339.symm
  subst hwr339
  refine lv_if_ne (tgt := 15) hx hb dX5_stoppedBy_10 (by decide) (fun (c340 : ¬ (F_X5_isReadyToIssue c v w x1) = 0) => ?_) (fun (c340 : (F_X5_isReadyToIssue c v w x1) = 0) => ?_)
  · refine lv_aload_n hx hb dX5_stoppedBy_15 rfl (lv_at hl 0 rfl) ?_
    refine pc_get (C := RX5) (T := TX5) (N := 13) (ci := 5) hx hb hts (by decide +kernel) hown hX.1 hW.1 5 0 hM.1 rfl rfl 0 (by decide) (hts (.fieldLink RX5 11 "DraftsmanOffice" "sheets" "[LDraftsmanOffice$Sheet;") (by decide +kernel)) (fun _ h9 => h9) rfl dX5_stoppedBy_16 ?_
    refine lv_iload_n hx hb dX5_stoppedBy_19 rfl (lv_at hl 1 rfl) ?_
    refine pc_aald (r := .ref (ad 1 x1.toNatClampNeg)) hx hb hX.1 hW.1 50 0 3 (hM.2.1 50 (by decide) (by decide)) rfl rfl rfl (fun q => q.elim h1n (fun q => absurd (Nat.lt_of_lt_of_le h1 hBd.1) (Nat.not_lt.mpr q))) (by rw [sRf_in h1]; rfl) dX5_stoppedBy_20 ?_
    refine lv_astore_n (lv' := [(2, .ref (ad 1 x1.toNatClampNeg)), (0, .ref (ad 5 0)), (1, .int x1)]) hx hb dX5_stoppedBy_21 rfl hl (by decide) rfl (fun ls hl => ?_)
    refine lv_aload_n hx hb dX5_stoppedBy_22 rfl (lv_at hl 0 rfl) ?_
    refine pc_getN (C := RX3) (T := TX3) (N := 10) (ci := 3) hx hb hts (by decide +kernel) hown hX.1 hW.1 1 x1.toNatClampNeg (hM.2.2.2.1 x1.toNatClampNeg h1).1 rfl rfl 5 (by decide) (hX.2.1 (.fieldLinkNest RX5 156 "DraftsmanOffice$Sheet" "issued" "I" R_host) (by decide +kernel)) (fun _ h9 => h9) rfl dX5_stoppedBy_23 ?_
    refine lv_istore_n (lv' := [(3, .int (v 1 x1.toNatClampNeg 3)), (2, .ref (ad 1 x1.toNatClampNeg)), (0, .ref (ad 5 0)), (1, .int x1)]) hx hb dX5_stoppedBy_26 rfl hl (by decide) rfl (fun ls hl => ?_)
    refine lv_aload_n hx hb dX5_stoppedBy_27 rfl (lv_at hl 1 rfl) ?_
    refine lv_aload_n hx hb dX5_stoppedBy_28 rfl (lv_at hl 1 rfl) ?_
    refine pc_getN (C := RX3) (T := TX3) (N := 10) (ci := 3) hx hb hts (by decide +kernel) hown hX.1 hW.1 1 x1.toNatClampNeg (hM.2.2.2.1 x1.toNatClampNeg h1).1 rfl rfl 3 (by decide) (hX.2.1 (.fieldLinkNest RX5 115 "DraftsmanOffice$Sheet" "last" "I" R_host) (by decide +kernel)) (fun _ h9 => h9) rfl dX5_stoppedBy_29 ?_
    have hD9 := hW.2.1
    refine pc_mcallv (va_runVN (As := [.int (v 1 x1.toNatClampNeg 1)]) (rest := []) ⟨hx, hb, hml, hown, hts⟩ (m_X3_setIssued l D cA NL c v w u ad A x1.toNatClampNeg (v 1 x1.toNatClampNeg 1) hM hBd h1 (hF.2.2 x1.toNatClampNeg h1).1 (hF.2.2 x1.toNatClampNeg h1).2) ⟨va_cnB 1 hts gX5_stoppedBy_X3_setIssued_n137 rfl rfl rfl (hX.2.1 (.methodLinkNest RX5 137 yX3_setIssued R_host) (by decide +kernel)) (hts (.initialized RX3) (by decide +kernel)) (by decide +kernel) ⟨Nat.le_of_ble_eq_true rfl, Nat.le_of_ble_eq_true rfl⟩, hts (.instanceMethod yX3_setIssued) (by decide +kernel), hts (.selects RX3 yX3_setIssued yX3_setIssued) (by decide +kernel)⟩ (pc_preV pcN_ok hX hW.1 (hM.2.2.2.1 x1.toNatClampNeg h1).1 rfl rfl ⟨hW.1, hW.2.1, fun q h => hA q (Nat.le_trans hW.2.2.1 h)⟩) rfl rfl hl.1 rfl (lv_room (Nat.le_of_ble_eq_true rfl)) dX5_stoppedBy_32 ⟨Nat.le_of_ble_eq_true rfl, Nat.le_of_ble_eq_true rfl⟩) hW.2.2 (fun _ H locs _ hB hS9 => ?_)
    have hW : pcS D vwCl A s.heap NL ad (ctO cA c (V_X3_setIssued c v w x1.toNatClampNeg (v 1 x1.toNatClampNeg 1)) (W_X3_setIssued c v w x1.toNatClampNeg (v 1 x1.toNatClampNeg 1)) u ad) H locs := ⟨hB, pcD_ct hD9, hS9⟩
    refine lv_aload_n hx hb dX5_stoppedBy_35 rfl (lv_at hl 2 rfl) ?_
    refine pc_rcalli (va_runV (As := []) (rest := []) ⟨hx, hb, hml, hown, hts⟩ (r_X5_unfitRunning l D cA NL c (V_X3_setIssued c v w x1.toNatClampNeg (v 1 x1.toNatClampNeg 1)) (W_X3_setIssued c v w x1.toNatClampNeg (v 1 x1.toNatClampNeg 1)) u ad  hM hBd (wf_setIssued hF) ) (cwV 0 hts gX5_stoppedBy_X5_unfitRunning rfl rfl rfl (by decide +kernel) ⟨Nat.le_of_ble_eq_true rfl, Nat.le_of_ble_eq_true rfl⟩) (pc_preV pcN_ok hX hW.1 hM.1 rfl rfl hW.1) rfl rfl hl.1 rfl (lv_room (Nat.le_of_ble_eq_true rfl)) dX5_stoppedBy_36 ⟨Nat.le_of_ble_eq_true rfl, Nat.le_of_ble_eq_true rfl⟩) hW (fun r342 H locs hwr342 hW => ?_)
    replace hwr342 := hwr342.symm
    subst hwr342
    refine pc_rcalli (va_runS (As := [.int (F_X5_unfitRunning c (V_X3_setIssued c v w x1.toNatClampNeg (v 1 x1.toNatClampNeg 1)) (W_X3_setIssued c v w x1.toNatClampNeg (v 1 x1.toNatClampNeg 1)))]) (rest := []) ⟨hx, hb, hml, hown, hts⟩ (r_J6_bitCount_0f7a4 l D cA (F_X5_unfitRunning c (V_X3_setIssued c v w x1.toNatClampNeg (v 1 x1.toNatClampNeg 1)) (W_X3_setIssued c v w x1.toNatClampNeg (v 1 x1.toNatClampNeg 1))) ) (va_cwS 1 hts gX5_stoppedBy_J6_bitCount_0f7a4 rfl rfl rfl (by decide +kernel) ⟨Nat.le_of_ble_eq_true rfl, Nat.le_of_ble_eq_true rfl⟩) (pc_preS pcN_ok hX trivial) rfl rfl hl.1 rfl (lv_room (Nat.le_of_ble_eq_true rfl)) dX5_stoppedBy_39 ⟨Nat.le_of_ble_eq_true rfl, Nat.le_of_ble_eq_true rfl⟩) hW (fun r343 H locs hwr343 hW => ?_)
    replace hwr343 := hwr343.symm
    subst hwr343
    refine lv_istore (lv' := [(4, .int (F_J6_bitCount_0f7a4 (F_X5_unfitRunning c (V_X3_setIssued c v w x1.toNatClampNeg (v 1 x1.toNatClampNeg 1)) (W_X3_setIssued c v w x1.toNatClampNeg (v 1 x1.toNatClampNeg 1))))), (3, .int (v 1 x1.toNatClampNeg 3)), (2, .ref (ad 1 x1.toNatClampNeg)), (0, .ref (ad 5 0)), (1, .int x1)]) hx hb dX5_stoppedBy_42 hl (by decide) rfl (fun ls hl => ?_)
    refine lv_aload_n hx hb dX5_stoppedBy_44 rfl (lv_at hl 2 rfl) ?_
    refine lv_iload_n hx hb dX5_stoppedBy_45 rfl (lv_at hl 1 rfl) ?_
    have hD9 := hW.2.1
    refine pc_mcallv (va_runVN (As := [.int (v 1 x1.toNatClampNeg 3)]) (rest := []) ⟨hx, hb, hml, hown, hts⟩ (m_X3_setIssued l D cA NL c (V_X3_setIssued c v w x1.toNatClampNeg (v 1 x1.toNatClampNeg 1)) (W_X3_setIssued c v w x1.toNatClampNeg (v 1 x1.toNatClampNeg 1)) u ad A x1.toNatClampNeg (v 1 x1.toNatClampNeg 3) hM hBd h1 (hRI _ h1).1.1 (hRI _ h1).1.2) ⟨va_cnB 1 hts gX5_stoppedBy_X3_setIssued_n137 rfl rfl rfl (hX.2.1 (.methodLinkNest RX5 137 yX3_setIssued R_host) (by decide +kernel)) (hts (.initialized RX3) (by decide +kernel)) (by decide +kernel) ⟨Nat.le_of_ble_eq_true rfl, Nat.le_of_ble_eq_true rfl⟩, hts (.instanceMethod yX3_setIssued) (by decide +kernel), hts (.selects RX3 yX3_setIssued yX3_setIssued) (by decide +kernel)⟩ (pc_preV pcN_ok hX hW.1 (hM.2.2.2.1 x1.toNatClampNeg h1).1 rfl rfl ⟨hW.1, hW.2.1, fun q h => hA q (Nat.le_trans hW.2.2.1 h)⟩) rfl rfl hl.1 rfl (lv_room (Nat.le_of_ble_eq_true rfl)) dX5_stoppedBy_46 ⟨Nat.le_of_ble_eq_true rfl, Nat.le_of_ble_eq_true rfl⟩) hW.2.2 (fun _ H locs _ hB hS9 => ?_)
    have hW : pcS D vwCl A s.heap NL ad (ctO cA c (V_X3_setIssued c (V_X3_setIssued c v w x1.toNatClampNeg (v 1 x1.toNatClampNeg 1)) (W_X3_setIssued c v w x1.toNatClampNeg (v 1 x1.toNatClampNeg 1)) x1.toNatClampNeg (v 1 x1.toNatClampNeg 3)) (W_X3_setIssued c (V_X3_setIssued c v w x1.toNatClampNeg (v 1 x1.toNatClampNeg 1)) (W_X3_setIssued c v w x1.toNatClampNeg (v 1 x1.toNatClampNeg 1)) x1.toNatClampNeg (v 1 x1.toNatClampNeg 3)) u ad) H locs := ⟨hB, pcD_ct hD9, hS9⟩
    refine lv_iload hx hb dX5_stoppedBy_49 (lv_at hl 0 rfl) ?_
    have hW : pcS D vwCl A s.heap NL ad (ctO cA c v w u ad) H locs := pcS_eq hW (by rw [setIssued_backV (hRI _ h1).2.2, setIssued_backW (hRI _ h1).2.1])
    exact W.iret (v := (F_J6_bitCount_0f7a4 (F_X5_unfitRunning c (V_X3_setIssued c v w x1.toNatClampNeg (v 1 x1.toNatClampNeg 1)) (W_X3_setIssued c v w x1.toNatClampNeg (v 1 x1.toNatClampNeg 1))))) hx hb hr (fun t ht hW9 => ⟨⟨(F_J6_bitCount_0f7a4 (F_X5_unfitRunning c (V_X3_setIssued c v w x1.toNatClampNeg (v 1 x1.toNatClampNeg 1)) (W_X3_setIssued c v w x1.toNatClampNeg (v 1 x1.toNatClampNeg 1)))), (), rfl, (by unfold F_X5_stoppedBy; rw [if_neg c340]), (by show va_P D vwCl (pcW NL ad (ctO cA c v w u ad)) t.heap; rw [ht]; exact hW.1)⟩, hW.2.2.F ht⟩) hW.2.2.2.2 dX5_stoppedBy_51
  · refine lv_iconst (v := -1) hx hb dX5_stoppedBy_13 (by decide) ?_
    exact W.iret (v := (-1)) hx hb hr (fun t ht hW9 => ⟨⟨(-1), (), rfl, (by unfold F_X5_stoppedBy; rw [if_pos c340]), (by show va_P D vwCl (pcW NL ad (ctO cA c v w u ad)) t.heap; rw [ht]; exact hW.1)⟩, hW.2.2.F ht⟩) hW.2.2.2.2 dX5_stoppedBy_14

def F_X5_freedBy (c : SC) (v : SV) (w : SW) (x1 : Int32) : Int32 := ((F_X5_fitStopped c (uV v 4 x1.toNatClampNeg 1 2) w) - (F_X5_fitStopped c v w))

set_option maxHeartbeats 4000000 in
set_option maxRecDepth 100000 in
theorem m_X5_freedBy (l : Launch) (D : va_G) (cA : Nat → ClassId) (NL : List (Nat × Nat)) (c : SC) (v : SV) (w : SW) (u : Nat → Int32) (ad : Nat → Nat → Nat) (A : Nat → Prop) (x1 : Int32) (hM : MEM c NL) (hBd : BND c) (hF : WF c v) (h1n : ¬ x1 < 0) (h1 : x1.toNatClampNeg < c 3) : Met l yX5_freedBy wsX5_freedBy ({ frames := 6, cells := 0, slots := 0, locals := 141 }) (pcPre D vwCl (tyL cA) [.ref (ad 5 0), .int x1] (fun H => va_P D vwCl (pcW NL ad (ctO cA c v w u ad)) H ∧ va_D A (pcW NL ad (ctO cA c v w u ad)) ∧ ∀ q, H.size ≤ q → A q)) (va_Qi (fun (r : Int32) (_ : Unit) => r = F_X5_freedBy c v w x1) (fun (_ : Unit) t => va_P D vwCl (pcW NL ad (ctO cA c v w u ad)) t.heap) A) 0 0 A := by
  refine Met.ofW (cc := cX5_freedBy) (maxL := 6) (ret := (some .int)) (by decide) rfl ?_
  intro p e s m args below meth c0 s₁ B hml hv
  obtain ⟨rfl, hX, hP0, hD, hA⟩ := hv
  have hx := B.exec
  have hb := B.bytes
  have hr := B.returns
  have hts := atoms_spec (ws := wsX5_freedBy) B.pre
  have hown : s.vm.findClass RX5 = some m.cls := findClass_of_methodNamed B.named
  have hlocks := B.notSynchronized
  have hW : pcS D vwCl A s.heap NL ad (ctO cA c v w u ad) s.heap [] := ⟨hP0, hD, va_S.rf⟩
  have hl := lv_entry ([.ref (ad 5 0), .int x1]) (n := 6) (Nat.le_of_ble_eq_true rfl)
  rw [lg_entry_eq]
  generalize (lg_sl ([.ref (ad 5 0), .int x1]) ++ List.replicate (6 - (lg_sl ([.ref (ad 5 0), .int x1])).length) Slot.unset).toArray = ls at hl ⊢
  have hl : lv_has ls 6 [(0, .ref (ad 5 0)), (1, .int x1)] := hl
  refine lv_aload_n hx hb dX5_freedBy_0 rfl (lv_at hl 0 rfl) ?_
  refine lv_iload_n hx hb dX5_freedBy_1 rfl (lv_at hl 1 rfl) ?_
  refine pc_rcallv (va_runV (As := [.int x1]) (rest := []) ⟨hx, hb, hml, hown, hts⟩ (r_X5_requireQuery l D cA NL c v w u ad x1 hM hBd hF h1n h1) (cwV 1 hts gX5_freedBy_X5_requireQuery rfl rfl rfl (by decide +kernel) ⟨Nat.le_of_ble_eq_true rfl, Nat.le_of_ble_eq_true rfl⟩) (pc_preV pcN_ok hX hW.1 hM.1 rfl rfl hW.1) rfl rfl hl.1 rfl (lv_room (Nat.le_of_ble_eq_true rfl)) dX5_freedBy_2 ⟨Nat.le_of_ble_eq_true rfl, Nat.le_of_ble_eq_true rfl⟩) hW (fun H locs _ hW => ?_)
  refine lv_aload_n hx hb dX5_freedBy_5 rfl (lv_at hl 0 rfl) ?_
  refine pc_get (C := RX5) (T := TX5) (N := 13) (ci := 5) hx hb hts (by decide +kernel) hown hX.1 hW.1 5 0 hM.1 rfl rfl 3 (by decide) (hts (.fieldLink RX5 29 "DraftsmanOffice" "queries" "[LDraftsmanOffice$Query;") (by decide +kernel)) (fun _ h9 => h9) rfl dX5_freedBy_6 ?_
  refine lv_iload_n hx hb dX5_freedBy_9 rfl (lv_at hl 1 rfl) ?_
  refine pc_aald (r := .ref (ad 4 x1.toNatClampNeg)) hx hb hX.1 hW.1 53 0 6 (hM.2.1 53 (by decide) (by decide)) rfl rfl rfl (fun q => q.elim h1n (fun q => absurd (Nat.lt_of_lt_of_le h1 hBd.2.2.2.1) (Nat.not_lt.mpr q))) (by rw [sRf_in h1]; rfl) dX5_freedBy_10 ?_
  refine lv_astore_n (lv' := [(2, .ref (ad 4 x1.toNatClampNeg)), (0, .ref (ad 5 0)), (1, .int x1)]) hx hb dX5_freedBy_11 rfl hl (by decide) rfl (fun ls hl => ?_)
  refine lv_aload_n hx hb dX5_freedBy_12 rfl (lv_at hl 0 rfl) ?_
  refine pc_getN (C := RX0) (T := TX0) (N := 3) (ci := 0) hx hb hts (by decide +kernel) hown hX.1 hW.1 4 x1.toNatClampNeg (hM.2.2.2.2.2.2.1 x1.toNatClampNeg h1) rfl rfl 2 (by decide) (hX.2.1 (.fieldLinkNest RX5 237 "DraftsmanOffice$Query" "state" "I" R_host) (by decide +kernel)) (fun _ h9 => h9) rfl dX5_freedBy_13 ?_
  refine lv_istore_n (lv' := [(3, .int (v 4 x1.toNatClampNeg 1)), (2, .ref (ad 4 x1.toNatClampNeg)), (0, .ref (ad 5 0)), (1, .int x1)]) hx hb dX5_freedBy_16 rfl hl (by decide) rfl (fun ls hl => ?_)
  refine lv_aload_n hx hb dX5_freedBy_17 rfl (lv_at hl 2 rfl) ?_
  refine pc_rcalli (va_runV (As := []) (rest := []) ⟨hx, hb, hml, hown, hts⟩ (r_X5_fitStopped l D cA NL c v w u ad  hM hBd hF ) (cwV 0 hts gX5_freedBy_X5_fitStopped rfl rfl rfl (by decide +kernel) ⟨Nat.le_of_ble_eq_true rfl, Nat.le_of_ble_eq_true rfl⟩) (pc_preV pcN_ok hX hW.1 hM.1 rfl rfl hW.1) rfl rfl hl.1 rfl (lv_room (Nat.le_of_ble_eq_true rfl)) dX5_freedBy_18 ⟨Nat.le_of_ble_eq_true rfl, Nat.le_of_ble_eq_true rfl⟩) hW (fun r346 H locs hwr346 hW => ?_)
  replace hwr346 := hwr346.symm
  subst hwr346
  refine lv_istore (lv' := [(4, .int (F_X5_fitStopped c v w)), (3, .int (v 4 x1.toNatClampNeg 1)), (2, .ref (ad 4 x1.toNatClampNeg)), (0, .ref (ad 5 0)), (1, .int x1)]) hx hb dX5_freedBy_21 hl (by decide) rfl (fun ls hl => ?_)
  refine lv_aload_n hx hb dX5_freedBy_23 rfl (lv_at hl 2 rfl) ?_
  refine lv_iconst (v := 2) hx hb dX5_freedBy_24 (by decide) ?_
  refine pc_putN (v := .int 2) (C := RX0) (T := TX0) (N := 3) (ci := 0) (ty := .int) hx hb hts (by decide +kernel) tyX0 tyX0_ok nmX0 hown hX.1 hW 4 x1.toNatClampNeg (hM.2.2.2.2.2.2.1 x1.toNatClampNeg h1) rfl rfl 2 (by decide) (hX.2.1 (.fieldLinkNest RX5 237 "DraftsmanOffice$Query" "state" "I" R_host) (by decide +kernel)) (fun _ h9 => h9) rfl (by decide +kernel) rfl rfl (Nat.le_of_ble_eq_true rfl) dX5_freedBy_25 (fun H locs hW => ?_)
  have hW : pcS D vwCl A s.heap NL ad (ctO cA c (uV v 4 x1.toNatClampNeg 1 2) w u ad) H locs := pcS_eq hW ctO_put_4_2
  refine lv_aload_n hx hb dX5_freedBy_28 rfl (lv_at hl 3 rfl) ?_
  refine pc_rcalli (va_runV (As := []) (rest := []) ⟨hx, hb, hml, hown, hts⟩ (r_X5_fitStopped l D cA NL c (uV v 4 x1.toNatClampNeg 1 2) w u ad  hM hBd hF ) (cwV 0 hts gX5_freedBy_X5_fitStopped rfl rfl rfl (by decide +kernel) ⟨Nat.le_of_ble_eq_true rfl, Nat.le_of_ble_eq_true rfl⟩) (pc_preV pcN_ok hX hW.1 hM.1 rfl rfl hW.1) rfl rfl hl.1 rfl (lv_room (Nat.le_of_ble_eq_true rfl)) dX5_freedBy_29 ⟨Nat.le_of_ble_eq_true rfl, Nat.le_of_ble_eq_true rfl⟩) hW (fun r347 H locs hwr347 hW => ?_)
  replace hwr347 := hwr347.symm
  subst hwr347
  refine lv_istore (lv' := [(5, .int (F_X5_fitStopped c (uV v 4 x1.toNatClampNeg 1 2) w)), (4, .int (F_X5_fitStopped c v w)), (3, .int (v 4 x1.toNatClampNeg 1)), (2, .ref (ad 4 x1.toNatClampNeg)), (0, .ref (ad 5 0)), (1, .int x1)]) hx hb dX5_freedBy_32 hl (by decide) rfl (fun ls hl => ?_)
  refine lv_aload_n hx hb dX5_freedBy_34 rfl (lv_at hl 3 rfl) ?_
  refine lv_iload_n hx hb dX5_freedBy_35 rfl (lv_at hl 2 rfl) ?_
  refine pc_putN (v := .int (v 4 x1.toNatClampNeg 1)) (C := RX0) (T := TX0) (N := 3) (ci := 0) (ty := .int) hx hb hts (by decide +kernel) tyX0 tyX0_ok nmX0 hown hX.1 hW 4 x1.toNatClampNeg (hM.2.2.2.2.2.2.1 x1.toNatClampNeg h1) rfl rfl 2 (by decide) (hX.2.1 (.fieldLinkNest RX5 237 "DraftsmanOffice$Query" "state" "I" R_host) (by decide +kernel)) (fun _ h9 => h9) rfl (by decide +kernel) rfl rfl (Nat.le_of_ble_eq_true rfl) dX5_freedBy_36 (fun H locs hW => ?_)
  have hW : pcS D vwCl A s.heap NL ad (ctO cA c (uV (uV v 4 x1.toNatClampNeg 1 2) 4 x1.toNatClampNeg 1 (v 4 x1.toNatClampNeg 1)) w u ad) H locs := pcS_eq hW ctO_put_4_2
  refine lv_iload hx hb dX5_freedBy_39 (lv_at hl 0 rfl) ?_
  refine lv_iload hx hb dX5_freedBy_41 (lv_at hl 1 rfl) ?_
  refine lv_isub hx hb dX5_freedBy_43 ?_
  have hW : pcS D vwCl A s.heap NL ad (ctO cA c v w u ad) H locs := pcS_eq hW (by rw [uV_back])
  exact W.iret (v := ((F_X5_fitStopped c (uV v 4 x1.toNatClampNeg 1 2) w) - (F_X5_fitStopped c v w))) hx hb hr (fun t ht hW9 => ⟨⟨((F_X5_fitStopped c (uV v 4 x1.toNatClampNeg 1 2) w) - (F_X5_fitStopped c v w)), (), rfl, rfl, (by show va_P D vwCl (pcW NL ad (ctO cA c v w u ad)) t.heap; rw [ht]; exact hW.1)⟩, hW.2.2.F ht⟩) hW.2.2.2.2 dX5_freedBy_44

