def F_X5_wrongWith (c : SC) (v : SV) (w : SW) (i : Nat) (row : Nat → Int32) (x1 : Int32) : Int32 := (if (v 1 x1.toNatClampNeg 3) = (-1 : Int32) then (1 : Int32) else (if (row x1.toNatClampNeg) = (v 1 x1.toNatClampNeg 3) then (if (F_X5_brokenFrom c v w x1) ≤ 0 then (if (F_X5_cloudsOver c v w x1 (w 7 i 0)) ≤ 0 then (if (v 1 x1.toNatClampNeg 5) < (3 : Int32) then (0 : Int32) else (5 : Int32)) else (4 : Int32)) else (3 : Int32)) else (2 : Int32)))

set_option maxHeartbeats 4000000 in
set_option maxRecDepth 100000 in
theorem r_X5_wrongWith (l : Launch) (D : va_G) (cA : Nat → ClassId) (NL : List (Nat × Nat)) (c : SC) (v : SV) (w : SW) (u : Nat → Int32) (ad : Nat → Nat → Nat) (i rk ri : Nat) (row : Nat → Int32) (x1 : Int32) (hM : MEM c NL) (hBd : BND c) (hF : WF c v) (hi : i < c 4) (hr1 : (rk, ri) ∈ NL) (hr2 : ctO cA c v w u ad rk ri = .inl (cA 0, 10, .inl row)) (h1n : ¬ x1 < 0) (h1 : x1.toNatClampNeg < c 0) : Met l yX5_wrongWith wsX5_wrongWith ({ frames := 3, cells := 0, slots := 0, locals := 71 }) (pcPre D vwCl (tyL cA) [.ref (ad 5 0), .int x1, .ref (ad 7 i), .ref (ad rk ri)] (fun H => va_P D vwCl (pcW NL ad (ctO cA c v w u ad)) H)) (va_Qi (fun (r : Int32) (_ : Unit) => r = F_X5_wrongWith c v w i row x1) (fun _ _ => True) (fun _ => False)) 0 0 (fun _ => False) := by
  refine Met.ofW (cc := cX5_wrongWith) (maxL := 5) (ret := (some .int)) (by decide) rfl ?_
  intro p e s m args below meth c0 s₁ B hml hv
  obtain ⟨rfl, hX, hP0⟩ := hv
  have hx := B.exec
  have hb := B.bytes
  have hr := B.returns
  have hts := atoms_spec (ws := wsX5_wrongWith) B.pre
  have hown : s.vm.findClass RX5 = some m.cls := findClass_of_methodNamed B.named
  have hlocks := B.notSynchronized
  have hW : pcQ D vwCl (fun _ => False) s.heap NL ad (ctO cA c v w u ad) s.heap [] := ⟨hP0, va_S.rf⟩
  have hl := lv_entry ([.ref (ad 5 0), .int x1, .ref (ad 7 i), .ref (ad rk ri)]) (n := 5) (Nat.le_of_ble_eq_true rfl)
  rw [lg_entry_eq]
  generalize (lg_sl ([.ref (ad 5 0), .int x1, .ref (ad 7 i), .ref (ad rk ri)]) ++ List.replicate (5 - (lg_sl ([.ref (ad 5 0), .int x1, .ref (ad 7 i), .ref (ad rk ri)])).length) Slot.unset).toArray = ls at hl ⊢
  have hl : lv_has ls 5 [(0, .ref (ad 5 0)), (1, .int x1), (2, .ref (ad 7 i)), (3, .ref (ad rk ri))] := hl
  refine lv_aload_n hx hb dX5_wrongWith_0 rfl (lv_at hl 0 rfl) ?_
  refine pc_get (C := RX5) (T := TX5) (N := 13) (ci := 5) hx hb hts (by decide +kernel) hown hX.1 hW.1 5 0 hM.1 rfl rfl 0 (by decide) (hts (.fieldLink RX5 11 "DraftsmanOffice" "sheets" "[LDraftsmanOffice$Sheet;") (by decide +kernel)) (fun _ h9 => h9) rfl dX5_wrongWith_1 ?_
  refine lv_iload_n hx hb dX5_wrongWith_4 rfl (lv_at hl 1 rfl) ?_
  refine pc_aald (r := .ref (ad 1 x1.toNatClampNeg)) hx hb hX.1 hW.1 50 0 3 (hM.2.1 50 (by decide) (by decide)) rfl rfl rfl (fun q => q.elim h1n (fun q => absurd (Nat.lt_of_lt_of_le h1 hBd.1) (Nat.not_lt.mpr q))) (by rw [sRf_in h1]; rfl) dX5_wrongWith_5 ?_
  refine lv_astore (lv' := [(4, .ref (ad 1 x1.toNatClampNeg)), (0, .ref (ad 5 0)), (1, .int x1), (2, .ref (ad 7 i)), (3, .ref (ad rk ri))]) hx hb dX5_wrongWith_6 hl (by decide) rfl (fun ls hl => ?_)
  refine lv_aload hx hb dX5_wrongWith_8 (lv_at hl 0 rfl) ?_
  refine pc_getN (C := RX3) (T := TX3) (N := 10) (ci := 3) hx hb hts (by decide +kernel) hown hX.1 hW.1 1 x1.toNatClampNeg (hM.2.2.2.1 x1.toNatClampNeg h1).1 rfl rfl 5 (by decide) (hX.2.1 (.fieldLinkNest RX5 156 "DraftsmanOffice$Sheet" "issued" "I" R_host) (by decide +kernel)) (fun _ h9 => h9) rfl dX5_wrongWith_10 ?_
  refine lv_iconst (v := -1) hx hb dX5_wrongWith_13 (by decide) ?_
  refine lv_icmp_ne (tgt := 19) hx hb dX5_wrongWith_14 (by decide) (fun (c104 : ¬ (v 1 x1.toNatClampNeg 3) = (-1 : Int32)) => ?_) (fun (c104 : (v 1 x1.toNatClampNeg 3) = (-1 : Int32)) => ?_)
  · refine lv_aload_n hx hb dX5_wrongWith_19 rfl (lv_at hl 4 rfl) ?_
    refine lv_iload_n hx hb dX5_wrongWith_20 rfl (lv_at hl 2 rfl) ?_
    refine pc_iald (f := row) hx hb hX.1 hW.1 rk ri 0 hr1 hr2 rfl (fun q => q.elim h1n (fun q => absurd (Nat.lt_of_lt_of_le h1 hBd.1) (Nat.not_lt.mpr q))) dX5_wrongWith_21 ?_
    refine lv_aload hx hb dX5_wrongWith_22 (lv_at hl 0 rfl) ?_
    refine pc_getN (C := RX3) (T := TX3) (N := 10) (ci := 3) hx hb hts (by decide +kernel) hown hX.1 hW.1 1 x1.toNatClampNeg (hM.2.2.2.1 x1.toNatClampNeg h1).1 rfl rfl 5 (by decide) (hX.2.1 (.fieldLinkNest RX5 156 "DraftsmanOffice$Sheet" "issued" "I" R_host) (by decide +kernel)) (fun _ h9 => h9) rfl dX5_wrongWith_24 ?_
    refine lv_icmp_eq (tgt := 32) hx hb dX5_wrongWith_27 (by decide) (fun (c105 : (row x1.toNatClampNeg) = (v 1 x1.toNatClampNeg 3)) => ?_) (fun (c105 : ¬ (row x1.toNatClampNeg) = (v 1 x1.toNatClampNeg 3)) => ?_)
    · refine lv_aload_n hx hb dX5_wrongWith_32 rfl (lv_at hl 1 rfl) ?_
      refine lv_iload_n hx hb dX5_wrongWith_33 rfl (lv_at hl 2 rfl) ?_
      refine pc_qcalli (va_runV (As := [.int x1]) (rest := []) ⟨hx, hb, hml, hown, hts⟩ (r_X5_brokenFrom l D cA NL c v w u ad x1 hM hBd hF ) (cwV 1 hts gX5_wrongWith_X5_brokenFrom rfl rfl rfl (by decide +kernel) ⟨Nat.le_of_ble_eq_true rfl, Nat.le_of_ble_eq_true rfl⟩) (pc_preV pcN_ok hX hW.1 hM.1 rfl rfl hW.1) rfl rfl hl.1 rfl (lv_room (Nat.le_of_ble_eq_true rfl)) dX5_wrongWith_34 ⟨Nat.le_of_ble_eq_true rfl, Nat.le_of_ble_eq_true rfl⟩) hW (fun r106 H locs hwr106 hW => ?_)
      replace hwr106 := hwr106.symm
      subst hwr106
      refine lv_if_le (tgt := 42) hx hb dX5_wrongWith_37 (by decide) (fun (c107 : (F_X5_brokenFrom c v w x1) ≤ 0) => ?_) (fun (c107 : ¬ (F_X5_brokenFrom c v w x1) ≤ 0) => ?_)
      · refine lv_aload_n hx hb dX5_wrongWith_42 rfl (lv_at hl 1 rfl) ?_
        refine lv_iload_n hx hb dX5_wrongWith_43 rfl (lv_at hl 2 rfl) ?_
        refine lv_aload_n hx hb dX5_wrongWith_44 rfl (lv_at hl 3 rfl) ?_
        refine pc_getN (C := RX4) (T := TX4) (N := 6) (ci := 4) hx hb hts (by decide +kernel) hown hX.1 hW.1 7 i (hM.2.2.2.2.2.2.2 i hi) rfl rfl 3 (by decide) (hX.2.1 (.fieldLinkNest RX5 267 "DraftsmanOffice$WorkPackage" "region" "J" R_host) (by decide +kernel)) (fun _ h9 => h9) rfl dX5_wrongWith_45 ?_
        refine pc_qcalli (va_runV (As := [.int x1, .long (w 7 i 0)]) (rest := []) ⟨hx, hb, hml, hown, hts⟩ (r_X5_cloudsOver l D cA NL c v w u ad x1 (w 7 i 0) hM hBd hF h1n h1) (cwV 2 hts gX5_wrongWith_X5_cloudsOver rfl rfl rfl (by decide +kernel) ⟨Nat.le_of_ble_eq_true rfl, Nat.le_of_ble_eq_true rfl⟩) (pc_preV pcN_ok hX hW.1 hM.1 rfl rfl hW.1) rfl rfl hl.1 rfl (lv_room (Nat.le_of_ble_eq_true rfl)) dX5_wrongWith_48 ⟨Nat.le_of_ble_eq_true rfl, Nat.le_of_ble_eq_true rfl⟩) hW (fun r108 H locs hwr108 hW => ?_)
        replace hwr108 := hwr108.symm
        subst hwr108
        refine lv_if_le (tgt := 56) hx hb dX5_wrongWith_51 (by decide) (fun (c109 : (F_X5_cloudsOver c v w x1 (w 7 i 0)) ≤ 0) => ?_) (fun (c109 : ¬ (F_X5_cloudsOver c v w x1 (w 7 i 0)) ≤ 0) => ?_)
        · refine lv_aload hx hb dX5_wrongWith_56 (lv_at hl 0 rfl) ?_
          refine pc_getN (C := RX3) (T := TX3) (N := 10) (ci := 3) hx hb hts (by decide +kernel) hown hX.1 hW.1 1 x1.toNatClampNeg (hM.2.2.2.1 x1.toNatClampNeg h1).1 rfl rfl 8 (by decide) (hX.2.1 (.fieldLinkNest RX5 166 "DraftsmanOffice$Sheet" "marks" "I" R_host) (by decide +kernel)) (fun _ h9 => h9) rfl dX5_wrongWith_58 ?_
          refine lv_iconst (v := 3) hx hb dX5_wrongWith_61 (by decide) ?_
          refine lv_icmp_lt (tgt := 69) hx hb dX5_wrongWith_62 (by decide) (fun (c110 : (v 1 x1.toNatClampNeg 5) < (3 : Int32)) => ?_) (fun (c110 : ¬ (v 1 x1.toNatClampNeg 5) < (3 : Int32)) => ?_)
          · refine lv_iconst (v := 0) hx hb dX5_wrongWith_69 (by decide) ?_
            exact W.iret (v := 0) hx hb hr (fun t ht hW9 => ⟨⟨0, (), rfl, (by unfold F_X5_wrongWith; rw [if_neg c104]; rw [if_pos c105]; rw [if_pos c107]; rw [if_pos c109]; rw [if_pos c110]), trivial⟩, hW.2.F ht⟩) hW.2.2.2 dX5_wrongWith_70
          · refine lv_iconst (v := 5) hx hb dX5_wrongWith_65 (by decide) ?_
            refine lv_goto (tgt := 70) hx hb dX5_wrongWith_66 (by decide) ?_
            exact W.iret (v := 5) hx hb hr (fun t ht hW9 => ⟨⟨5, (), rfl, (by unfold F_X5_wrongWith; rw [if_neg c104]; rw [if_pos c105]; rw [if_pos c107]; rw [if_pos c109]; rw [if_neg c110]), trivial⟩, hW.2.F ht⟩) hW.2.2.2 dX5_wrongWith_70
        · refine lv_iconst (v := 4) hx hb dX5_wrongWith_54 (by decide) ?_
          exact W.iret (v := 4) hx hb hr (fun t ht hW9 => ⟨⟨4, (), rfl, (by unfold F_X5_wrongWith; rw [if_neg c104]; rw [if_pos c105]; rw [if_pos c107]; rw [if_neg c109]), trivial⟩, hW.2.F ht⟩) hW.2.2.2 dX5_wrongWith_55
      · refine lv_iconst (v := 3) hx hb dX5_wrongWith_40 (by decide) ?_
        exact W.iret (v := 3) hx hb hr (fun t ht hW9 => ⟨⟨3, (), rfl, (by unfold F_X5_wrongWith; rw [if_neg c104]; rw [if_pos c105]; rw [if_neg c107]), trivial⟩, hW.2.F ht⟩) hW.2.2.2 dX5_wrongWith_41
    · refine lv_iconst (v := 2) hx hb dX5_wrongWith_30 (by decide) ?_
      exact W.iret (v := 2) hx hb hr (fun t ht hW9 => ⟨⟨2, (), rfl, (by unfold F_X5_wrongWith; rw [if_neg c104]; rw [if_neg c105]), trivial⟩, hW.2.F ht⟩) hW.2.2.2 dX5_wrongWith_31
  · refine lv_iconst (v := 1) hx hb dX5_wrongWith_17 (by decide) ?_
    exact W.iret (v := 1) hx hb hr (fun t ht hW9 => ⟨⟨1, (), rfl, (by unfold F_X5_wrongWith; rw [if_pos c104]), trivial⟩, hW.2.F ht⟩) hW.2.2.2 dX5_wrongWith_18

def FL_X5_firstUnfit (c : SC) (v : SV) (w : SW)  (i : Nat) (row : Nat → Int32) : Nat → Nat → Int32
  | 0, i111 => (-1 : Int32)
  | k112 + 1, i111 => (if (F_X5_isIn (v 7 i 1) (nI i111)) = 0 then (FL_X5_firstUnfit c v w i row k112 (i111 + 1)) else (if (F_X5_wrongWith c v w i row (nI i111)) = 0 then (FL_X5_firstUnfit c v w i row k112 (i111 + 1)) else (nI i111)))
def F_X5_firstUnfit (c : SC) (v : SV) (w : SW) (i : Nat) (row : Nat → Int32) : Int32 := (FL_X5_firstUnfit c v w i row (c 0) 0)

set_option maxHeartbeats 4000000 in
set_option maxRecDepth 100000 in
theorem r_X5_firstUnfit (l : Launch) (D : va_G) (cA : Nat → ClassId) (NL : List (Nat × Nat)) (c : SC) (v : SV) (w : SW) (u : Nat → Int32) (ad : Nat → Nat → Nat) (i rk ri : Nat) (row : Nat → Int32) (hM : MEM c NL) (hBd : BND c) (hF : WF c v) (hi : i < c 4) (hr1 : (rk, ri) ∈ NL) (hr2 : ctO cA c v w u ad rk ri = .inl (cA 0, 10, .inl row)) : Met l yX5_firstUnfit wsX5_firstUnfit ({ frames := 4, cells := 0, slots := 0, locals := 95 }) (pcPre D vwCl (tyL cA) [.ref (ad 5 0), .ref (ad 7 i), .ref (ad rk ri)] (fun H => va_P D vwCl (pcW NL ad (ctO cA c v w u ad)) H)) (va_Qi (fun (r : Int32) (_ : Unit) => r = F_X5_firstUnfit c v w i row) (fun _ _ => True) (fun _ => False)) 0 0 (fun _ => False) := by
  refine Met.ofW (cc := cX5_firstUnfit) (maxL := 4) (ret := (some .int)) (by decide) rfl ?_
  intro p e s m args below meth c0 s₁ B hml hv
  obtain ⟨rfl, hX, hP0⟩ := hv
  have hx := B.exec
  have hb := B.bytes
  have hr := B.returns
  have hts := atoms_spec (ws := wsX5_firstUnfit) B.pre
  have hown : s.vm.findClass RX5 = some m.cls := findClass_of_methodNamed B.named
  have hlocks := B.notSynchronized
  have hW : pcQ D vwCl (fun _ => False) s.heap NL ad (ctO cA c v w u ad) s.heap [] := ⟨hP0, va_S.rf⟩
  have hl := lv_entry ([.ref (ad 5 0), .ref (ad 7 i), .ref (ad rk ri)]) (n := 4) (Nat.le_of_ble_eq_true rfl)
  rw [lg_entry_eq]
  generalize (lg_sl ([.ref (ad 5 0), .ref (ad 7 i), .ref (ad rk ri)]) ++ List.replicate (4 - (lg_sl ([.ref (ad 5 0), .ref (ad 7 i), .ref (ad rk ri)])).length) Slot.unset).toArray = ls at hl ⊢
  have hl : lv_has ls 4 [(0, .ref (ad 5 0)), (1, .ref (ad 7 i)), (2, .ref (ad rk ri))] := hl
  refine lv_iconst (v := 0) hx hb dX5_firstUnfit_0 (by decide) ?_
  refine lv_istore_n (lv' := [(3, .int 0), (0, .ref (ad 5 0)), (1, .ref (ad 7 i)), (2, .ref (ad rk ri))]) hx hb dX5_firstUnfit_1 rfl hl (by decide) rfl (fun ls hl => ?_)
  have K114 : ∀ (k112 i111 : Nat) (H : Heap) (locs : List Loc) (ls : Array Slot), i111 + k112 = c 0 → (FL_X5_firstUnfit c v w i row k112 i111) = (FL_X5_firstUnfit c v w i row (c 0) 0) → pcQ D vwCl (fun _ => False) s.heap NL ad (ctO cA c v w u ad) H locs → lv_has ls 4 [(3, .int (nI i111)), (0, .ref (ad 5 0)), (1, .ref (ad 7 i)), (2, .ref (ad rk ri))] → W p l e (headSpec wsX5_firstUnfit ({ frames := 4, cells := 0, slots := 0, locals := 95 })).room s m ([.ref (ad 5 0), .ref (ad 7 i), .ref (ad rk ri)] : List Value).toArray below meth c0 H locs 0 0 (MQ below (va_Qi (fun (r : Int32) (_ : Unit) => r = F_X5_firstUnfit c v w i row) (fun _ _ => True) (fun _ => False)) ([.ref (ad 5 0), .ref (ad 7 i), .ref (ad rk ri)] : List Value).toArray s 0 0 (fun _ => False)) (F0 m 2 ls []) := by
    intro k112
    induction k112 with
    | zero =>
      intro i111 H locs ls hk heF hW hl
      have ei : i111 = c 0 := by omega
      rw [ei] at hl heF
      have he := heF
      refine lv_iload_n hx hb dX5_firstUnfit_2 rfl (lv_at hl 0 rfl) ?_
      refine lv_aload_n hx hb dX5_firstUnfit_3 rfl (lv_at hl 1 rfl) ?_
      refine pc_get (C := RX5) (T := TX5) (N := 13) (ci := 5) hx hb hts (by decide +kernel) hown hX.1 hW.1 5 0 hM.1 rfl rfl 7 (by decide) (hts (.fieldLink RX5 48 "DraftsmanOffice" "sheetCount" "I") (by decide +kernel)) (fun _ h9 => h9) rfl dX5_firstUnfit_4 ?_
      refine lv_icmp_ge (tgt := 39) hx hb dX5_firstUnfit_7 (by decide) (fun _ => ?_) (fun c115 => absurd (Int32.le_refl _) c115)
      refine lv_iconst (v := -1) hx hb dX5_firstUnfit_39 (by decide) ?_
      exact W.iret (v := (-1)) hx hb hr (fun t ht hW9 => ⟨⟨(-1), (), rfl, (by unfold F_X5_firstUnfit; exact he), trivial⟩, hW.2.F ht⟩) hW.2.2.2 dX5_firstUnfit_40
    | succ k112 ihk112 =>
      intro i111 H locs ls hk heF hW hl
      have hlt : i111 < c 0 := by omega
      have hlt9i111 := hlt
      have he := heF
      refine lv_iload_n hx hb dX5_firstUnfit_2 rfl (lv_at hl 0 rfl) ?_
      refine lv_aload_n hx hb dX5_firstUnfit_3 rfl (lv_at hl 1 rfl) ?_
      refine pc_get (C := RX5) (T := TX5) (N := 13) (ci := 5) hx hb hts (by decide +kernel) hown hX.1 hW.1 5 0 hM.1 rfl rfl 7 (by decide) (hts (.fieldLink RX5 48 "DraftsmanOffice" "sheetCount" "I") (by decide +kernel)) (fun _ h9 => h9) rfl dX5_firstUnfit_4 ?_
      refine lv_icmp_ge (tgt := 39) hx hb dX5_firstUnfit_7 (by decide) (fun c116 => absurd c116 (nI_ge hlt (Nat.lt_of_le_of_lt hBd.1 (by decide)))) (fun _ => ?_)
      refine lv_aload_n hx hb dX5_firstUnfit_10 rfl (lv_at hl 2 rfl) ?_
      refine pc_getN (C := RX4) (T := TX4) (N := 6) (ci := 4) hx hb hts (by decide +kernel) hown hX.1 hW.1 7 i (hM.2.2.2.2.2.2.2 i hi) rfl rfl 1 (by decide) (hX.2.1 (.fieldLinkNest RX5 289 "DraftsmanOffice$WorkPackage" "sheets" "I" R_host) (by decide +kernel)) (fun _ h9 => h9) rfl dX5_firstUnfit_11 ?_
      refine lv_iload_n hx hb dX5_firstUnfit_14 rfl (lv_at hl 0 rfl) ?_
      refine pc_qcalli (va_runS (As := [.int (v 7 i 1), .int (nI i111)]) (rest := []) ⟨hx, hb, hml, hown, hts⟩ (r_X5_isIn l D cA (v 7 i 1) (nI i111) ) (va_cwS 2 hts gX5_firstUnfit_X5_isIn rfl rfl rfl (by decide +kernel) ⟨Nat.le_of_ble_eq_true rfl, Nat.le_of_ble_eq_true rfl⟩) (pc_preS pcN_ok hX trivial) rfl rfl hl.1 rfl (lv_room (Nat.le_of_ble_eq_true rfl)) dX5_firstUnfit_15 ⟨Nat.le_of_ble_eq_true rfl, Nat.le_of_ble_eq_true rfl⟩) hW (fun r117 H locs hwr117 hW => ?_)
      replace hwr117 := hwr117.symm
      subst hwr117
      refine lv_if_eq (tgt := 33) hx hb dX5_firstUnfit_18 (by decide) (fun (c118 : (F_X5_isIn (v 7 i 1) (nI i111)) = 0) => ?_) (fun (c118 : ¬ (F_X5_isIn (v 7 i 1) (nI i111)) = 0) => ?_)
      · refine lv_iinc (v := nI (i111 + 1)) (lv' := [(3, .int (nI (i111 + 1))), (0, .ref (ad 5 0)), (1, .ref (ad 7 i)), (2, .ref (ad rk ri))]) hx hb dX5_firstUnfit_33 hl (k := 0) rfl (nI_1 i111) (by decide) rfl (fun ls hl => ?_)
        refine lv_goto (tgt := 2) hx hb dX5_firstUnfit_36 (by decide) ?_
        have he9F : (FL_X5_firstUnfit c v w i row k112 (i111 + 1)) = (FL_X5_firstUnfit c v w i row (c 0) 0) := by rw [← heF]; show (FL_X5_firstUnfit c v w i row k112 (i111 + 1)) = (FL_X5_firstUnfit c v w i row (k112 + 1) i111); simp only [FL_X5_firstUnfit, if_pos c118]
        exact ihk112 (i111 + 1)   H locs ls (by omega) he9F hW (lv_sub hl [0, 1, 2, 3] rfl)
      · refine lv_aload_n hx hb dX5_firstUnfit_21 rfl (lv_at hl 1 rfl) ?_
        refine lv_iload_n hx hb dX5_firstUnfit_22 rfl (lv_at hl 0 rfl) ?_
        refine lv_aload_n hx hb dX5_firstUnfit_23 rfl (lv_at hl 2 rfl) ?_
        refine lv_aload_n hx hb dX5_firstUnfit_24 rfl (lv_at hl 3 rfl) ?_
        refine pc_qcalli (va_runV (As := [.int (nI i111), .ref (ad 7 i), .ref (ad rk ri)]) (rest := []) ⟨hx, hb, hml, hown, hts⟩ (r_X5_wrongWith l D cA NL c v w u ad i rk ri row (nI i111) hM hBd hF hi hr1 hr2 (nI_nn (Nat.lt_of_lt_of_le hlt9i111 (Nat.le_trans hBd.1 (by decide)))) (by rw [nI_clamp (Nat.lt_of_lt_of_le hlt9i111 (Nat.le_trans hBd.1 (by decide)))]; exact hlt9i111)) (cwV 3 hts gX5_firstUnfit_X5_wrongWith rfl rfl rfl (by decide +kernel) ⟨Nat.le_of_ble_eq_true rfl, Nat.le_of_ble_eq_true rfl⟩) (pc_preV pcN_ok hX hW.1 hM.1 rfl rfl hW.1) rfl rfl hl.1 rfl (lv_room (Nat.le_of_ble_eq_true rfl)) dX5_firstUnfit_25 ⟨Nat.le_of_ble_eq_true rfl, Nat.le_of_ble_eq_true rfl⟩) hW (fun r119 H locs hwr119 hW => ?_)
        replace hwr119 := hwr119.symm
        subst hwr119
        refine lv_if_eq (tgt := 33) hx hb dX5_firstUnfit_28 (by decide) (fun (c120 : (F_X5_wrongWith c v w i row (nI i111)) = 0) => ?_) (fun (c120 : ¬ (F_X5_wrongWith c v w i row (nI i111)) = 0) => ?_)
        · refine lv_iinc (v := nI (i111 + 1)) (lv' := [(3, .int (nI (i111 + 1))), (0, .ref (ad 5 0)), (1, .ref (ad 7 i)), (2, .ref (ad rk ri))]) hx hb dX5_firstUnfit_33 hl (k := 0) rfl (nI_1 i111) (by decide) rfl (fun ls hl => ?_)
          refine lv_goto (tgt := 2) hx hb dX5_firstUnfit_36 (by decide) ?_
          have he9F : (FL_X5_firstUnfit c v w i row k112 (i111 + 1)) = (FL_X5_firstUnfit c v w i row (c 0) 0) := by rw [← heF]; show (FL_X5_firstUnfit c v w i row k112 (i111 + 1)) = (FL_X5_firstUnfit c v w i row (k112 + 1) i111); simp only [FL_X5_firstUnfit, if_neg c118, if_pos c120]
          exact ihk112 (i111 + 1)   H locs ls (by omega) he9F hW (lv_sub hl [0, 1, 2, 3] rfl)
        · refine lv_iload_n hx hb dX5_firstUnfit_31 rfl (lv_at hl 0 rfl) ?_
          exact W.iret (v := (nI i111)) hx hb hr (fun t ht hW9 => ⟨⟨(nI i111), (), rfl, (by unfold F_X5_firstUnfit; rw [← he, FL_X5_firstUnfit]; rw [if_neg c118]; rw [if_neg c120]), trivial⟩, hW.2.F ht⟩) hW.2.2.2 dX5_firstUnfit_32
  exact K114 (c 0) 0  _ _ ls (by omega) rfl hW (lv_sub hl [0, 1, 2, 3] rfl)

theorem firstUnfit_rngL {c : SC} {v : SV} {w : SW} {i : Nat} {row : Nat → Int32} : ∀ (k j : Nat), j + k = c 0 → c 0 ≤ 10 → FL_X5_firstUnfit c v w i row k j = -1 ∨ ∃ q, q < c 0 ∧ FL_X5_firstUnfit c v w i row k j = nI q := by
  intro k
  induction k with
  | zero => intro j _ _; exact Or.inl rfl
  | succ k ih =>
    intro j hj hc
    have h1 := ih (j + 1) (by omega) hc
    have e : FL_X5_firstUnfit c v w i row (k + 1) j = (if (F_X5_isIn (v 7 i 1) (nI j)) = 0 then (FL_X5_firstUnfit c v w i row k (j + 1)) else (if (F_X5_wrongWith c v w i row (nI j)) = 0 then (FL_X5_firstUnfit c v w i row k (j + 1)) else (nI j))) := rfl
    rw [e]
    by_cases a : F_X5_isIn (v 7 i 1) (nI j) = 0
    · rw [if_pos a]; exact h1
    · rw [if_neg a]
      by_cases b : F_X5_wrongWith c v w i row (nI j) = 0
      · rw [if_pos b]; exact h1
      · rw [if_neg b]; exact Or.inr ⟨j, by omega, rfl⟩
theorem firstUnfit_rng {c : SC} {v : SV} {w : SW} {i : Nat} {row : Nat → Int32} (hBd : BND c) (h : ¬ F_X5_firstUnfit c v w i row = -1) : ¬ F_X5_firstUnfit c v w i row < 0 ∧ (F_X5_firstUnfit c v w i row).toNatClampNeg < c 0 := by
  unfold F_X5_firstUnfit at h ⊢
  rcases firstUnfit_rngL (c := c) (v := v) (w := w) (i := i) (row := row) (c 0) 0 (by omega) hBd.1 with h1 | ⟨q, hq, h1⟩
  · exact absurd h1 h
  · rw [h1]
    have hq9 : q < 2 ^ 31 := Nat.lt_of_lt_of_le hq (Nat.le_trans hBd.1 (by decide))
    exact ⟨nI_nn hq9, by rw [nI_clamp hq9]; exact hq⟩

def F_X5_wrongWithFirst (c : SC) (v : SV) (w : SW) (i : Nat) : Int32 := (if (F_X5_firstUnfit c v w i (v 57 ((v 7 i 0).toNatClampNeg))) = (-1 : Int32) then (0 : Int32) else (F_X5_wrongWith c v w i (v 57 ((v 7 i 0).toNatClampNeg)) (F_X5_firstUnfit c v w i (v 57 ((v 7 i 0).toNatClampNeg)))))

set_option maxHeartbeats 4000000 in
set_option maxRecDepth 100000 in
theorem r_X5_wrongWithFirst (l : Launch) (D : va_G) (cA : Nat → ClassId) (NL : List (Nat × Nat)) (c : SC) (v : SV) (w : SW) (u : Nat → Int32) (ad : Nat → Nat → Nat) (i : Nat) (hM : MEM c NL) (hBd : BND c) (hF : WF c v) (hi : i < c 4) : Met l yX5_wrongWithFirst wsX5_wrongWithFirst ({ frames := 5, cells := 0, slots := 0, locals := 118 }) (pcPre D vwCl (tyL cA) [.ref (ad 5 0), .ref (ad 7 i)] (fun H => va_P D vwCl (pcW NL ad (ctO cA c v w u ad)) H)) (va_Qi (fun (r : Int32) (_ : Unit) => r = F_X5_wrongWithFirst c v w i) (fun _ _ => True) (fun _ => False)) 0 0 (fun _ => False) := by
  refine Met.ofW (cc := cX5_wrongWithFirst) (maxL := 4) (ret := (some .int)) (by decide) rfl ?_
  intro p e s m args below meth c0 s₁ B hml hv
  obtain ⟨rfl, hX, hP0⟩ := hv
  have hx := B.exec
  have hb := B.bytes
  have hr := B.returns
  have hts := atoms_spec (ws := wsX5_wrongWithFirst) B.pre
  have hown : s.vm.findClass RX5 = some m.cls := findClass_of_methodNamed B.named
  have hlocks := B.notSynchronized
  have hW : pcQ D vwCl (fun _ => False) s.heap NL ad (ctO cA c v w u ad) s.heap [] := ⟨hP0, va_S.rf⟩
  have hl := lv_entry ([.ref (ad 5 0), .ref (ad 7 i)]) (n := 4) (Nat.le_of_ble_eq_true rfl)
  rw [lg_entry_eq]
  generalize (lg_sl ([.ref (ad 5 0), .ref (ad 7 i)]) ++ List.replicate (4 - (lg_sl ([.ref (ad 5 0), .ref (ad 7 i)])).length) Slot.unset).toArray = ls at hl ⊢
  have hl : lv_has ls 4 [(0, .ref (ad 5 0)), (1, .ref (ad 7 i))] := hl
  refine lv_aload_n hx hb dX5_wrongWithFirst_0 rfl (lv_at hl 0 rfl) ?_
  refine pc_get (C := RX5) (T := TX5) (N := 13) (ci := 5) hx hb hts (by decide +kernel) hown hX.1 hW.1 5 0 hM.1 rfl rfl 5 (by decide) (hts (.fieldLink RX5 41 "DraftsmanOffice" "crewHas" "[[I") (by decide +kernel)) (fun _ h9 => h9) rfl dX5_wrongWithFirst_1 ?_
  refine lv_aload_n hx hb dX5_wrongWithFirst_4 rfl (lv_at hl 1 rfl) ?_
  refine pc_getN (C := RX4) (T := TX4) (N := 6) (ci := 4) hx hb hts (by decide +kernel) hown hX.1 hW.1 7 i (hM.2.2.2.2.2.2.2 i hi) rfl rfl 0 (by decide) (hX.2.1 (.fieldLinkNest RX5 274 "DraftsmanOffice$WorkPackage" "crew" "I" R_host) (by decide +kernel)) (fun _ h9 => h9) rfl dX5_wrongWithFirst_5 ?_
  refine pc_aald (r := .ref (ad 57 ((v 7 i 0).toNatClampNeg))) hx hb hX.1 hW.1 55 0 2 (hM.2.1 55 (by decide) (by decide)) rfl rfl rfl (fun q => q.elim (hF.2.1 i hi).1 (fun q => absurd (hF.2.1 i hi).2 (Nat.not_lt.mpr q))) (by rw [sRf_in (hF.2.1 i hi).2]; rfl) dX5_wrongWithFirst_8 ?_
  refine lv_astore_n (lv' := [(2, .ref (ad 57 ((v 7 i 0).toNatClampNeg))), (0, .ref (ad 5 0)), (1, .ref (ad 7 i))]) hx hb dX5_wrongWithFirst_9 rfl hl (by decide) rfl (fun ls hl => ?_)
  refine lv_aload_n hx hb dX5_wrongWithFirst_10 rfl (lv_at hl 1 rfl) ?_
  refine lv_aload_n hx hb dX5_wrongWithFirst_11 rfl (lv_at hl 2 rfl) ?_
  refine lv_aload_n hx hb dX5_wrongWithFirst_12 rfl (lv_at hl 0 rfl) ?_
  refine pc_qcalli (va_runV (As := [.ref (ad 7 i), .ref (ad 57 ((v 7 i 0).toNatClampNeg))]) (rest := []) ⟨hx, hb, hml, hown, hts⟩ (r_X5_firstUnfit l D cA NL c v w u ad i 57 ((v 7 i 0).toNatClampNeg) (v 57 ((v 7 i 0).toNatClampNeg)) hM hBd hF hi (hM.2.2.1 ((v 7 i 0).toNatClampNeg) (hF.2.1 i hi).2) rfl) (cwV 2 hts gX5_wrongWithFirst_X5_firstUnfit rfl rfl rfl (by decide +kernel) ⟨Nat.le_of_ble_eq_true rfl, Nat.le_of_ble_eq_true rfl⟩) (pc_preV pcN_ok hX hW.1 hM.1 rfl rfl hW.1) rfl rfl hl.1 rfl (lv_room (Nat.le_of_ble_eq_true rfl)) dX5_wrongWithFirst_13 ⟨Nat.le_of_ble_eq_true rfl, Nat.le_of_ble_eq_true rfl⟩) hW (fun r121 H locs hwr121 hW => ?_)
  replace hwr121 := hwr121.symm
  subst hwr121
  refine lv_istore_n (lv' := [(3, .int (F_X5_firstUnfit c v w i (v 57 ((v 7 i 0).toNatClampNeg)))), (2, .ref (ad 57 ((v 7 i 0).toNatClampNeg))), (0, .ref (ad 5 0)), (1, .ref (ad 7 i))]) hx hb dX5_wrongWithFirst_16 rfl hl (by decide) rfl (fun ls hl => ?_)
  refine lv_iload_n hx hb dX5_wrongWithFirst_17 rfl (lv_at hl 0 rfl) ?_
  refine lv_iconst (v := -1) hx hb dX5_wrongWithFirst_18 (by decide) ?_
  refine lv_icmp_ne (tgt := 26) hx hb dX5_wrongWithFirst_19 (by decide) (fun (c122 : ¬ (F_X5_firstUnfit c v w i (v 57 ((v 7 i 0).toNatClampNeg))) = (-1 : Int32)) => ?_) (fun (c122 : (F_X5_firstUnfit c v w i (v 57 ((v 7 i 0).toNatClampNeg))) = (-1 : Int32)) => ?_)
  · refine lv_aload_n hx hb dX5_wrongWithFirst_26 rfl (lv_at hl 2 rfl) ?_
    refine lv_iload_n hx hb dX5_wrongWithFirst_27 rfl (lv_at hl 0 rfl) ?_
    refine lv_aload_n hx hb dX5_wrongWithFirst_28 rfl (lv_at hl 3 rfl) ?_
    refine lv_aload_n hx hb dX5_wrongWithFirst_29 rfl (lv_at hl 1 rfl) ?_
    refine pc_qcalli (va_runV (As := [.int (F_X5_firstUnfit c v w i (v 57 ((v 7 i 0).toNatClampNeg))), .ref (ad 7 i), .ref (ad 57 ((v 7 i 0).toNatClampNeg))]) (rest := []) ⟨hx, hb, hml, hown, hts⟩ (r_X5_wrongWith l D cA NL c v w u ad i 57 ((v 7 i 0).toNatClampNeg) (v 57 ((v 7 i 0).toNatClampNeg)) (F_X5_firstUnfit c v w i (v 57 ((v 7 i 0).toNatClampNeg))) hM hBd hF hi (hM.2.2.1 ((v 7 i 0).toNatClampNeg) (hF.2.1 i hi).2) rfl (firstUnfit_rng hBd c122).1 (firstUnfit_rng hBd c122).2) (cwV 3 hts gX5_wrongWithFirst_X5_wrongWith rfl rfl rfl (by decide +kernel) ⟨Nat.le_of_ble_eq_true rfl, Nat.le_of_ble_eq_true rfl⟩) (pc_preV pcN_ok hX hW.1 hM.1 rfl rfl hW.1) rfl rfl hl.1 rfl (lv_room (Nat.le_of_ble_eq_true rfl)) dX5_wrongWithFirst_30 ⟨Nat.le_of_ble_eq_true rfl, Nat.le_of_ble_eq_true rfl⟩) hW (fun r123 H locs hwr123 hW => ?_)
    replace hwr123 := hwr123.symm
    subst hwr123
    exact W.iret (v := (F_X5_wrongWith c v w i (v 57 ((v 7 i 0).toNatClampNeg)) (F_X5_firstUnfit c v w i (v 57 ((v 7 i 0).toNatClampNeg))))) hx hb hr (fun t ht hW9 => ⟨⟨(F_X5_wrongWith c v w i (v 57 ((v 7 i 0).toNatClampNeg)) (F_X5_firstUnfit c v w i (v 57 ((v 7 i 0).toNatClampNeg)))), (), rfl, (by unfold F_X5_wrongWithFirst; rw [if_neg c122]), trivial⟩, hW.2.F ht⟩) hW.2.2.2 dX5_wrongWithFirst_33
  · refine lv_iconst (v := 0) hx hb dX5_wrongWithFirst_22 (by decide) ?_
    refine lv_goto (tgt := 33) hx hb dX5_wrongWithFirst_23 (by decide) ?_
    exact W.iret (v := 0) hx hb hr (fun t ht hW9 => ⟨⟨0, (), rfl, (by unfold F_X5_wrongWithFirst; rw [if_pos c122]), trivial⟩, hW.2.F ht⟩) hW.2.2.2 dX5_wrongWithFirst_33

def FL_X5_unfitRunning (c : SC) (v : SV) (w : SW)   : Nat → Nat → Int32 → Int32
  | 0, _, s126 => s126
  | k125 + 1, i124, s126 => FL_X5_unfitRunning c v w k125 (i124 + 1) (if (v 7 i124 3) = (1 : Int32) then (if (F_X5_firstUnfit c v w i124 (v 57 ((v 7 i124 0).toNatClampNeg))) = (-1 : Int32) then s126 else (s126 ||| ((1 : Int32) <<< ((nI i124) &&& 31)))) else s126)
def F_X5_unfitRunning (c : SC) (v : SV) (w : SW)  : Int32 := (FL_X5_unfitRunning c v w (c 4) 0 (0 : Int32))

set_option maxHeartbeats 4000000 in
set_option maxRecDepth 100000 in
theorem r_X5_unfitRunning (l : Launch) (D : va_G) (cA : Nat → ClassId) (NL : List (Nat × Nat)) (c : SC) (v : SV) (w : SW) (u : Nat → Int32) (ad : Nat → Nat → Nat)  (hM : MEM c NL) (hBd : BND c) (hF : WF c v) : Met l yX5_unfitRunning wsX5_unfitRunning ({ frames := 5, cells := 0, slots := 0, locals := 118 }) (pcPre D vwCl (tyL cA) [.ref (ad 5 0)] (fun H => va_P D vwCl (pcW NL ad (ctO cA c v w u ad)) H)) (va_Qi (fun (r : Int32) (_ : Unit) => r = F_X5_unfitRunning c v w) (fun _ _ => True) (fun _ => False)) 0 0 (fun _ => False) := by
  refine Met.ofW (cc := cX5_unfitRunning) (maxL := 4) (ret := (some .int)) (by decide) rfl ?_
  intro p e s m args below meth c0 s₁ B hml hv
  obtain ⟨rfl, hX, hP0⟩ := hv
  have hx := B.exec
  have hb := B.bytes
  have hr := B.returns
  have hts := atoms_spec (ws := wsX5_unfitRunning) B.pre
  have hown : s.vm.findClass RX5 = some m.cls := findClass_of_methodNamed B.named
  have hlocks := B.notSynchronized
  have hW : pcQ D vwCl (fun _ => False) s.heap NL ad (ctO cA c v w u ad) s.heap [] := ⟨hP0, va_S.rf⟩
  have hl := lv_entry ([.ref (ad 5 0)]) (n := 4) (Nat.le_of_ble_eq_true rfl)
  rw [lg_entry_eq]
  generalize (lg_sl ([.ref (ad 5 0)]) ++ List.replicate (4 - (lg_sl ([.ref (ad 5 0)])).length) Slot.unset).toArray = ls at hl ⊢
  have hl : lv_has ls 4 [(0, .ref (ad 5 0))] := hl
  refine lv_iconst (v := 0) hx hb dX5_unfitRunning_0 (by decide) ?_
  refine lv_istore_n (lv' := [(1, .int 0), (0, .ref (ad 5 0))]) hx hb dX5_unfitRunning_1 rfl hl (by decide) rfl (fun ls hl => ?_)
  refine lv_iconst (v := 0) hx hb dX5_unfitRunning_2 (by decide) ?_
  refine lv_istore_n (lv' := [(2, .int 0), (1, .int 0), (0, .ref (ad 5 0))]) hx hb dX5_unfitRunning_3 rfl hl (by decide) rfl (fun ls hl => ?_)
  have K127 : ∀ (k125 i124 : Nat) (s126 : Int32) (H : Heap) (locs : List Loc) (ls : Array Slot), i124 + k125 = c 4 → (FL_X5_unfitRunning c v w k125 i124 s126) = (FL_X5_unfitRunning c v w (c 4) 0 (0 : Int32)) → pcQ D vwCl (fun _ => False) s.heap NL ad (ctO cA c v w u ad) H locs → lv_has ls 4 [(2, .int (nI i124)), (1, .int s126), (0, .ref (ad 5 0))] → W p l e (headSpec wsX5_unfitRunning ({ frames := 5, cells := 0, slots := 0, locals := 118 })).room s m ([.ref (ad 5 0)] : List Value).toArray below meth c0 H locs 0 0 (MQ below (va_Qi (fun (r : Int32) (_ : Unit) => r = F_X5_unfitRunning c v w) (fun _ _ => True) (fun _ => False)) ([.ref (ad 5 0)] : List Value).toArray s 0 0 (fun _ => False)) (F0 m 4 ls []) := by
    intro k125
    induction k125 with
    | zero =>
      intro i124 s126 H locs ls hk heF hW hl
      have ei : i124 = c 4 := by omega
      rw [ei] at hl
      obtain rfl : (FL_X5_unfitRunning c v w (c 4) 0 (0 : Int32)) = s126 := heF.symm
      clear heF
      refine lv_iload_n hx hb dX5_unfitRunning_4 rfl (lv_at hl 0 rfl) ?_
      refine lv_aload_n hx hb dX5_unfitRunning_5 rfl (lv_at hl 2 rfl) ?_
      refine pc_get (C := RX5) (T := TX5) (N := 13) (ci := 5) hx hb hts (by decide +kernel) hown hX.1 hW.1 5 0 hM.1 rfl rfl 11 (by decide) (hts (.fieldLink RX5 61 "DraftsmanOffice" "packageCount" "I") (by decide +kernel)) (fun _ h9 => h9) rfl dX5_unfitRunning_6 ?_
      refine lv_icmp_ge (tgt := 57) hx hb dX5_unfitRunning_9 (by decide) (fun _ => ?_) (fun c128 => absurd (Int32.le_refl _) c128)
      refine lv_iload_n hx hb dX5_unfitRunning_57 rfl (lv_at hl 1 rfl) ?_
      exact W.iret (v := (FL_X5_unfitRunning c v w (c 4) 0 (0 : Int32))) hx hb hr (fun t ht hW9 => ⟨⟨(FL_X5_unfitRunning c v w (c 4) 0 (0 : Int32)), (), rfl, rfl, trivial⟩, hW.2.F ht⟩) hW.2.2.2 dX5_unfitRunning_58
    | succ k125 ihk125 =>
      intro i124 s126 H locs ls hk heF hW hl
      have hlt : i124 < c 4 := by omega
      have hlt9i124 := hlt
      refine lv_iload_n hx hb dX5_unfitRunning_4 rfl (lv_at hl 0 rfl) ?_
      refine lv_aload_n hx hb dX5_unfitRunning_5 rfl (lv_at hl 2 rfl) ?_
      refine pc_get (C := RX5) (T := TX5) (N := 13) (ci := 5) hx hb hts (by decide +kernel) hown hX.1 hW.1 5 0 hM.1 rfl rfl 11 (by decide) (hts (.fieldLink RX5 61 "DraftsmanOffice" "packageCount" "I") (by decide +kernel)) (fun _ h9 => h9) rfl dX5_unfitRunning_6 ?_
      refine lv_icmp_ge (tgt := 57) hx hb dX5_unfitRunning_9 (by decide) (fun c129 => absurd c129 (nI_ge hlt (Nat.lt_of_le_of_lt hBd.2.2.2.2 (by decide)))) (fun _ => ?_)
      refine lv_aload_n hx hb dX5_unfitRunning_12 rfl (lv_at hl 2 rfl) ?_
      refine pc_get (C := RX5) (T := TX5) (N := 13) (ci := 5) hx hb hts (by decide +kernel) hown hX.1 hW.1 5 0 hM.1 rfl rfl 4 (by decide) (hts (.fieldLink RX5 35 "DraftsmanOffice" "packages" "[LDraftsmanOffice$WorkPackage;") (by decide +kernel)) (fun _ h9 => h9) rfl dX5_unfitRunning_13 ?_
      refine lv_iload_n hx hb dX5_unfitRunning_16 rfl (lv_at hl 0 rfl) ?_
      refine pc_aald (r := .ref (ad 7 i124)) hx hb hX.1 hW.1 54 0 7 (hM.2.1 54 (by decide) (by decide)) rfl rfl rfl (vp_in_nI (Nat.lt_of_lt_of_le hlt9i124 hBd.2.2.2.2) (by decide)) (by rw [nI_clamp (Nat.lt_of_lt_of_le (Nat.lt_of_lt_of_le hlt9i124 hBd.2.2.2.2) (by decide)), sRf_in hlt9i124]; rfl) dX5_unfitRunning_17 ?_
      refine lv_astore_n (lv' := [(3, .ref (ad 7 i124)), (2, .int (nI i124)), (1, .int s126), (0, .ref (ad 5 0))]) hx hb dX5_unfitRunning_18 rfl hl (by decide) rfl (fun ls hl => ?_)
      refine lv_aload_n hx hb dX5_unfitRunning_19 rfl (lv_at hl 0 rfl) ?_
      refine pc_getN (C := RX4) (T := TX4) (N := 6) (ci := 4) hx hb hts (by decide +kernel) hown hX.1 hW.1 7 i124 (hM.2.2.2.2.2.2.2 i124 hlt9i124) rfl rfl 4 (by decide) (hX.2.1 (.fieldLinkNest RX5 264 "DraftsmanOffice$WorkPackage" "state" "I" R_host) (by decide +kernel)) (fun _ h9 => h9) rfl dX5_unfitRunning_20 ?_
      refine lv_iconst (v := 1) hx hb dX5_unfitRunning_23 (by decide) ?_
      refine lv_icmp_ne (tgt := 51) hx hb dX5_unfitRunning_24 (by decide) (fun (c130 : ¬ (v 7 i124 3) = (1 : Int32)) => ?_) (fun (c130 : (v 7 i124 3) = (1 : Int32)) => ?_)
      · refine lv_iinc (v := nI (i124 + 1)) (lv' := [(2, .int (nI (i124 + 1))), (3, .ref (ad 7 i124)), (1, .int s126), (0, .ref (ad 5 0))]) hx hb dX5_unfitRunning_51 hl (k := 1) rfl (nI_1 i124) (by decide) rfl (fun ls hl => ?_)
        refine lv_goto (tgt := 4) hx hb dX5_unfitRunning_54 (by decide) ?_
        have he9F : (FL_X5_unfitRunning c v w k125 (i124 + 1) s126) = (FL_X5_unfitRunning c v w (c 4) 0 (0 : Int32)) := by rw [← heF]; show (FL_X5_unfitRunning c v w k125 (i124 + 1) s126) = (FL_X5_unfitRunning c v w (k125 + 1) i124 s126); simp only [FL_X5_unfitRunning, if_neg c130]
        exact ihk125 (i124 + 1)  s126 H locs ls (by omega) he9F hW (lv_sub hl [0, 2, 3] rfl)
      · refine lv_aload_n hx hb dX5_unfitRunning_27 rfl (lv_at hl 3 rfl) ?_
        refine lv_aload_n hx hb dX5_unfitRunning_28 rfl (lv_at hl 0 rfl) ?_
        refine lv_aload_n hx hb dX5_unfitRunning_29 rfl (lv_at hl 3 rfl) ?_
        refine pc_get (C := RX5) (T := TX5) (N := 13) (ci := 5) hx hb hts (by decide +kernel) hown hX.1 hW.1 5 0 hM.1 rfl rfl 5 (by decide) (hts (.fieldLink RX5 41 "DraftsmanOffice" "crewHas" "[[I") (by decide +kernel)) (fun _ h9 => h9) rfl dX5_unfitRunning_30 ?_
        refine lv_aload_n hx hb dX5_unfitRunning_33 rfl (lv_at hl 0 rfl) ?_
        refine pc_getN (C := RX4) (T := TX4) (N := 6) (ci := 4) hx hb hts (by decide +kernel) hown hX.1 hW.1 7 i124 (hM.2.2.2.2.2.2.2 i124 hlt9i124) rfl rfl 0 (by decide) (hX.2.1 (.fieldLinkNest RX5 274 "DraftsmanOffice$WorkPackage" "crew" "I" R_host) (by decide +kernel)) (fun _ h9 => h9) rfl dX5_unfitRunning_34 ?_
        refine pc_aald (r := .ref (ad 57 ((v 7 i124 0).toNatClampNeg))) hx hb hX.1 hW.1 55 0 2 (hM.2.1 55 (by decide) (by decide)) rfl rfl rfl (fun q => q.elim (hF.2.1 i124 hlt9i124).1 (fun q => absurd (hF.2.1 i124 hlt9i124).2 (Nat.not_lt.mpr q))) (by rw [sRf_in (hF.2.1 i124 hlt9i124).2]; rfl) dX5_unfitRunning_37 ?_
        refine pc_qcalli (va_runV (As := [.ref (ad 7 i124), .ref (ad 57 ((v 7 i124 0).toNatClampNeg))]) (rest := []) ⟨hx, hb, hml, hown, hts⟩ (r_X5_firstUnfit l D cA NL c v w u ad i124 57 ((v 7 i124 0).toNatClampNeg) (v 57 ((v 7 i124 0).toNatClampNeg)) hM hBd hF hlt9i124 (hM.2.2.1 ((v 7 i124 0).toNatClampNeg) (hF.2.1 i124 hlt9i124).2) rfl) (cwV 2 hts gX5_unfitRunning_X5_firstUnfit rfl rfl rfl (by decide +kernel) ⟨Nat.le_of_ble_eq_true rfl, Nat.le_of_ble_eq_true rfl⟩) (pc_preV pcN_ok hX hW.1 hM.1 rfl rfl hW.1) rfl rfl hl.1 rfl (lv_room (Nat.le_of_ble_eq_true rfl)) dX5_unfitRunning_38 ⟨Nat.le_of_ble_eq_true rfl, Nat.le_of_ble_eq_true rfl⟩) hW (fun r131 H locs hwr131 hW => ?_)
        replace hwr131 := hwr131.symm
        subst hwr131
        refine lv_iconst (v := -1) hx hb dX5_unfitRunning_41 (by decide) ?_
        refine lv_icmp_eq (tgt := 51) hx hb dX5_unfitRunning_42 (by decide) (fun (c132 : (F_X5_firstUnfit c v w i124 (v 57 ((v 7 i124 0).toNatClampNeg))) = (-1 : Int32)) => ?_) (fun (c132 : ¬ (F_X5_firstUnfit c v w i124 (v 57 ((v 7 i124 0).toNatClampNeg))) = (-1 : Int32)) => ?_)
        · refine lv_iinc (v := nI (i124 + 1)) (lv' := [(2, .int (nI (i124 + 1))), (3, .ref (ad 7 i124)), (1, .int s126), (0, .ref (ad 5 0))]) hx hb dX5_unfitRunning_51 hl (k := 1) rfl (nI_1 i124) (by decide) rfl (fun ls hl => ?_)
          refine lv_goto (tgt := 4) hx hb dX5_unfitRunning_54 (by decide) ?_
          have he9F : (FL_X5_unfitRunning c v w k125 (i124 + 1) s126) = (FL_X5_unfitRunning c v w (c 4) 0 (0 : Int32)) := by rw [← heF]; show (FL_X5_unfitRunning c v w k125 (i124 + 1) s126) = (FL_X5_unfitRunning c v w (k125 + 1) i124 s126); simp only [FL_X5_unfitRunning, if_pos c130, if_pos c132]
          exact ihk125 (i124 + 1)  s126 H locs ls (by omega) he9F hW (lv_sub hl [0, 2, 3] rfl)
        · refine lv_iload_n hx hb dX5_unfitRunning_45 rfl (lv_at hl 2 rfl) ?_
          refine lv_iconst (v := 1) hx hb dX5_unfitRunning_46 (by decide) ?_
          refine lv_iload_n hx hb dX5_unfitRunning_47 rfl (lv_at hl 1 rfl) ?_
          refine lv_ishl hx hb dX5_unfitRunning_48 ?_
          refine lv_ior hx hb dX5_unfitRunning_49 ?_
          refine lv_istore_n (lv' := [(1, .int (s126 ||| ((1 : Int32) <<< ((nI i124) &&& 31)))), (3, .ref (ad 7 i124)), (2, .int (nI i124)), (0, .ref (ad 5 0))]) hx hb dX5_unfitRunning_50 rfl hl (by decide) rfl (fun ls hl => ?_)
          refine lv_iinc (v := nI (i124 + 1)) (lv' := [(2, .int (nI (i124 + 1))), (1, .int (s126 ||| ((1 : Int32) <<< ((nI i124) &&& 31)))), (3, .ref (ad 7 i124)), (0, .ref (ad 5 0))]) hx hb dX5_unfitRunning_51 hl (k := 2) rfl (nI_1 i124) (by decide) rfl (fun ls hl => ?_)
          refine lv_goto (tgt := 4) hx hb dX5_unfitRunning_54 (by decide) ?_
          have he9F : (FL_X5_unfitRunning c v w k125 (i124 + 1) (s126 ||| ((1 : Int32) <<< ((nI i124) &&& 31)))) = (FL_X5_unfitRunning c v w (c 4) 0 (0 : Int32)) := by rw [← heF]; show (FL_X5_unfitRunning c v w k125 (i124 + 1) (s126 ||| ((1 : Int32) <<< ((nI i124) &&& 31)))) = (FL_X5_unfitRunning c v w (k125 + 1) i124 s126); simp only [FL_X5_unfitRunning, if_pos c130, if_neg c132]
          exact ihk125 (i124 + 1)  (s126 ||| ((1 : Int32) <<< ((nI i124) &&& 31))) H locs ls (by omega) he9F hW (lv_sub hl [0, 1, 3] rfl)
  exact K127 (c 4) 0  (0 : Int32) _ _ ls (by omega) rfl hW (lv_sub hl [0, 1, 2] rfl)

def FL_X5_fitStopped (c : SC) (v : SV) (w : SW)   : Nat → Nat → Int32 → Int32
  | 0, _, s135 => s135
  | k134 + 1, i133, s135 => FL_X5_fitStopped c v w k134 (i133 + 1) (if (v 7 i133 3) = (2 : Int32) then (if (F_X5_firstUnfit c v w i133 (v 57 ((v 7 i133 0).toNatClampNeg))) = (-1 : Int32) then (s135 + 1) else s135) else s135)
def F_X5_fitStopped (c : SC) (v : SV) (w : SW)  : Int32 := (FL_X5_fitStopped c v w (c 4) 0 (0 : Int32))

set_option maxHeartbeats 4000000 in
set_option maxRecDepth 100000 in
theorem r_X5_fitStopped (l : Launch) (D : va_G) (cA : Nat → ClassId) (NL : List (Nat × Nat)) (c : SC) (v : SV) (w : SW) (u : Nat → Int32) (ad : Nat → Nat → Nat)  (hM : MEM c NL) (hBd : BND c) (hF : WF c v) : Met l yX5_fitStopped wsX5_fitStopped ({ frames := 5, cells := 0, slots := 0, locals := 118 }) (pcPre D vwCl (tyL cA) [.ref (ad 5 0)] (fun H => va_P D vwCl (pcW NL ad (ctO cA c v w u ad)) H)) (va_Qi (fun (r : Int32) (_ : Unit) => r = F_X5_fitStopped c v w) (fun _ _ => True) (fun _ => False)) 0 0 (fun _ => False) := by
  refine Met.ofW (cc := cX5_fitStopped) (maxL := 4) (ret := (some .int)) (by decide) rfl ?_
  intro p e s m args below meth c0 s₁ B hml hv
  obtain ⟨rfl, hX, hP0⟩ := hv
  have hx := B.exec
  have hb := B.bytes
  have hr := B.returns
  have hts := atoms_spec (ws := wsX5_fitStopped) B.pre
  have hown : s.vm.findClass RX5 = some m.cls := findClass_of_methodNamed B.named
  have hlocks := B.notSynchronized
  have hW : pcQ D vwCl (fun _ => False) s.heap NL ad (ctO cA c v w u ad) s.heap [] := ⟨hP0, va_S.rf⟩
  have hl := lv_entry ([.ref (ad 5 0)]) (n := 4) (Nat.le_of_ble_eq_true rfl)
  rw [lg_entry_eq]
  generalize (lg_sl ([.ref (ad 5 0)]) ++ List.replicate (4 - (lg_sl ([.ref (ad 5 0)])).length) Slot.unset).toArray = ls at hl ⊢
  have hl : lv_has ls 4 [(0, .ref (ad 5 0))] := hl
  refine lv_iconst (v := 0) hx hb dX5_fitStopped_0 (by decide) ?_
  refine lv_istore_n (lv' := [(1, .int 0), (0, .ref (ad 5 0))]) hx hb dX5_fitStopped_1 rfl hl (by decide) rfl (fun ls hl => ?_)
  refine lv_iconst (v := 0) hx hb dX5_fitStopped_2 (by decide) ?_
  refine lv_istore_n (lv' := [(2, .int 0), (1, .int 0), (0, .ref (ad 5 0))]) hx hb dX5_fitStopped_3 rfl hl (by decide) rfl (fun ls hl => ?_)
  have K136 : ∀ (k134 i133 : Nat) (s135 : Int32) (H : Heap) (locs : List Loc) (ls : Array Slot), i133 + k134 = c 4 → (FL_X5_fitStopped c v w k134 i133 s135) = (FL_X5_fitStopped c v w (c 4) 0 (0 : Int32)) → pcQ D vwCl (fun _ => False) s.heap NL ad (ctO cA c v w u ad) H locs → lv_has ls 4 [(2, .int (nI i133)), (1, .int s135), (0, .ref (ad 5 0))] → W p l e (headSpec wsX5_fitStopped ({ frames := 5, cells := 0, slots := 0, locals := 118 })).room s m ([.ref (ad 5 0)] : List Value).toArray below meth c0 H locs 0 0 (MQ below (va_Qi (fun (r : Int32) (_ : Unit) => r = F_X5_fitStopped c v w) (fun _ _ => True) (fun _ => False)) ([.ref (ad 5 0)] : List Value).toArray s 0 0 (fun _ => False)) (F0 m 4 ls []) := by
    intro k134
    induction k134 with
    | zero =>
      intro i133 s135 H locs ls hk heF hW hl
      have ei : i133 = c 4 := by omega
      rw [ei] at hl
      obtain rfl : (FL_X5_fitStopped c v w (c 4) 0 (0 : Int32)) = s135 := heF.symm
      clear heF
      refine lv_iload_n hx hb dX5_fitStopped_4 rfl (lv_at hl 0 rfl) ?_
      refine lv_aload_n hx hb dX5_fitStopped_5 rfl (lv_at hl 2 rfl) ?_
      refine pc_get (C := RX5) (T := TX5) (N := 13) (ci := 5) hx hb hts (by decide +kernel) hown hX.1 hW.1 5 0 hM.1 rfl rfl 11 (by decide) (hts (.fieldLink RX5 61 "DraftsmanOffice" "packageCount" "I") (by decide +kernel)) (fun _ h9 => h9) rfl dX5_fitStopped_6 ?_
      refine lv_icmp_ge (tgt := 54) hx hb dX5_fitStopped_9 (by decide) (fun _ => ?_) (fun c137 => absurd (Int32.le_refl _) c137)
      refine lv_iload_n hx hb dX5_fitStopped_54 rfl (lv_at hl 1 rfl) ?_
      exact W.iret (v := (FL_X5_fitStopped c v w (c 4) 0 (0 : Int32))) hx hb hr (fun t ht hW9 => ⟨⟨(FL_X5_fitStopped c v w (c 4) 0 (0 : Int32)), (), rfl, rfl, trivial⟩, hW.2.F ht⟩) hW.2.2.2 dX5_fitStopped_55
    | succ k134 ihk134 =>
      intro i133 s135 H locs ls hk heF hW hl
      have hlt : i133 < c 4 := by omega
      have hlt9i133 := hlt
      refine lv_iload_n hx hb dX5_fitStopped_4 rfl (lv_at hl 0 rfl) ?_
      refine lv_aload_n hx hb dX5_fitStopped_5 rfl (lv_at hl 2 rfl) ?_
      refine pc_get (C := RX5) (T := TX5) (N := 13) (ci := 5) hx hb hts (by decide +kernel) hown hX.1 hW.1 5 0 hM.1 rfl rfl 11 (by decide) (hts (.fieldLink RX5 61 "DraftsmanOffice" "packageCount" "I") (by decide +kernel)) (fun _ h9 => h9) rfl dX5_fitStopped_6 ?_
      refine lv_icmp_ge (tgt := 54) hx hb dX5_fitStopped_9 (by decide) (fun c138 => absurd c138 (nI_ge hlt (Nat.lt_of_le_of_lt hBd.2.2.2.2 (by decide)))) (fun _ => ?_)
      refine lv_aload_n hx hb dX5_fitStopped_12 rfl (lv_at hl 2 rfl) ?_
      refine pc_get (C := RX5) (T := TX5) (N := 13) (ci := 5) hx hb hts (by decide +kernel) hown hX.1 hW.1 5 0 hM.1 rfl rfl 4 (by decide) (hts (.fieldLink RX5 35 "DraftsmanOffice" "packages" "[LDraftsmanOffice$WorkPackage;") (by decide +kernel)) (fun _ h9 => h9) rfl dX5_fitStopped_13 ?_
      refine lv_iload_n hx hb dX5_fitStopped_16 rfl (lv_at hl 0 rfl) ?_
      refine pc_aald (r := .ref (ad 7 i133)) hx hb hX.1 hW.1 54 0 7 (hM.2.1 54 (by decide) (by decide)) rfl rfl rfl (vp_in_nI (Nat.lt_of_lt_of_le hlt9i133 hBd.2.2.2.2) (by decide)) (by rw [nI_clamp (Nat.lt_of_lt_of_le (Nat.lt_of_lt_of_le hlt9i133 hBd.2.2.2.2) (by decide)), sRf_in hlt9i133]; rfl) dX5_fitStopped_17 ?_
      refine lv_astore_n (lv' := [(3, .ref (ad 7 i133)), (2, .int (nI i133)), (1, .int s135), (0, .ref (ad 5 0))]) hx hb dX5_fitStopped_18 rfl hl (by decide) rfl (fun ls hl => ?_)
      refine lv_aload_n hx hb dX5_fitStopped_19 rfl (lv_at hl 0 rfl) ?_
      refine pc_getN (C := RX4) (T := TX4) (N := 6) (ci := 4) hx hb hts (by decide +kernel) hown hX.1 hW.1 7 i133 (hM.2.2.2.2.2.2.2 i133 hlt9i133) rfl rfl 4 (by decide) (hX.2.1 (.fieldLinkNest RX5 264 "DraftsmanOffice$WorkPackage" "state" "I" R_host) (by decide +kernel)) (fun _ h9 => h9) rfl dX5_fitStopped_20 ?_
      refine lv_iconst (v := 2) hx hb dX5_fitStopped_23 (by decide) ?_
      refine lv_icmp_ne (tgt := 48) hx hb dX5_fitStopped_24 (by decide) (fun (c139 : ¬ (v 7 i133 3) = (2 : Int32)) => ?_) (fun (c139 : (v 7 i133 3) = (2 : Int32)) => ?_)
      · refine lv_iinc (v := nI (i133 + 1)) (lv' := [(2, .int (nI (i133 + 1))), (3, .ref (ad 7 i133)), (1, .int s135), (0, .ref (ad 5 0))]) hx hb dX5_fitStopped_48 hl (k := 1) rfl (nI_1 i133) (by decide) rfl (fun ls hl => ?_)
        refine lv_goto (tgt := 4) hx hb dX5_fitStopped_51 (by decide) ?_
        have he9F : (FL_X5_fitStopped c v w k134 (i133 + 1) s135) = (FL_X5_fitStopped c v w (c 4) 0 (0 : Int32)) := by rw [← heF]; show (FL_X5_fitStopped c v w k134 (i133 + 1) s135) = (FL_X5_fitStopped c v w (k134 + 1) i133 s135); simp only [FL_X5_fitStopped, if_neg c139]
        exact ihk134 (i133 + 1)  s135 H locs ls (by omega) he9F hW (lv_sub hl [0, 2, 3] rfl)
      · refine lv_aload_n hx hb dX5_fitStopped_27 rfl (lv_at hl 3 rfl) ?_
        refine lv_aload_n hx hb dX5_fitStopped_28 rfl (lv_at hl 0 rfl) ?_
        refine lv_aload_n hx hb dX5_fitStopped_29 rfl (lv_at hl 3 rfl) ?_
        refine pc_get (C := RX5) (T := TX5) (N := 13) (ci := 5) hx hb hts (by decide +kernel) hown hX.1 hW.1 5 0 hM.1 rfl rfl 5 (by decide) (hts (.fieldLink RX5 41 "DraftsmanOffice" "crewHas" "[[I") (by decide +kernel)) (fun _ h9 => h9) rfl dX5_fitStopped_30 ?_
        refine lv_aload_n hx hb dX5_fitStopped_33 rfl (lv_at hl 0 rfl) ?_
        refine pc_getN (C := RX4) (T := TX4) (N := 6) (ci := 4) hx hb hts (by decide +kernel) hown hX.1 hW.1 7 i133 (hM.2.2.2.2.2.2.2 i133 hlt9i133) rfl rfl 0 (by decide) (hX.2.1 (.fieldLinkNest RX5 274 "DraftsmanOffice$WorkPackage" "crew" "I" R_host) (by decide +kernel)) (fun _ h9 => h9) rfl dX5_fitStopped_34 ?_
        refine pc_aald (r := .ref (ad 57 ((v 7 i133 0).toNatClampNeg))) hx hb hX.1 hW.1 55 0 2 (hM.2.1 55 (by decide) (by decide)) rfl rfl rfl (fun q => q.elim (hF.2.1 i133 hlt9i133).1 (fun q => absurd (hF.2.1 i133 hlt9i133).2 (Nat.not_lt.mpr q))) (by rw [sRf_in (hF.2.1 i133 hlt9i133).2]; rfl) dX5_fitStopped_37 ?_
        refine pc_qcalli (va_runV (As := [.ref (ad 7 i133), .ref (ad 57 ((v 7 i133 0).toNatClampNeg))]) (rest := []) ⟨hx, hb, hml, hown, hts⟩ (r_X5_firstUnfit l D cA NL c v w u ad i133 57 ((v 7 i133 0).toNatClampNeg) (v 57 ((v 7 i133 0).toNatClampNeg)) hM hBd hF hlt9i133 (hM.2.2.1 ((v 7 i133 0).toNatClampNeg) (hF.2.1 i133 hlt9i133).2) rfl) (cwV 2 hts gX5_fitStopped_X5_firstUnfit rfl rfl rfl (by decide +kernel) ⟨Nat.le_of_ble_eq_true rfl, Nat.le_of_ble_eq_true rfl⟩) (pc_preV pcN_ok hX hW.1 hM.1 rfl rfl hW.1) rfl rfl hl.1 rfl (lv_room (Nat.le_of_ble_eq_true rfl)) dX5_fitStopped_38 ⟨Nat.le_of_ble_eq_true rfl, Nat.le_of_ble_eq_true rfl⟩) hW (fun r140 H locs hwr140 hW => ?_)
        replace hwr140 := hwr140.symm
        subst hwr140
        refine lv_iconst (v := -1) hx hb dX5_fitStopped_41 (by decide) ?_
        refine lv_icmp_ne (tgt := 48) hx hb dX5_fitStopped_42 (by decide) (fun (c141 : ¬ (F_X5_firstUnfit c v w i133 (v 57 ((v 7 i133 0).toNatClampNeg))) = (-1 : Int32)) => ?_) (fun (c141 : (F_X5_firstUnfit c v w i133 (v 57 ((v 7 i133 0).toNatClampNeg))) = (-1 : Int32)) => ?_)
        · refine lv_iinc (v := nI (i133 + 1)) (lv' := [(2, .int (nI (i133 + 1))), (3, .ref (ad 7 i133)), (1, .int s135), (0, .ref (ad 5 0))]) hx hb dX5_fitStopped_48 hl (k := 1) rfl (nI_1 i133) (by decide) rfl (fun ls hl => ?_)
          refine lv_goto (tgt := 4) hx hb dX5_fitStopped_51 (by decide) ?_
          have he9F : (FL_X5_fitStopped c v w k134 (i133 + 1) s135) = (FL_X5_fitStopped c v w (c 4) 0 (0 : Int32)) := by rw [← heF]; show (FL_X5_fitStopped c v w k134 (i133 + 1) s135) = (FL_X5_fitStopped c v w (k134 + 1) i133 s135); simp only [FL_X5_fitStopped, if_pos c139, if_neg c141]
          exact ihk134 (i133 + 1)  s135 H locs ls (by omega) he9F hW (lv_sub hl [0, 2, 3] rfl)
        · refine lv_iinc (v := (s135 + 1)) (lv' := [(1, .int (s135 + 1)), (3, .ref (ad 7 i133)), (2, .int (nI i133)), (0, .ref (ad 5 0))]) hx hb dX5_fitStopped_45 hl (k := 2) rfl rfl (by decide) rfl (fun ls hl => ?_)
          refine lv_iinc (v := nI (i133 + 1)) (lv' := [(2, .int (nI (i133 + 1))), (1, .int (s135 + 1)), (3, .ref (ad 7 i133)), (0, .ref (ad 5 0))]) hx hb dX5_fitStopped_48 hl (k := 2) rfl (nI_1 i133) (by decide) rfl (fun ls hl => ?_)
          refine lv_goto (tgt := 4) hx hb dX5_fitStopped_51 (by decide) ?_
          have he9F : (FL_X5_fitStopped c v w k134 (i133 + 1) (s135 + 1)) = (FL_X5_fitStopped c v w (c 4) 0 (0 : Int32)) := by rw [← heF]; show (FL_X5_fitStopped c v w k134 (i133 + 1) (s135 + 1)) = (FL_X5_fitStopped c v w (k134 + 1) i133 s135); simp only [FL_X5_fitStopped, if_pos c139, if_pos c141]
          exact ihk134 (i133 + 1)  (s135 + 1) H locs ls (by omega) he9F hW (lv_sub hl [0, 1, 3] rfl)
  exact K136 (c 4) 0  (0 : Int32) _ _ ls (by omega) rfl hW (lv_sub hl [0, 1, 2] rfl)

def FL_X5_areAllIssued (c : SC) (v : SV) (w : SW)  (x1 : Int32) : Nat → Nat → Int32
  | 0, i142 => (1 : Int32)
  | k143 + 1, i142 => (if (F_X5_isIn x1 (nI i142)) = 0 then (FL_X5_areAllIssued c v w x1 k143 (i142 + 1)) else (if (v 1 i142 3) = (-1 : Int32) then (0 : Int32) else (FL_X5_areAllIssued c v w x1 k143 (i142 + 1))))
def F_X5_areAllIssued (c : SC) (v : SV) (w : SW) (x1 : Int32) : Int32 := (FL_X5_areAllIssued c v w x1 (c 0) 0)

set_option maxHeartbeats 4000000 in
set_option maxRecDepth 100000 in
theorem r_X5_areAllIssued (l : Launch) (D : va_G) (cA : Nat → ClassId) (NL : List (Nat × Nat)) (c : SC) (v : SV) (w : SW) (u : Nat → Int32) (ad : Nat → Nat → Nat) (x1 : Int32) (hM : MEM c NL) (hBd : BND c) (hF : WF c v) : Met l yX5_areAllIssued wsX5_areAllIssued ({ frames := 1, cells := 0, slots := 0, locals := 21 }) (pcPre D vwCl (tyL cA) [.ref (ad 5 0), .int x1] (fun H => va_P D vwCl (pcW NL ad (ctO cA c v w u ad)) H)) (va_Qi (fun (r : Int32) (_ : Unit) => r = F_X5_areAllIssued c v w x1) (fun _ _ => True) (fun _ => False)) 0 0 (fun _ => False) := by
  refine Met.ofW (cc := cX5_areAllIssued) (maxL := 3) (ret := (some .boolean)) (by decide) rfl ?_
  intro p e s m args below meth c0 s₁ B hml hv
  obtain ⟨rfl, hX, hP0⟩ := hv
  have hx := B.exec
  have hb := B.bytes
  have hr := B.returns
  have hts := atoms_spec (ws := wsX5_areAllIssued) B.pre
  have hown : s.vm.findClass RX5 = some m.cls := findClass_of_methodNamed B.named
  have hlocks := B.notSynchronized
  have hW : pcQ D vwCl (fun _ => False) s.heap NL ad (ctO cA c v w u ad) s.heap [] := ⟨hP0, va_S.rf⟩
  have hl := lv_entry ([.ref (ad 5 0), .int x1]) (n := 3) (Nat.le_of_ble_eq_true rfl)
  rw [lg_entry_eq]
  generalize (lg_sl ([.ref (ad 5 0), .int x1]) ++ List.replicate (3 - (lg_sl ([.ref (ad 5 0), .int x1])).length) Slot.unset).toArray = ls at hl ⊢
  have hl : lv_has ls 3 [(0, .ref (ad 5 0)), (1, .int x1)] := hl
  refine lv_iconst (v := 0) hx hb dX5_areAllIssued_0 (by decide) ?_
  refine lv_istore_n (lv' := [(2, .int 0), (0, .ref (ad 5 0)), (1, .int x1)]) hx hb dX5_areAllIssued_1 rfl hl (by decide) rfl (fun ls hl => ?_)
  have K145 : ∀ (k143 i142 : Nat) (H : Heap) (locs : List Loc) (ls : Array Slot), i142 + k143 = c 0 → (FL_X5_areAllIssued c v w x1 k143 i142) = (FL_X5_areAllIssued c v w x1 (c 0) 0) → pcQ D vwCl (fun _ => False) s.heap NL ad (ctO cA c v w u ad) H locs → lv_has ls 3 [(2, .int (nI i142)), (0, .ref (ad 5 0)), (1, .int x1)] → W p l e (headSpec wsX5_areAllIssued ({ frames := 1, cells := 0, slots := 0, locals := 21 })).room s m ([.ref (ad 5 0), .int x1] : List Value).toArray below meth c0 H locs 0 0 (MQ below (va_Qi (fun (r : Int32) (_ : Unit) => r = F_X5_areAllIssued c v w x1) (fun _ _ => True) (fun _ => False)) ([.ref (ad 5 0), .int x1] : List Value).toArray s 0 0 (fun _ => False)) (F0 m 2 ls []) := by
    intro k143
    induction k143 with
    | zero =>
      intro i142 H locs ls hk heF hW hl
      have ei : i142 = c 0 := by omega
      rw [ei] at hl heF
      have he := heF
      refine lv_iload_n hx hb dX5_areAllIssued_2 rfl (lv_at hl 0 rfl) ?_
      refine lv_aload_n hx hb dX5_areAllIssued_3 rfl (lv_at hl 1 rfl) ?_
      refine pc_get (C := RX5) (T := TX5) (N := 13) (ci := 5) hx hb hts (by decide +kernel) hown hX.1 hW.1 5 0 hM.1 rfl rfl 7 (by decide) (hts (.fieldLink RX5 48 "DraftsmanOffice" "sheetCount" "I") (by decide +kernel)) (fun _ h9 => h9) rfl dX5_areAllIssued_4 ?_
      refine lv_icmp_ge (tgt := 39) hx hb dX5_areAllIssued_7 (by decide) (fun _ => ?_) (fun c146 => absurd (Int32.le_refl _) c146)
      refine lv_iconst (v := 1) hx hb dX5_areAllIssued_39 (by decide) ?_
      exact W.zret (v := 1) hx hb hr rfl (fun t ht hW9 => ⟨⟨1, (), rfl, (by unfold F_X5_areAllIssued; exact he), trivial⟩, hW.2.F ht⟩) hW.2.2.2 dX5_areAllIssued_40
    | succ k143 ihk143 =>
      intro i142 H locs ls hk heF hW hl
      have hlt : i142 < c 0 := by omega
      have hlt9i142 := hlt
      have he := heF
      refine lv_iload_n hx hb dX5_areAllIssued_2 rfl (lv_at hl 0 rfl) ?_
      refine lv_aload_n hx hb dX5_areAllIssued_3 rfl (lv_at hl 1 rfl) ?_
      refine pc_get (C := RX5) (T := TX5) (N := 13) (ci := 5) hx hb hts (by decide +kernel) hown hX.1 hW.1 5 0 hM.1 rfl rfl 7 (by decide) (hts (.fieldLink RX5 48 "DraftsmanOffice" "sheetCount" "I") (by decide +kernel)) (fun _ h9 => h9) rfl dX5_areAllIssued_4 ?_
      refine lv_icmp_ge (tgt := 39) hx hb dX5_areAllIssued_7 (by decide) (fun c147 => absurd c147 (nI_ge hlt (Nat.lt_of_le_of_lt hBd.1 (by decide)))) (fun _ => ?_)
      refine lv_iload_n hx hb dX5_areAllIssued_10 rfl (lv_at hl 2 rfl) ?_
      refine lv_iload_n hx hb dX5_areAllIssued_11 rfl (lv_at hl 0 rfl) ?_
      refine pc_qcalli (va_runS (As := [.int x1, .int (nI i142)]) (rest := []) ⟨hx, hb, hml, hown, hts⟩ (r_X5_isIn l D cA x1 (nI i142) ) (va_cwS 2 hts gX5_areAllIssued_X5_isIn rfl rfl rfl (by decide +kernel) ⟨Nat.le_of_ble_eq_true rfl, Nat.le_of_ble_eq_true rfl⟩) (pc_preS pcN_ok hX trivial) rfl rfl hl.1 rfl (lv_room (Nat.le_of_ble_eq_true rfl)) dX5_areAllIssued_12 ⟨Nat.le_of_ble_eq_true rfl, Nat.le_of_ble_eq_true rfl⟩) hW (fun r148 H locs hwr148 hW => ?_)
      replace hwr148 := hwr148.symm
      subst hwr148
      refine lv_if_eq (tgt := 33) hx hb dX5_areAllIssued_15 (by decide) (fun (c149 : (F_X5_isIn x1 (nI i142)) = 0) => ?_) (fun (c149 : ¬ (F_X5_isIn x1 (nI i142)) = 0) => ?_)
      · refine lv_iinc (v := nI (i142 + 1)) (lv' := [(2, .int (nI (i142 + 1))), (0, .ref (ad 5 0)), (1, .int x1)]) hx hb dX5_areAllIssued_33 hl (k := 0) rfl (nI_1 i142) (by decide) rfl (fun ls hl => ?_)
        refine lv_goto (tgt := 2) hx hb dX5_areAllIssued_36 (by decide) ?_
        have he9F : (FL_X5_areAllIssued c v w x1 k143 (i142 + 1)) = (FL_X5_areAllIssued c v w x1 (c 0) 0) := by rw [← heF]; show (FL_X5_areAllIssued c v w x1 k143 (i142 + 1)) = (FL_X5_areAllIssued c v w x1 (k143 + 1) i142); simp only [FL_X5_areAllIssued, if_pos c149]
        exact ihk143 (i142 + 1)   H locs ls (by omega) he9F hW (lv_sub hl [0, 1, 2] rfl)
      · refine lv_aload_n hx hb dX5_areAllIssued_18 rfl (lv_at hl 1 rfl) ?_
        refine pc_get (C := RX5) (T := TX5) (N := 13) (ci := 5) hx hb hts (by decide +kernel) hown hX.1 hW.1 5 0 hM.1 rfl rfl 0 (by decide) (hts (.fieldLink RX5 11 "DraftsmanOffice" "sheets" "[LDraftsmanOffice$Sheet;") (by decide +kernel)) (fun _ h9 => h9) rfl dX5_areAllIssued_19 ?_
        refine lv_iload_n hx hb dX5_areAllIssued_22 rfl (lv_at hl 0 rfl) ?_
        refine pc_aald (r := .ref (ad 1 i142)) hx hb hX.1 hW.1 50 0 3 (hM.2.1 50 (by decide) (by decide)) rfl rfl rfl (vp_in_nI (Nat.lt_of_lt_of_le hlt9i142 hBd.1) (by decide)) (by rw [nI_clamp (Nat.lt_of_lt_of_le (Nat.lt_of_lt_of_le hlt9i142 hBd.1) (by decide)), sRf_in hlt9i142]; rfl) dX5_areAllIssued_23 ?_
        refine pc_getN (C := RX3) (T := TX3) (N := 10) (ci := 3) hx hb hts (by decide +kernel) hown hX.1 hW.1 1 i142 (hM.2.2.2.1 i142 hlt9i142).1 rfl rfl 5 (by decide) (hX.2.1 (.fieldLinkNest RX5 156 "DraftsmanOffice$Sheet" "issued" "I" R_host) (by decide +kernel)) (fun _ h9 => h9) rfl dX5_areAllIssued_24 ?_
        refine lv_iconst (v := -1) hx hb dX5_areAllIssued_27 (by decide) ?_
        refine lv_icmp_ne (tgt := 33) hx hb dX5_areAllIssued_28 (by decide) (fun (c150 : ¬ (v 1 i142 3) = (-1 : Int32)) => ?_) (fun (c150 : (v 1 i142 3) = (-1 : Int32)) => ?_)
        · refine lv_iinc (v := nI (i142 + 1)) (lv' := [(2, .int (nI (i142 + 1))), (0, .ref (ad 5 0)), (1, .int x1)]) hx hb dX5_areAllIssued_33 hl (k := 0) rfl (nI_1 i142) (by decide) rfl (fun ls hl => ?_)
          refine lv_goto (tgt := 2) hx hb dX5_areAllIssued_36 (by decide) ?_
          have he9F : (FL_X5_areAllIssued c v w x1 k143 (i142 + 1)) = (FL_X5_areAllIssued c v w x1 (c 0) 0) := by rw [← heF]; show (FL_X5_areAllIssued c v w x1 k143 (i142 + 1)) = (FL_X5_areAllIssued c v w x1 (k143 + 1) i142); simp only [FL_X5_areAllIssued, if_neg c149, if_neg c150]
          exact ihk143 (i142 + 1)   H locs ls (by omega) he9F hW (lv_sub hl [0, 1, 2] rfl)
        · refine lv_iconst (v := 0) hx hb dX5_areAllIssued_31 (by decide) ?_
          exact W.zret (v := 0) hx hb hr rfl (fun t ht hW9 => ⟨⟨0, (), rfl, (by unfold F_X5_areAllIssued; rw [← he, FL_X5_areAllIssued]; rw [if_neg c149]; rw [if_pos c150]), trivial⟩, hW.2.F ht⟩) hW.2.2.2 dX5_areAllIssued_32
  exact K145 (c 0) 0  _ _ ls (by omega) rfl hW (lv_sub hl [0, 1, 2] rfl)

def F_X5_isSetOfSheets (c : SC) (v : SV) (w : SW) (x1 : Int32) : Int32 := (if x1 < (1 : Int32) then (0 : Int32) else (if ((1 : Int32) <<< ((nI (c 0)) &&& 31)) ≤ x1 then (0 : Int32) else (1 : Int32)))

set_option maxHeartbeats 4000000 in
set_option maxRecDepth 100000 in
theorem r_X5_isSetOfSheets (l : Launch) (D : va_G) (cA : Nat → ClassId) (NL : List (Nat × Nat)) (c : SC) (v : SV) (w : SW) (u : Nat → Int32) (ad : Nat → Nat → Nat) (x1 : Int32) (hM : MEM c NL) (hBd : BND c) (hF : WF c v) : Met l yX5_isSetOfSheets wsX5_isSetOfSheets ({ frames := 0, cells := 0, slots := 0, locals := 0 }) (pcPre D vwCl (tyL cA) [.ref (ad 5 0), .int x1] (fun H => va_P D vwCl (pcW NL ad (ctO cA c v w u ad)) H)) (va_Qi (fun (r : Int32) (_ : Unit) => r = F_X5_isSetOfSheets c v w x1) (fun _ _ => True) (fun _ => False)) 0 0 (fun _ => False) := by
  refine Met.ofW (cc := cX5_isSetOfSheets) (maxL := 2) (ret := (some .boolean)) (by decide) rfl ?_
  intro p e s m args below meth c0 s₁ B hml hv
  obtain ⟨rfl, hX, hP0⟩ := hv
  have hx := B.exec
  have hb := B.bytes
  have hr := B.returns
  have hts := atoms_spec (ws := wsX5_isSetOfSheets) B.pre
  have hown : s.vm.findClass RX5 = some m.cls := findClass_of_methodNamed B.named
  have hlocks := B.notSynchronized
  have hW : pcQ D vwCl (fun _ => False) s.heap NL ad (ctO cA c v w u ad) s.heap [] := ⟨hP0, va_S.rf⟩
  have hl := lv_entry ([.ref (ad 5 0), .int x1]) (n := 2) (Nat.le_of_ble_eq_true rfl)
  rw [lg_entry_eq]
  generalize (lg_sl ([.ref (ad 5 0), .int x1]) ++ List.replicate (2 - (lg_sl ([.ref (ad 5 0), .int x1])).length) Slot.unset).toArray = ls at hl ⊢
  have hl : lv_has ls 2 [(0, .ref (ad 5 0)), (1, .int x1)] := hl
  refine lv_iload_n hx hb dX5_isSetOfSheets_0 rfl (lv_at hl 1 rfl) ?_
  refine lv_iconst (v := 1) hx hb dX5_isSetOfSheets_1 (by decide) ?_
  refine lv_icmp_lt (tgt := 19) hx hb dX5_isSetOfSheets_2 (by decide) (fun (c151 : x1 < (1 : Int32)) => ?_) (fun (c151 : ¬ x1 < (1 : Int32)) => ?_)
  · refine lv_iconst (v := 0) hx hb dX5_isSetOfSheets_19 (by decide) ?_
    exact W.zret (v := 0) hx hb hr rfl (fun t ht hW9 => ⟨⟨0, (), rfl, (by unfold F_X5_isSetOfSheets; rw [if_pos c151]), trivial⟩, hW.2.F ht⟩) hW.2.2.2 dX5_isSetOfSheets_20
  · refine lv_iload_n hx hb dX5_isSetOfSheets_5 rfl (lv_at hl 1 rfl) ?_
    refine lv_iconst (v := 1) hx hb dX5_isSetOfSheets_6 (by decide) ?_
    refine lv_aload_n hx hb dX5_isSetOfSheets_7 rfl (lv_at hl 0 rfl) ?_
    refine pc_get (C := RX5) (T := TX5) (N := 13) (ci := 5) hx hb hts (by decide +kernel) hown hX.1 hW.1 5 0 hM.1 rfl rfl 7 (by decide) (hts (.fieldLink RX5 48 "DraftsmanOffice" "sheetCount" "I") (by decide +kernel)) (fun _ h9 => h9) rfl dX5_isSetOfSheets_8 ?_
    refine lv_ishl hx hb dX5_isSetOfSheets_11 ?_
    refine lv_icmp_ge (tgt := 19) hx hb dX5_isSetOfSheets_12 (by decide) (fun (c152 : ((1 : Int32) <<< ((nI (c 0)) &&& 31)) ≤ x1) => ?_) (fun (c152 : ¬ ((1 : Int32) <<< ((nI (c 0)) &&& 31)) ≤ x1) => ?_)
    · refine lv_iconst (v := 0) hx hb dX5_isSetOfSheets_19 (by decide) ?_
      exact W.zret (v := 0) hx hb hr rfl (fun t ht hW9 => ⟨⟨0, (), rfl, (by unfold F_X5_isSetOfSheets; rw [if_neg c151]; rw [if_pos c152]), trivial⟩, hW.2.F ht⟩) hW.2.2.2 dX5_isSetOfSheets_20
    · refine lv_iconst (v := 1) hx hb dX5_isSetOfSheets_15 (by decide) ?_
      refine lv_goto (tgt := 20) hx hb dX5_isSetOfSheets_16 (by decide) ?_
      exact W.zret (v := 1) hx hb hr rfl (fun t ht hW9 => ⟨⟨1, (), rfl, (by unfold F_X5_isSetOfSheets; rw [if_neg c151]; rw [if_neg c152]), trivial⟩, hW.2.F ht⟩) hW.2.2.2 dX5_isSetOfSheets_20

