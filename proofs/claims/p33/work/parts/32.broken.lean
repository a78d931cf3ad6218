def F_X5_isBroken (c : SC) (v : SV) (w : SW) (i : Nat) : Int32 := (if (F_X5_isIn (v 1 ((v 2 i 1).toNatClampNeg) 4) (v 2 i 2)) = 0 then (1 : Int32) else (0 : Int32))

set_option maxHeartbeats 4000000 in
set_option maxRecDepth 100000 in
theorem r_X5_isBroken (l : Launch) (D : va_G) (cA : Nat → ClassId) (NL : List (Nat × Nat)) (c : SC) (v : SV) (w : SW) (u : Nat → Int32) (ad : Nat → Nat → Nat) (i : Nat) (hM : MEM c NL) (hBd : BND c) (hF : WF c v) (hi : i < c 1) : Met l yX5_isBroken wsX5_isBroken ({ frames := 1, cells := 0, slots := 0, locals := 21 }) (pcPre D vwCl (tyL cA) [.ref (ad 5 0), .ref (ad 2 i)] (fun H => va_P D vwCl (pcW NL ad (ctO cA c v w u ad)) H)) (va_Qi (fun (r : Int32) (_ : Unit) => r = F_X5_isBroken c v w i) (fun _ _ => True) (fun _ => False)) 0 0 (fun _ => False) := by
  refine Met.ofW (cc := cX5_isBroken) (maxL := 2) (ret := (some .boolean)) (by decide) rfl ?_
  intro p e s m args below meth c0 s₁ B hml hv
  obtain ⟨rfl, hX, hP0⟩ := hv
  have hx := B.exec
  have hb := B.bytes
  have hr := B.returns
  have hts := atoms_spec (ws := wsX5_isBroken) B.pre
  have hown : s.vm.findClass RX5 = some m.cls := findClass_of_methodNamed B.named
  have hlocks := B.notSynchronized
  have hW : pcQ D vwCl (fun _ => False) s.heap NL ad (ctO cA c v w u ad) s.heap [] := ⟨hP0, va_S.rf⟩
  have hl := lv_entry ([.ref (ad 5 0), .ref (ad 2 i)]) (n := 2) (Nat.le_of_ble_eq_true rfl)
  rw [lg_entry_eq]
  generalize (lg_sl ([.ref (ad 5 0), .ref (ad 2 i)]) ++ List.replicate (2 - (lg_sl ([.ref (ad 5 0), .ref (ad 2 i)])).length) Slot.unset).toArray = ls at hl ⊢
  have hl : lv_has ls 2 [(0, .ref (ad 5 0)), (1, .ref (ad 2 i))] := hl
  refine lv_aload_n hx hb dX5_isBroken_0 rfl (lv_at hl 0 rfl) ?_
  refine pc_get (C := RX5) (T := TX5) (N := 13) (ci := 5) hx hb hts (by decide +kernel) hown hX.1 hW.1 5 0 hM.1 rfl rfl 0 (by decide) (hts (.fieldLink RX5 11 "DraftsmanOffice" "sheets" "[LDraftsmanOffice$Sheet;") (by decide +kernel)) (fun _ h9 => h9) rfl dX5_isBroken_1 ?_
  refine lv_aload_n hx hb dX5_isBroken_4 rfl (lv_at hl 1 rfl) ?_
  refine pc_getN (C := RX1) (T := TX1) (N := 3) (ci := 1) hx hb hts (by decide +kernel) hown hX.1 hW.1 2 i (hM.2.2.2.2.1 i hi) rfl rfl 1 (by decide) (hX.2.1 (.fieldLinkNest RX5 394 "DraftsmanOffice$Reference" "to" "I" R_host) (by decide +kernel)) (fun _ h9 => h9) rfl dX5_isBroken_5 ?_
  refine pc_aald (r := .ref (ad 1 ((v 2 i 1).toNatClampNeg))) hx hb hX.1 hW.1 50 0 3 (hM.2.1 50 (by decide) (by decide)) rfl rfl rfl (fun q => q.elim (hF.1 i hi).1 (fun q => absurd (Nat.lt_of_lt_of_le (hF.1 i hi).2 hBd.1) (Nat.not_lt.mpr q))) (by rw [sRf_in (hF.1 i hi).2]; rfl) dX5_isBroken_8 ?_
  refine pc_getN (C := RX3) (T := TX3) (N := 10) (ci := 3) hx hb hts (by decide +kernel) hown hX.1 hW.1 1 ((v 2 i 1).toNatClampNeg) (hM.2.2.2.1 ((v 2 i 1).toNatClampNeg) (hF.1 i hi).2).1 rfl rfl 7 (by decide) (hX.2.1 (.fieldLinkNest RX5 163 "DraftsmanOffice$Sheet" "issuedDetails" "I" R_host) (by decide +kernel)) (fun _ h9 => h9) rfl dX5_isBroken_9 ?_
  refine lv_aload_n hx hb dX5_isBroken_12 rfl (lv_at hl 1 rfl) ?_
  refine pc_getN (C := RX1) (T := TX1) (N := 3) (ci := 1) hx hb hts (by decide +kernel) hown hX.1 hW.1 2 i (hM.2.2.2.2.1 i hi) rfl rfl 2 (by decide) (hX.2.1 (.fieldLinkNest RX5 397 "DraftsmanOffice$Reference" "detail" "I" R_host) (by decide +kernel)) (fun _ h9 => h9) rfl dX5_isBroken_13 ?_
  refine pc_qcalli (va_runS (As := [.int (v 1 ((v 2 i 1).toNatClampNeg) 4), .int (v 2 i 2)]) (rest := []) ⟨hx, hb, hml, hown, hts⟩ (r_X5_isIn l D cA (v 1 ((v 2 i 1).toNatClampNeg) 4) (v 2 i 2) ) (va_cwS 2 hts gX5_isBroken_X5_isIn rfl rfl rfl (by decide +kernel) ⟨Nat.le_of_ble_eq_true rfl, Nat.le_of_ble_eq_true rfl⟩) (pc_preS pcN_ok hX trivial) rfl rfl hl.1 rfl (lv_room (Nat.le_of_ble_eq_true rfl)) dX5_isBroken_16 ⟨Nat.le_of_ble_eq_true rfl, Nat.le_of_ble_eq_true rfl⟩) hW (fun r12 H locs hwr12 hW => ?_)
  replace hwr12 := hwr12.symm
  subst hwr12
  refine lv_if_ne (tgt := 26) hx hb dX5_isBroken_19 (by decide) (fun (c13 : ¬ (F_X5_isIn (v 1 ((v 2 i 1).toNatClampNeg) 4) (v 2 i 2)) = 0) => ?_) (fun (c13 : (F_X5_isIn (v 1 ((v 2 i 1).toNatClampNeg) 4) (v 2 i 2)) = 0) => ?_)
  · refine lv_iconst (v := 0) hx hb dX5_isBroken_26 (by decide) ?_
    exact W.zret (v := 0) hx hb hr rfl (fun t ht hW9 => ⟨⟨0, (), rfl, (by unfold F_X5_isBroken; rw [if_neg c13]), trivial⟩, hW.2.F ht⟩) hW.2.2.2 dX5_isBroken_27
  · refine lv_iconst (v := 1) hx hb dX5_isBroken_22 (by decide) ?_
    refine lv_goto (tgt := 27) hx hb dX5_isBroken_23 (by decide) ?_
    exact W.zret (v := 1) hx hb hr rfl (fun t ht hW9 => ⟨⟨1, (), rfl, (by unfold F_X5_isBroken; rw [if_pos c13]), trivial⟩, hW.2.F ht⟩) hW.2.2.2 dX5_isBroken_27

def FL_X5_brokenFrom (c : SC) (v : SV) (w : SW)  (x1 : Int32) : Nat → Nat → Int32 → Int32
  | 0, _, s16 => s16
  | k15 + 1, i14, s16 => FL_X5_brokenFrom c v w x1 k15 (i14 + 1) (if (v 2 i14 0) = x1 then (if (F_X5_isBroken c v w i14) = 0 then s16 else (s16 + 1)) else s16)
def F_X5_brokenFrom (c : SC) (v : SV) (w : SW) (x1 : Int32) : Int32 := (FL_X5_brokenFrom c v w x1 (c 1) 0 (0 : Int32))

set_option maxHeartbeats 4000000 in
set_option maxRecDepth 100000 in
theorem r_X5_brokenFrom (l : Launch) (D : va_G) (cA : Nat → ClassId) (NL : List (Nat × Nat)) (c : SC) (v : SV) (w : SW) (u : Nat → Int32) (ad : Nat → Nat → Nat) (x1 : Int32) (hM : MEM c NL) (hBd : BND c) (hF : WF c v) : Met l yX5_brokenFrom wsX5_brokenFrom ({ frames := 2, cells := 0, slots := 0, locals := 42 }) (pcPre D vwCl (tyL cA) [.ref (ad 5 0), .int x1] (fun H => va_P D vwCl (pcW NL ad (ctO cA c v w u ad)) H)) (va_Qi (fun (r : Int32) (_ : Unit) => r = F_X5_brokenFrom c v w x1) (fun _ _ => True) (fun _ => False)) 0 0 (fun _ => False) := by
  refine Met.ofW (cc := cX5_brokenFrom) (maxL := 4) (ret := (some .int)) (by decide) rfl ?_
  intro p e s m args below meth c0 s₁ B hml hv
  obtain ⟨rfl, hX, hP0⟩ := hv
  have hx := B.exec
  have hb := B.bytes
  have hr := B.returns
  have hts := atoms_spec (ws := wsX5_brokenFrom) B.pre
  have hown : s.vm.findClass RX5 = some m.cls := findClass_of_methodNamed B.named
  have hlocks := B.notSynchronized
  have hW : pcQ D vwCl (fun _ => False) s.heap NL ad (ctO cA c v w u ad) s.heap [] := ⟨hP0, va_S.rf⟩
  have hl := lv_entry ([.ref (ad 5 0), .int x1]) (n := 4) (Nat.le_of_ble_eq_true rfl)
  rw [lg_entry_eq]
  generalize (lg_sl ([.ref (ad 5 0), .int x1]) ++ List.replicate (4 - (lg_sl ([.ref (ad 5 0), .int x1])).length) Slot.unset).toArray = ls at hl ⊢
  have hl : lv_has ls 4 [(0, .ref (ad 5 0)), (1, .int x1)] := hl
  refine lv_iconst (v := 0) hx hb dX5_brokenFrom_0 (by decide) ?_
  refine lv_istore_n (lv' := [(2, .int 0), (0, .ref (ad 5 0)), (1, .int x1)]) hx hb dX5_brokenFrom_1 rfl hl (by decide) rfl (fun ls hl => ?_)
  refine lv_iconst (v := 0) hx hb dX5_brokenFrom_2 (by decide) ?_
  refine lv_istore_n (lv' := [(3, .int 0), (2, .int 0), (0, .ref (ad 5 0)), (1, .int x1)]) hx hb dX5_brokenFrom_3 rfl hl (by decide) rfl (fun ls hl => ?_)
  have K17 : ∀ (k15 i14 : Nat) (s16 : Int32) (H : Heap) (locs : List Loc) (ls : Array Slot), i14 + k15 = c 1 → (FL_X5_brokenFrom c v w x1 k15 i14 s16) = (FL_X5_brokenFrom c v w x1 (c 1) 0 (0 : Int32)) → pcQ D vwCl (fun _ => False) s.heap NL ad (ctO cA c v w u ad) H locs → lv_has ls 4 [(3, .int (nI i14)), (2, .int s16), (0, .ref (ad 5 0)), (1, .int x1)] → W p l e (headSpec wsX5_brokenFrom ({ frames := 2, cells := 0, slots := 0, locals := 42 })).room s m ([.ref (ad 5 0), .int x1] : List Value).toArray below meth c0 H locs 0 0 (MQ below (va_Qi (fun (r : Int32) (_ : Unit) => r = F_X5_brokenFrom c v w x1) (fun _ _ => True) (fun _ => False)) ([.ref (ad 5 0), .int x1] : List Value).toArray s 0 0 (fun _ => False)) (F0 m 4 ls []) := by
    intro k15
    induction k15 with
    | zero =>
      intro i14 s16 H locs ls hk heF hW hl
      have ei : i14 = c 1 := by omega
      rw [ei] at hl
      obtain rfl : (FL_X5_brokenFrom c v w x1 (c 1) 0 (0 : Int32)) = s16 := heF.symm
      clear heF
      refine lv_iload_n hx hb dX5_brokenFrom_4 rfl (lv_at hl 0 rfl) ?_
      refine lv_aload_n hx hb dX5_brokenFrom_5 rfl (lv_at hl 2 rfl) ?_
      refine pc_get (C := RX5) (T := TX5) (N := 13) (ci := 5) hx hb hts (by decide +kernel) hown hX.1 hW.1 5 0 hM.1 rfl rfl 8 (by decide) (hts (.fieldLink RX5 52 "DraftsmanOffice" "referenceCount" "I") (by decide +kernel)) (fun _ h9 => h9) rfl dX5_brokenFrom_6 ?_
      refine lv_icmp_ge (tgt := 47) hx hb dX5_brokenFrom_9 (by decide) (fun _ => ?_) (fun c18 => absurd (Int32.le_refl _) c18)
      refine lv_iload_n hx hb dX5_brokenFrom_47 rfl (lv_at hl 1 rfl) ?_
      exact W.iret (v := (FL_X5_brokenFrom c v w x1 (c 1) 0 (0 : Int32))) hx hb hr (fun t ht hW9 => ⟨⟨(FL_X5_brokenFrom c v w x1 (c 1) 0 (0 : Int32)), (), rfl, rfl, trivial⟩, hW.2.F ht⟩) hW.2.2.2 dX5_brokenFrom_48
    | succ k15 ihk15 =>
      intro i14 s16 H locs ls hk heF hW hl
      have hlt : i14 < c 1 := by omega
      have hlt9i14 := hlt
      refine lv_iload_n hx hb dX5_brokenFrom_4 rfl (lv_at hl 0 rfl) ?_
      refine lv_aload_n hx hb dX5_brokenFrom_5 rfl (lv_at hl 2 rfl) ?_
      refine pc_get (C := RX5) (T := TX5) (N := 13) (ci := 5) hx hb hts (by decide +kernel) hown hX.1 hW.1 5 0 hM.1 rfl rfl 8 (by decide) (hts (.fieldLink RX5 52 "DraftsmanOffice" "referenceCount" "I") (by decide +kernel)) (fun _ h9 => h9) rfl dX5_brokenFrom_6 ?_
      refine lv_icmp_ge (tgt := 47) hx hb dX5_brokenFrom_9 (by decide) (fun c19 => absurd c19 (nI_ge hlt (Nat.lt_of_le_of_lt hBd.2.1 (by decide)))) (fun _ => ?_)
      refine lv_aload_n hx hb dX5_brokenFrom_12 rfl (lv_at hl 2 rfl) ?_
      refine pc_get (C := RX5) (T := TX5) (N := 13) (ci := 5) hx hb hts (by decide +kernel) hown hX.1 hW.1 5 0 hM.1 rfl rfl 1 (by decide) (hts (.fieldLink RX5 17 "DraftsmanOffice" "references" "[LDraftsmanOffice$Reference;") (by decide +kernel)) (fun _ h9 => h9) rfl dX5_brokenFrom_13 ?_
      refine lv_iload_n hx hb dX5_brokenFrom_16 rfl (lv_at hl 0 rfl) ?_
      refine pc_aald (r := .ref (ad 2 i14)) hx hb hX.1 hW.1 51 0 4 (hM.2.1 51 (by decide) (by decide)) rfl rfl rfl (vp_in_nI (Nat.lt_of_lt_of_le hlt9i14 hBd.2.1) (by decide)) (by rw [nI_clamp (Nat.lt_of_lt_of_le (Nat.lt_of_lt_of_le hlt9i14 hBd.2.1) (by decide)), sRf_in hlt9i14]; rfl) dX5_brokenFrom_17 ?_
      refine pc_getN (C := RX1) (T := TX1) (N := 3) (ci := 1) hx hb hts (by decide +kernel) hown hX.1 hW.1 2 i14 (hM.2.2.2.2.1 i14 hlt9i14) rfl rfl 0 (by decide) (hX.2.1 (.fieldLinkNest RX5 400 "DraftsmanOffice$Reference" "from" "I" R_host) (by decide +kernel)) (fun _ h9 => h9) rfl dX5_brokenFrom_18 ?_
      refine lv_iload_n hx hb dX5_brokenFrom_21 rfl (lv_at hl 3 rfl) ?_
      refine lv_icmp_ne (tgt := 41) hx hb dX5_brokenFrom_22 (by decide) (fun (c20 : ¬ (v 2 i14 0) = x1) => ?_) (fun (c20 : (v 2 i14 0) = x1) => ?_)
      · refine lv_iinc (v := nI (i14 + 1)) (lv' := [(3, .int (nI (i14 + 1))), (2, .int s16), (0, .ref (ad 5 0)), (1, .int x1)]) hx hb dX5_brokenFrom_41 hl (k := 0) rfl (nI_1 i14) (by decide) rfl (fun ls hl => ?_)
        refine lv_goto (tgt := 4) hx hb dX5_brokenFrom_44 (by decide) ?_
        have he9F : (FL_X5_brokenFrom c v w x1 k15 (i14 + 1) s16) = (FL_X5_brokenFrom c v w x1 (c 1) 0 (0 : Int32)) := by rw [← heF]; show (FL_X5_brokenFrom c v w x1 k15 (i14 + 1) s16) = (FL_X5_brokenFrom c v w x1 (k15 + 1) i14 s16); simp only [FL_X5_brokenFrom, if_neg c20]
        exact ihk15 (i14 + 1)  s16 H locs ls (by omega) he9F hW (lv_sub hl [0, 1, 2, 3] rfl)
      · refine lv_aload_n hx hb dX5_brokenFrom_25 rfl (lv_at hl 2 rfl) ?_
        refine lv_aload_n hx hb dX5_brokenFrom_26 rfl (lv_at hl 2 rfl) ?_
        refine pc_get (C := RX5) (T := TX5) (N := 13) (ci := 5) hx hb hts (by decide +kernel) hown hX.1 hW.1 5 0 hM.1 rfl rfl 1 (by decide) (hts (.fieldLink RX5 17 "DraftsmanOffice" "references" "[LDraftsmanOffice$Reference;") (by decide +kernel)) (fun _ h9 => h9) rfl dX5_brokenFrom_27 ?_
        refine lv_iload_n hx hb dX5_brokenFrom_30 rfl (lv_at hl 0 rfl) ?_
        refine pc_aald (r := .ref (ad 2 i14)) hx hb hX.1 hW.1 51 0 4 (hM.2.1 51 (by decide) (by decide)) rfl rfl rfl (vp_in_nI (Nat.lt_of_lt_of_le hlt9i14 hBd.2.1) (by decide)) (by rw [nI_clamp (Nat.lt_of_lt_of_le (Nat.lt_of_lt_of_le hlt9i14 hBd.2.1) (by decide)), sRf_in hlt9i14]; rfl) dX5_brokenFrom_31 ?_
        refine pc_qcalli (va_runV (As := [.ref (ad 2 i14)]) (rest := []) ⟨hx, hb, hml, hown, hts⟩ (r_X5_isBroken l D cA NL c v w u ad i14 hM hBd hF hlt9i14) (cwV 1 hts gX5_brokenFrom_X5_isBroken rfl rfl rfl (by decide +kernel) ⟨Nat.le_of_ble_eq_true rfl, Nat.le_of_ble_eq_true rfl⟩) (pc_preV pcN_ok hX hW.1 hM.1 rfl rfl hW.1) rfl rfl hl.1 rfl (lv_room (Nat.le_of_ble_eq_true rfl)) dX5_brokenFrom_32 ⟨Nat.le_of_ble_eq_true rfl, Nat.le_of_ble_eq_true rfl⟩) hW (fun r21 H locs hwr21 hW => ?_)
        replace hwr21 := hwr21.symm
        subst hwr21
        refine lv_if_eq (tgt := 41) hx hb dX5_brokenFrom_35 (by decide) (fun (c22 : (F_X5_isBroken c v w i14) = 0) => ?_) (fun (c22 : ¬ (F_X5_isBroken c v w i14) = 0) => ?_)
        · refine lv_iinc (v := nI (i14 + 1)) (lv' := [(3, .int (nI (i14 + 1))), (2, .int s16), (0, .ref (ad 5 0)), (1, .int x1)]) hx hb dX5_brokenFrom_41 hl (k := 0) rfl (nI_1 i14) (by decide) rfl (fun ls hl => ?_)
          refine lv_goto (tgt := 4) hx hb dX5_brokenFrom_44 (by decide) ?_
          have he9F : (FL_X5_brokenFrom c v w x1 k15 (i14 + 1) s16) = (FL_X5_brokenFrom c v w x1 (c 1) 0 (0 : Int32)) := by rw [← heF]; show (FL_X5_brokenFrom c v w x1 k15 (i14 + 1) s16) = (FL_X5_brokenFrom c v w x1 (k15 + 1) i14 s16); simp only [FL_X5_brokenFrom, if_pos c20, if_pos c22]
          exact ihk15 (i14 + 1)  s16 H locs ls (by omega) he9F hW (lv_sub hl [0, 1, 2, 3] rfl)
        · refine lv_iinc (v := (s16 + 1)) (lv' := [(2, .int (s16 + 1)), (3, .int (nI i14)), (0, .ref (ad 5 0)), (1, .int x1)]) hx hb dX5_brokenFrom_38 hl (k := 1) rfl rfl (by decide) rfl (fun ls hl => ?_)
          refine lv_iinc (v := nI (i14 + 1)) (lv' := [(3, .int (nI (i14 + 1))), (2, .int (s16 + 1)), (0, .ref (ad 5 0)), (1, .int x1)]) hx hb dX5_brokenFrom_41 hl (k := 1) rfl (nI_1 i14) (by decide) rfl (fun ls hl => ?_)
          refine lv_goto (tgt := 4) hx hb dX5_brokenFrom_44 (by decide) ?_
          have he9F : (FL_X5_brokenFrom c v w x1 k15 (i14 + 1) (s16 + 1)) = (FL_X5_brokenFrom c v w x1 (c 1) 0 (0 : Int32)) := by rw [← heF]; show (FL_X5_brokenFrom c v w x1 k15 (i14 + 1) (s16 + 1)) = (FL_X5_brokenFrom c v w x1 (k15 + 1) i14 s16); simp only [FL_X5_brokenFrom, if_pos c20, if_neg c22]
          exact ihk15 (i14 + 1)  (s16 + 1) H locs ls (by omega) he9F hW (lv_sub hl [0, 1, 2, 3] rfl)
  exact K17 (c 1) 0  (0 : Int32) _ _ ls (by omega) rfl hW (lv_sub hl [0, 1, 2, 3] rfl)

def FL_X5_brokenTo (c : SC) (v : SV) (w : SW)  (x1 : Int32) : Nat → Nat → Int32 → Int32
  | 0, _, s25 => s25
  | k24 + 1, i23, s25 => FL_X5_brokenTo c v w x1 k24 (i23 + 1) (if (v 2 i23 1) = x1 then (if (F_X5_isBroken c v w i23) = 0 then s25 else (s25 + 1)) else s25)
def F_X5_brokenTo (c : SC) (v : SV) (w : SW) (x1 : Int32) : Int32 := (FL_X5_brokenTo c v w x1 (c 1) 0 (0 : Int32))

set_option maxHeartbeats 4000000 in
set_option maxRecDepth 100000 in
theorem r_X5_brokenTo (l : Launch) (D : va_G) (cA : Nat → ClassId) (NL : List (Nat × Nat)) (c : SC) (v : SV) (w : SW) (u : Nat → Int32) (ad : Nat → Nat → Nat) (x1 : Int32) (hM : MEM c NL) (hBd : BND c) (hF : WF c v) : Met l yX5_brokenTo wsX5_brokenTo ({ frames := 2, cells := 0, slots := 0, locals := 42 }) (pcPre D vwCl (tyL cA) [.ref (ad 5 0), .int x1] (fun H => va_P D vwCl (pcW NL ad (ctO cA c v w u ad)) H)) (va_Qi (fun (r : Int32) (_ : Unit) => r = F_X5_brokenTo c v w x1) (fun _ _ => True) (fun _ => False)) 0 0 (fun _ => False) := by
  refine Met.ofW (cc := cX5_brokenTo) (maxL := 4) (ret := (some .int)) (by decide) rfl ?_
  intro p e s m args below meth c0 s₁ B hml hv
  obtain ⟨rfl, hX, hP0⟩ := hv
  have hx := B.exec
  have hb := B.bytes
  have hr := B.returns
  have hts := atoms_spec (ws := wsX5_brokenTo) B.pre
  have hown : s.vm.findClass RX5 = some m.cls := findClass_of_methodNamed B.named
  have hlocks := B.notSynchronized
  have hW : pcQ D vwCl (fun _ => False) s.heap NL ad (ctO cA c v w u ad) s.heap [] := ⟨hP0, va_S.rf⟩
  have hl := lv_entry ([.ref (ad 5 0), .int x1]) (n := 4) (Nat.le_of_ble_eq_true rfl)
  rw [lg_entry_eq]
  generalize (lg_sl ([.ref (ad 5 0), .int x1]) ++ List.replicate (4 - (lg_sl ([.ref (ad 5 0), .int x1])).length) Slot.unset).toArray = ls at hl ⊢
  have hl : lv_has ls 4 [(0, .ref (ad 5 0)), (1, .int x1)] := hl
  refine lv_iconst (v := 0) hx hb dX5_brokenTo_0 (by decide) ?_
  refine lv_istore_n (lv' := [(2, .int 0), (0, .ref (ad 5 0)), (1, .int x1)]) hx hb dX5_brokenTo_1 rfl hl (by decide) rfl (fun ls hl => ?_)
  refine lv_iconst (v := 0) hx hb dX5_brokenTo_2 (by decide) ?_
  refine lv_istore_n (lv' := [(3, .int 0), (2, .int 0), (0, .ref (ad 5 0)), (1, .int x1)]) hx hb dX5_brokenTo_3 rfl hl (by decide) rfl (fun ls hl => ?_)
  have K26 : ∀ (k24 i23 : Nat) (s25 : Int32) (H : Heap) (locs : List Loc) (ls : Array Slot), i23 + k24 = c 1 → (FL_X5_brokenTo c v w x1 k24 i23 s25) = (FL_X5_brokenTo c v w x1 (c 1) 0 (0 : Int32)) → pcQ D vwCl (fun _ => False) s.heap NL ad (ctO cA c v w u ad) H locs → lv_has ls 4 [(3, .int (nI i23)), (2, .int s25), (0, .ref (ad 5 0)), (1, .int x1)] → W p l e (headSpec wsX5_brokenTo ({ frames := 2, cells := 0, slots := 0, locals := 42 })).room s m ([.ref (ad 5 0), .int x1] : List Value).toArray below meth c0 H locs 0 0 (MQ below (va_Qi (fun (r : Int32) (_ : Unit) => r = F_X5_brokenTo c v w x1) (fun _ _ => True) (fun _ => False)) ([.ref (ad 5 0), .int x1] : List Value).toArray s 0 0 (fun _ => False)) (F0 m 4 ls []) := by
    intro k24
    induction k24 with
    | zero =>
      intro i23 s25 H locs ls hk heF hW hl
      have ei : i23 = c 1 := by omega
      rw [ei] at hl
      obtain rfl : (FL_X5_brokenTo c v w x1 (c 1) 0 (0 : Int32)) = s25 := heF.symm
      clear heF
      refine lv_iload_n hx hb dX5_brokenTo_4 rfl (lv_at hl 0 rfl) ?_
      refine lv_aload_n hx hb dX5_brokenTo_5 rfl (lv_at hl 2 rfl) ?_
      refine pc_get (C := RX5) (T := TX5) (N := 13) (ci := 5) hx hb hts (by decide +kernel) hown hX.1 hW.1 5 0 hM.1 rfl rfl 8 (by decide) (hts (.fieldLink RX5 52 "DraftsmanOffice" "referenceCount" "I") (by decide +kernel)) (fun _ h9 => h9) rfl dX5_brokenTo_6 ?_
      refine lv_icmp_ge (tgt := 47) hx hb dX5_brokenTo_9 (by decide) (fun _ => ?_) (fun c27 => absurd (Int32.le_refl _) c27)
      refine lv_iload_n hx hb dX5_brokenTo_47 rfl (lv_at hl 1 rfl) ?_
      exact W.iret (v := (FL_X5_brokenTo c v w x1 (c 1) 0 (0 : Int32))) hx hb hr (fun t ht hW9 => ⟨⟨(FL_X5_brokenTo c v w x1 (c 1) 0 (0 : Int32)), (), rfl, rfl, trivial⟩, hW.2.F ht⟩) hW.2.2.2 dX5_brokenTo_48
    | succ k24 ihk24 =>
      intro i23 s25 H locs ls hk heF hW hl
      have hlt : i23 < c 1 := by omega
      have hlt9i23 := hlt
      refine lv_iload_n hx hb dX5_brokenTo_4 rfl (lv_at hl 0 rfl) ?_
      refine lv_aload_n hx hb dX5_brokenTo_5 rfl (lv_at hl 2 rfl) ?_
      refine pc_get (C := RX5) (T := TX5) (N := 13) (ci := 5) hx hb hts (by decide +kernel) hown hX.1 hW.1 5 0 hM.1 rfl rfl 8 (by decide) (hts (.fieldLink RX5 52 "DraftsmanOffice" "referenceCount" "I") (by decide +kernel)) (fun _ h9 => h9) rfl dX5_brokenTo_6 ?_
      refine lv_icmp_ge (tgt := 47) hx hb dX5_brokenTo_9 (by decide) (fun c28 => absurd c28 (nI_ge hlt (Nat.lt_of_le_of_lt hBd.2.1 (by decide)))) (fun _ => ?_)
      refine lv_aload_n hx hb dX5_brokenTo_12 rfl (lv_at hl 2 rfl) ?_
      refine pc_get (C := RX5) (T := TX5) (N := 13) (ci := 5) hx hb hts (by decide +kernel) hown hX.1 hW.1 5 0 hM.1 rfl rfl 1 (by decide) (hts (.fieldLink RX5 17 "DraftsmanOffice" "references" "[LDraftsmanOffice$Reference;") (by decide +kernel)) (fun _ h9 => h9) rfl dX5_brokenTo_13 ?_
      refine lv_iload_n hx hb dX5_brokenTo_16 rfl (lv_at hl 0 rfl) ?_
      refine pc_aald (r := .ref (ad 2 i23)) hx hb hX.1 hW.1 51 0 4 (hM.2.1 51 (by decide) (by decide)) rfl rfl rfl (vp_in_nI (Nat.lt_of_lt_of_le hlt9i23 hBd.2.1) (by decide)) (by rw [nI_clamp (Nat.lt_of_lt_of_le (Nat.lt_of_lt_of_le hlt9i23 hBd.2.1) (by decide)), sRf_in hlt9i23]; rfl) dX5_brokenTo_17 ?_
      refine pc_getN (C := RX1) (T := TX1) (N := 3) (ci := 1) hx hb hts (by decide +kernel) hown hX.1 hW.1 2 i23 (hM.2.2.2.2.1 i23 hlt9i23) rfl rfl 1 (by decide) (hX.2.1 (.fieldLinkNest RX5 394 "DraftsmanOffice$Reference" "to" "I" R_host) (by decide +kernel)) (fun _ h9 => h9) rfl dX5_brokenTo_18 ?_
      refine lv_iload_n hx hb dX5_brokenTo_21 rfl (lv_at hl 3 rfl) ?_
      refine lv_icmp_ne (tgt := 41) hx hb dX5_brokenTo_22 (by decide) (fun (c29 : ¬ (v 2 i23 1) = x1) => ?_) (fun (c29 : (v 2 i23 1) = x1) => ?_)
      · refine lv_iinc (v := nI (i23 + 1)) (lv' := [(3, .int (nI (i23 + 1))), (2, .int s25), (0, .ref (ad 5 0)), (1, .int x1)]) hx hb dX5_brokenTo_41 hl (k := 0) rfl (nI_1 i23) (by decide) rfl (fun ls hl => ?_)
        refine lv_goto (tgt := 4) hx hb dX5_brokenTo_44 (by decide) ?_
        have he9F : (FL_X5_brokenTo c v w x1 k24 (i23 + 1) s25) = (FL_X5_brokenTo c v w x1 (c 1) 0 (0 : Int32)) := by rw [← heF]; show (FL_X5_brokenTo c v w x1 k24 (i23 + 1) s25) = (FL_X5_brokenTo c v w x1 (k24 + 1) i23 s25); simp only [FL_X5_brokenTo, if_neg c29]
        exact ihk24 (i23 + 1)  s25 H locs ls (by omega) he9F hW (lv_sub hl [0, 1, 2, 3] rfl)
      · refine lv_aload_n hx hb dX5_brokenTo_25 rfl (lv_at hl 2 rfl) ?_
        refine lv_aload_n hx hb dX5_brokenTo_26 rfl (lv_at hl 2 rfl) ?_
        refine pc_get (C := RX5) (T := TX5) (N := 13) (ci := 5) hx hb hts (by decide +kernel) hown hX.1 hW.1 5 0 hM.1 rfl rfl 1 (by decide) (hts (.fieldLink RX5 17 "DraftsmanOffice" "references" "[LDraftsmanOffice$Reference;") (by decide +kernel)) (fun _ h9 => h9) rfl dX5_brokenTo_27 ?_
        refine lv_iload_n hx hb dX5_brokenTo_30 rfl (lv_at hl 0 rfl) ?_
        refine pc_aald (r := .ref (ad 2 i23)) hx hb hX.1 hW.1 51 0 4 (hM.2.1 51 (by decide) (by decide)) rfl rfl rfl (vp_in_nI (Nat.lt_of_lt_of_le hlt9i23 hBd.2.1) (by decide)) (by rw [nI_clamp (Nat.lt_of_lt_of_le (Nat.lt_of_lt_of_le hlt9i23 hBd.2.1) (by decide)), sRf_in hlt9i23]; rfl) dX5_brokenTo_31 ?_
        refine pc_qcalli (va_runV (As := [.ref (ad 2 i23)]) (rest := []) ⟨hx, hb, hml, hown, hts⟩ (r_X5_isBroken l D cA NL c v w u ad i23 hM hBd hF hlt9i23) (cwV 1 hts gX5_brokenTo_X5_isBroken rfl rfl rfl (by decide +kernel) ⟨Nat.le_of_ble_eq_true rfl, Nat.le_of_ble_eq_true rfl⟩) (pc_preV pcN_ok hX hW.1 hM.1 rfl rfl hW.1) rfl rfl hl.1 rfl (lv_room (Nat.le_of_ble_eq_true rfl)) dX5_brokenTo_32 ⟨Nat.le_of_ble_eq_true rfl, Nat.le_of_ble_eq_true rfl⟩) hW (fun r30 H locs hwr30 hW => ?_)
        replace hwr30 := hwr30.symm
        subst hwr30
        refine lv_if_eq (tgt := 41) hx hb dX5_brokenTo_35 (by decide) (fun (c31 : (F_X5_isBroken c v w i23) = 0) => ?_) (fun (c31 : ¬ (F_X5_isBroken c v w i23) = 0) => ?_)
        · refine lv_iinc (v := nI (i23 + 1)) (lv' := [(3, .int (nI (i23 + 1))), (2, .int s25), (0, .ref (ad 5 0)), (1, .int x1)]) hx hb dX5_brokenTo_41 hl (k := 0) rfl (nI_1 i23) (by decide) rfl (fun ls hl => ?_)
          refine lv_goto (tgt := 4) hx hb dX5_brokenTo_44 (by decide) ?_
          have he9F : (FL_X5_brokenTo c v w x1 k24 (i23 + 1) s25) = (FL_X5_brokenTo c v w x1 (c 1) 0 (0 : Int32)) := by rw [← heF]; show (FL_X5_brokenTo c v w x1 k24 (i23 + 1) s25) = (FL_X5_brokenTo c v w x1 (k24 + 1) i23 s25); simp only [FL_X5_brokenTo, if_pos c29, if_pos c31]
          exact ihk24 (i23 + 1)  s25 H locs ls (by omega) he9F hW (lv_sub hl [0, 1, 2, 3] rfl)
        · refine lv_iinc (v := (s25 + 1)) (lv' := [(2, .int (s25 + 1)), (3, .int (nI i23)), (0, .ref (ad 5 0)), (1, .int x1)]) hx hb dX5_brokenTo_38 hl (k := 1) rfl rfl (by decide) rfl (fun ls hl => ?_)
          refine lv_iinc (v := nI (i23 + 1)) (lv' := [(3, .int (nI (i23 + 1))), (2, .int (s25 + 1)), (0, .ref (ad 5 0)), (1, .int x1)]) hx hb dX5_brokenTo_41 hl (k := 1) rfl (nI_1 i23) (by decide) rfl (fun ls hl => ?_)
          refine lv_goto (tgt := 4) hx hb dX5_brokenTo_44 (by decide) ?_
          have he9F : (FL_X5_brokenTo c v w x1 k24 (i23 + 1) (s25 + 1)) = (FL_X5_brokenTo c v w x1 (c 1) 0 (0 : Int32)) := by rw [← heF]; show (FL_X5_brokenTo c v w x1 k24 (i23 + 1) (s25 + 1)) = (FL_X5_brokenTo c v w x1 (k24 + 1) i23 s25); simp only [FL_X5_brokenTo, if_pos c29, if_neg c31]
          exact ihk24 (i23 + 1)  (s25 + 1) H locs ls (by omega) he9F hW (lv_sub hl [0, 1, 2, 3] rfl)
  exact K26 (c 1) 0  (0 : Int32) _ _ ls (by omega) rfl hW (lv_sub hl [0, 1, 2, 3] rfl)

def FL_X5_brokenOfAll (c : SC) (v : SV) (w : SW)   : Nat → Nat → Int32 → Int32
  | 0, _, s34 => s34
  | k33 + 1, i32, s34 => FL_X5_brokenOfAll c v w k33 (i32 + 1) (if (F_X5_isBroken c v w i32) = 0 then s34 else (s34 + 1))
def F_X5_brokenOfAll (c : SC) (v : SV) (w : SW)  : Int32 := (FL_X5_brokenOfAll c v w (c 1) 0 (0 : Int32))

set_option maxHeartbeats 4000000 in
set_option maxRecDepth 100000 in
theorem r_X5_brokenOfAll (l : Launch) (D : va_G) (cA : Nat → ClassId) (NL : List (Nat × Nat)) (c : SC) (v : SV) (w : SW) (u : Nat → Int32) (ad : Nat → Nat → Nat)  (hM : MEM c NL) (hBd : BND c) (hF : WF c v) : Met l yX5_brokenOfAll wsX5_brokenOfAll ({ frames := 2, cells := 0, slots := 0, locals := 42 }) (pcPre D vwCl (tyL cA) [.ref (ad 5 0)] (fun H => va_P D vwCl (pcW NL ad (ctO cA c v w u ad)) H)) (va_Qi (fun (r : Int32) (_ : Unit) => r = F_X5_brokenOfAll c v w) (fun _ _ => True) (fun _ => False)) 0 0 (fun _ => False) := by
  refine Met.ofW (cc := cX5_brokenOfAll) (maxL := 3) (ret := (some .int)) (by decide) rfl ?_
  intro p e s m args below meth c0 s₁ B hml hv
  obtain ⟨rfl, hX, hP0⟩ := hv
  have hx := B.exec
  have hb := B.bytes
  have hr := B.returns
  have hts := atoms_spec (ws := wsX5_brokenOfAll) B.pre
  have hown : s.vm.findClass RX5 = some m.cls := findClass_of_methodNamed B.named
  have hlocks := B.notSynchronized
  have hW : pcQ D vwCl (fun _ => False) s.heap NL ad (ctO cA c v w u ad) s.heap [] := ⟨hP0, va_S.rf⟩
  have hl := lv_entry ([.ref (ad 5 0)]) (n := 3) (Nat.le_of_ble_eq_true rfl)
  rw [lg_entry_eq]
  generalize (lg_sl ([.ref (ad 5 0)]) ++ List.replicate (3 - (lg_sl ([.ref (ad 5 0)])).length) Slot.unset).toArray = ls at hl ⊢
  have hl : lv_has ls 3 [(0, .ref (ad 5 0))] := hl
  refine lv_iconst (v := 0) hx hb dX5_brokenOfAll_0 (by decide) ?_
  refine lv_istore_n (lv' := [(1, .int 0), (0, .ref (ad 5 0))]) hx hb dX5_brokenOfAll_1 rfl hl (by decide) rfl (fun ls hl => ?_)
  refine lv_iconst (v := 0) hx hb dX5_brokenOfAll_2 (by decide) ?_
  refine lv_istore_n (lv' := [(2, .int 0), (1, .int 0), (0, .ref (ad 5 0))]) hx hb dX5_brokenOfAll_3 rfl hl (by decide) rfl (fun ls hl => ?_)
  have K35 : ∀ (k33 i32 : Nat) (s34 : Int32) (H : Heap) (locs : List Loc) (ls : Array Slot), i32 + k33 = c 1 → (FL_X5_brokenOfAll c v w k33 i32 s34) = (FL_X5_brokenOfAll c v w (c 1) 0 (0 : Int32)) → pcQ D vwCl (fun _ => False) s.heap NL ad (ctO cA c v w u ad) H locs → lv_has ls 3 [(2, .int (nI i32)), (1, .int s34), (0, .ref (ad 5 0))] → W p l e (headSpec wsX5_brokenOfAll ({ frames := 2, cells := 0, slots := 0, locals := 42 })).room s m ([.ref (ad 5 0)] : List Value).toArray below meth c0 H locs 0 0 (MQ below (va_Qi (fun (r : Int32) (_ : Unit) => r = F_X5_brokenOfAll c v w) (fun _ _ => True) (fun _ => False)) ([.ref (ad 5 0)] : List Value).toArray s 0 0 (fun _ => False)) (F0 m 4 ls []) := by
    intro k33
    induction k33 with
    | zero =>
      intro i32 s34 H locs ls hk heF hW hl
      have ei : i32 = c 1 := by omega
      rw [ei] at hl
      obtain rfl : (FL_X5_brokenOfAll c v w (c 1) 0 (0 : Int32)) = s34 := heF.symm
      clear heF
      refine lv_iload_n hx hb dX5_brokenOfAll_4 rfl (lv_at hl 0 rfl) ?_
      refine lv_aload_n hx hb dX5_brokenOfAll_5 rfl (lv_at hl 2 rfl) ?_
      refine pc_get (C := RX5) (T := TX5) (N := 13) (ci := 5) hx hb hts (by decide +kernel) hown hX.1 hW.1 5 0 hM.1 rfl rfl 8 (by decide) (hts (.fieldLink RX5 52 "DraftsmanOffice" "referenceCount" "I") (by decide +kernel)) (fun _ h9 => h9) rfl dX5_brokenOfAll_6 ?_
      refine lv_icmp_ge (tgt := 34) hx hb dX5_brokenOfAll_9 (by decide) (fun _ => ?_) (fun c36 => absurd (Int32.le_refl _) c36)
      refine lv_iload_n hx hb dX5_brokenOfAll_34 rfl (lv_at hl 1 rfl) ?_
      exact W.iret (v := (FL_X5_brokenOfAll c v w (c 1) 0 (0 : Int32))) hx hb hr (fun t ht hW9 => ⟨⟨(FL_X5_brokenOfAll c v w (c 1) 0 (0 : Int32)), (), rfl, rfl, trivial⟩, hW.2.F ht⟩) hW.2.2.2 dX5_brokenOfAll_35
    | succ k33 ihk33 =>
      intro i32 s34 H locs ls hk heF hW hl
      have hlt : i32 < c 1 := by omega
      have hlt9i32 := hlt
      refine lv_iload_n hx hb dX5_brokenOfAll_4 rfl (lv_at hl 0 rfl) ?_
      refine lv_aload_n hx hb dX5_brokenOfAll_5 rfl (lv_at hl 2 rfl) ?_
      refine pc_get (C := RX5) (T := TX5) (N := 13) (ci := 5) hx hb hts (by decide +kernel) hown hX.1 hW.1 5 0 hM.1 rfl rfl 8 (by decide) (hts (.fieldLink RX5 52 "DraftsmanOffice" "referenceCount" "I") (by decide +kernel)) (fun _ h9 => h9) rfl dX5_brokenOfAll_6 ?_
      refine lv_icmp_ge (tgt := 34) hx hb dX5_brokenOfAll_9 (by decide) (fun c37 => absurd c37 (nI_ge hlt (Nat.lt_of_le_of_lt hBd.2.1 (by decide)))) (fun _ => ?_)
      refine lv_aload_n hx hb dX5_brokenOfAll_12 rfl (lv_at hl 2 rfl) ?_
      refine lv_aload_n hx hb dX5_brokenOfAll_13 rfl (lv_at hl 2 rfl) ?_
      refine pc_get (C := RX5) (T := TX5) (N := 13) (ci := 5) hx hb hts (by decide +kernel) hown hX.1 hW.1 5 0 hM.1 rfl rfl 1 (by decide) (hts (.fieldLink RX5 17 "DraftsmanOffice" "references" "[LDraftsmanOffice$Reference;") (by decide +kernel)) (fun _ h9 => h9) rfl dX5_brokenOfAll_14 ?_
      refine lv_iload_n hx hb dX5_brokenOfAll_17 rfl (lv_at hl 0 rfl) ?_
      refine pc_aald (r := .ref (ad 2 i32)) hx hb hX.1 hW.1 51 0 4 (hM.2.1 51 (by decide) (by decide)) rfl rfl rfl (vp_in_nI (Nat.lt_of_lt_of_le hlt9i32 hBd.2.1) (by decide)) (by rw [nI_clamp (Nat.lt_of_lt_of_le (Nat.lt_of_lt_of_le hlt9i32 hBd.2.1) (by decide)), sRf_in hlt9i32]; rfl) dX5_brokenOfAll_18 ?_
      refine pc_qcalli (va_runV (As := [.ref (ad 2 i32)]) (rest := []) ⟨hx, hb, hml, hown, hts⟩ (r_X5_isBroken l D cA NL c v w u ad i32 hM hBd hF hlt9i32) (cwV 1 hts gX5_brokenOfAll_X5_isBroken rfl rfl rfl (by decide +kernel) ⟨Nat.le_of_ble_eq_true rfl, Nat.le_of_ble_eq_true rfl⟩) (pc_preV pcN_ok hX hW.1 hM.1 rfl rfl hW.1) rfl rfl hl.1 rfl (lv_room (Nat.le_of_ble_eq_true rfl)) dX5_brokenOfAll_19 ⟨Nat.le_of_ble_eq_true rfl, Nat.le_of_ble_eq_true rfl⟩) hW (fun r38 H locs hwr38 hW => ?_)
      replace hwr38 := hwr38.symm
      subst hwr38
      refine lv_if_eq (tgt := 28) hx hb dX5_brokenOfAll_22 (by decide) (fun (c39 : (F_X5_isBroken c v w i32) = 0) => ?_) (fun (c39 : ¬ (F_X5_isBroken c v w i32) = 0) => ?_)
      · refine lv_iinc (v := nI (i32 + 1)) (lv' := [(2, .int (nI (i32 + 1))), (1, .int s34), (0, .ref (ad 5 0))]) hx hb dX5_brokenOfAll_28 hl (k := 0) rfl (nI_1 i32) (by decide) rfl (fun ls hl => ?_)
        refine lv_goto (tgt := 4) hx hb dX5_brokenOfAll_31 (by decide) ?_
        have he9F : (FL_X5_brokenOfAll c v w k33 (i32 + 1) s34) = (FL_X5_brokenOfAll c v w (c 1) 0 (0 : Int32)) := by rw [← heF]; show (FL_X5_brokenOfAll c v w k33 (i32 + 1) s34) = (FL_X5_brokenOfAll c v w (k33 + 1) i32 s34); simp only [FL_X5_brokenOfAll, if_pos c39]
        exact ihk33 (i32 + 1)  s34 H locs ls (by omega) he9F hW (lv_sub hl [0, 1, 2] rfl)
      · refine lv_iinc (v := (s34 + 1)) (lv' := [(1, .int (s34 + 1)), (2, .int (nI i32)), (0, .ref (ad 5 0))]) hx hb dX5_brokenOfAll_25 hl (k := 1) rfl rfl (by decide) rfl (fun ls hl => ?_)
        refine lv_iinc (v := nI (i32 + 1)) (lv' := [(2, .int (nI (i32 + 1))), (1, .int (s34 + 1)), (0, .ref (ad 5 0))]) hx hb dX5_brokenOfAll_28 hl (k := 1) rfl (nI_1 i32) (by decide) rfl (fun ls hl => ?_)
        refine lv_goto (tgt := 4) hx hb dX5_brokenOfAll_31 (by decide) ?_
        have he9F : (FL_X5_brokenOfAll c v w k33 (i32 + 1) (s34 + 1)) = (FL_X5_brokenOfAll c v w (c 1) 0 (0 : Int32)) := by rw [← heF]; show (FL_X5_brokenOfAll c v w k33 (i32 + 1) (s34 + 1)) = (FL_X5_brokenOfAll c v w (k33 + 1) i32 s34); simp only [FL_X5_brokenOfAll, if_neg c39]
        exact ihk33 (i32 + 1)  (s34 + 1) H locs ls (by omega) he9F hW (lv_sub hl [0, 1, 2] rfl)
  exact K35 (c 1) 0  (0 : Int32) _ _ ls (by omega) rfl hW (lv_sub hl [0, 1, 2] rfl)

def F_X5_isReadyToIssue (c : SC) (v : SV) (w : SW) (x1 : Int32) : Int32 := (if (F_X3_lastStatus c v w x1.toNatClampNeg) = (1 : Int32) then (if (F_X5_brokenFrom c v w x1) = 0 then (1 : Int32) else (0 : Int32)) else (0 : Int32))

set_option maxHeartbeats 4000000 in
set_option maxRecDepth 100000 in
theorem r_X5_isReadyToIssue (l : Launch) (D : va_G) (cA : Nat → ClassId) (NL : List (Nat × Nat)) (c : SC) (v : SV) (w : SW) (u : Nat → Int32) (ad : Nat → Nat → Nat) (x1 : Int32) (hM : MEM c NL) (hBd : BND c) (hF : WF c v) (h1n : ¬ x1 < 0) (h1 : x1.toNatClampNeg < c 0) : Met l yX5_isReadyToIssue wsX5_isReadyToIssue ({ frames := 3, cells := 0, slots := 0, locals := 65 }) (pcPre D vwCl (tyL cA) [.ref (ad 5 0), .int x1] (fun H => va_P D vwCl (pcW NL ad (ctO cA c v w u ad)) H)) (va_Qi (fun (r : Int32) (_ : Unit) => r = F_X5_isReadyToIssue c v w x1) (fun _ _ => True) (fun _ => False)) 0 0 (fun _ => False) := by
  refine Met.ofW (cc := cX5_isReadyToIssue) (maxL := 2) (ret := (some .boolean)) (by decide) rfl ?_
  intro p e s m args below meth c0 s₁ B hml hv
  obtain ⟨rfl, hX, hP0⟩ := hv
  have hx := B.exec
  have hb := B.bytes
  have hr := B.returns
  have hts := atoms_spec (ws := wsX5_isReadyToIssue) B.pre
  have hown : s.vm.findClass RX5 = some m.cls := findClass_of_methodNamed B.named
  have hlocks := B.notSynchronized
  have hW : pcQ D vwCl (fun _ => False) s.heap NL ad (ctO cA c v w u ad) s.heap [] := ⟨hP0, va_S.rf⟩
  have hl := lv_entry ([.ref (ad 5 0), .int x1]) (n := 2) (Nat.le_of_ble_eq_true rfl)
  rw [lg_entry_eq]
  generalize (lg_sl ([.ref (ad 5 0), .int x1]) ++ List.replicate (2 - (lg_sl ([.ref (ad 5 0), .int x1])).length) Slot.unset).toArray = ls at hl ⊢
  have hl : lv_has ls 2 [(0, .ref (ad 5 0)), (1, .int x1)] := hl
  refine lv_aload_n hx hb dX5_isReadyToIssue_0 rfl (lv_at hl 0 rfl) ?_
  refine pc_get (C := RX5) (T := TX5) (N := 13) (ci := 5) hx hb hts (by decide +kernel) hown hX.1 hW.1 5 0 hM.1 rfl rfl 0 (by decide) (hts (.fieldLink RX5 11 "DraftsmanOffice" "sheets" "[LDraftsmanOffice$Sheet;") (by decide +kernel)) (fun _ h9 => h9) rfl dX5_isReadyToIssue_1 ?_
  refine lv_iload_n hx hb dX5_isReadyToIssue_4 rfl (lv_at hl 1 rfl) ?_
  refine pc_aald (r := .ref (ad 1 x1.toNatClampNeg)) hx hb hX.1 hW.1 50 0 3 (hM.2.1 50 (by decide) (by decide)) rfl rfl rfl (fun q => q.elim h1n (fun q => absurd (Nat.lt_of_lt_of_le h1 hBd.1) (Nat.not_lt.mpr q))) (by rw [sRf_in h1]; rfl) dX5_isReadyToIssue_5 ?_
  refine pc_qcalli (va_runVN (As := []) (rest := []) ⟨hx, hb, hml, hown, hts⟩ (r_X3_lastStatus l D cA NL c v w u ad x1.toNatClampNeg hM hBd h1) ⟨va_cnB 0 hts gX5_isReadyToIssue_X3_lastStatus_n97 rfl rfl rfl (hX.2.1 (.methodLinkNest RX5 97 yX3_lastStatus R_host) (by decide +kernel)) (hts (.initialized RX3) (by decide +kernel)) (by decide +kernel) ⟨Nat.le_of_ble_eq_true rfl, Nat.le_of_ble_eq_true rfl⟩, hts (.instanceMethod yX3_lastStatus) (by decide +kernel), hts (.selects RX3 yX3_lastStatus yX3_lastStatus) (by decide +kernel)⟩ (pc_preV pcN_ok hX hW.1 (hM.2.2.2.1 x1.toNatClampNeg h1).1 rfl rfl hW.1) rfl rfl hl.1 rfl (lv_room (Nat.le_of_ble_eq_true rfl)) dX5_isReadyToIssue_6 ⟨Nat.le_of_ble_eq_true rfl, Nat.le_of_ble_eq_true rfl⟩) hW (fun r40 H locs hwr40 hW => ?_)
  replace hwr40 := hwr40.symm
  subst hwr40
  refine lv_iconst (v := 1) hx hb dX5_isReadyToIssue_9 (by decide) ?_
  refine lv_icmp_ne (tgt := 25) hx hb dX5_isReadyToIssue_10 (by decide) (fun (c41 : ¬ (F_X3_lastStatus c v w x1.toNatClampNeg) = (1 : Int32)) => ?_) (fun (c41 : (F_X3_lastStatus c v w x1.toNatClampNeg) = (1 : Int32)) => ?_)
  · refine lv_iconst (v := 0) hx hb dX5_isReadyToIssue_25 (by decide) ?_
    exact W.zret (v := 0) hx hb hr rfl (fun t ht hW9 => ⟨⟨0, (), rfl, (by unfold F_X5_isReadyToIssue; rw [if_neg c41]), trivial⟩, hW.2.F ht⟩) hW.2.2.2 dX5_isReadyToIssue_26
  · refine lv_aload_n hx hb dX5_isReadyToIssue_13 rfl (lv_at hl 0 rfl) ?_
    refine lv_iload_n hx hb dX5_isReadyToIssue_14 rfl (lv_at hl 1 rfl) ?_
    refine pc_qcalli (va_runV (As := [.int x1]) (rest := []) ⟨hx, hb, hml, hown, hts⟩ (r_X5_brokenFrom l D cA NL c v w u ad x1 hM hBd hF ) (cwV 1 hts gX5_isReadyToIssue_X5_brokenFrom rfl rfl rfl (by decide +kernel) ⟨Nat.le_of_ble_eq_true rfl, Nat.le_of_ble_eq_true rfl⟩) (pc_preV pcN_ok hX hW.1 hM.1 rfl rfl hW.1) rfl rfl hl.1 rfl (lv_room (Nat.le_of_ble_eq_true rfl)) dX5_isReadyToIssue_15 ⟨Nat.le_of_ble_eq_true rfl, Nat.le_of_ble_eq_true rfl⟩) hW (fun r42 H locs hwr42 hW => ?_)
    replace hwr42 := hwr42.symm
    subst hwr42
    refine lv_if_ne (tgt := 25) hx hb dX5_isReadyToIssue_18 (by decide) (fun (c43 : ¬ (F_X5_brokenFrom c v w x1) = 0) => ?_) (fun (c43 : (F_X5_brokenFrom c v w x1) = 0) => ?_)
    · refine lv_iconst (v := 0) hx hb dX5_isReadyToIssue_25 (by decide) ?_
      exact W.zret (v := 0) hx hb hr rfl (fun t ht hW9 => ⟨⟨0, (), rfl, (by unfold F_X5_isReadyToIssue; rw [if_pos c41]; rw [if_neg c43]), trivial⟩, hW.2.F ht⟩) hW.2.2.2 dX5_isReadyToIssue_26
    · refine lv_iconst (v := 1) hx hb dX5_isReadyToIssue_21 (by decide) ?_
      refine lv_goto (tgt := 26) hx hb dX5_isReadyToIssue_22 (by decide) ?_
      exact W.zret (v := 1) hx hb hr rfl (fun t ht hW9 => ⟨⟨1, (), rfl, (by unfold F_X5_isReadyToIssue; rw [if_pos c41]; rw [if_pos c43]), trivial⟩, hW.2.F ht⟩) hW.2.2.2 dX5_isReadyToIssue_26

