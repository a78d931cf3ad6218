def FL_X5_queriesNotClosed (c : SC) (v : SV) (w : SW)   : Nat → Nat → Int32 → Int32
  | 0, _, s46 => s46
  | k45 + 1, i44, s46 => FL_X5_queriesNotClosed c v w k45 (i44 + 1) (if (v 4 i44 1) = (2 : Int32) then s46 else (s46 + 1))
def F_X5_queriesNotClosed (c : SC) (v : SV) (w : SW)  : Int32 := (FL_X5_queriesNotClosed c v w (c 3) 0 (0 : Int32))

set_option maxHeartbeats 4000000 in
set_option maxRecDepth 100000 in
theorem r_X5_queriesNotClosed (l : Launch) (D : va_G) (cA : Nat → ClassId) (NL : List (Nat × Nat)) (c : SC) (v : SV) (w : SW) (u : Nat → Int32) (ad : Nat → Nat → Nat)  (hM : MEM c NL) (hBd : BND c) (hF : WF c v) : Met l yX5_queriesNotClosed wsX5_queriesNotClosed ({ frames := 0, cells := 0, slots := 0, locals := 0 }) (pcPre D vwCl (tyL cA) [.ref (ad 5 0)] (fun H => va_P D vwCl (pcW NL ad (ctO cA c v w u ad)) H)) (va_Qi (fun (r : Int32) (_ : Unit) => r = F_X5_queriesNotClosed c v w) (fun _ _ => True) (fun _ => False)) 0 0 (fun _ => False) := by
  refine Met.ofW (cc := cX5_queriesNotClosed) (maxL := 3) (ret := (some .int)) (by decide) rfl ?_
  intro p e s m args below meth c0 s₁ B hml hv
  obtain ⟨rfl, hX, hP0⟩ := hv
  have hx := B.exec
  have hb := B.bytes
  have hr := B.returns
  have hts := atoms_spec (ws := wsX5_queriesNotClosed) B.pre
  have hown : s.vm.findClass RX5 = some m.cls := findClass_of_methodNamed B.named
  have hlocks := B.notSynchronized
  have hW : pcQ D vwCl (fun _ => False) s.heap NL ad (ctO cA c v w u ad) s.heap [] := ⟨hP0, va_S.rf⟩
  have hl := lv_entry ([.ref (ad 5 0)]) (n := 3) (Nat.le_of_ble_eq_true rfl)
  rw [lg_entry_eq]
  generalize (lg_sl ([.ref (ad 5 0)]) ++ List.replicate (3 - (lg_sl ([.ref (ad 5 0)])).length) Slot.unset).toArray = ls at hl ⊢
  have hl : lv_has ls 3 [(0, .ref (ad 5 0))] := hl
  refine lv_iconst (v := 0) hx hb dX5_queriesNotClosed_0 (by decide) ?_
  refine lv_istore_n (lv' := [(1, .int 0), (0, .ref (ad 5 0))]) hx hb dX5_queriesNotClosed_1 rfl hl (by decide) rfl (fun ls hl => ?_)
  refine lv_iconst (v := 0) hx hb dX5_queriesNotClosed_2 (by decide) ?_
  refine lv_istore_n (lv' := [(2, .int 0), (1, .int 0), (0, .ref (ad 5 0))]) hx hb dX5_queriesNotClosed_3 rfl hl (by decide) rfl (fun ls hl => ?_)
  have K47 : ∀ (k45 i44 : Nat) (s46 : Int32) (H : Heap) (locs : List Loc) (ls : Array Slot), i44 + k45 = c 3 → (FL_X5_queriesNotClosed c v w k45 i44 s46) = (FL_X5_queriesNotClosed c v w (c 3) 0 (0 : Int32)) → pcQ D vwCl (fun _ => False) s.heap NL ad (ctO cA c v w u ad) H locs → lv_has ls 3 [(2, .int (nI i44)), (1, .int s46), (0, .ref (ad 5 0))] → W p l e (headSpec wsX5_queriesNotClosed ({ frames := 0, cells := 0, slots := 0, locals := 0 })).room s m ([.ref (ad 5 0)] : List Value).toArray below meth c0 H locs 0 0 (MQ below (va_Qi (fun (r : Int32) (_ : Unit) => r = F_X5_queriesNotClosed c v w) (fun _ _ => True) (fun _ => False)) ([.ref (ad 5 0)] : List Value).toArray s 0 0 (fun _ => False)) (F0 m 4 ls []) := by
    intro k45
    induction k45 with
    | zero =>
      intro i44 s46 H locs ls hk heF hW hl
      have ei : i44 = c 3 := by omega
      rw [ei] at hl
      obtain rfl : (FL_X5_queriesNotClosed c v w (c 3) 0 (0 : Int32)) = s46 := heF.symm
      clear heF
      refine lv_iload_n hx hb dX5_queriesNotClosed_4 rfl (lv_at hl 0 rfl) ?_
      refine lv_aload_n hx hb dX5_queriesNotClosed_5 rfl (lv_at hl 2 rfl) ?_
      refine pc_get (C := RX5) (T := TX5) (N := 13) (ci := 5) hx hb hts (by decide +kernel) hown hX.1 hW.1 5 0 hM.1 rfl rfl 10 (by decide) (hts (.fieldLink RX5 58 "DraftsmanOffice" "queryCount" "I") (by decide +kernel)) (fun _ h9 => h9) rfl dX5_queriesNotClosed_6 ?_
      refine lv_icmp_ge (tgt := 34) hx hb dX5_queriesNotClosed_9 (by decide) (fun _ => ?_) (fun c48 => absurd (Int32.le_refl _) c48)
      refine lv_iload_n hx hb dX5_queriesNotClosed_34 rfl (lv_at hl 1 rfl) ?_
      exact W.iret (v := (FL_X5_queriesNotClosed c v w (c 3) 0 (0 : Int32))) hx hb hr (fun t ht hW9 => ⟨⟨(FL_X5_queriesNotClosed c v w (c 3) 0 (0 : Int32)), (), rfl, rfl, trivial⟩, hW.2.F ht⟩) hW.2.2.2 dX5_queriesNotClosed_35
    | succ k45 ihk45 =>
      intro i44 s46 H locs ls hk heF hW hl
      have hlt : i44 < c 3 := by omega
      have hlt9i44 := hlt
      refine lv_iload_n hx hb dX5_queriesNotClosed_4 rfl (lv_at hl 0 rfl) ?_
      refine lv_aload_n hx hb dX5_queriesNotClosed_5 rfl (lv_at hl 2 rfl) ?_
      refine pc_get (C := RX5) (T := TX5) (N := 13) (ci := 5) hx hb hts (by decide +kernel) hown hX.1 hW.1 5 0 hM.1 rfl rfl 10 (by decide) (hts (.fieldLink RX5 58 "DraftsmanOffice" "queryCount" "I") (by decide +kernel)) (fun _ h9 => h9) rfl dX5_queriesNotClosed_6 ?_
      refine lv_icmp_ge (tgt := 34) hx hb dX5_queriesNotClosed_9 (by decide) (fun c49 => absurd c49 (nI_ge hlt (Nat.lt_of_le_of_lt hBd.2.2.2.1 (by decide)))) (fun _ => ?_)
      refine lv_aload_n hx hb dX5_queriesNotClosed_12 rfl (lv_at hl 2 rfl) ?_
      refine pc_get (C := RX5) (T := TX5) (N := 13) (ci := 5) hx hb hts (by decide +kernel) hown hX.1 hW.1 5 0 hM.1 rfl rfl 3 (by decide) (hts (.fieldLink RX5 29 "DraftsmanOffice" "queries" "[LDraftsmanOffice$Query;") (by decide +kernel)) (fun _ h9 => h9) rfl dX5_queriesNotClosed_13 ?_
      refine lv_iload_n hx hb dX5_queriesNotClosed_16 rfl (lv_at hl 0 rfl) ?_
      refine pc_aald (r := .ref (ad 4 i44)) hx hb hX.1 hW.1 53 0 6 (hM.2.1 53 (by decide) (by decide)) rfl rfl rfl (vp_in_nI (Nat.lt_of_lt_of_le hlt9i44 hBd.2.2.2.1) (by decide)) (by rw [nI_clamp (Nat.lt_of_lt_of_le (Nat.lt_of_lt_of_le hlt9i44 hBd.2.2.2.1) (by decide)), sRf_in hlt9i44]; rfl) dX5_queriesNotClosed_17 ?_
      refine pc_getN (C := RX0) (T := TX0) (N := 3) (ci := 0) hx hb hts (by decide +kernel) hown hX.1 hW.1 4 i44 (hM.2.2.2.2.2.2.1 i44 hlt9i44) rfl rfl 2 (by decide) (hX.2.1 (.fieldLinkNest RX5 237 "DraftsmanOffice$Query" "state" "I" R_host) (by decide +kernel)) (fun _ h9 => h9) rfl dX5_queriesNotClosed_18 ?_
      refine lv_iconst (v := 2) hx hb dX5_queriesNotClosed_21 (by decide) ?_
      refine lv_icmp_eq (tgt := 28) hx hb dX5_queriesNotClosed_22 (by decide) (fun (c50 : (v 4 i44 1) = (2 : Int32)) => ?_) (fun (c50 : ¬ (v 4 i44 1) = (2 : Int32)) => ?_)
      · refine lv_iinc (v := nI (i44 + 1)) (lv' := [(2, .int (nI (i44 + 1))), (1, .int s46), (0, .ref (ad 5 0))]) hx hb dX5_queriesNotClosed_28 hl (k := 0) rfl (nI_1 i44) (by decide) rfl (fun ls hl => ?_)
        refine lv_goto (tgt := 4) hx hb dX5_queriesNotClosed_31 (by decide) ?_
        have he9F : (FL_X5_queriesNotClosed c v w k45 (i44 + 1) s46) = (FL_X5_queriesNotClosed c v w (c 3) 0 (0 : Int32)) := by rw [← heF]; show (FL_X5_queriesNotClosed c v w k45 (i44 + 1) s46) = (FL_X5_queriesNotClosed c v w (k45 + 1) i44 s46); simp only [FL_X5_queriesNotClosed, if_pos c50]
        exact ihk45 (i44 + 1)  s46 H locs ls (by omega) he9F hW (lv_sub hl [0, 1, 2] rfl)
      · refine lv_iinc (v := (s46 + 1)) (lv' := [(1, .int (s46 + 1)), (2, .int (nI i44)), (0, .ref (ad 5 0))]) hx hb dX5_queriesNotClosed_25 hl (k := 1) rfl rfl (by decide) rfl (fun ls hl => ?_)
        refine lv_iinc (v := nI (i44 + 1)) (lv' := [(2, .int (nI (i44 + 1))), (1, .int (s46 + 1)), (0, .ref (ad 5 0))]) hx hb dX5_queriesNotClosed_28 hl (k := 1) rfl (nI_1 i44) (by decide) rfl (fun ls hl => ?_)
        refine lv_goto (tgt := 4) hx hb dX5_queriesNotClosed_31 (by decide) ?_
        have he9F : (FL_X5_queriesNotClosed c v w k45 (i44 + 1) (s46 + 1)) = (FL_X5_queriesNotClosed c v w (c 3) 0 (0 : Int32)) := by rw [← heF]; show (FL_X5_queriesNotClosed c v w k45 (i44 + 1) (s46 + 1)) = (FL_X5_queriesNotClosed c v w (k45 + 1) i44 s46); simp only [FL_X5_queriesNotClosed, if_neg c50]
        exact ihk45 (i44 + 1)  (s46 + 1) H locs ls (by omega) he9F hW (lv_sub hl [0, 1, 2] rfl)
  exact K47 (c 3) 0  (0 : Int32) _ _ ls (by omega) rfl hW (lv_sub hl [0, 1, 2] rfl)

def F_X5_clashRegion (c : SC) (v : SV) (w : SW) (x1 x2 : Int32) : Int64 := (if (v 1 x1.toNatClampNeg 0) = (v 1 x2.toNatClampNeg 0) then (0 : Int64) else (if (F_X5_isIn (v 1 x1.toNatClampNeg 6) x2) = 0 then ((w 1 x1.toNatClampNeg 0) &&& (w 1 x2.toNatClampNeg 0)) else (0 : Int64)))

set_option maxHeartbeats 4000000 in
set_option maxRecDepth 100000 in
theorem r_X5_clashRegion (l : Launch) (D : va_G) (cA : Nat → ClassId) (NL : List (Nat × Nat)) (c : SC) (v : SV) (w : SW) (u : Nat → Int32) (ad : Nat → Nat → Nat) (x1 x2 : Int32) (hM : MEM c NL) (hBd : BND c) (hF : WF c v) (h1n : ¬ x1 < 0) (h1 : x1.toNatClampNeg < c 0) (h2n : ¬ x2 < 0) (h2 : x2.toNatClampNeg < c 0) : Met l yX5_clashRegion wsX5_clashRegion ({ frames := 1, cells := 0, slots := 0, locals := 21 }) (pcPre D vwCl (tyL cA) [.ref (ad 5 0), .int x1, .int x2] (fun H => va_P D vwCl (pcW NL ad (ctO cA c v w u ad)) H)) (va_Ql (fun (r : Int64) (_ : Unit) => r = F_X5_clashRegion c v w x1 x2) (fun _ _ => True) (fun _ => False)) 0 0 (fun _ => False) := by
  refine Met.ofW (cc := cX5_clashRegion) (maxL := 5) (ret := (some .long)) (by decide) rfl ?_
  intro p e s m args below meth c0 s₁ B hml hv
  obtain ⟨rfl, hX, hP0⟩ := hv
  have hx := B.exec
  have hb := B.bytes
  have hr := B.returns
  have hts := atoms_spec (ws := wsX5_clashRegion) B.pre
  have hown : s.vm.findClass RX5 = some m.cls := findClass_of_methodNamed B.named
  have hlocks := B.notSynchronized
  have hW : pcQ D vwCl (fun _ => False) s.heap NL ad (ctO cA c v w u ad) s.heap [] := ⟨hP0, va_S.rf⟩
  have hl := lv_entry ([.ref (ad 5 0), .int x1, .int x2]) (n := 5) (Nat.le_of_ble_eq_true rfl)
  rw [lg_entry_eq]
  generalize (lg_sl ([.ref (ad 5 0), .int x1, .int x2]) ++ List.replicate (5 - (lg_sl ([.ref (ad 5 0), .int x1, .int x2])).length) Slot.unset).toArray = ls at hl ⊢
  have hl : lv_has ls 5 [(0, .ref (ad 5 0)), (1, .int x1), (2, .int x2)] := hl
  refine lv_aload_n hx hb dX5_clashRegion_0 rfl (lv_at hl 0 rfl) ?_
  refine pc_get (C := RX5) (T := TX5) (N := 13) (ci := 5) hx hb hts (by decide +kernel) hown hX.1 hW.1 5 0 hM.1 rfl rfl 0 (by decide) (hts (.fieldLink RX5 11 "DraftsmanOffice" "sheets" "[LDraftsmanOffice$Sheet;") (by decide +kernel)) (fun _ h9 => h9) rfl dX5_clashRegion_1 ?_
  refine lv_iload_n hx hb dX5_clashRegion_4 rfl (lv_at hl 1 rfl) ?_
  refine pc_aald (r := .ref (ad 1 x1.toNatClampNeg)) hx hb hX.1 hW.1 50 0 3 (hM.2.1 50 (by decide) (by decide)) rfl rfl rfl (fun q => q.elim h1n (fun q => absurd (Nat.lt_of_lt_of_le h1 hBd.1) (Nat.not_lt.mpr q))) (by rw [sRf_in h1]; rfl) dX5_clashRegion_5 ?_
  refine lv_astore_n (lv' := [(3, .ref (ad 1 x1.toNatClampNeg)), (0, .ref (ad 5 0)), (1, .int x1), (2, .int x2)]) hx hb dX5_clashRegion_6 rfl hl (by decide) rfl (fun ls hl => ?_)
  refine lv_aload_n hx hb dX5_clashRegion_7 rfl (lv_at hl 1 rfl) ?_
  refine pc_get (C := RX5) (T := TX5) (N := 13) (ci := 5) hx hb hts (by decide +kernel) hown hX.1 hW.1 5 0 hM.1 rfl rfl 0 (by decide) (hts (.fieldLink RX5 11 "DraftsmanOffice" "sheets" "[LDraftsmanOffice$Sheet;") (by decide +kernel)) (fun _ h9 => h9) rfl dX5_clashRegion_8 ?_
  refine lv_iload_n hx hb dX5_clashRegion_11 rfl (lv_at hl 3 rfl) ?_
  refine pc_aald (r := .ref (ad 1 x2.toNatClampNeg)) hx hb hX.1 hW.1 50 0 3 (hM.2.1 50 (by decide) (by decide)) rfl rfl rfl (fun q => q.elim h2n (fun q => absurd (Nat.lt_of_lt_of_le h2 hBd.1) (Nat.not_lt.mpr q))) (by rw [sRf_in h2]; rfl) dX5_clashRegion_12 ?_
  refine lv_astore (lv' := [(4, .ref (ad 1 x2.toNatClampNeg)), (3, .ref (ad 1 x1.toNatClampNeg)), (0, .ref (ad 5 0)), (1, .int x1), (2, .int x2)]) hx hb dX5_clashRegion_13 hl (by decide) rfl (fun ls hl => ?_)
  refine lv_aload_n hx hb dX5_clashRegion_15 rfl (lv_at hl 1 rfl) ?_
  refine pc_getN (C := RX3) (T := TX3) (N := 10) (ci := 3) hx hb hts (by decide +kernel) hown hX.1 hW.1 1 x1.toNatClampNeg (hM.2.2.2.1 x1.toNatClampNeg h1).1 rfl rfl 0 (by decide) (hX.2.1 (.fieldLinkNest RX5 153 "DraftsmanOffice$Sheet" "trade" "I" R_host) (by decide +kernel)) (fun _ h9 => h9) rfl dX5_clashRegion_16 ?_
  refine lv_aload hx hb dX5_clashRegion_19 (lv_at hl 0 rfl) ?_
  refine pc_getN (C := RX3) (T := TX3) (N := 10) (ci := 3) hx hb hts (by decide +kernel) hown hX.1 hW.1 1 x2.toNatClampNeg (hM.2.2.2.1 x2.toNatClampNeg h2).1 rfl rfl 0 (by decide) (hX.2.1 (.fieldLinkNest RX5 153 "DraftsmanOffice$Sheet" "trade" "I" R_host) (by decide +kernel)) (fun _ h9 => h9) rfl dX5_clashRegion_21 ?_
  refine lv_icmp_eq (tgt := 38) hx hb dX5_clashRegion_24 (by decide) (fun (c51 : (v 1 x1.toNatClampNeg 0) = (v 1 x2.toNatClampNeg 0)) => ?_) (fun (c51 : ¬ (v 1 x1.toNatClampNeg 0) = (v 1 x2.toNatClampNeg 0)) => ?_)
  · refine lv_lconst (v := 0) hx hb dX5_clashRegion_38 (by decide) ?_
    exact W.lret (v := 0) hx hb hr (fun t ht hW9 => ⟨⟨0, (), rfl, (by unfold F_X5_clashRegion; rw [if_pos c51]), trivial⟩, hW.2.F ht⟩) hW.2.2.2 dX5_clashRegion_39
  · refine lv_aload_n hx hb dX5_clashRegion_27 rfl (lv_at hl 1 rfl) ?_
    refine pc_getN (C := RX3) (T := TX3) (N := 10) (ci := 3) hx hb hts (by decide +kernel) hown hX.1 hW.1 1 x1.toNatClampNeg (hM.2.2.2.1 x1.toNatClampNeg h1).1 rfl rfl 9 (by decide) (hX.2.1 (.fieldLinkNest RX5 249 "DraftsmanOffice$Sheet" "excused" "I" R_host) (by decide +kernel)) (fun _ h9 => h9) rfl dX5_clashRegion_28 ?_
    refine lv_iload_n hx hb dX5_clashRegion_31 rfl (lv_at hl 4 rfl) ?_
    refine pc_qcalli (va_runS (As := [.int (v 1 x1.toNatClampNeg 6), .int x2]) (rest := []) ⟨hx, hb, hml, hown, hts⟩ (r_X5_isIn l D cA (v 1 x1.toNatClampNeg 6) x2 ) (va_cwS 2 hts gX5_clashRegion_X5_isIn rfl rfl rfl (by decide +kernel) ⟨Nat.le_of_ble_eq_true rfl, Nat.le_of_ble_eq_true rfl⟩) (pc_preS pcN_ok hX trivial) rfl rfl hl.1 rfl (lv_room (Nat.le_of_ble_eq_true rfl)) dX5_clashRegion_32 ⟨Nat.le_of_ble_eq_true rfl, Nat.le_of_ble_eq_true rfl⟩) hW (fun r52 H locs hwr52 hW => ?_)
    replace hwr52 := hwr52.symm
    subst hwr52
    refine lv_if_eq (tgt := 40) hx hb dX5_clashRegion_35 (by decide) (fun (c53 : (F_X5_isIn (v 1 x1.toNatClampNeg 6) x2) = 0) => ?_) (fun (c53 : ¬ (F_X5_isIn (v 1 x1.toNatClampNeg 6) x2) = 0) => ?_)
    · refine lv_aload_n hx hb dX5_clashRegion_40 rfl (lv_at hl 1 rfl) ?_
      refine pc_getN (C := RX3) (T := TX3) (N := 10) (ci := 3) hx hb hts (by decide +kernel) hown hX.1 hW.1 1 x1.toNatClampNeg (hM.2.2.2.1 x1.toNatClampNeg h1).1 rfl rfl 6 (by decide) (hX.2.1 (.fieldLinkNest RX5 159 "DraftsmanOffice$Sheet" "issuedRegion" "J" R_host) (by decide +kernel)) (fun _ h9 => h9) rfl dX5_clashRegion_41 ?_
      refine lv_aload hx hb dX5_clashRegion_44 (lv_at hl 0 rfl) ?_
      refine pc_getN (C := RX3) (T := TX3) (N := 10) (ci := 3) hx hb hts (by decide +kernel) hown hX.1 hW.1 1 x2.toNatClampNeg (hM.2.2.2.1 x2.toNatClampNeg h2).1 rfl rfl 6 (by decide) (hX.2.1 (.fieldLinkNest RX5 159 "DraftsmanOffice$Sheet" "issuedRegion" "J" R_host) (by decide +kernel)) (fun _ h9 => h9) rfl dX5_clashRegion_46 ?_
      refine lv_land hx hb dX5_clashRegion_49 ?_
      exact W.lret (v := ((w 1 x1.toNatClampNeg 0) &&& (w 1 x2.toNatClampNeg 0))) hx hb hr (fun t ht hW9 => ⟨⟨((w 1 x1.toNatClampNeg 0) &&& (w 1 x2.toNatClampNeg 0)), (), rfl, (by unfold F_X5_clashRegion; rw [if_neg c51]; rw [if_pos c53]), trivial⟩, hW.2.F ht⟩) hW.2.2.2 dX5_clashRegion_50
    · refine lv_lconst (v := 0) hx hb dX5_clashRegion_38 (by decide) ?_
      exact W.lret (v := 0) hx hb hr (fun t ht hW9 => ⟨⟨0, (), rfl, (by unfold F_X5_clashRegion; rw [if_neg c51]; rw [if_neg c53]), trivial⟩, hW.2.F ht⟩) hW.2.2.2 dX5_clashRegion_39

def FL_X5_packagesThatAre (c : SC) (v : SV) (w : SW)  (x1 : Int32) : Nat → Nat → Int32 → Int32
  | 0, _, s56 => s56
  | k55 + 1, i54, s56 => FL_X5_packagesThatAre c v w x1 k55 (i54 + 1) (if (v 7 i54 3) = x1 then (s56 + 1) else s56)
def F_X5_packagesThatAre (c : SC) (v : SV) (w : SW) (x1 : Int32) : Int32 := (FL_X5_packagesThatAre c v w x1 (c 4) 0 (0 : Int32))

set_option maxHeartbeats 4000000 in
set_option maxRecDepth 100000 in
theorem r_X5_packagesThatAre (l : Launch) (D : va_G) (cA : Nat → ClassId) (NL : List (Nat × Nat)) (c : SC) (v : SV) (w : SW) (u : Nat → Int32) (ad : Nat → Nat → Nat) (x1 : Int32) (hM : MEM c NL) (hBd : BND c) (hF : WF c v) : Met l yX5_packagesThatAre wsX5_packagesThatAre ({ frames := 0, cells := 0, slots := 0, locals := 0 }) (pcPre D vwCl (tyL cA) [.ref (ad 5 0), .int x1] (fun H => va_P D vwCl (pcW NL ad (ctO cA c v w u ad)) H)) (va_Qi (fun (r : Int32) (_ : Unit) => r = F_X5_packagesThatAre c v w x1) (fun _ _ => True) (fun _ => False)) 0 0 (fun _ => False) := by
  refine Met.ofW (cc := cX5_packagesThatAre) (maxL := 4) (ret := (some .int)) (by decide) rfl ?_
  intro p e s m args below meth c0 s₁ B hml hv
  obtain ⟨rfl, hX, hP0⟩ := hv
  have hx := B.exec
  have hb := B.bytes
  have hr := B.returns
  have hts := atoms_spec (ws := wsX5_packagesThatAre) B.pre
  have hown : s.vm.findClass RX5 = some m.cls := findClass_of_methodNamed B.named
  have hlocks := B.notSynchronized
  have hW : pcQ D vwCl (fun _ => False) s.heap NL ad (ctO cA c v w u ad) s.heap [] := ⟨hP0, va_S.rf⟩
  have hl := lv_entry ([.ref (ad 5 0), .int x1]) (n := 4) (Nat.le_of_ble_eq_true rfl)
  rw [lg_entry_eq]
  generalize (lg_sl ([.ref (ad 5 0), .int x1]) ++ List.replicate (4 - (lg_sl ([.ref (ad 5 0), .int x1])).length) Slot.unset).toArray = ls at hl ⊢
  have hl : lv_has ls 4 [(0, .ref (ad 5 0)), (1, .int x1)] := hl
  refine lv_iconst (v := 0) hx hb dX5_packagesThatAre_0 (by decide) ?_
  refine lv_istore_n (lv' := [(2, .int 0), (0, .ref (ad 5 0)), (1, .int x1)]) hx hb dX5_packagesThatAre_1 rfl hl (by decide) rfl (fun ls hl => ?_)
  refine lv_iconst (v := 0) hx hb dX5_packagesThatAre_2 (by decide) ?_
  refine lv_istore_n (lv' := [(3, .int 0), (2, .int 0), (0, .ref (ad 5 0)), (1, .int x1)]) hx hb dX5_packagesThatAre_3 rfl hl (by decide) rfl (fun ls hl => ?_)
  have K57 : ∀ (k55 i54 : Nat) (s56 : Int32) (H : Heap) (locs : List Loc) (ls : Array Slot), i54 + k55 = c 4 → (FL_X5_packagesThatAre c v w x1 k55 i54 s56) = (FL_X5_packagesThatAre c v w x1 (c 4) 0 (0 : Int32)) → pcQ D vwCl (fun _ => False) s.heap NL ad (ctO cA c v w u ad) H locs → lv_has ls 4 [(3, .int (nI i54)), (2, .int s56), (0, .ref (ad 5 0)), (1, .int x1)] → W p l e (headSpec wsX5_packagesThatAre ({ frames := 0, cells := 0, slots := 0, locals := 0 })).room s m ([.ref (ad 5 0), .int x1] : List Value).toArray below meth c0 H locs 0 0 (MQ below (va_Qi (fun (r : Int32) (_ : Unit) => r = F_X5_packagesThatAre c v w x1) (fun _ _ => True) (fun _ => False)) ([.ref (ad 5 0), .int x1] : List Value).toArray s 0 0 (fun _ => False)) (F0 m 4 ls []) := by
    intro k55
    induction k55 with
    | zero =>
      intro i54 s56 H locs ls hk heF hW hl
      have ei : i54 = c 4 := by omega
      rw [ei] at hl
      obtain rfl : (FL_X5_packagesThatAre c v w x1 (c 4) 0 (0 : Int32)) = s56 := heF.symm
      clear heF
      refine lv_iload_n hx hb dX5_packagesThatAre_4 rfl (lv_at hl 0 rfl) ?_
      refine lv_aload_n hx hb dX5_packagesThatAre_5 rfl (lv_at hl 2 rfl) ?_
      refine pc_get (C := RX5) (T := TX5) (N := 13) (ci := 5) hx hb hts (by decide +kernel) hown hX.1 hW.1 5 0 hM.1 rfl rfl 11 (by decide) (hts (.fieldLink RX5 61 "DraftsmanOffice" "packageCount" "I") (by decide +kernel)) (fun _ h9 => h9) rfl dX5_packagesThatAre_6 ?_
      refine lv_icmp_ge (tgt := 34) hx hb dX5_packagesThatAre_9 (by decide) (fun _ => ?_) (fun c58 => absurd (Int32.le_refl _) c58)
      refine lv_iload_n hx hb dX5_packagesThatAre_34 rfl (lv_at hl 1 rfl) ?_
      exact W.iret (v := (FL_X5_packagesThatAre c v w x1 (c 4) 0 (0 : Int32))) hx hb hr (fun t ht hW9 => ⟨⟨(FL_X5_packagesThatAre c v w x1 (c 4) 0 (0 : Int32)), (), rfl, rfl, trivial⟩, hW.2.F ht⟩) hW.2.2.2 dX5_packagesThatAre_35
    | succ k55 ihk55 =>
      intro i54 s56 H locs ls hk heF hW hl
      have hlt : i54 < c 4 := by omega
      have hlt9i54 := hlt
      refine lv_iload_n hx hb dX5_packagesThatAre_4 rfl (lv_at hl 0 rfl) ?_
      refine lv_aload_n hx hb dX5_packagesThatAre_5 rfl (lv_at hl 2 rfl) ?_
      refine pc_get (C := RX5) (T := TX5) (N := 13) (ci := 5) hx hb hts (by decide +kernel) hown hX.1 hW.1 5 0 hM.1 rfl rfl 11 (by decide) (hts (.fieldLink RX5 61 "DraftsmanOffice" "packageCount" "I") (by decide +kernel)) (fun _ h9 => h9) rfl dX5_packagesThatAre_6 ?_
      refine lv_icmp_ge (tgt := 34) hx hb dX5_packagesThatAre_9 (by decide) (fun c59 => absurd c59 (nI_ge hlt (Nat.lt_of_le_of_lt hBd.2.2.2.2 (by decide)))) (fun _ => ?_)
      refine lv_aload_n hx hb dX5_packagesThatAre_12 rfl (lv_at hl 2 rfl) ?_
      refine pc_get (C := RX5) (T := TX5) (N := 13) (ci := 5) hx hb hts (by decide +kernel) hown hX.1 hW.1 5 0 hM.1 rfl rfl 4 (by decide) (hts (.fieldLink RX5 35 "DraftsmanOffice" "packages" "[LDraftsmanOffice$WorkPackage;") (by decide +kernel)) (fun _ h9 => h9) rfl dX5_packagesThatAre_13 ?_
      refine lv_iload_n hx hb dX5_packagesThatAre_16 rfl (lv_at hl 0 rfl) ?_
      refine pc_aald (r := .ref (ad 7 i54)) hx hb hX.1 hW.1 54 0 7 (hM.2.1 54 (by decide) (by decide)) rfl rfl rfl (vp_in_nI (Nat.lt_of_lt_of_le hlt9i54 hBd.2.2.2.2) (by decide)) (by rw [nI_clamp (Nat.lt_of_lt_of_le (Nat.lt_of_lt_of_le hlt9i54 hBd.2.2.2.2) (by decide)), sRf_in hlt9i54]; rfl) dX5_packagesThatAre_17 ?_
      refine pc_getN (C := RX4) (T := TX4) (N := 6) (ci := 4) hx hb hts (by decide +kernel) hown hX.1 hW.1 7 i54 (hM.2.2.2.2.2.2.2 i54 hlt9i54) rfl rfl 4 (by decide) (hX.2.1 (.fieldLinkNest RX5 264 "DraftsmanOffice$WorkPackage" "state" "I" R_host) (by decide +kernel)) (fun _ h9 => h9) rfl dX5_packagesThatAre_18 ?_
      refine lv_iload_n hx hb dX5_packagesThatAre_21 rfl (lv_at hl 3 rfl) ?_
      refine lv_icmp_ne (tgt := 28) hx hb dX5_packagesThatAre_22 (by decide) (fun (c60 : ¬ (v 7 i54 3) = x1) => ?_) (fun (c60 : (v 7 i54 3) = x1) => ?_)
      · refine lv_iinc (v := nI (i54 + 1)) (lv' := [(3, .int (nI (i54 + 1))), (2, .int s56), (0, .ref (ad 5 0)), (1, .int x1)]) hx hb dX5_packagesThatAre_28 hl (k := 0) rfl (nI_1 i54) (by decide) rfl (fun ls hl => ?_)
        refine lv_goto (tgt := 4) hx hb dX5_packagesThatAre_31 (by decide) ?_
        have he9F : (FL_X5_packagesThatAre c v w x1 k55 (i54 + 1) s56) = (FL_X5_packagesThatAre c v w x1 (c 4) 0 (0 : Int32)) := by rw [← heF]; show (FL_X5_packagesThatAre c v w x1 k55 (i54 + 1) s56) = (FL_X5_packagesThatAre c v w x1 (k55 + 1) i54 s56); simp only [FL_X5_packagesThatAre, if_neg c60]
        exact ihk55 (i54 + 1)  s56 H locs ls (by omega) he9F hW (lv_sub hl [0, 1, 2, 3] rfl)
      · refine lv_iinc (v := (s56 + 1)) (lv' := [(2, .int (s56 + 1)), (3, .int (nI i54)), (0, .ref (ad 5 0)), (1, .int x1)]) hx hb dX5_packagesThatAre_25 hl (k := 1) rfl rfl (by decide) rfl (fun ls hl => ?_)
        refine lv_iinc (v := nI (i54 + 1)) (lv' := [(3, .int (nI (i54 + 1))), (2, .int (s56 + 1)), (0, .ref (ad 5 0)), (1, .int x1)]) hx hb dX5_packagesThatAre_28 hl (k := 1) rfl (nI_1 i54) (by decide) rfl (fun ls hl => ?_)
        refine lv_goto (tgt := 4) hx hb dX5_packagesThatAre_31 (by decide) ?_
        have he9F : (FL_X5_packagesThatAre c v w x1 k55 (i54 + 1) (s56 + 1)) = (FL_X5_packagesThatAre c v w x1 (c 4) 0 (0 : Int32)) := by rw [← heF]; show (FL_X5_packagesThatAre c v w x1 k55 (i54 + 1) (s56 + 1)) = (FL_X5_packagesThatAre c v w x1 (k55 + 1) i54 s56); simp only [FL_X5_packagesThatAre, if_pos c60]
        exact ihk55 (i54 + 1)  (s56 + 1) H locs ls (by omega) he9F hW (lv_sub hl [0, 1, 2, 3] rfl)
  exact K57 (c 4) 0  (0 : Int32) _ _ ls (by omega) rfl hW (lv_sub hl [0, 1, 2, 3] rfl)

def FL_X5_clashesOf (c : SC) (v : SV) (w : SW)  (x1 : Int32) : Nat → Nat → Int32 → Int32
  | 0, _, s63 => s63
  | k62 + 1, i61, s63 => FL_X5_clashesOf c v w x1 k62 (i61 + 1) (if (F_X5_hasField (F_X5_clashRegion c v w x1 (nI i61))) = 0 then s63 else (s63 + 1))
def F_X5_clashesOf (c : SC) (v : SV) (w : SW) (x1 : Int32) : Int32 := (FL_X5_clashesOf c v w x1 (c 0) 0 (0 : Int32))

set_option maxHeartbeats 4000000 in
set_option maxRecDepth 100000 in
theorem r_X5_clashesOf (l : Launch) (D : va_G) (cA : Nat → ClassId) (NL : List (Nat × Nat)) (c : SC) (v : SV) (w : SW) (u : Nat → Int32) (ad : Nat → Nat → Nat) (x1 : Int32) (hM : MEM c NL) (hBd : BND c) (hF : WF c v) (h1n : ¬ x1 < 0) (h1 : x1.toNatClampNeg < c 0) : Met l yX5_clashesOf wsX5_clashesOf ({ frames := 2, cells := 0, slots := 0, locals := 45 }) (pcPre D vwCl (tyL cA) [.ref (ad 5 0), .int x1] (fun H => va_P D vwCl (pcW NL ad (ctO cA c v w u ad)) H)) (va_Qi (fun (r : Int32) (_ : Unit) => r = F_X5_clashesOf c v w x1) (fun _ _ => True) (fun _ => False)) 0 0 (fun _ => False) := by
  refine Met.ofW (cc := cX5_clashesOf) (maxL := 4) (ret := (some .int)) (by decide) rfl ?_
  intro p e s m args below meth c0 s₁ B hml hv
  obtain ⟨rfl, hX, hP0⟩ := hv
  have hx := B.exec
  have hb := B.bytes
  have hr := B.returns
  have hts := atoms_spec (ws := wsX5_clashesOf) B.pre
  have hown : s.vm.findClass RX5 = some m.cls := findClass_of_methodNamed B.named
  have hlocks := B.notSynchronized
  have hW : pcQ D vwCl (fun _ => False) s.heap NL ad (ctO cA c v w u ad) s.heap [] := ⟨hP0, va_S.rf⟩
  have hl := lv_entry ([.ref (ad 5 0), .int x1]) (n := 4) (Nat.le_of_ble_eq_true rfl)
  rw [lg_entry_eq]
  generalize (lg_sl ([.ref (ad 5 0), .int x1]) ++ List.replicate (4 - (lg_sl ([.ref (ad 5 0), .int x1])).length) Slot.unset).toArray = ls at hl ⊢
  have hl : lv_has ls 4 [(0, .ref (ad 5 0)), (1, .int x1)] := hl
  refine lv_iconst (v := 0) hx hb dX5_clashesOf_0 (by decide) ?_
  refine lv_istore_n (lv' := [(2, .int 0), (0, .ref (ad 5 0)), (1, .int x1)]) hx hb dX5_clashesOf_1 rfl hl (by decide) rfl (fun ls hl => ?_)
  refine lv_iconst (v := 0) hx hb dX5_clashesOf_2 (by decide) ?_
  refine lv_istore_n (lv' := [(3, .int 0), (2, .int 0), (0, .ref (ad 5 0)), (1, .int x1)]) hx hb dX5_clashesOf_3 rfl hl (by decide) rfl (fun ls hl => ?_)
  have K64 : ∀ (k62 i61 : Nat) (s63 : Int32) (H : Heap) (locs : List Loc) (ls : Array Slot), i61 + k62 = c 0 → (FL_X5_clashesOf c v w x1 k62 i61 s63) = (FL_X5_clashesOf c v w x1 (c 0) 0 (0 : Int32)) → pcQ D vwCl (fun _ => False) s.heap NL ad (ctO cA c v w u ad) H locs → lv_has ls 4 [(3, .int (nI i61)), (2, .int s63), (0, .ref (ad 5 0)), (1, .int x1)] → W p l e (headSpec wsX5_clashesOf ({ frames := 2, cells := 0, slots := 0, locals := 45 })).room s m ([.ref (ad 5 0), .int x1] : List Value).toArray below meth c0 H locs 0 0 (MQ below (va_Qi (fun (r : Int32) (_ : Unit) => r = F_X5_clashesOf c v w x1) (fun _ _ => True) (fun _ => False)) ([.ref (ad 5 0), .int x1] : List Value).toArray s 0 0 (fun _ => False)) (F0 m 4 ls []) := by
    intro k62
    induction k62 with
    | zero =>
      intro i61 s63 H locs ls hk heF hW hl
      have ei : i61 = c 0 := by omega
      rw [ei] at hl
      obtain rfl : (FL_X5_clashesOf c v w x1 (c 0) 0 (0 : Int32)) = s63 := heF.symm
      clear heF
      refine lv_iload_n hx hb dX5_clashesOf_4 rfl (lv_at hl 0 rfl) ?_
      refine lv_aload_n hx hb dX5_clashesOf_5 rfl (lv_at hl 2 rfl) ?_
      refine pc_get (C := RX5) (T := TX5) (N := 13) (ci := 5) hx hb hts (by decide +kernel) hown hX.1 hW.1 5 0 hM.1 rfl rfl 7 (by decide) (hts (.fieldLink RX5 48 "DraftsmanOffice" "sheetCount" "I") (by decide +kernel)) (fun _ h9 => h9) rfl dX5_clashesOf_6 ?_
      refine lv_icmp_ge (tgt := 33) hx hb dX5_clashesOf_9 (by decide) (fun _ => ?_) (fun c65 => absurd (Int32.le_refl _) c65)
      refine lv_iload_n hx hb dX5_clashesOf_33 rfl (lv_at hl 1 rfl) ?_
      exact W.iret (v := (FL_X5_clashesOf c v w x1 (c 0) 0 (0 : Int32))) hx hb hr (fun t ht hW9 => ⟨⟨(FL_X5_clashesOf c v w x1 (c 0) 0 (0 : Int32)), (), rfl, rfl, trivial⟩, hW.2.F ht⟩) hW.2.2.2 dX5_clashesOf_34
    | succ k62 ihk62 =>
      intro i61 s63 H locs ls hk heF hW hl
      have hlt : i61 < c 0 := by omega
      have hlt9i61 := hlt
      refine lv_iload_n hx hb dX5_clashesOf_4 rfl (lv_at hl 0 rfl) ?_
      refine lv_aload_n hx hb dX5_clashesOf_5 rfl (lv_at hl 2 rfl) ?_
      refine pc_get (C := RX5) (T := TX5) (N := 13) (ci := 5) hx hb hts (by decide +kernel) hown hX.1 hW.1 5 0 hM.1 rfl rfl 7 (by decide) (hts (.fieldLink RX5 48 "DraftsmanOffice" "sheetCount" "I") (by decide +kernel)) (fun _ h9 => h9) rfl dX5_clashesOf_6 ?_
      refine lv_icmp_ge (tgt := 33) hx hb dX5_clashesOf_9 (by decide) (fun c66 => absurd c66 (nI_ge hlt (Nat.lt_of_le_of_lt hBd.1 (by decide)))) (fun _ => ?_)
      refine lv_aload_n hx hb dX5_clashesOf_12 rfl (lv_at hl 2 rfl) ?_
      refine lv_iload_n hx hb dX5_clashesOf_13 rfl (lv_at hl 3 rfl) ?_
      refine lv_iload_n hx hb dX5_clashesOf_14 rfl (lv_at hl 0 rfl) ?_
      refine pc_qcalll (va_runV (As := [.int x1, .int (nI i61)]) (rest := []) ⟨hx, hb, hml, hown, hts⟩ (r_X5_clashRegion l D cA NL c v w u ad x1 (nI i61) hM hBd hF h1n h1 (nI_nn (Nat.lt_of_lt_of_le hlt9i61 (Nat.le_trans hBd.1 (by decide)))) (by rw [nI_clamp (Nat.lt_of_lt_of_le hlt9i61 (Nat.le_trans hBd.1 (by decide)))]; exact hlt9i61)) (cwV 2 hts gX5_clashesOf_X5_clashRegion rfl rfl rfl (by decide +kernel) ⟨Nat.le_of_ble_eq_true rfl, Nat.le_of_ble_eq_true rfl⟩) (pc_preV pcN_ok hX hW.1 hM.1 rfl rfl hW.1) rfl rfl hl.1 rfl (lv_room (Nat.le_of_ble_eq_true rfl)) dX5_clashesOf_15 ⟨Nat.le_of_ble_eq_true rfl, Nat.le_of_ble_eq_true rfl⟩) hW (fun r67 H locs hwr67 hW => ?_)
      replace hwr67 := hwr67.symm
      subst hwr67
      refine pc_qcalli (va_runS (As := [.long (F_X5_clashRegion c v w x1 (nI i61))]) (rest := []) ⟨hx, hb, hml, hown, hts⟩ (r_X5_hasField l D cA (F_X5_clashRegion c v w x1 (nI i61)) ) (va_cwS 1 hts gX5_clashesOf_X5_hasField rfl rfl rfl (by decide +kernel) ⟨Nat.le_of_ble_eq_true rfl, Nat.le_of_ble_eq_true rfl⟩) (pc_preS pcN_ok hX trivial) rfl rfl hl.1 rfl (lv_room (Nat.le_of_ble_eq_true rfl)) dX5_clashesOf_18 ⟨Nat.le_of_ble_eq_true rfl, Nat.le_of_ble_eq_true rfl⟩) hW (fun r68 H locs hwr68 hW => ?_)
      replace hwr68 := hwr68.symm
      subst hwr68
      refine lv_if_eq (tgt := 27) hx hb dX5_clashesOf_21 (by decide) (fun (c69 : (F_X5_hasField (F_X5_clashRegion c v w x1 (nI i61))) = 0) => ?_) (fun (c69 : ¬ (F_X5_hasField (F_X5_clashRegion c v w x1 (nI i61))) = 0) => ?_)
      · refine lv_iinc (v := nI (i61 + 1)) (lv' := [(3, .int (nI (i61 + 1))), (2, .int s63), (0, .ref (ad 5 0)), (1, .int x1)]) hx hb dX5_clashesOf_27 hl (k := 0) rfl (nI_1 i61) (by decide) rfl (fun ls hl => ?_)
        refine lv_goto (tgt := 4) hx hb dX5_clashesOf_30 (by decide) ?_
        have he9F : (FL_X5_clashesOf c v w x1 k62 (i61 + 1) s63) = (FL_X5_clashesOf c v w x1 (c 0) 0 (0 : Int32)) := by rw [← heF]; show (FL_X5_clashesOf c v w x1 k62 (i61 + 1) s63) = (FL_X5_clashesOf c v w x1 (k62 + 1) i61 s63); simp only [FL_X5_clashesOf, if_pos c69]
        exact ihk62 (i61 + 1)  s63 H locs ls (by omega) he9F hW (lv_sub hl [0, 1, 2, 3] rfl)
      · refine lv_iinc (v := (s63 + 1)) (lv' := [(2, .int (s63 + 1)), (3, .int (nI i61)), (0, .ref (ad 5 0)), (1, .int x1)]) hx hb dX5_clashesOf_24 hl (k := 1) rfl rfl (by decide) rfl (fun ls hl => ?_)
        refine lv_iinc (v := nI (i61 + 1)) (lv' := [(3, .int (nI (i61 + 1))), (2, .int (s63 + 1)), (0, .ref (ad 5 0)), (1, .int x1)]) hx hb dX5_clashesOf_27 hl (k := 1) rfl (nI_1 i61) (by decide) rfl (fun ls hl => ?_)
        refine lv_goto (tgt := 4) hx hb dX5_clashesOf_30 (by decide) ?_
        have he9F : (FL_X5_clashesOf c v w x1 k62 (i61 + 1) (s63 + 1)) = (FL_X5_clashesOf c v w x1 (c 0) 0 (0 : Int32)) := by rw [← heF]; show (FL_X5_clashesOf c v w x1 k62 (i61 + 1) (s63 + 1)) = (FL_X5_clashesOf c v w x1 (k62 + 1) i61 s63); simp only [FL_X5_clashesOf, if_neg c69]
        exact ihk62 (i61 + 1)  (s63 + 1) H locs ls (by omega) he9F hW (lv_sub hl [0, 1, 2, 3] rfl)
  exact K64 (c 0) 0  (0 : Int32) _ _ ls (by omega) rfl hW (lv_sub hl [0, 1, 2, 3] rfl)

def FL2_X5_clashingPairs (c : SC) (v : SV) (w : SW)   (i70 : Nat) : Nat → Nat → Int32 → Int32
  | 0, _, s78 => s78
  | k77 + 1, i76, s78 => FL2_X5_clashingPairs c v w i70 k77 (i76 + 1) (if (F_X5_hasField (F_X5_clashRegion c v w (nI i70) (nI i76))) = 0 then s78 else (s78 + 1))
def FL_X5_clashingPairs (c : SC) (v : SV) (w : SW)   : Nat → Nat → Int32 → Int32
  | 0, _, s72 => s72
  | k71 + 1, i70, s72 => FL_X5_clashingPairs c v w k71 (i70 + 1) (FL2_X5_clashingPairs c v w i70 (c 0 - (i70 + 1)) (i70 + 1) s72)
def F_X5_clashingPairs (c : SC) (v : SV) (w : SW)  : Int32 := (FL_X5_clashingPairs c v w (c 0) 0 (0 : Int32))

set_option maxHeartbeats 4000000 in
set_option maxRecDepth 100000 in
theorem r_X5_clashingPairs (l : Launch) (D : va_G) (cA : Nat → ClassId) (NL : List (Nat × Nat)) (c : SC) (v : SV) (w : SW) (u : Nat → Int32) (ad : Nat → Nat → Nat)  (hM : MEM c NL) (hBd : BND c) (hF : WF c v) : Met l yX5_clashingPairs wsX5_clashingPairs ({ frames := 2, cells := 0, slots := 0, locals := 45 }) (pcPre D vwCl (tyL cA) [.ref (ad 5 0)] (fun H => va_P D vwCl (pcW NL ad (ctO cA c v w u ad)) H)) (va_Qi (fun (r : Int32) (_ : Unit) => r = F_X5_clashingPairs c v w) (fun _ _ => True) (fun _ => False)) 0 0 (fun _ => False) := by
  refine Met.ofW (cc := cX5_clashingPairs) (maxL := 4) (ret := (some .int)) (by decide) rfl ?_
  intro p e s m args below meth c0 s₁ B hml hv
  obtain ⟨rfl, hX, hP0⟩ := hv
  have hx := B.exec
  have hb := B.bytes
  have hr := B.returns
  have hts := atoms_spec (ws := wsX5_clashingPairs) B.pre
  have hown : s.vm.findClass RX5 = some m.cls := findClass_of_methodNamed B.named
  have hlocks := B.notSynchronized
  have hW : pcQ D vwCl (fun _ => False) s.heap NL ad (ctO cA c v w u ad) s.heap [] := ⟨hP0, va_S.rf⟩
  have hl := lv_entry ([.ref (ad 5 0)]) (n := 4) (Nat.le_of_ble_eq_true rfl)
  rw [lg_entry_eq]
  generalize (lg_sl ([.ref (ad 5 0)]) ++ List.replicate (4 - (lg_sl ([.ref (ad 5 0)])).length) Slot.unset).toArray = ls at hl ⊢
  have hl : lv_has ls 4 [(0, .ref (ad 5 0))] := hl
  refine lv_iconst (v := 0) hx hb dX5_clashingPairs_0 (by decide) ?_
  refine lv_istore_n (lv' := [(1, .int 0), (0, .ref (ad 5 0))]) hx hb dX5_clashingPairs_1 rfl hl (by decide) rfl (fun ls hl => ?_)
  refine lv_iconst (v := 0) hx hb dX5_clashingPairs_2 (by decide) ?_
  refine lv_istore_n (lv' := [(2, .int 0), (1, .int 0), (0, .ref (ad 5 0))]) hx hb dX5_clashingPairs_3 rfl hl (by decide) rfl (fun ls hl => ?_)
  have K73 : ∀ (k71 i70 : Nat) (s72 : Int32) (H : Heap) (locs : List Loc) (ls : Array Slot), i70 + k71 = c 0 → (FL_X5_clashingPairs c v w k71 i70 s72) = (FL_X5_clashingPairs c v w (c 0) 0 (0 : Int32)) → pcQ D vwCl (fun _ => False) s.heap NL ad (ctO cA c v w u ad) H locs → lv_has ls 4 [(2, .int (nI i70)), (1, .int s72), (0, .ref (ad 5 0))] → W p l e (headSpec wsX5_clashingPairs ({ frames := 2, cells := 0, slots := 0, locals := 45 })).room s m ([.ref (ad 5 0)] : List Value).toArray below meth c0 H locs 0 0 (MQ below (va_Qi (fun (r : Int32) (_ : Unit) => r = F_X5_clashingPairs c v w) (fun _ _ => True) (fun _ => False)) ([.ref (ad 5 0)] : List Value).toArray s 0 0 (fun _ => False)) (F0 m 4 ls []) := by
    intro k71
    induction k71 with
    | zero =>
      intro i70 s72 H locs ls hk heF hW hl
      have ei : i70 = c 0 := by omega
      rw [ei] at hl
      obtain rfl : (FL_X5_clashingPairs c v w (c 0) 0 (0 : Int32)) = s72 := heF.symm
      clear heF
      refine lv_iload_n hx hb dX5_clashingPairs_4 rfl (lv_at hl 0 rfl) ?_
      refine lv_aload_n hx hb dX5_clashingPairs_5 rfl (lv_at hl 2 rfl) ?_
      refine pc_get (C := RX5) (T := TX5) (N := 13) (ci := 5) hx hb hts (by decide +kernel) hown hX.1 hW.1 5 0 hM.1 rfl rfl 7 (by decide) (hts (.fieldLink RX5 48 "DraftsmanOffice" "sheetCount" "I") (by decide +kernel)) (fun _ h9 => h9) rfl dX5_clashingPairs_6 ?_
      refine lv_icmp_ge (tgt := 51) hx hb dX5_clashingPairs_9 (by decide) (fun _ => ?_) (fun c74 => absurd (Int32.le_refl _) c74)
      refine lv_iload_n hx hb dX5_clashingPairs_51 rfl (lv_at hl 1 rfl) ?_
      exact W.iret (v := (FL_X5_clashingPairs c v w (c 0) 0 (0 : Int32))) hx hb hr (fun t ht hW9 => ⟨⟨(FL_X5_clashingPairs c v w (c 0) 0 (0 : Int32)), (), rfl, rfl, trivial⟩, hW.2.F ht⟩) hW.2.2.2 dX5_clashingPairs_52
    | succ k71 ihk71 =>
      intro i70 s72 H locs ls hk heF hW hl
      have hlt : i70 < c 0 := by omega
      have hlt9i70 := hlt
      refine lv_iload_n hx hb dX5_clashingPairs_4 rfl (lv_at hl 0 rfl) ?_
      refine lv_aload_n hx hb dX5_clashingPairs_5 rfl (lv_at hl 2 rfl) ?_
      refine pc_get (C := RX5) (T := TX5) (N := 13) (ci := 5) hx hb hts (by decide +kernel) hown hX.1 hW.1 5 0 hM.1 rfl rfl 7 (by decide) (hts (.fieldLink RX5 48 "DraftsmanOffice" "sheetCount" "I") (by decide +kernel)) (fun _ h9 => h9) rfl dX5_clashingPairs_6 ?_
      refine lv_icmp_ge (tgt := 51) hx hb dX5_clashingPairs_9 (by decide) (fun c75 => absurd c75 (nI_ge hlt (Nat.lt_of_le_of_lt hBd.1 (by decide)))) (fun _ => ?_)
      refine lv_iload_n hx hb dX5_clashingPairs_12 rfl (lv_at hl 0 rfl) ?_
      refine lv_iconst (v := 1) hx hb dX5_clashingPairs_13 (by decide) ?_
      refine lv_iadd hx hb dX5_clashingPairs_14 ?_
      rw [nI_1]
      refine lv_istore_n (lv' := [(3, .int (nI (i70 + 1))), (2, .int (nI i70)), (1, .int s72), (0, .ref (ad 5 0))]) hx hb dX5_clashingPairs_15 rfl hl (by decide) rfl (fun ls hl => ?_)
      have K79 : ∀ (k77 i76 : Nat) (s78 : Int32) (H : Heap) (locs : List Loc) (ls : Array Slot), i76 + k77 = c 0 → (FL2_X5_clashingPairs c v w i70 k77 i76 s78) = (FL2_X5_clashingPairs c v w i70 (c 0 - (i70 + 1)) (i70 + 1) s72) → pcQ D vwCl (fun _ => False) s.heap NL ad (ctO cA c v w u ad) H locs → lv_has ls 4 [(3, .int (nI i76)), (2, .int (nI i70)), (1, .int s78), (0, .ref (ad 5 0))] → W p l e (headSpec wsX5_clashingPairs ({ frames := 2, cells := 0, slots := 0, locals := 45 })).room s m ([.ref (ad 5 0)] : List Value).toArray below meth c0 H locs 0 0 (MQ below (va_Qi (fun (r : Int32) (_ : Unit) => r = F_X5_clashingPairs c v w) (fun _ _ => True) (fun _ => False)) ([.ref (ad 5 0)] : List Value).toArray s 0 0 (fun _ => False)) (F0 m 16 ls []) := by
        intro k77
        induction k77 with
        | zero =>
          intro i76 s78 H locs ls hk heF hW hl
          have ei : i76 = c 0 := by omega
          rw [ei] at hl
          obtain rfl : (FL2_X5_clashingPairs c v w i70 (c 0 - (i70 + 1)) (i70 + 1) s72) = s78 := heF.symm
          clear heF
          refine lv_iload_n hx hb dX5_clashingPairs_16 rfl (lv_at hl 0 rfl) ?_
          refine lv_aload_n hx hb dX5_clashingPairs_17 rfl (lv_at hl 3 rfl) ?_
          refine pc_get (C := RX5) (T := TX5) (N := 13) (ci := 5) hx hb hts (by decide +kernel) hown hX.1 hW.1 5 0 hM.1 rfl rfl 7 (by decide) (hts (.fieldLink RX5 48 "DraftsmanOffice" "sheetCount" "I") (by decide +kernel)) (fun _ h9 => h9) rfl dX5_clashingPairs_18 ?_
          refine lv_icmp_ge (tgt := 45) hx hb dX5_clashingPairs_21 (by decide) (fun _ => ?_) (fun c80 => absurd (Int32.le_refl _) c80)
          refine lv_iinc (v := nI (i70 + 1)) (lv' := [(2, .int (nI (i70 + 1))), (3, .int (nI (c 0))), (1, .int (FL2_X5_clashingPairs c v w i70 (c 0 - (i70 + 1)) (i70 + 1) s72)), (0, .ref (ad 5 0))]) hx hb dX5_clashingPairs_45 hl (k := 1) rfl (nI_1 i70) (by decide) rfl (fun ls hl => ?_)
          refine lv_goto (tgt := 4) hx hb dX5_clashingPairs_48 (by decide) ?_
          have he9F : (FL_X5_clashingPairs c v w k71 (i70 + 1) (FL2_X5_clashingPairs c v w i70 (c 0 - (i70 + 1)) (i70 + 1) s72)) = (FL_X5_clashingPairs c v w (c 0) 0 (0 : Int32)) := by rw [← heF]; show (FL_X5_clashingPairs c v w k71 (i70 + 1) (FL2_X5_clashingPairs c v w i70 (c 0 - (i70 + 1)) (i70 + 1) s72)) = (FL_X5_clashingPairs c v w (k71 + 1) i70 s72); rfl
          exact ihk71 (i70 + 1)  (FL2_X5_clashingPairs c v w i70 (c 0 - (i70 + 1)) (i70 + 1) s72) H locs ls (by omega) he9F hW (lv_sub hl [0, 2, 3] rfl)
        | succ k77 ihk77 =>
          intro i76 s78 H locs ls hk heF hW hl
          have hlt : i76 < c 0 := by omega
          have hlt9i76 := hlt
          refine lv_iload_n hx hb dX5_clashingPairs_16 rfl (lv_at hl 0 rfl) ?_
          refine lv_aload_n hx hb dX5_clashingPairs_17 rfl (lv_at hl 3 rfl) ?_
          refine pc_get (C := RX5) (T := TX5) (N := 13) (ci := 5) hx hb hts (by decide +kernel) hown hX.1 hW.1 5 0 hM.1 rfl rfl 7 (by decide) (hts (.fieldLink RX5 48 "DraftsmanOffice" "sheetCount" "I") (by decide +kernel)) (fun _ h9 => h9) rfl dX5_clashingPairs_18 ?_
          refine lv_icmp_ge (tgt := 45) hx hb dX5_clashingPairs_21 (by decide) (fun c81 => absurd c81 (nI_ge hlt (Nat.lt_of_le_of_lt hBd.1 (by decide)))) (fun _ => ?_)
          refine lv_aload_n hx hb dX5_clashingPairs_24 rfl (lv_at hl 3 rfl) ?_
          refine lv_iload_n hx hb dX5_clashingPairs_25 rfl (lv_at hl 1 rfl) ?_
          refine lv_iload_n hx hb dX5_clashingPairs_26 rfl (lv_at hl 0 rfl) ?_
          refine pc_qcalll (va_runV (As := [.int (nI i70), .int (nI i76)]) (rest := []) ⟨hx, hb, hml, hown, hts⟩ (r_X5_clashRegion l D cA NL c v w u ad (nI i70) (nI i76) hM hBd hF (nI_nn (Nat.lt_of_lt_of_le hlt9i70 (Nat.le_trans hBd.1 (by decide)))) (by rw [nI_clamp (Nat.lt_of_lt_of_le hlt9i70 (Nat.le_trans hBd.1 (by decide)))]; exact hlt9i70) (nI_nn (Nat.lt_of_lt_of_le hlt9i76 (Nat.le_trans hBd.1 (by decide)))) (by rw [nI_clamp (Nat.lt_of_lt_of_le hlt9i76 (Nat.le_trans hBd.1 (by decide)))]; exact hlt9i76)) (cwV 2 hts gX5_clashingPairs_X5_clashRegion rfl rfl rfl (by decide +kernel) ⟨Nat.le_of_ble_eq_true rfl, Nat.le_of_ble_eq_true rfl⟩) (pc_preV pcN_ok hX hW.1 hM.1 rfl rfl hW.1) rfl rfl hl.1 rfl (lv_room (Nat.le_of_ble_eq_true rfl)) dX5_clashingPairs_27 ⟨Nat.le_of_ble_eq_true rfl, Nat.le_of_ble_eq_true rfl⟩) hW (fun r82 H locs hwr82 hW => ?_)
          replace hwr82 := hwr82.symm
          subst hwr82
          refine pc_qcalli (va_runS (As := [.long (F_X5_clashRegion c v w (nI i70) (nI i76))]) (rest := []) ⟨hx, hb, hml, hown, hts⟩ (r_X5_hasField l D cA (F_X5_clashRegion c v w (nI i70) (nI i76)) ) (va_cwS 1 hts gX5_clashingPairs_X5_hasField rfl rfl rfl (by decide +kernel) ⟨Nat.le_of_ble_eq_true rfl, Nat.le_of_ble_eq_true rfl⟩) (pc_preS pcN_ok hX trivial) rfl rfl hl.1 rfl (lv_room (Nat.le_of_ble_eq_true rfl)) dX5_clashingPairs_30 ⟨Nat.le_of_ble_eq_true rfl, Nat.le_of_ble_eq_true rfl⟩) hW (fun r83 H locs hwr83 hW => ?_)
          replace hwr83 := hwr83.symm
          subst hwr83
          refine lv_if_eq (tgt := 39) hx hb dX5_clashingPairs_33 (by decide) (fun (c84 : (F_X5_hasField (F_X5_clashRegion c v w (nI i70) (nI i76))) = 0) => ?_) (fun (c84 : ¬ (F_X5_hasField (F_X5_clashRegion c v w (nI i70) (nI i76))) = 0) => ?_)
          · refine lv_iinc (v := nI (i76 + 1)) (lv' := [(3, .int (nI (i76 + 1))), (2, .int (nI i70)), (1, .int s78), (0, .ref (ad 5 0))]) hx hb dX5_clashingPairs_39 hl (k := 0) rfl (nI_1 i76) (by decide) rfl (fun ls hl => ?_)
            refine lv_goto (tgt := 16) hx hb dX5_clashingPairs_42 (by decide) ?_
            have he9F : (FL2_X5_clashingPairs c v w i70 k77 (i76 + 1) s78) = (FL2_X5_clashingPairs c v w i70 (c 0 - (i70 + 1)) (i70 + 1) s72) := by rw [← heF]; show (FL2_X5_clashingPairs c v w i70 k77 (i76 + 1) s78) = (FL2_X5_clashingPairs c v w i70 (k77 + 1) i76 s78); simp only [FL2_X5_clashingPairs, if_pos c84]
            exact ihk77 (i76 + 1)  s78 H locs ls (by omega) he9F hW (lv_sub hl [0, 1, 2, 3] rfl)
          · refine lv_iinc (v := (s78 + 1)) (lv' := [(1, .int (s78 + 1)), (3, .int (nI i76)), (2, .int (nI i70)), (0, .ref (ad 5 0))]) hx hb dX5_clashingPairs_36 hl (k := 2) rfl rfl (by decide) rfl (fun ls hl => ?_)
            refine lv_iinc (v := nI (i76 + 1)) (lv' := [(3, .int (nI (i76 + 1))), (1, .int (s78 + 1)), (2, .int (nI i70)), (0, .ref (ad 5 0))]) hx hb dX5_clashingPairs_39 hl (k := 1) rfl (nI_1 i76) (by decide) rfl (fun ls hl => ?_)
            refine lv_goto (tgt := 16) hx hb dX5_clashingPairs_42 (by decide) ?_
            have he9F : (FL2_X5_clashingPairs c v w i70 k77 (i76 + 1) (s78 + 1)) = (FL2_X5_clashingPairs c v w i70 (c 0 - (i70 + 1)) (i70 + 1) s72) := by rw [← heF]; show (FL2_X5_clashingPairs c v w i70 k77 (i76 + 1) (s78 + 1)) = (FL2_X5_clashingPairs c v w i70 (k77 + 1) i76 s78); simp only [FL2_X5_clashingPairs, if_neg c84]
            exact ihk77 (i76 + 1)  (s78 + 1) H locs ls (by omega) he9F hW (lv_sub hl [0, 2, 1, 3] rfl)
      exact K79 (c 0 - (i70 + 1)) (i70 + 1)  s72 _ _ ls (by omega) rfl hW (lv_sub hl [0, 1, 2, 3] rfl)
  exact K73 (c 0) 0  (0 : Int32) _ _ ls (by omega) rfl hW (lv_sub hl [0, 1, 2] rfl)

def FL2_X5_cloudsOver (c : SC) (v : SV) (w : SW)  (x1 : Int32) (x2 : Int64) : Nat → Nat → Int32 → Int32
  | 0, _, s92 => s92
  | k91 + 1, i90, s92 => FL2_X5_cloudsOver c v w x1 x2 k91 (i90 + 1) (if (F_X5_hasField ((F_X5_clashRegion c v w x1 (nI i90)) &&& x2)) = 0 then s92 else (s92 + 1))
def FL_X5_cloudsOver (c : SC) (v : SV) (w : SW)  (x1 : Int32) (x2 : Int64) : Nat → Nat → Int32 → Int32
  | 0, _, s87 => s87
  | k86 + 1, i85, s87 => FL_X5_cloudsOver c v w x1 x2 k86 (i85 + 1) (if (v 4 i85 0) = x1 then (if (v 4 i85 1) = (2 : Int32) then s87 else (if (F_X5_hasField ((w 4 i85 0) &&& x2)) = 0 then s87 else (s87 + 1))) else s87)
def F_X5_cloudsOver (c : SC) (v : SV) (w : SW) (x1 : Int32) (x2 : Int64) : Int32 := (FL2_X5_cloudsOver c v w x1 x2 (c 0) 0 (FL_X5_cloudsOver c v w x1 x2 (c 3) 0 (0 : Int32)))

set_option maxHeartbeats 4000000 in
set_option maxRecDepth 100000 in
theorem r_X5_cloudsOver (l : Launch) (D : va_G) (cA : Nat → ClassId) (NL : List (Nat × Nat)) (c : SC) (v : SV) (w : SW) (u : Nat → Int32) (ad : Nat → Nat → Nat) (x1 : Int32) (x2 : Int64) (hM : MEM c NL) (hBd : BND c) (hF : WF c v) (h1n : ¬ x1 < 0) (h1 : x1.toNatClampNeg < c 0) : Met l yX5_cloudsOver wsX5_cloudsOver ({ frames := 2, cells := 0, slots := 0, locals := 45 }) (pcPre D vwCl (tyL cA) [.ref (ad 5 0), .int x1, .long x2] (fun H => va_P D vwCl (pcW NL ad (ctO cA c v w u ad)) H)) (va_Qi (fun (r : Int32) (_ : Unit) => r = F_X5_cloudsOver c v w x1 x2) (fun _ _ => True) (fun _ => False)) 0 0 (fun _ => False) := by
  refine Met.ofW (cc := cX5_cloudsOver) (maxL := 7) (ret := (some .int)) (by decide) rfl ?_
  intro p e s m args below meth c0 s₁ B hml hv
  obtain ⟨rfl, hX, hP0⟩ := hv
  have hx := B.exec
  have hb := B.bytes
  have hr := B.returns
  have hts := atoms_spec (ws := wsX5_cloudsOver) B.pre
  have hown : s.vm.findClass RX5 = some m.cls := findClass_of_methodNamed B.named
  have hlocks := B.notSynchronized
  have hW : pcQ D vwCl (fun _ => False) s.heap NL ad (ctO cA c v w u ad) s.heap [] := ⟨hP0, va_S.rf⟩
  have hl := lv_entry ([.ref (ad 5 0), .int x1, .long x2]) (n := 7) (Nat.le_of_ble_eq_true rfl)
  rw [lg_entry_eq]
  generalize (lg_sl ([.ref (ad 5 0), .int x1, .long x2]) ++ List.replicate (7 - (lg_sl ([.ref (ad 5 0), .int x1, .long x2])).length) Slot.unset).toArray = ls at hl ⊢
  have hl : lv_has ls 7 [(0, .ref (ad 5 0)), (1, .int x1), (2, .long x2)] := hl
  refine lv_iconst (v := 0) hx hb dX5_cloudsOver_0 (by decide) ?_
  refine lv_istore (lv' := [(4, .int 0), (0, .ref (ad 5 0)), (1, .int x1), (2, .long x2)]) hx hb dX5_cloudsOver_1 hl (by decide) rfl (fun ls hl => ?_)
  refine lv_iconst (v := 0) hx hb dX5_cloudsOver_3 (by decide) ?_
  refine lv_istore (lv' := [(5, .int 0), (4, .int 0), (0, .ref (ad 5 0)), (1, .int x1), (2, .long x2)]) hx hb dX5_cloudsOver_4 hl (by decide) rfl (fun ls hl => ?_)
  have K88 : ∀ (k86 i85 : Nat) (s87 : Int32) (H : Heap) (locs : List Loc) (ls : Array Slot), i85 + k86 = c 3 → (FL_X5_cloudsOver c v w x1 x2 k86 i85 s87) = (FL_X5_cloudsOver c v w x1 x2 (c 3) 0 (0 : Int32)) → pcQ D vwCl (fun _ => False) s.heap NL ad (ctO cA c v w u ad) H locs → lv_has ls 7 [(5, .int (nI i85)), (4, .int s87), (0, .ref (ad 5 0)), (1, .int x1), (2, .long x2)] → W p l e (headSpec wsX5_cloudsOver ({ frames := 2, cells := 0, slots := 0, locals := 45 })).room s m ([.ref (ad 5 0), .int x1, .long x2] : List Value).toArray below meth c0 H locs 0 0 (MQ below (va_Qi (fun (r : Int32) (_ : Unit) => r = F_X5_cloudsOver c v w x1 x2) (fun _ _ => True) (fun _ => False)) ([.ref (ad 5 0), .int x1, .long x2] : List Value).toArray s 0 0 (fun _ => False)) (F0 m 6 ls []) := by
    intro k86
    induction k86 with
    | zero =>
      intro i85 s87 H locs ls hk heF hW hl
      have ei : i85 = c 3 := by omega
      rw [ei] at hl
      obtain rfl : (FL_X5_cloudsOver c v w x1 x2 (c 3) 0 (0 : Int32)) = s87 := heF.symm
      clear heF
      refine lv_iload hx hb dX5_cloudsOver_6 (lv_at hl 0 rfl) ?_
      refine lv_aload_n hx hb dX5_cloudsOver_8 rfl (lv_at hl 2 rfl) ?_
      refine pc_get (C := RX5) (T := TX5) (N := 13) (ci := 5) hx hb hts (by decide +kernel) hown hX.1 hW.1 5 0 hM.1 rfl rfl 10 (by decide) (hts (.fieldLink RX5 58 "DraftsmanOffice" "queryCount" "I") (by decide +kernel)) (fun _ h9 => h9) rfl dX5_cloudsOver_9 ?_
      refine lv_icmp_ge (tgt := 64) hx hb dX5_cloudsOver_12 (by decide) (fun _ => ?_) (fun c89 => absurd (Int32.le_refl _) c89)
      refine lv_iconst (v := 0) hx hb dX5_cloudsOver_64 (by decide) ?_
      refine lv_istore (lv' := [(5, .int 0), (4, .int (FL_X5_cloudsOver c v w x1 x2 (c 3) 0 (0 : Int32))), (0, .ref (ad 5 0)), (1, .int x1), (2, .long x2)]) hx hb dX5_cloudsOver_65 hl (by decide) rfl (fun ls hl => ?_)
      have K93 : ∀ (k91 i90 : Nat) (s92 : Int32) (H : Heap) (locs : List Loc) (ls : Array Slot), i90 + k91 = c 0 → (FL2_X5_cloudsOver c v w x1 x2 k91 i90 s92) = (FL2_X5_cloudsOver c v w x1 x2 (c 0) 0 (FL_X5_cloudsOver c v w x1 x2 (c 3) 0 (0 : Int32))) → pcQ D vwCl (fun _ => False) s.heap NL ad (ctO cA c v w u ad) H locs → lv_has ls 7 [(5, .int (nI i90)), (4, .int s92), (0, .ref (ad 5 0)), (1, .int x1), (2, .long x2)] → W p l e (headSpec wsX5_cloudsOver ({ frames := 2, cells := 0, slots := 0, locals := 45 })).room s m ([.ref (ad 5 0), .int x1, .long x2] : List Value).toArray below meth c0 H locs 0 0 (MQ below (va_Qi (fun (r : Int32) (_ : Unit) => r = F_X5_cloudsOver c v w x1 x2) (fun _ _ => True) (fun _ => False)) ([.ref (ad 5 0), .int x1, .long x2] : List Value).toArray s 0 0 (fun _ => False)) (F0 m 67 ls []) := by
        intro k91
        induction k91 with
        | zero =>
          intro i90 s92 H locs ls hk heF hW hl
          have ei : i90 = c 0 := by omega
          rw [ei] at hl
          obtain rfl : (FL2_X5_cloudsOver c v w x1 x2 (c 0) 0 (FL_X5_cloudsOver c v w x1 x2 (c 3) 0 (0 : Int32))) = s92 := heF.symm
          clear heF
          refine lv_iload hx hb dX5_cloudsOver_67 (lv_at hl 0 rfl) ?_
          refine lv_aload_n hx hb dX5_cloudsOver_69 rfl (lv_at hl 2 rfl) ?_
          refine pc_get (C := RX5) (T := TX5) (N := 13) (ci := 5) hx hb hts (by decide +kernel) hown hX.1 hW.1 5 0 hM.1 rfl rfl 7 (by decide) (hts (.fieldLink RX5 48 "DraftsmanOffice" "sheetCount" "I") (by decide +kernel)) (fun _ h9 => h9) rfl dX5_cloudsOver_70 ?_
          refine lv_icmp_ge (tgt := 100) hx hb dX5_cloudsOver_73 (by decide) (fun _ => ?_) (fun c94 => absurd (Int32.le_refl _) c94)
          refine lv_iload hx hb dX5_cloudsOver_100 (lv_at hl 1 rfl) ?_
          exact W.iret (v := (FL2_X5_cloudsOver c v w x1 x2 (c 0) 0 (FL_X5_cloudsOver c v w x1 x2 (c 3) 0 (0 : Int32)))) hx hb hr (fun t ht hW9 => ⟨⟨(FL2_X5_cloudsOver c v w x1 x2 (c 0) 0 (FL_X5_cloudsOver c v w x1 x2 (c 3) 0 (0 : Int32))), (), rfl, rfl, trivial⟩, hW.2.F ht⟩) hW.2.2.2 dX5_cloudsOver_102
        | succ k91 ihk91 =>
          intro i90 s92 H locs ls hk heF hW hl
          have hlt : i90 < c 0 := by omega
          have hlt9i90 := hlt
          refine lv_iload hx hb dX5_cloudsOver_67 (lv_at hl 0 rfl) ?_
          refine lv_aload_n hx hb dX5_cloudsOver_69 rfl (lv_at hl 2 rfl) ?_
          refine pc_get (C := RX5) (T := TX5) (N := 13) (ci := 5) hx hb hts (by decide +kernel) hown hX.1 hW.1 5 0 hM.1 rfl rfl 7 (by decide) (hts (.fieldLink RX5 48 "DraftsmanOffice" "sheetCount" "I") (by decide +kernel)) (fun _ h9 => h9) rfl dX5_cloudsOver_70 ?_
          refine lv_icmp_ge (tgt := 100) hx hb dX5_cloudsOver_73 (by decide) (fun c95 => absurd c95 (nI_ge hlt (Nat.lt_of_le_of_lt hBd.1 (by decide)))) (fun _ => ?_)
          refine lv_aload_n hx hb dX5_cloudsOver_76 rfl (lv_at hl 2 rfl) ?_
          refine lv_iload_n hx hb dX5_cloudsOver_77 rfl (lv_at hl 3 rfl) ?_
          refine lv_iload hx hb dX5_cloudsOver_78 (lv_at hl 0 rfl) ?_
          refine pc_qcalll (va_runV (As := [.int x1, .int (nI i90)]) (rest := []) ⟨hx, hb, hml, hown, hts⟩ (r_X5_clashRegion l D cA NL c v w u ad x1 (nI i90) hM hBd hF h1n h1 (nI_nn (Nat.lt_of_lt_of_le hlt9i90 (Nat.le_trans hBd.1 (by decide)))) (by rw [nI_clamp (Nat.lt_of_lt_of_le hlt9i90 (Nat.le_trans hBd.1 (by decide)))]; exact hlt9i90)) (cwV 2 hts gX5_cloudsOver_X5_clashRegion rfl rfl rfl (by decide +kernel) ⟨Nat.le_of_ble_eq_true rfl, Nat.le_of_ble_eq_true rfl⟩) (pc_preV pcN_ok hX hW.1 hM.1 rfl rfl hW.1) rfl rfl hl.1 rfl (lv_room (Nat.le_of_ble_eq_true rfl)) dX5_cloudsOver_80 ⟨Nat.le_of_ble_eq_true rfl, Nat.le_of_ble_eq_true rfl⟩) hW (fun r96 H locs hwr96 hW => ?_)
          replace hwr96 := hwr96.symm
          subst hwr96
          refine lv_lload_n hx hb dX5_cloudsOver_83 rfl (lv_at hl 4 rfl) ?_
          refine lv_land hx hb dX5_cloudsOver_84 ?_
          refine pc_qcalli (va_runS (As := [.long ((F_X5_clashRegion c v w x1 (nI i90)) &&& x2)]) (rest := []) ⟨hx, hb, hml, hown, hts⟩ (r_X5_hasField l D cA ((F_X5_clashRegion c v w x1 (nI i90)) &&& x2) ) (va_cwS 1 hts gX5_cloudsOver_X5_hasField rfl rfl rfl (by decide +kernel) ⟨Nat.le_of_ble_eq_true rfl, Nat.le_of_ble_eq_true rfl⟩) (pc_preS pcN_ok hX trivial) rfl rfl hl.1 rfl (lv_room (Nat.le_of_ble_eq_true rfl)) dX5_cloudsOver_85 ⟨Nat.le_of_ble_eq_true rfl, Nat.le_of_ble_eq_true rfl⟩) hW (fun r97 H locs hwr97 hW => ?_)
          replace hwr97 := hwr97.symm
          subst hwr97
          refine lv_if_eq (tgt := 94) hx hb dX5_cloudsOver_88 (by decide) (fun (c98 : (F_X5_hasField ((F_X5_clashRegion c v w x1 (nI i90)) &&& x2)) = 0) => ?_) (fun (c98 : ¬ (F_X5_hasField ((F_X5_clashRegion c v w x1 (nI i90)) &&& x2)) = 0) => ?_)
          · refine lv_iinc (v := nI (i90 + 1)) (lv' := [(5, .int (nI (i90 + 1))), (4, .int s92), (0, .ref (ad 5 0)), (1, .int x1), (2, .long x2)]) hx hb dX5_cloudsOver_94 hl (k := 0) rfl (nI_1 i90) (by decide) rfl (fun ls hl => ?_)
            refine lv_goto (tgt := 67) hx hb dX5_cloudsOver_97 (by decide) ?_
            have he9F : (FL2_X5_cloudsOver c v w x1 x2 k91 (i90 + 1) s92) = (FL2_X5_cloudsOver c v w x1 x2 (c 0) 0 (FL_X5_cloudsOver c v w x1 x2 (c 3) 0 (0 : Int32))) := by rw [← heF]; show (FL2_X5_cloudsOver c v w x1 x2 k91 (i90 + 1) s92) = (FL2_X5_cloudsOver c v w x1 x2 (k91 + 1) i90 s92); simp only [FL2_X5_cloudsOver, if_pos c98]
            exact ihk91 (i90 + 1)  s92 H locs ls (by omega) he9F hW (lv_sub hl [0, 1, 2, 3, 4] rfl)
          · refine lv_iinc (v := (s92 + 1)) (lv' := [(4, .int (s92 + 1)), (5, .int (nI i90)), (0, .ref (ad 5 0)), (1, .int x1), (2, .long x2)]) hx hb dX5_cloudsOver_91 hl (k := 1) rfl rfl (by decide) rfl (fun ls hl => ?_)
            refine lv_iinc (v := nI (i90 + 1)) (lv' := [(5, .int (nI (i90 + 1))), (4, .int (s92 + 1)), (0, .ref (ad 5 0)), (1, .int x1), (2, .long x2)]) hx hb dX5_cloudsOver_94 hl (k := 1) rfl (nI_1 i90) (by decide) rfl (fun ls hl => ?_)
            refine lv_goto (tgt := 67) hx hb dX5_cloudsOver_97 (by decide) ?_
            have he9F : (FL2_X5_cloudsOver c v w x1 x2 k91 (i90 + 1) (s92 + 1)) = (FL2_X5_cloudsOver c v w x1 x2 (c 0) 0 (FL_X5_cloudsOver c v w x1 x2 (c 3) 0 (0 : Int32))) := by rw [← heF]; show (FL2_X5_cloudsOver c v w x1 x2 k91 (i90 + 1) (s92 + 1)) = (FL2_X5_cloudsOver c v w x1 x2 (k91 + 1) i90 s92); simp only [FL2_X5_cloudsOver, if_neg c98]
            exact ihk91 (i90 + 1)  (s92 + 1) H locs ls (by omega) he9F hW (lv_sub hl [0, 1, 2, 3, 4] rfl)
      exact K93 (c 0) 0  (FL_X5_cloudsOver c v w x1 x2 (c 3) 0 (0 : Int32)) _ _ ls (by omega) rfl hW (lv_sub hl [0, 1, 2, 3, 4] rfl)
    | succ k86 ihk86 =>
      intro i85 s87 H locs ls hk heF hW hl
      have hlt : i85 < c 3 := by omega
      have hlt9i85 := hlt
      refine lv_iload hx hb dX5_cloudsOver_6 (lv_at hl 0 rfl) ?_
      refine lv_aload_n hx hb dX5_cloudsOver_8 rfl (lv_at hl 2 rfl) ?_
      refine pc_get (C := RX5) (T := TX5) (N := 13) (ci := 5) hx hb hts (by decide +kernel) hown hX.1 hW.1 5 0 hM.1 rfl rfl 10 (by decide) (hts (.fieldLink RX5 58 "DraftsmanOffice" "queryCount" "I") (by decide +kernel)) (fun _ h9 => h9) rfl dX5_cloudsOver_9 ?_
      refine lv_icmp_ge (tgt := 64) hx hb dX5_cloudsOver_12 (by decide) (fun c99 => absurd c99 (nI_ge hlt (Nat.lt_of_le_of_lt hBd.2.2.2.1 (by decide)))) (fun _ => ?_)
      refine lv_aload_n hx hb dX5_cloudsOver_15 rfl (lv_at hl 2 rfl) ?_
      refine pc_get (C := RX5) (T := TX5) (N := 13) (ci := 5) hx hb hts (by decide +kernel) hown hX.1 hW.1 5 0 hM.1 rfl rfl 3 (by decide) (hts (.fieldLink RX5 29 "DraftsmanOffice" "queries" "[LDraftsmanOffice$Query;") (by decide +kernel)) (fun _ h9 => h9) rfl dX5_cloudsOver_16 ?_
      refine lv_iload hx hb dX5_cloudsOver_19 (lv_at hl 0 rfl) ?_
      refine pc_aald (r := .ref (ad 4 i85)) hx hb hX.1 hW.1 53 0 6 (hM.2.1 53 (by decide) (by decide)) rfl rfl rfl (vp_in_nI (Nat.lt_of_lt_of_le hlt9i85 hBd.2.2.2.1) (by decide)) (by rw [nI_clamp (Nat.lt_of_lt_of_le (Nat.lt_of_lt_of_le hlt9i85 hBd.2.2.2.1) (by decide)), sRf_in hlt9i85]; rfl) dX5_cloudsOver_21 ?_
      refine lv_astore (lv' := [(6, .ref (ad 4 i85)), (5, .int (nI i85)), (4, .int s87), (0, .ref (ad 5 0)), (1, .int x1), (2, .long x2)]) hx hb dX5_cloudsOver_22 hl (by decide) rfl (fun ls hl => ?_)
      refine lv_aload hx hb dX5_cloudsOver_24 (lv_at hl 0 rfl) ?_
      refine pc_getN (C := RX0) (T := TX0) (N := 3) (ci := 0) hx hb hts (by decide +kernel) hown hX.1 hW.1 4 i85 (hM.2.2.2.2.2.2.1 i85 hlt9i85) rfl rfl 0 (by decide) (hX.2.1 (.fieldLinkNest RX5 406 "DraftsmanOffice$Query" "sheet" "I" R_host) (by decide +kernel)) (fun _ h9 => h9) rfl dX5_cloudsOver_26 ?_
      refine lv_iload_n hx hb dX5_cloudsOver_29 rfl (lv_at hl 4 rfl) ?_
      refine lv_icmp_ne (tgt := 58) hx hb dX5_cloudsOver_30 (by decide) (fun (c100 : ¬ (v 4 i85 0) = x1) => ?_) (fun (c100 : (v 4 i85 0) = x1) => ?_)
      · refine lv_iinc (v := nI (i85 + 1)) (lv' := [(5, .int (nI (i85 + 1))), (6, .ref (ad 4 i85)), (4, .int s87), (0, .ref (ad 5 0)), (1, .int x1), (2, .long x2)]) hx hb dX5_cloudsOver_58 hl (k := 1) rfl (nI_1 i85) (by decide) rfl (fun ls hl => ?_)
        refine lv_goto (tgt := 6) hx hb dX5_cloudsOver_61 (by decide) ?_
        have he9F : (FL_X5_cloudsOver c v w x1 x2 k86 (i85 + 1) s87) = (FL_X5_cloudsOver c v w x1 x2 (c 3) 0 (0 : Int32)) := by rw [← heF]; show (FL_X5_cloudsOver c v w x1 x2 k86 (i85 + 1) s87) = (FL_X5_cloudsOver c v w x1 x2 (k86 + 1) i85 s87); simp only [FL_X5_cloudsOver, if_neg c100]
        exact ihk86 (i85 + 1)  s87 H locs ls (by omega) he9F hW (lv_sub hl [0, 2, 3, 4, 5] rfl)
      · refine lv_aload hx hb dX5_cloudsOver_33 (lv_at hl 0 rfl) ?_
        refine pc_getN (C := RX0) (T := TX0) (N := 3) (ci := 0) hx hb hts (by decide +kernel) hown hX.1 hW.1 4 i85 (hM.2.2.2.2.2.2.1 i85 hlt9i85) rfl rfl 2 (by decide) (hX.2.1 (.fieldLinkNest RX5 237 "DraftsmanOffice$Query" "state" "I" R_host) (by decide +kernel)) (fun _ h9 => h9) rfl dX5_cloudsOver_35 ?_
        refine lv_iconst (v := 2) hx hb dX5_cloudsOver_38 (by decide) ?_
        refine lv_icmp_eq (tgt := 58) hx hb dX5_cloudsOver_39 (by decide) (fun (c101 : (v 4 i85 1) = (2 : Int32)) => ?_) (fun (c101 : ¬ (v 4 i85 1) = (2 : Int32)) => ?_)
        · refine lv_iinc (v := nI (i85 + 1)) (lv' := [(5, .int (nI (i85 + 1))), (6, .ref (ad 4 i85)), (4, .int s87), (0, .ref (ad 5 0)), (1, .int x1), (2, .long x2)]) hx hb dX5_cloudsOver_58 hl (k := 1) rfl (nI_1 i85) (by decide) rfl (fun ls hl => ?_)
          refine lv_goto (tgt := 6) hx hb dX5_cloudsOver_61 (by decide) ?_
          have he9F : (FL_X5_cloudsOver c v w x1 x2 k86 (i85 + 1) s87) = (FL_X5_cloudsOver c v w x1 x2 (c 3) 0 (0 : Int32)) := by rw [← heF]; show (FL_X5_cloudsOver c v w x1 x2 k86 (i85 + 1) s87) = (FL_X5_cloudsOver c v w x1 x2 (k86 + 1) i85 s87); simp only [FL_X5_cloudsOver, if_pos c100, if_pos c101]
          exact ihk86 (i85 + 1)  s87 H locs ls (by omega) he9F hW (lv_sub hl [0, 2, 3, 4, 5] rfl)
        · refine lv_aload hx hb dX5_cloudsOver_42 (lv_at hl 0 rfl) ?_
          refine pc_getN (C := RX0) (T := TX0) (N := 3) (ci := 0) hx hb hts (by decide +kernel) hown hX.1 hW.1 4 i85 (hM.2.2.2.2.2.2.1 i85 hlt9i85) rfl rfl 1 (by decide) (hX.2.1 (.fieldLinkNest RX5 413 "DraftsmanOffice$Query" "region" "J" R_host) (by decide +kernel)) (fun _ h9 => h9) rfl dX5_cloudsOver_44 ?_
          refine lv_lload_n hx hb dX5_cloudsOver_47 rfl (lv_at hl 5 rfl) ?_
          refine lv_land hx hb dX5_cloudsOver_48 ?_
          refine pc_qcalli (va_runS (As := [.long ((w 4 i85 0) &&& x2)]) (rest := []) ⟨hx, hb, hml, hown, hts⟩ (r_X5_hasField l D cA ((w 4 i85 0) &&& x2) ) (va_cwS 1 hts gX5_cloudsOver_X5_hasField rfl rfl rfl (by decide +kernel) ⟨Nat.le_of_ble_eq_true rfl, Nat.le_of_ble_eq_true rfl⟩) (pc_preS pcN_ok hX trivial) rfl rfl hl.1 rfl (lv_room (Nat.le_of_ble_eq_true rfl)) dX5_cloudsOver_49 ⟨Nat.le_of_ble_eq_true rfl, Nat.le_of_ble_eq_true rfl⟩) hW (fun r102 H locs hwr102 hW => ?_)
          replace hwr102 := hwr102.symm
          subst hwr102
          refine lv_if_eq (tgt := 58) hx hb dX5_cloudsOver_52 (by decide) (fun (c103 : (F_X5_hasField ((w 4 i85 0) &&& x2)) = 0) => ?_) (fun (c103 : ¬ (F_X5_hasField ((w 4 i85 0) &&& x2)) = 0) => ?_)
          · refine lv_iinc (v := nI (i85 + 1)) (lv' := [(5, .int (nI (i85 + 1))), (6, .ref (ad 4 i85)), (4, .int s87), (0, .ref (ad 5 0)), (1, .int x1), (2, .long x2)]) hx hb dX5_cloudsOver_58 hl (k := 1) rfl (nI_1 i85) (by decide) rfl (fun ls hl => ?_)
            refine lv_goto (tgt := 6) hx hb dX5_cloudsOver_61 (by decide) ?_
            have he9F : (FL_X5_cloudsOver c v w x1 x2 k86 (i85 + 1) s87) = (FL_X5_cloudsOver c v w x1 x2 (c 3) 0 (0 : Int32)) := by rw [← heF]; show (FL_X5_cloudsOver c v w x1 x2 k86 (i85 + 1) s87) = (FL_X5_cloudsOver c v w x1 x2 (k86 + 1) i85 s87); simp only [FL_X5_cloudsOver, if_pos c100, if_neg c101, if_pos c103]
            exact ihk86 (i85 + 1)  s87 H locs ls (by omega) he9F hW (lv_sub hl [0, 2, 3, 4, 5] rfl)
          · refine lv_iinc (v := (s87 + 1)) (lv' := [(4, .int (s87 + 1)), (6, .ref (ad 4 i85)), (5, .int (nI i85)), (0, .ref (ad 5 0)), (1, .int x1), (2, .long x2)]) hx hb dX5_cloudsOver_55 hl (k := 2) rfl rfl (by decide) rfl (fun ls hl => ?_)
            refine lv_iinc (v := nI (i85 + 1)) (lv' := [(5, .int (nI (i85 + 1))), (4, .int (s87 + 1)), (6, .ref (ad 4 i85)), (0, .ref (ad 5 0)), (1, .int x1), (2, .long x2)]) hx hb dX5_cloudsOver_58 hl (k := 2) rfl (nI_1 i85) (by decide) rfl (fun ls hl => ?_)
            refine lv_goto (tgt := 6) hx hb dX5_cloudsOver_61 (by decide) ?_
            have he9F : (FL_X5_cloudsOver c v w x1 x2 k86 (i85 + 1) (s87 + 1)) = (FL_X5_cloudsOver c v w x1 x2 (c 3) 0 (0 : Int32)) := by rw [← heF]; show (FL_X5_cloudsOver c v w x1 x2 k86 (i85 + 1) (s87 + 1)) = (FL_X5_cloudsOver c v w x1 x2 (k86 + 1) i85 s87); simp only [FL_X5_cloudsOver, if_pos c100, if_neg c101, if_neg c103]
            exact ihk86 (i85 + 1)  (s87 + 1) H locs ls (by omega) he9F hW (lv_sub hl [0, 1, 3, 4, 5] rfl)
  exact K88 (c 3) 0  (0 : Int32) _ _ ls (by omega) rfl hW (lv_sub hl [0, 1, 2, 3, 4] rfl)

