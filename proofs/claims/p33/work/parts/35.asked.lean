
set_option maxHeartbeats 4000000 in
set_option maxRecDepth 100000 in
theorem r_X5_requireSheet (l : Launch) (D : va_G) (cA : Nat → ClassId) (NL : List (Nat × Nat)) (c : SC) (v : SV) (w : SW) (u : Nat → Int32) (ad : Nat → Nat → Nat) (x1 : Int32) (hM : MEM c NL) (hBd : BND c) (hF : WF c v) (h1n : ¬ x1 < 0) (h1 : x1.toNatClampNeg < c 0) : Met l yX5_requireSheet wsX5_requireSheet ({ frames := 0, cells := 0, slots := 0, locals := 0 }) (pcPre D vwCl (tyL cA) [.ref (ad 5 0), .int x1] (fun H => va_P D vwCl (pcW NL ad (ctO cA c v w u ad)) H)) (va_Qv (fun (_ : Unit) => True) (fun _ _ => True) (fun _ => False)) 0 0 (fun _ => False) := by
  refine Met.ofW (cc := cX5_requireSheet) (maxL := 2) (ret := none) (by decide) rfl ?_
  intro p e s m args below meth c0 s₁ B hml hv
  obtain ⟨rfl, hX, hP0⟩ := hv
  have hx := B.exec
  have hb := B.bytes
  have hr := B.returns
  have hts := atoms_spec (ws := wsX5_requireSheet) B.pre
  have hown : s.vm.findClass RX5 = some m.cls := findClass_of_methodNamed B.named
  have hlocks := B.notSynchronized
  have hW : pcQ D vwCl (fun _ => False) s.heap NL ad (ctO cA c v w u ad) s.heap [] := ⟨hP0, va_S.rf⟩
  have hl := lv_entry ([.ref (ad 5 0), .int x1]) (n := 2) (Nat.le_of_ble_eq_true rfl)
  rw [lg_entry_eq]
  generalize (lg_sl ([.ref (ad 5 0), .int x1]) ++ List.replicate (2 - (lg_sl ([.ref (ad 5 0), .int x1])).length) Slot.unset).toArray = ls at hl ⊢
  have hl : lv_has ls 2 [(0, .ref (ad 5 0)), (1, .int x1)] := hl
  refine lv_iload_n hx hb dX5_requireSheet_0 rfl (lv_at hl 1 rfl) ?_
  refine lv_if_lt (tgt := 12) hx hb dX5_requireSheet_1 (by decide) (fun c153 => absurd c153 h1n) (fun _ => ?_)
  refine lv_iload_n hx hb dX5_requireSheet_4 rfl (lv_at hl 1 rfl) ?_
  refine lv_aload_n hx hb dX5_requireSheet_5 rfl (lv_at hl 0 rfl) ?_
  refine pc_get (C := RX5) (T := TX5) (N := 13) (ci := 5) hx hb hts (by decide +kernel) hown hX.1 hW.1 5 0 hM.1 rfl rfl 7 (by decide) (hts (.fieldLink RX5 48 "DraftsmanOffice" "sheetCount" "I") (by decide +kernel)) (fun _ h9 => h9) rfl dX5_requireSheet_6 ?_
  refine lv_icmp_lt (tgt := 23) hx hb dX5_requireSheet_9 (by decide) (fun _ => ?_) (fun c154 => absurd (lt_nI h1n h1 (Nat.lt_of_le_of_lt hBd.1 (by decide))) c154)
  exact W.vret hx hb hr (fun t ht hW9 => ⟨⟨(), rfl, trivial, trivial⟩, hW.2.F ht⟩) hW.2.2.2 dX5_requireSheet_23


set_option maxHeartbeats 4000000 in
set_option maxRecDepth 100000 in
theorem r_X5_requireQuery (l : Launch) (D : va_G) (cA : Nat → ClassId) (NL : List (Nat × Nat)) (c : SC) (v : SV) (w : SW) (u : Nat → Int32) (ad : Nat → Nat → Nat) (x1 : Int32) (hM : MEM c NL) (hBd : BND c) (hF : WF c v) (h1n : ¬ x1 < 0) (h1 : x1.toNatClampNeg < c 3) : Met l yX5_requireQuery wsX5_requireQuery ({ frames := 0, cells := 0, slots := 0, locals := 0 }) (pcPre D vwCl (tyL cA) [.ref (ad 5 0), .int x1] (fun H => va_P D vwCl (pcW NL ad (ctO cA c v w u ad)) H)) (va_Qv (fun (_ : Unit) => True) (fun _ _ => True) (fun _ => False)) 0 0 (fun _ => False) := by
  refine Met.ofW (cc := cX5_requireQuery) (maxL := 2) (ret := none) (by decide) rfl ?_
  intro p e s m args below meth c0 s₁ B hml hv
  obtain ⟨rfl, hX, hP0⟩ := hv
  have hx := B.exec
  have hb := B.bytes
  have hr := B.returns
  have hts := atoms_spec (ws := wsX5_requireQuery) B.pre
  have hown : s.vm.findClass RX5 = some m.cls := findClass_of_methodNamed B.named
  have hlocks := B.notSynchronized
  have hW : pcQ D vwCl (fun _ => False) s.heap NL ad (ctO cA c v w u ad) s.heap [] := ⟨hP0, va_S.rf⟩
  have hl := lv_entry ([.ref (ad 5 0), .int x1]) (n := 2) (Nat.le_of_ble_eq_true rfl)
  rw [lg_entry_eq]
  generalize (lg_sl ([.ref (ad 5 0), .int x1]) ++ List.replicate (2 - (lg_sl ([.ref (ad 5 0), .int x1])).length) Slot.unset).toArray = ls at hl ⊢
  have hl : lv_has ls 2 [(0, .ref (ad 5 0)), (1, .int x1)] := hl
  refine lv_iload_n hx hb dX5_requireQuery_0 rfl (lv_at hl 1 rfl) ?_
  refine lv_if_lt (tgt := 12) hx hb dX5_requireQuery_1 (by decide) (fun c155 => absurd c155 h1n) (fun _ => ?_)
  refine lv_iload_n hx hb dX5_requireQuery_4 rfl (lv_at hl 1 rfl) ?_
  refine lv_aload_n hx hb dX5_requireQuery_5 rfl (lv_at hl 0 rfl) ?_
  refine pc_get (C := RX5) (T := TX5) (N := 13) (ci := 5) hx hb hts (by decide +kernel) hown hX.1 hW.1 5 0 hM.1 rfl rfl 10 (by decide) (hts (.fieldLink RX5 58 "DraftsmanOffice" "queryCount" "I") (by decide +kernel)) (fun _ h9 => h9) rfl dX5_requireQuery_6 ?_
  refine lv_icmp_lt (tgt := 23) hx hb dX5_requireQuery_9 (by decide) (fun _ => ?_) (fun c156 => absurd (lt_nI h1n h1 (Nat.lt_of_le_of_lt hBd.2.2.2.1 (by decide))) c156)
  exact W.vret hx hb hr (fun t ht hW9 => ⟨⟨(), rfl, trivial, trivial⟩, hW.2.F ht⟩) hW.2.2.2 dX5_requireQuery_23


set_option maxHeartbeats 4000000 in
set_option maxRecDepth 100000 in
theorem r_X5_requirePackage (l : Launch) (D : va_G) (cA : Nat → ClassId) (NL : List (Nat × Nat)) (c : SC) (v : SV) (w : SW) (u : Nat → Int32) (ad : Nat → Nat → Nat) (x1 : Int32) (hM : MEM c NL) (hBd : BND c) (hF : WF c v) (h1n : ¬ x1 < 0) (h1 : x1.toNatClampNeg < c 4) : Met l yX5_requirePackage wsX5_requirePackage ({ frames := 0, cells := 0, slots := 0, locals := 0 }) (pcPre D vwCl (tyL cA) [.ref (ad 5 0), .int x1] (fun H => va_P D vwCl (pcW NL ad (ctO cA c v w u ad)) H)) (va_Qv (fun (_ : Unit) => True) (fun _ _ => True) (fun _ => False)) 0 0 (fun _ => False) := by
  refine Met.ofW (cc := cX5_requirePackage) (maxL := 2) (ret := none) (by decide) rfl ?_
  intro p e s m args below meth c0 s₁ B hml hv
  obtain ⟨rfl, hX, hP0⟩ := hv
  have hx := B.exec
  have hb := B.bytes
  have hr := B.returns
  have hts := atoms_spec (ws := wsX5_requirePackage) B.pre
  have hown : s.vm.findClass RX5 = some m.cls := findClass_of_methodNamed B.named
  have hlocks := B.notSynchronized
  have hW : pcQ D vwCl (fun _ => False) s.heap NL ad (ctO cA c v w u ad) s.heap [] := ⟨hP0, va_S.rf⟩
  have hl := lv_entry ([.ref (ad 5 0), .int x1]) (n := 2) (Nat.le_of_ble_eq_true rfl)
  rw [lg_entry_eq]
  generalize (lg_sl ([.ref (ad 5 0), .int x1]) ++ List.replicate (2 - (lg_sl ([.ref (ad 5 0), .int x1])).length) Slot.unset).toArray = ls at hl ⊢
  have hl : lv_has ls 2 [(0, .ref (ad 5 0)), (1, .int x1)] := hl
  refine lv_iload_n hx hb dX5_requirePackage_0 rfl (lv_at hl 1 rfl) ?_
  refine lv_if_lt (tgt := 12) hx hb dX5_requirePackage_1 (by decide) (fun c157 => absurd c157 h1n) (fun _ => ?_)
  refine lv_iload_n hx hb dX5_requirePackage_4 rfl (lv_at hl 1 rfl) ?_
  refine lv_aload_n hx hb dX5_requirePackage_5 rfl (lv_at hl 0 rfl) ?_
  refine pc_get (C := RX5) (T := TX5) (N := 13) (ci := 5) hx hb hts (by decide +kernel) hown hX.1 hW.1 5 0 hM.1 rfl rfl 11 (by decide) (hts (.fieldLink RX5 61 "DraftsmanOffice" "packageCount" "I") (by decide +kernel)) (fun _ h9 => h9) rfl dX5_requirePackage_6 ?_
  refine lv_icmp_lt (tgt := 23) hx hb dX5_requirePackage_9 (by decide) (fun _ => ?_) (fun c158 => absurd (lt_nI h1n h1 (Nat.lt_of_le_of_lt hBd.2.2.2.2 (by decide))) c158)
  exact W.vret hx hb hr (fun t ht hW9 => ⟨⟨(), rfl, trivial, trivial⟩, hW.2.F ht⟩) hW.2.2.2 dX5_requirePackage_23

def G1_J13_bitCount_95d88 (y : Int64) : Int64 := (y - (((y.toUInt64 >>> ((1 : Int32).toInt64.toUInt64 &&& Int64.toUInt64 63)).toInt64) &&& (6148914691236517205 : Int64)))
def G2_J13_bitCount_95d88 (y : Int64) : Int64 := ((y &&& (3689348814741910323 : Int64)) + (((y.toUInt64 >>> ((2 : Int32).toInt64.toUInt64 &&& Int64.toUInt64 63)).toInt64) &&& (3689348814741910323 : Int64)))
def G3_J13_bitCount_95d88 (y : Int64) : Int64 := ((y + ((y.toUInt64 >>> ((4 : Int32).toInt64.toUInt64 &&& Int64.toUInt64 63)).toInt64)) &&& (1085102592571150095 : Int64))
def G4_J13_bitCount_95d88 (y : Int64) : Int64 := (y + ((y.toUInt64 >>> ((8 : Int32).toInt64.toUInt64 &&& Int64.toUInt64 63)).toInt64))
def G5_J13_bitCount_95d88 (y : Int64) : Int64 := (y + ((y.toUInt64 >>> ((16 : Int32).toInt64.toUInt64 &&& Int64.toUInt64 63)).toInt64))
def G6_J13_bitCount_95d88 (y : Int64) : Int64 := (y + ((y.toUInt64 >>> ((32 : Int32).toInt64.toUInt64 &&& Int64.toUInt64 63)).toInt64))
def F_J13_bitCount_95d88 (x1 : Int64) : Int32 := (((G6_J13_bitCount_95d88 (G5_J13_bitCount_95d88 (G4_J13_bitCount_95d88 (G3_J13_bitCount_95d88 (G2_J13_bitCount_95d88 (G1_J13_bitCount_95d88 x1)))))).toInt32) &&& (127 : Int32))

set_option maxHeartbeats 4000000 in
set_option maxRecDepth 100000 in
theorem r_J13_bitCount_95d88 (l : Launch) (D : va_G) (cA : Nat → ClassId) (x1 : Int64)  : Met l yJ13_bitCount_95d88 wsJ13_bitCount_95d88 ({ frames := 0, cells := 0, slots := 0, locals := 0 }) (pcPre D vwCl (tyL cA) [.long x1] (fun _ => True)) (va_Qi (fun (r : Int32) (_ : Unit) => r = F_J13_bitCount_95d88 x1) (fun _ _ => True) (fun _ => False)) 0 0 (fun _ => False) := by
  refine Met.ofW (cc := cJ13_bitCount_95d88) (maxL := 2) (ret := (some .int)) (by decide) rfl ?_
  intro p e s m args below meth c0 s₁ B hml hv
  obtain ⟨rfl, hX, hP0⟩ := hv
  have hx := B.exec
  have hb := B.bytes
  have hr := B.returns
  have hts := atoms_spec (ws := wsJ13_bitCount_95d88) B.pre
  have hown : s.vm.findClass RJ13 = some m.cls := findClass_of_methodNamed B.named
  have hlocks := B.notSynchronized
  have hW : pcQ D vwCl (fun _ => False) s.heap [] (fun _ _ => 0) (fun _ _ => .inr (0, [])) s.heap [] := ⟨fun k q h => by simp [pcW] at h, va_S.rf⟩
  have hl := lv_entry ([.long x1]) (n := 2) (Nat.le_of_ble_eq_true rfl)
  rw [lg_entry_eq]
  generalize (lg_sl ([.long x1]) ++ List.replicate (2 - (lg_sl ([.long x1])).length) Slot.unset).toArray = ls at hl ⊢
  have hl : lv_has ls 2 [(0, .long x1)] := hl
  refine lv_lload_n hx hb dJ13_bitCount_95d88_0 rfl (lv_at hl 0 rfl) ?_
  refine lv_lload_n hx hb dJ13_bitCount_95d88_1 rfl (lv_at hl 0 rfl) ?_
  refine lv_iconst (v := 1) hx hb dJ13_bitCount_95d88_2 (by decide) ?_
  refine lv_lushr (v := (x1.toUInt64 >>> ((1 : Int32).toInt64.toUInt64 &&& Int64.toUInt64 63)).toInt64) hx hb dJ13_bitCount_95d88_3 rfl ?_
  refine lv_ldc2 (v := 6148914691236517205) hx hb hown (hts (.constantLong RJ13 314 6148914691236517205) (by decide +kernel)) dJ13_bitCount_95d88_4 ?_
  refine lv_land hx hb dJ13_bitCount_95d88_7 ?_
  refine lv_lsub hx hb dJ13_bitCount_95d88_8 ?_
  refine lv_lstore_n (lv' := [(0, .long (G1_J13_bitCount_95d88 x1))]) hx hb dJ13_bitCount_95d88_9 rfl hl (by decide) rfl (fun ls hl => ?_)
  refine lv_lload_n hx hb dJ13_bitCount_95d88_10 rfl (lv_at hl 0 rfl) ?_
  refine lv_ldc2 (v := 3689348814741910323) hx hb hown (hts (.constantLong RJ13 316 3689348814741910323) (by decide +kernel)) dJ13_bitCount_95d88_11 ?_
  refine lv_land hx hb dJ13_bitCount_95d88_14 ?_
  refine lv_lload_n hx hb dJ13_bitCount_95d88_15 rfl (lv_at hl 0 rfl) ?_
  refine lv_iconst (v := 2) hx hb dJ13_bitCount_95d88_16 (by decide) ?_
  refine lv_lushr (v := ((G1_J13_bitCount_95d88 x1).toUInt64 >>> ((2 : Int32).toInt64.toUInt64 &&& Int64.toUInt64 63)).toInt64) hx hb dJ13_bitCount_95d88_17 rfl ?_
  refine lv_ldc2 (v := 3689348814741910323) hx hb hown (hts (.constantLong RJ13 316 3689348814741910323) (by decide +kernel)) dJ13_bitCount_95d88_18 ?_
  refine lv_land hx hb dJ13_bitCount_95d88_21 ?_
  refine lv_ladd hx hb dJ13_bitCount_95d88_22 ?_
  refine lv_lstore_n (lv' := [(0, .long (G2_J13_bitCount_95d88 (G1_J13_bitCount_95d88 x1)))]) hx hb dJ13_bitCount_95d88_23 rfl hl (by decide) rfl (fun ls hl => ?_)
  refine lv_lload_n hx hb dJ13_bitCount_95d88_24 rfl (lv_at hl 0 rfl) ?_
  refine lv_lload_n hx hb dJ13_bitCount_95d88_25 rfl (lv_at hl 0 rfl) ?_
  refine lv_iconst (v := 4) hx hb dJ13_bitCount_95d88_26 (by decide) ?_
  refine lv_lushr (v := ((G2_J13_bitCount_95d88 (G1_J13_bitCount_95d88 x1)).toUInt64 >>> ((4 : Int32).toInt64.toUInt64 &&& Int64.toUInt64 63)).toInt64) hx hb dJ13_bitCount_95d88_27 rfl ?_
  refine lv_ladd hx hb dJ13_bitCount_95d88_28 ?_
  refine lv_ldc2 (v := 1085102592571150095) hx hb hown (hts (.constantLong RJ13 318 1085102592571150095) (by decide +kernel)) dJ13_bitCount_95d88_29 ?_
  refine lv_land hx hb dJ13_bitCount_95d88_32 ?_
  refine lv_lstore_n (lv' := [(0, .long (G3_J13_bitCount_95d88 (G2_J13_bitCount_95d88 (G1_J13_bitCount_95d88 x1))))]) hx hb dJ13_bitCount_95d88_33 rfl hl (by decide) rfl (fun ls hl => ?_)
  refine lv_lload_n hx hb dJ13_bitCount_95d88_34 rfl (lv_at hl 0 rfl) ?_
  refine lv_lload_n hx hb dJ13_bitCount_95d88_35 rfl (lv_at hl 0 rfl) ?_
  refine lv_bipush (v := 8) hx hb dJ13_bitCount_95d88_36 (by decide) ?_
  refine lv_lushr (v := ((G3_J13_bitCount_95d88 (G2_J13_bitCount_95d88 (G1_J13_bitCount_95d88 x1))).toUInt64 >>> ((8 : Int32).toInt64.toUInt64 &&& Int64.toUInt64 63)).toInt64) hx hb dJ13_bitCount_95d88_38 rfl ?_
  refine lv_ladd hx hb dJ13_bitCount_95d88_39 ?_
  refine lv_lstore_n (lv' := [(0, .long (G4_J13_bitCount_95d88 (G3_J13_bitCount_95d88 (G2_J13_bitCount_95d88 (G1_J13_bitCount_95d88 x1)))))]) hx hb dJ13_bitCount_95d88_40 rfl hl (by decide) rfl (fun ls hl => ?_)
  refine lv_lload_n hx hb dJ13_bitCount_95d88_41 rfl (lv_at hl 0 rfl) ?_
  refine lv_lload_n hx hb dJ13_bitCount_95d88_42 rfl (lv_at hl 0 rfl) ?_
  refine lv_bipush (v := 16) hx hb dJ13_bitCount_95d88_43 (by decide) ?_
  refine lv_lushr (v := ((G4_J13_bitCount_95d88 (G3_J13_bitCount_95d88 (G2_J13_bitCount_95d88 (G1_J13_bitCount_95d88 x1)))).toUInt64 >>> ((16 : Int32).toInt64.toUInt64 &&& Int64.toUInt64 63)).toInt64) hx hb dJ13_bitCount_95d88_45 rfl ?_
  refine lv_ladd hx hb dJ13_bitCount_95d88_46 ?_
  refine lv_lstore_n (lv' := [(0, .long (G5_J13_bitCount_95d88 (G4_J13_bitCount_95d88 (G3_J13_bitCount_95d88 (G2_J13_bitCount_95d88 (G1_J13_bitCount_95d88 x1))))))]) hx hb dJ13_bitCount_95d88_47 rfl hl (by decide) rfl (fun ls hl => ?_)
  refine lv_lload_n hx hb dJ13_bitCount_95d88_48 rfl (lv_at hl 0 rfl) ?_
  refine lv_lload_n hx hb dJ13_bitCount_95d88_49 rfl (lv_at hl 0 rfl) ?_
  refine lv_bipush (v := 32) hx hb dJ13_bitCount_95d88_50 (by decide) ?_
  refine lv_lushr (v := ((G5_J13_bitCount_95d88 (G4_J13_bitCount_95d88 (G3_J13_bitCount_95d88 (G2_J13_bitCount_95d88 (G1_J13_bitCount_95d88 x1))))).toUInt64 >>> ((32 : Int32).toInt64.toUInt64 &&& Int64.toUInt64 63)).toInt64) hx hb dJ13_bitCount_95d88_52 rfl ?_
  refine lv_ladd hx hb dJ13_bitCount_95d88_53 ?_
  refine lv_lstore_n (lv' := [(0, .long (G6_J13_bitCount_95d88 (G5_J13_bitCount_95d88 (G4_J13_bitCount_95d88 (G3_J13_bitCount_95d88 (G2_J13_bitCount_95d88 (G1_J13_bitCount_95d88 x1)))))))]) hx hb dJ13_bitCount_95d88_54 rfl hl (by decide) rfl (fun ls hl => ?_)
  refine lv_lload_n hx hb dJ13_bitCount_95d88_55 rfl (lv_at hl 0 rfl) ?_
  refine lv_l2i (v := (G6_J13_bitCount_95d88 (G5_J13_bitCount_95d88 (G4_J13_bitCount_95d88 (G3_J13_bitCount_95d88 (G2_J13_bitCount_95d88 (G1_J13_bitCount_95d88 x1)))))).toInt32) hx hb dJ13_bitCount_95d88_56 rfl ?_
  refine lv_bipush (v := 127) hx hb dJ13_bitCount_95d88_57 (by decide) ?_
  refine lv_iand hx hb dJ13_bitCount_95d88_59 ?_
  exact W.iret (v := (((G6_J13_bitCount_95d88 (G5_J13_bitCount_95d88 (G4_J13_bitCount_95d88 (G3_J13_bitCount_95d88 (G2_J13_bitCount_95d88 (G1_J13_bitCount_95d88 x1)))))).toInt32) &&& (127 : Int32))) hx hb hr (fun t ht hW9 => ⟨⟨(((G6_J13_bitCount_95d88 (G5_J13_bitCount_95d88 (G4_J13_bitCount_95d88 (G3_J13_bitCount_95d88 (G2_J13_bitCount_95d88 (G1_J13_bitCount_95d88 x1)))))).toInt32) &&& (127 : Int32)), (), rfl, rfl, trivial⟩, hW.2.F ht⟩) hW.2.2.2 dJ13_bitCount_95d88_60

def G1_J6_bitCount_0f7a4 (y : Int32) : Int32 := (y - (((y.toUInt32 >>> ((1 : Int32).toUInt32 &&& Int32.toUInt32 31)).toInt32) &&& (1431655765 : Int32)))
def G2_J6_bitCount_0f7a4 (y : Int32) : Int32 := ((y &&& (858993459 : Int32)) + (((y.toUInt32 >>> ((2 : Int32).toUInt32 &&& Int32.toUInt32 31)).toInt32) &&& (858993459 : Int32)))
def G3_J6_bitCount_0f7a4 (y : Int32) : Int32 := ((y + ((y.toUInt32 >>> ((4 : Int32).toUInt32 &&& Int32.toUInt32 31)).toInt32)) &&& (252645135 : Int32))
def G4_J6_bitCount_0f7a4 (y : Int32) : Int32 := (y + ((y.toUInt32 >>> ((8 : Int32).toUInt32 &&& Int32.toUInt32 31)).toInt32))
def G5_J6_bitCount_0f7a4 (y : Int32) : Int32 := (y + ((y.toUInt32 >>> ((16 : Int32).toUInt32 &&& Int32.toUInt32 31)).toInt32))
def F_J6_bitCount_0f7a4 (x1 : Int32) : Int32 := ((G5_J6_bitCount_0f7a4 (G4_J6_bitCount_0f7a4 (G3_J6_bitCount_0f7a4 (G2_J6_bitCount_0f7a4 (G1_J6_bitCount_0f7a4 x1))))) &&& (63 : Int32))

set_option maxHeartbeats 4000000 in
set_option maxRecDepth 100000 in
theorem r_J6_bitCount_0f7a4 (l : Launch) (D : va_G) (cA : Nat → ClassId) (x1 : Int32)  : Met l yJ6_bitCount_0f7a4 wsJ6_bitCount_0f7a4 ({ frames := 0, cells := 0, slots := 0, locals := 0 }) (pcPre D vwCl (tyL cA) [.int x1] (fun _ => True)) (va_Qi (fun (r : Int32) (_ : Unit) => r = F_J6_bitCount_0f7a4 x1) (fun _ _ => True) (fun _ => False)) 0 0 (fun _ => False) := by
  refine Met.ofW (cc := cJ6_bitCount_0f7a4) (maxL := 1) (ret := (some .int)) (by decide) rfl ?_
  intro p e s m args below meth c0 s₁ B hml hv
  obtain ⟨rfl, hX, hP0⟩ := hv
  have hx := B.exec
  have hb := B.bytes
  have hr := B.returns
  have hts := atoms_spec (ws := wsJ6_bitCount_0f7a4) B.pre
  have hown : s.vm.findClass RJ6 = some m.cls := findClass_of_methodNamed B.named
  have hlocks := B.notSynchronized
  have hW : pcQ D vwCl (fun _ => False) s.heap [] (fun _ _ => 0) (fun _ _ => .inr (0, [])) s.heap [] := ⟨fun k q h => by simp [pcW] at h, va_S.rf⟩
  have hl := lv_entry ([.int x1]) (n := 1) (Nat.le_of_ble_eq_true rfl)
  rw [lg_entry_eq]
  generalize (lg_sl ([.int x1]) ++ List.replicate (1 - (lg_sl ([.int x1])).length) Slot.unset).toArray = ls at hl ⊢
  have hl : lv_has ls 1 [(0, .int x1)] := hl
  refine lv_iload_n hx hb dJ6_bitCount_0f7a4_0 rfl (lv_at hl 0 rfl) ?_
  refine lv_iload_n hx hb dJ6_bitCount_0f7a4_1 rfl (lv_at hl 0 rfl) ?_
  refine lv_iconst (v := 1) hx hb dJ6_bitCount_0f7a4_2 (by decide) ?_
  refine lv_iushr (v := (x1.toUInt32 >>> ((1 : Int32).toUInt32 &&& Int32.toUInt32 31)).toInt32) hx hb dJ6_bitCount_0f7a4_3 rfl ?_
  refine lv_ldcw (v := 1431655765) hx hb hown (hts (.constant RJ6 265 1431655765) (by decide +kernel)) dJ6_bitCount_0f7a4_4 ?_
  refine lv_iand hx hb dJ6_bitCount_0f7a4_7 ?_
  refine lv_isub hx hb dJ6_bitCount_0f7a4_8 ?_
  refine lv_istore_n (lv' := [(0, .int (G1_J6_bitCount_0f7a4 x1))]) hx hb dJ6_bitCount_0f7a4_9 rfl hl (by decide) rfl (fun ls hl => ?_)
  refine lv_iload_n hx hb dJ6_bitCount_0f7a4_10 rfl (lv_at hl 0 rfl) ?_
  refine lv_ldcw (v := 858993459) hx hb hown (hts (.constant RJ6 266 858993459) (by decide +kernel)) dJ6_bitCount_0f7a4_11 ?_
  refine lv_iand hx hb dJ6_bitCount_0f7a4_14 ?_
  refine lv_iload_n hx hb dJ6_bitCount_0f7a4_15 rfl (lv_at hl 0 rfl) ?_
  refine lv_iconst (v := 2) hx hb dJ6_bitCount_0f7a4_16 (by decide) ?_
  refine lv_iushr (v := ((G1_J6_bitCount_0f7a4 x1).toUInt32 >>> ((2 : Int32).toUInt32 &&& Int32.toUInt32 31)).toInt32) hx hb dJ6_bitCount_0f7a4_17 rfl ?_
  refine lv_ldcw (v := 858993459) hx hb hown (hts (.constant RJ6 266 858993459) (by decide +kernel)) dJ6_bitCount_0f7a4_18 ?_
  refine lv_iand hx hb dJ6_bitCount_0f7a4_21 ?_
  refine lv_iadd hx hb dJ6_bitCount_0f7a4_22 ?_
  refine lv_istore_n (lv' := [(0, .int (G2_J6_bitCount_0f7a4 (G1_J6_bitCount_0f7a4 x1)))]) hx hb dJ6_bitCount_0f7a4_23 rfl hl (by decide) rfl (fun ls hl => ?_)
  refine lv_iload_n hx hb dJ6_bitCount_0f7a4_24 rfl (lv_at hl 0 rfl) ?_
  refine lv_iload_n hx hb dJ6_bitCount_0f7a4_25 rfl (lv_at hl 0 rfl) ?_
  refine lv_iconst (v := 4) hx hb dJ6_bitCount_0f7a4_26 (by decide) ?_
  refine lv_iushr (v := ((G2_J6_bitCount_0f7a4 (G1_J6_bitCount_0f7a4 x1)).toUInt32 >>> ((4 : Int32).toUInt32 &&& Int32.toUInt32 31)).toInt32) hx hb dJ6_bitCount_0f7a4_27 rfl ?_
  refine lv_iadd hx hb dJ6_bitCount_0f7a4_28 ?_
  refine lv_ldcw (v := 252645135) hx hb hown (hts (.constant RJ6 267 252645135) (by decide +kernel)) dJ6_bitCount_0f7a4_29 ?_
  refine lv_iand hx hb dJ6_bitCount_0f7a4_32 ?_
  refine lv_istore_n (lv' := [(0, .int (G3_J6_bitCount_0f7a4 (G2_J6_bitCount_0f7a4 (G1_J6_bitCount_0f7a4 x1))))]) hx hb dJ6_bitCount_0f7a4_33 rfl hl (by decide) rfl (fun ls hl => ?_)
  refine lv_iload_n hx hb dJ6_bitCount_0f7a4_34 rfl (lv_at hl 0 rfl) ?_
  refine lv_iload_n hx hb dJ6_bitCount_0f7a4_35 rfl (lv_at hl 0 rfl) ?_
  refine lv_bipush (v := 8) hx hb dJ6_bitCount_0f7a4_36 (by decide) ?_
  refine lv_iushr (v := ((G3_J6_bitCount_0f7a4 (G2_J6_bitCount_0f7a4 (G1_J6_bitCount_0f7a4 x1))).toUInt32 >>> ((8 : Int32).toUInt32 &&& Int32.toUInt32 31)).toInt32) hx hb dJ6_bitCount_0f7a4_38 rfl ?_
  refine lv_iadd hx hb dJ6_bitCount_0f7a4_39 ?_
  refine lv_istore_n (lv' := [(0, .int (G4_J6_bitCount_0f7a4 (G3_J6_bitCount_0f7a4 (G2_J6_bitCount_0f7a4 (G1_J6_bitCount_0f7a4 x1)))))]) hx hb dJ6_bitCount_0f7a4_40 rfl hl (by decide) rfl (fun ls hl => ?_)
  refine lv_iload_n hx hb dJ6_bitCount_0f7a4_41 rfl (lv_at hl 0 rfl) ?_
  refine lv_iload_n hx hb dJ6_bitCount_0f7a4_42 rfl (lv_at hl 0 rfl) ?_
  refine lv_bipush (v := 16) hx hb dJ6_bitCount_0f7a4_43 (by decide) ?_
  refine lv_iushr (v := ((G4_J6_bitCount_0f7a4 (G3_J6_bitCount_0f7a4 (G2_J6_bitCount_0f7a4 (G1_J6_bitCount_0f7a4 x1)))).toUInt32 >>> ((16 : Int32).toUInt32 &&& Int32.toUInt32 31)).toInt32) hx hb dJ6_bitCount_0f7a4_45 rfl ?_
  refine lv_iadd hx hb dJ6_bitCount_0f7a4_46 ?_
  refine lv_istore_n (lv' := [(0, .int (G5_J6_bitCount_0f7a4 (G4_J6_bitCount_0f7a4 (G3_J6_bitCount_0f7a4 (G2_J6_bitCount_0f7a4 (G1_J6_bitCount_0f7a4 x1))))))]) hx hb dJ6_bitCount_0f7a4_47 rfl hl (by decide) rfl (fun ls hl => ?_)
  refine lv_iload_n hx hb dJ6_bitCount_0f7a4_48 rfl (lv_at hl 0 rfl) ?_
  refine lv_bipush (v := 63) hx hb dJ6_bitCount_0f7a4_49 (by decide) ?_
  refine lv_iand hx hb dJ6_bitCount_0f7a4_51 ?_
  exact W.iret (v := ((G5_J6_bitCount_0f7a4 (G4_J6_bitCount_0f7a4 (G3_J6_bitCount_0f7a4 (G2_J6_bitCount_0f7a4 (G1_J6_bitCount_0f7a4 x1))))) &&& (63 : Int32))) hx hb hr (fun t ht hW9 => ⟨⟨((G5_J6_bitCount_0f7a4 (G4_J6_bitCount_0f7a4 (G3_J6_bitCount_0f7a4 (G2_J6_bitCount_0f7a4 (G1_J6_bitCount_0f7a4 x1))))) &&& (63 : Int32)), (), rfl, rfl, trivial⟩, hW.2.F ht⟩) hW.2.2.2 dJ6_bitCount_0f7a4_52

def F_X5_fieldsOf (x1 : Int64) : Int32 := ((F_J13_bitCount_95d88 (x1 &&& (1048575 : Int64))) * (F_J13_bitCount_95d88 (x1 &&& (1099510579200 : Int64))))

set_option maxHeartbeats 4000000 in
set_option maxRecDepth 100000 in
theorem r_X5_fieldsOf (l : Launch) (D : va_G) (cA : Nat → ClassId) (x1 : Int64)  : Met l yX5_fieldsOf wsX5_fieldsOf ({ frames := 1, cells := 0, slots := 0, locals := 21 }) (pcPre D vwCl (tyL cA) [.long x1] (fun _ => True)) (va_Qi (fun (r : Int32) (_ : Unit) => r = F_X5_fieldsOf x1) (fun _ _ => True) (fun _ => False)) 0 0 (fun _ => False) := by
  refine Met.ofW (cc := cX5_fieldsOf) (maxL := 2) (ret := (some .int)) (by decide) rfl ?_
  intro p e s m args below meth c0 s₁ B hml hv
  obtain ⟨rfl, hX, hP0⟩ := hv
  have hx := B.exec
  have hb := B.bytes
  have hr := B.returns
  have hts := atoms_spec (ws := wsX5_fieldsOf) B.pre
  have hown : s.vm.findClass RX5 = some m.cls := findClass_of_methodNamed B.named
  have hlocks := B.notSynchronized
  have hW : pcQ D vwCl (fun _ => False) s.heap [] (fun _ _ => 0) (fun _ _ => .inr (0, [])) s.heap [] := ⟨fun k q h => by simp [pcW] at h, va_S.rf⟩
  have hl := lv_entry ([.long x1]) (n := 2) (Nat.le_of_ble_eq_true rfl)
  rw [lg_entry_eq]
  generalize (lg_sl ([.long x1]) ++ List.replicate (2 - (lg_sl ([.long x1])).length) Slot.unset).toArray = ls at hl ⊢
  have hl : lv_has ls 2 [(0, .long x1)] := hl
  refine lv_lload_n hx hb dX5_fieldsOf_0 rfl (lv_at hl 0 rfl) ?_
  refine lv_ldc2 (v := 1048575) hx hb hown (hts (.constantLong RX5 386 1048575) (by decide +kernel)) dX5_fieldsOf_1 ?_
  refine lv_land hx hb dX5_fieldsOf_4 ?_
  refine pc_qcalli (va_runS (As := [.long (x1 &&& (1048575 : Int64))]) (rest := []) ⟨hx, hb, hml, hown, hts⟩ (r_J13_bitCount_95d88 l D cA (x1 &&& (1048575 : Int64)) ) (va_cwS 1 hts gX5_fieldsOf_J13_bitCount_95d88 rfl rfl rfl (by decide +kernel) ⟨Nat.le_of_ble_eq_true rfl, Nat.le_of_ble_eq_true rfl⟩) (pc_preS pcN_ok hX trivial) rfl rfl hl.1 rfl (lv_room (Nat.le_of_ble_eq_true rfl)) dX5_fieldsOf_5 ⟨Nat.le_of_ble_eq_true rfl, Nat.le_of_ble_eq_true rfl⟩) hW (fun r159 H locs hwr159 hW => ?_)
  replace hwr159 := hwr159.symm
  subst hwr159
  refine lv_lload_n hx hb dX5_fieldsOf_8 rfl (lv_at hl 0 rfl) ?_
  refine lv_ldc2 (v := 1099510579200) hx hb hown (hts (.constantLong RX5 392 1099510579200) (by decide +kernel)) dX5_fieldsOf_9 ?_
  refine lv_land hx hb dX5_fieldsOf_12 ?_
  refine pc_qcalli (va_runS (As := [.long (x1 &&& (1099510579200 : Int64))]) (rest := [.int (F_J13_bitCount_95d88 (x1 &&& (1048575 : Int64)))]) ⟨hx, hb, hml, hown, hts⟩ (r_J13_bitCount_95d88 l D cA (x1 &&& (1099510579200 : Int64)) ) (va_cwS 1 hts gX5_fieldsOf_J13_bitCount_95d88 rfl rfl rfl (by decide +kernel) ⟨Nat.le_of_ble_eq_true rfl, Nat.le_of_ble_eq_true rfl⟩) (pc_preS pcN_ok hX trivial) rfl rfl hl.1 rfl (lv_room (Nat.le_of_ble_eq_true rfl)) dX5_fieldsOf_13 ⟨Nat.le_of_ble_eq_true rfl, Nat.le_of_ble_eq_true rfl⟩) hW (fun r160 H locs hwr160 hW => ?_)
  replace hwr160 := hwr160.symm
  subst hwr160
  refine lv_imul hx hb dX5_fieldsOf_16 ?_
  exact W.iret (v := ((F_J13_bitCount_95d88 (x1 &&& (1048575 : Int64))) * (F_J13_bitCount_95d88 (x1 &&& (1099510579200 : Int64))))) hx hb hr (fun t ht hW9 => ⟨⟨((F_J13_bitCount_95d88 (x1 &&& (1048575 : Int64))) * (F_J13_bitCount_95d88 (x1 &&& (1099510579200 : Int64)))), (), rfl, rfl, trivial⟩, hW.2.F ht⟩) hW.2.2.2 dX5_fieldsOf_17

def F_X5_ofSheet0 (c : SC) (v : SV) (w : SW) (x1 : Int32) : Int32 := (v 1 x1.toNatClampNeg 0)

set_option maxHeartbeats 4000000 in
set_option maxRecDepth 100000 in
theorem r_X5_ofSheet0 (l : Launch) (D : va_G) (cA : Nat → ClassId) (NL : List (Nat × Nat)) (c : SC) (v : SV) (w : SW) (u : Nat → Int32) (ad : Nat → Nat → Nat) (x1 : Int32) (hM : MEM c NL) (hBd : BND c) (hF : WF c v) (h1n : ¬ x1 < 0) (h1 : x1.toNatClampNeg < c 0) : Met l yX5_ofSheet wsX5_ofSheet ({ frames := 1, cells := 0, slots := 0, locals := 21 }) (pcPre D vwCl (tyL cA) [.ref (ad 5 0), .int x1, .int 0] (fun H => va_P D vwCl (pcW NL ad (ctO cA c v w u ad)) H)) (va_Qi (fun (r : Int32) (_ : Unit) => r = F_X5_ofSheet0 c v w x1) (fun _ _ => True) (fun _ => False)) 0 0 (fun _ => False) := by
  refine Met.ofW (cc := cX5_ofSheet) (maxL := 4) (ret := (some .int)) (by decide) rfl ?_
  intro p e s m args below meth c0 s₁ B hml hv
  obtain ⟨rfl, hX, hP0⟩ := hv
  have hx := B.exec
  have hb := B.bytes
  have hr := B.returns
  have hts := atoms_spec (ws := wsX5_ofSheet) B.pre
  have hown : s.vm.findClass RX5 = some m.cls := findClass_of_methodNamed B.named
  have hlocks := B.notSynchronized
  have hW : pcQ D vwCl (fun _ => False) s.heap NL ad (ctO cA c v w u ad) s.heap [] := ⟨hP0, va_S.rf⟩
  have hl := lv_entry ([.ref (ad 5 0), .int x1, .int 0]) (n := 4) (Nat.le_of_ble_eq_true rfl)
  rw [lg_entry_eq]
  generalize (lg_sl ([.ref (ad 5 0), .int x1, .int 0]) ++ List.replicate (4 - (lg_sl ([.ref (ad 5 0), .int x1, .int 0])).length) Slot.unset).toArray = ls at hl ⊢
  have hl : lv_has ls 4 [(0, .ref (ad 5 0)), (1, .int x1), (2, .int 0)] := hl
  refine lv_aload_n hx hb dX5_ofSheet_0 rfl (lv_at hl 0 rfl) ?_
  refine lv_iload_n hx hb dX5_ofSheet_1 rfl (lv_at hl 1 rfl) ?_
  refine pc_qcallv (va_runV (As := [.int x1]) (rest := []) ⟨hx, hb, hml, hown, hts⟩ (r_X5_requireSheet l D cA NL c v w u ad x1 hM hBd hF h1n h1) (cwV 1 hts gX5_ofSheet_X5_requireSheet rfl rfl rfl (by decide +kernel) ⟨Nat.le_of_ble_eq_true rfl, Nat.le_of_ble_eq_true rfl⟩) (pc_preV pcN_ok hX hW.1 hM.1 rfl rfl hW.1) rfl rfl hl.1 rfl (lv_room (Nat.le_of_ble_eq_true rfl)) dX5_ofSheet_2 ⟨Nat.le_of_ble_eq_true rfl, Nat.le_of_ble_eq_true rfl⟩) hW (fun H locs _ hW => ?_)
  refine lv_aload_n hx hb dX5_ofSheet_5 rfl (lv_at hl 0 rfl) ?_
  refine pc_get (C := RX5) (T := TX5) (N := 13) (ci := 5) hx hb hts (by decide +kernel) hown hX.1 hW.1 5 0 hM.1 rfl rfl 0 (by decide) (hts (.fieldLink RX5 11 "DraftsmanOffice" "sheets" "[LDraftsmanOffice$Sheet;") (by decide +kernel)) (fun _ h9 => h9) rfl dX5_ofSheet_6 ?_
  refine lv_iload_n hx hb dX5_ofSheet_9 rfl (lv_at hl 1 rfl) ?_
  refine pc_aald (r := .ref (ad 1 x1.toNatClampNeg)) hx hb hX.1 hW.1 50 0 3 (hM.2.1 50 (by decide) (by decide)) rfl rfl rfl (fun q => q.elim h1n (fun q => absurd (Nat.lt_of_lt_of_le h1 hBd.1) (Nat.not_lt.mpr q))) (by rw [sRf_in h1]; rfl) dX5_ofSheet_10 ?_
  refine lv_astore_n (lv' := [(3, .ref (ad 1 x1.toNatClampNeg)), (0, .ref (ad 5 0)), (1, .int x1), (2, .int 0)]) hx hb dX5_ofSheet_11 rfl hl (by decide) rfl (fun ls hl => ?_)
  refine lv_iload_n hx hb dX5_ofSheet_12 rfl (lv_at hl 3 rfl) ?_
  refine lv_tableIn (tgt := 68) hx hb dX5_ofSheet_13 (by decide) (by decide) rfl (by decide) ?_
  refine lv_aload_n hx hb dX5_ofSheet_68 rfl (lv_at hl 0 rfl) ?_
  refine pc_getN (C := RX3) (T := TX3) (N := 10) (ci := 3) hx hb hts (by decide +kernel) hown hX.1 hW.1 1 x1.toNatClampNeg (hM.2.2.2.1 x1.toNatClampNeg h1).1 rfl rfl 0 (by decide) (hX.2.1 (.fieldLinkNest RX5 153 "DraftsmanOffice$Sheet" "trade" "I" R_host) (by decide +kernel)) (fun _ h9 => h9) rfl dX5_ofSheet_69 ?_
  exact W.iret (v := (v 1 x1.toNatClampNeg 0)) hx hb hr (fun t ht hW9 => ⟨⟨(v 1 x1.toNatClampNeg 0), (), rfl, rfl, trivial⟩, hW.2.F ht⟩) hW.2.2.2 dX5_ofSheet_72

def F_X5_ofSheet1 (c : SC) (v : SV) (w : SW) (x1 : Int32) : Int32 := ((v 1 x1.toNatClampNeg 1) + (1 : Int32))

set_option maxHeartbeats 4000000 in
set_option maxRecDepth 100000 in
theorem r_X5_ofSheet1 (l : Launch) (D : va_G) (cA : Nat → ClassId) (NL : List (Nat × Nat)) (c : SC) (v : SV) (w : SW) (u : Nat → Int32) (ad : Nat → Nat → Nat) (x1 : Int32) (hM : MEM c NL) (hBd : BND c) (hF : WF c v) (h1n : ¬ x1 < 0) (h1 : x1.toNatClampNeg < c 0) : Met l yX5_ofSheet wsX5_ofSheet ({ frames := 1, cells := 0, slots := 0, locals := 21 }) (pcPre D vwCl (tyL cA) [.ref (ad 5 0), .int x1, .int 1] (fun H => va_P D vwCl (pcW NL ad (ctO cA c v w u ad)) H)) (va_Qi (fun (r : Int32) (_ : Unit) => r = F_X5_ofSheet1 c v w x1) (fun _ _ => True) (fun _ => False)) 0 0 (fun _ => False) := by
  refine Met.ofW (cc := cX5_ofSheet) (maxL := 4) (ret := (some .int)) (by decide) rfl ?_
  intro p e s m args below meth c0 s₁ B hml hv
  obtain ⟨rfl, hX, hP0⟩ := hv
  have hx := B.exec
  have hb := B.bytes
  have hr := B.returns
  have hts := atoms_spec (ws := wsX5_ofSheet) B.pre
  have hown : s.vm.findClass RX5 = some m.cls := findClass_of_methodNamed B.named
  have hlocks := B.notSynchronized
  have hW : pcQ D vwCl (fun _ => False) s.heap NL ad (ctO cA c v w u ad) s.heap [] := ⟨hP0, va_S.rf⟩
  have hl := lv_entry ([.ref (ad 5 0), .int x1, .int 1]) (n := 4) (Nat.le_of_ble_eq_true rfl)
  rw [lg_entry_eq]
  generalize (lg_sl ([.ref (ad 5 0), .int x1, .int 1]) ++ List.replicate (4 - (lg_sl ([.ref (ad 5 0), .int x1, .int 1])).length) Slot.unset).toArray = ls at hl ⊢
  have hl : lv_has ls 4 [(0, .ref (ad 5 0)), (1, .int x1), (2, .int 1)] := hl
  refine lv_aload_n hx hb dX5_ofSheet_0 rfl (lv_at hl 0 rfl) ?_
  refine lv_iload_n hx hb dX5_ofSheet_1 rfl (lv_at hl 1 rfl) ?_
  refine pc_qcallv (va_runV (As := [.int x1]) (rest := []) ⟨hx, hb, hml, hown, hts⟩ (r_X5_requireSheet l D cA NL c v w u ad x1 hM hBd hF h1n h1) (cwV 1 hts gX5_ofSheet_X5_requireSheet rfl rfl rfl (by decide +kernel) ⟨Nat.le_of_ble_eq_true rfl, Nat.le_of_ble_eq_true rfl⟩) (pc_preV pcN_ok hX hW.1 hM.1 rfl rfl hW.1) rfl rfl hl.1 rfl (lv_room (Nat.le_of_ble_eq_true rfl)) dX5_ofSheet_2 ⟨Nat.le_of_ble_eq_true rfl, Nat.le_of_ble_eq_true rfl⟩) hW (fun H locs _ hW => ?_)
  refine lv_aload_n hx hb dX5_ofSheet_5 rfl (lv_at hl 0 rfl) ?_
  refine pc_get (C := RX5) (T := TX5) (N := 13) (ci := 5) hx hb hts (by decide +kernel) hown hX.1 hW.1 5 0 hM.1 rfl rfl 0 (by decide) (hts (.fieldLink RX5 11 "DraftsmanOffice" "sheets" "[LDraftsmanOffice$Sheet;") (by decide +kernel)) (fun _ h9 => h9) rfl dX5_ofSheet_6 ?_
  refine lv_iload_n hx hb dX5_ofSheet_9 rfl (lv_at hl 1 rfl) ?_
  refine pc_aald (r := .ref (ad 1 x1.toNatClampNeg)) hx hb hX.1 hW.1 50 0 3 (hM.2.1 50 (by decide) (by decide)) rfl rfl rfl (fun q => q.elim h1n (fun q => absurd (Nat.lt_of_lt_of_le h1 hBd.1) (Nat.not_lt.mpr q))) (by rw [sRf_in h1]; rfl) dX5_ofSheet_10 ?_
  refine lv_astore_n (lv' := [(3, .ref (ad 1 x1.toNatClampNeg)), (0, .ref (ad 5 0)), (1, .int x1), (2, .int 1)]) hx hb dX5_ofSheet_11 rfl hl (by decide) rfl (fun ls hl => ?_)
  refine lv_iload_n hx hb dX5_ofSheet_12 rfl (lv_at hl 3 rfl) ?_
  refine lv_tableIn (tgt := 73) hx hb dX5_ofSheet_13 (by decide) (by decide) rfl (by decide) ?_
  refine lv_aload_n hx hb dX5_ofSheet_73 rfl (lv_at hl 0 rfl) ?_
  refine pc_getN (C := RX3) (T := TX3) (N := 10) (ci := 3) hx hb hts (by decide +kernel) hown hX.1 hW.1 1 x1.toNatClampNeg (hM.2.2.2.1 x1.toNatClampNeg h1).1 rfl rfl 3 (by decide) (hX.2.1 (.fieldLinkNest RX5 115 "DraftsmanOffice$Sheet" "last" "I" R_host) (by decide +kernel)) (fun _ h9 => h9) rfl dX5_ofSheet_74 ?_
  refine lv_iconst (v := 1) hx hb dX5_ofSheet_77 (by decide) ?_
  refine lv_iadd hx hb dX5_ofSheet_78 ?_
  exact W.iret (v := ((v 1 x1.toNatClampNeg 1) + (1 : Int32))) hx hb hr (fun t ht hW9 => ⟨⟨((v 1 x1.toNatClampNeg 1) + (1 : Int32)), (), rfl, rfl, trivial⟩, hW.2.F ht⟩) hW.2.2.2 dX5_ofSheet_79

def F_X5_ofSheet2 (c : SC) (v : SV) (w : SW) (x1 : Int32) : Int32 := (v 1 x1.toNatClampNeg 3)

set_option maxHeartbeats 4000000 in
set_option maxRecDepth 100000 in
theorem r_X5_ofSheet2 (l : Launch) (D : va_G) (cA : Nat → ClassId) (NL : List (Nat × Nat)) (c : SC) (v : SV) (w : SW) (u : Nat → Int32) (ad : Nat → Nat → Nat) (x1 : Int32) (hM : MEM c NL) (hBd : BND c) (hF : WF c v) (h1n : ¬ x1 < 0) (h1 : x1.toNatClampNeg < c 0) : Met l yX5_ofSheet wsX5_ofSheet ({ frames := 1, cells := 0, slots := 0, locals := 21 }) (pcPre D vwCl (tyL cA) [.ref (ad 5 0), .int x1, .int 2] (fun H => va_P D vwCl (pcW NL ad (ctO cA c v w u ad)) H)) (va_Qi (fun (r : Int32) (_ : Unit) => r = F_X5_ofSheet2 c v w x1) (fun _ _ => True) (fun _ => False)) 0 0 (fun _ => False) := by
  refine Met.ofW (cc := cX5_ofSheet) (maxL := 4) (ret := (some .int)) (by decide) rfl ?_
  intro p e s m args below meth c0 s₁ B hml hv
  obtain ⟨rfl, hX, hP0⟩ := hv
  have hx := B.exec
  have hb := B.bytes
  have hr := B.returns
  have hts := atoms_spec (ws := wsX5_ofSheet) B.pre
  have hown : s.vm.findClass RX5 = some m.cls := findClass_of_methodNamed B.named
  have hlocks := B.notSynchronized
  have hW : pcQ D vwCl (fun _ => False) s.heap NL ad (ctO cA c v w u ad) s.heap [] := ⟨hP0, va_S.rf⟩
  have hl := lv_entry ([.ref (ad 5 0), .int x1, .int 2]) (n := 4) (Nat.le_of_ble_eq_true rfl)
  rw [lg_entry_eq]
  generalize (lg_sl ([.ref (ad 5 0), .int x1, .int 2]) ++ List.replicate (4 - (lg_sl ([.ref (ad 5 0), .int x1, .int 2])).length) Slot.unset).toArray = ls at hl ⊢
  have hl : lv_has ls 4 [(0, .ref (ad 5 0)), (1, .int x1), (2, .int 2)] := hl
  refine lv_aload_n hx hb dX5_ofSheet_0 rfl (lv_at hl 0 rfl) ?_
  refine lv_iload_n hx hb dX5_ofSheet_1 rfl (lv_at hl 1 rfl) ?_
  refine pc_qcallv (va_runV (As := [.int x1]) (rest := []) ⟨hx, hb, hml, hown, hts⟩ (r_X5_requireSheet l D cA NL c v w u ad x1 hM hBd hF h1n h1) (cwV 1 hts gX5_ofSheet_X5_requireSheet rfl rfl rfl (by decide +kernel) ⟨Nat.le_of_ble_eq_true rfl, Nat.le_of_ble_eq_true rfl⟩) (pc_preV pcN_ok hX hW.1 hM.1 rfl rfl hW.1) rfl rfl hl.1 rfl (lv_room (Nat.le_of_ble_eq_true rfl)) dX5_ofSheet_2 ⟨Nat.le_of_ble_eq_true rfl, Nat.le_of_ble_eq_true rfl⟩) hW (fun H locs _ hW => ?_)
  refine lv_aload_n hx hb dX5_ofSheet_5 rfl (lv_at hl 0 rfl) ?_
  refine pc_get (C := RX5) (T := TX5) (N := 13) (ci := 5) hx hb hts (by decide +kernel) hown hX.1 hW.1 5 0 hM.1 rfl rfl 0 (by decide) (hts (.fieldLink RX5 11 "DraftsmanOffice" "sheets" "[LDraftsmanOffice$Sheet;") (by decide +kernel)) (fun _ h9 => h9) rfl dX5_ofSheet_6 ?_
  refine lv_iload_n hx hb dX5_ofSheet_9 rfl (lv_at hl 1 rfl) ?_
  refine pc_aald (r := .ref (ad 1 x1.toNatClampNeg)) hx hb hX.1 hW.1 50 0 3 (hM.2.1 50 (by decide) (by decide)) rfl rfl rfl (fun q => q.elim h1n (fun q => absurd (Nat.lt_of_lt_of_le h1 hBd.1) (Nat.not_lt.mpr q))) (by rw [sRf_in h1]; rfl) dX5_ofSheet_10 ?_
  refine lv_astore_n (lv' := [(3, .ref (ad 1 x1.toNatClampNeg)), (0, .ref (ad 5 0)), (1, .int x1), (2, .int 2)]) hx hb dX5_ofSheet_11 rfl hl (by decide) rfl (fun ls hl => ?_)
  refine lv_iload_n hx hb dX5_ofSheet_12 rfl (lv_at hl 3 rfl) ?_
  refine lv_tableIn (tgt := 80) hx hb dX5_ofSheet_13 (by decide) (by decide) rfl (by decide) ?_
  refine lv_aload_n hx hb dX5_ofSheet_80 rfl (lv_at hl 0 rfl) ?_
  refine pc_getN (C := RX3) (T := TX3) (N := 10) (ci := 3) hx hb hts (by decide +kernel) hown hX.1 hW.1 1 x1.toNatClampNeg (hM.2.2.2.1 x1.toNatClampNeg h1).1 rfl rfl 5 (by decide) (hX.2.1 (.fieldLinkNest RX5 156 "DraftsmanOffice$Sheet" "issued" "I" R_host) (by decide +kernel)) (fun _ h9 => h9) rfl dX5_ofSheet_81 ?_
  exact W.iret (v := (v 1 x1.toNatClampNeg 3)) hx hb hr (fun t ht hW9 => ⟨⟨(v 1 x1.toNatClampNeg 3), (), rfl, rfl, trivial⟩, hW.2.F ht⟩) hW.2.2.2 dX5_ofSheet_84

def F_X5_ofSheet3 (c : SC) (v : SV) (w : SW) (x1 : Int32) : Int32 := (F_X3_lastStatus c v w x1.toNatClampNeg)

set_option maxHeartbeats 4000000 in
set_option maxRecDepth 100000 in
theorem r_X5_ofSheet3 (l : Launch) (D : va_G) (cA : Nat → ClassId) (NL : List (Nat × Nat)) (c : SC) (v : SV) (w : SW) (u : Nat → Int32) (ad : Nat → Nat → Nat) (x1 : Int32) (hM : MEM c NL) (hBd : BND c) (hF : WF c v) (h1n : ¬ x1 < 0) (h1 : x1.toNatClampNeg < c 0) : Met l yX5_ofSheet wsX5_ofSheet ({ frames := 2, cells := 0, slots := 0, locals := 41 }) (pcPre D vwCl (tyL cA) [.ref (ad 5 0), .int x1, .int 3] (fun H => va_P D vwCl (pcW NL ad (ctO cA c v w u ad)) H)) (va_Qi (fun (r : Int32) (_ : Unit) => r = F_X5_ofSheet3 c v w x1) (fun _ _ => True) (fun _ => False)) 0 0 (fun _ => False) := by
  refine Met.ofW (cc := cX5_ofSheet) (maxL := 4) (ret := (some .int)) (by decide) rfl ?_
  intro p e s m args below meth c0 s₁ B hml hv
  obtain ⟨rfl, hX, hP0⟩ := hv
  have hx := B.exec
  have hb := B.bytes
  have hr := B.returns
  have hts := atoms_spec (ws := wsX5_ofSheet) B.pre
  have hown : s.vm.findClass RX5 = some m.cls := findClass_of_methodNamed B.named
  have hlocks := B.notSynchronized
  have hW : pcQ D vwCl (fun _ => False) s.heap NL ad (ctO cA c v w u ad) s.heap [] := ⟨hP0, va_S.rf⟩
  have hl := lv_entry ([.ref (ad 5 0), .int x1, .int 3]) (n := 4) (Nat.le_of_ble_eq_true rfl)
  rw [lg_entry_eq]
  generalize (lg_sl ([.ref (ad 5 0), .int x1, .int 3]) ++ List.replicate (4 - (lg_sl ([.ref (ad 5 0), .int x1, .int 3])).length) Slot.unset).toArray = ls at hl ⊢
  have hl : lv_has ls 4 [(0, .ref (ad 5 0)), (1, .int x1), (2, .int 3)] := hl
  refine lv_aload_n hx hb dX5_ofSheet_0 rfl (lv_at hl 0 rfl) ?_
  refine lv_iload_n hx hb dX5_ofSheet_1 rfl (lv_at hl 1 rfl) ?_
  refine pc_qcallv (va_runV (As := [.int x1]) (rest := []) ⟨hx, hb, hml, hown, hts⟩ (r_X5_requireSheet l D cA NL c v w u ad x1 hM hBd hF h1n h1) (cwV 1 hts gX5_ofSheet_X5_requireSheet rfl rfl rfl (by decide +kernel) ⟨Nat.le_of_ble_eq_true rfl, Nat.le_of_ble_eq_true rfl⟩) (pc_preV pcN_ok hX hW.1 hM.1 rfl rfl hW.1) rfl rfl hl.1 rfl (lv_room (Nat.le_of_ble_eq_true rfl)) dX5_ofSheet_2 ⟨Nat.le_of_ble_eq_true rfl, Nat.le_of_ble_eq_true rfl⟩) hW (fun H locs _ hW => ?_)
  refine lv_aload_n hx hb dX5_ofSheet_5 rfl (lv_at hl 0 rfl) ?_
  refine pc_get (C := RX5) (T := TX5) (N := 13) (ci := 5) hx hb hts (by decide +kernel) hown hX.1 hW.1 5 0 hM.1 rfl rfl 0 (by decide) (hts (.fieldLink RX5 11 "DraftsmanOffice" "sheets" "[LDraftsmanOffice$Sheet;") (by decide +kernel)) (fun _ h9 => h9) rfl dX5_ofSheet_6 ?_
  refine lv_iload_n hx hb dX5_ofSheet_9 rfl (lv_at hl 1 rfl) ?_
  refine pc_aald (r := .ref (ad 1 x1.toNatClampNeg)) hx hb hX.1 hW.1 50 0 3 (hM.2.1 50 (by decide) (by decide)) rfl rfl rfl (fun q => q.elim h1n (fun q => absurd (Nat.lt_of_lt_of_le h1 hBd.1) (Nat.not_lt.mpr q))) (by rw [sRf_in h1]; rfl) dX5_ofSheet_10 ?_
  refine lv_astore_n (lv' := [(3, .ref (ad 1 x1.toNatClampNeg)), (0, .ref (ad 5 0)), (1, .int x1), (2, .int 3)]) hx hb dX5_ofSheet_11 rfl hl (by decide) rfl (fun ls hl => ?_)
  refine lv_iload_n hx hb dX5_ofSheet_12 rfl (lv_at hl 3 rfl) ?_
  refine lv_tableIn (tgt := 85) hx hb dX5_ofSheet_13 (by decide) (by decide) rfl (by decide) ?_
  refine lv_aload_n hx hb dX5_ofSheet_85 rfl (lv_at hl 0 rfl) ?_
  refine pc_qcalli (va_runVN (As := []) (rest := []) ⟨hx, hb, hml, hown, hts⟩ (r_X3_lastStatus l D cA NL c v w u ad x1.toNatClampNeg hM hBd h1) ⟨va_cnB 0 hts gX5_ofSheet_X3_lastStatus_n97 rfl rfl rfl (hX.2.1 (.methodLinkNest RX5 97 yX3_lastStatus R_host) (by decide +kernel)) (hts (.initialized RX3) (by decide +kernel)) (by decide +kernel) ⟨Nat.le_of_ble_eq_true rfl, Nat.le_of_ble_eq_true rfl⟩, hts (.instanceMethod yX3_lastStatus) (by decide +kernel), hts (.selects RX3 yX3_lastStatus yX3_lastStatus) (by decide +kernel)⟩ (pc_preV pcN_ok hX hW.1 (hM.2.2.2.1 x1.toNatClampNeg h1).1 rfl rfl hW.1) rfl rfl hl.1 rfl (lv_room (Nat.le_of_ble_eq_true rfl)) dX5_ofSheet_86 ⟨Nat.le_of_ble_eq_true rfl, Nat.le_of_ble_eq_true rfl⟩) hW (fun r165 H locs hwr165 hW => ?_)
  replace hwr165 := hwr165.symm
  subst hwr165
  exact W.iret (v := (F_X3_lastStatus c v w x1.toNatClampNeg)) hx hb hr (fun t ht hW9 => ⟨⟨(F_X3_lastStatus c v w x1.toNatClampNeg), (), rfl, rfl, trivial⟩, hW.2.F ht⟩) hW.2.2.2 dX5_ofSheet_89

def F_X5_ofSheet4 (c : SC) (v : SV) (w : SW) (x1 : Int32) : Int32 := (F_X5_fieldsOf (w 1 x1.toNatClampNeg 0))

set_option maxHeartbeats 4000000 in
set_option maxRecDepth 100000 in
theorem r_X5_ofSheet4 (l : Launch) (D : va_G) (cA : Nat → ClassId) (NL : List (Nat × Nat)) (c : SC) (v : SV) (w : SW) (u : Nat → Int32) (ad : Nat → Nat → Nat) (x1 : Int32) (hM : MEM c NL) (hBd : BND c) (hF : WF c v) (h1n : ¬ x1 < 0) (h1 : x1.toNatClampNeg < c 0) : Met l yX5_ofSheet wsX5_ofSheet ({ frames := 2, cells := 0, slots := 0, locals := 42 }) (pcPre D vwCl (tyL cA) [.ref (ad 5 0), .int x1, .int 4] (fun H => va_P D vwCl (pcW NL ad (ctO cA c v w u ad)) H)) (va_Qi (fun (r : Int32) (_ : Unit) => r = F_X5_ofSheet4 c v w x1) (fun _ _ => True) (fun _ => False)) 0 0 (fun _ => False) := by
  refine Met.ofW (cc := cX5_ofSheet) (maxL := 4) (ret := (some .int)) (by decide) rfl ?_
  intro p e s m args below meth c0 s₁ B hml hv
  obtain ⟨rfl, hX, hP0⟩ := hv
  have hx := B.exec
  have hb := B.bytes
  have hr := B.returns
  have hts := atoms_spec (ws := wsX5_ofSheet) B.pre
  have hown : s.vm.findClass RX5 = some m.cls := findClass_of_methodNamed B.named
  have hlocks := B.notSynchronized
  have hW : pcQ D vwCl (fun _ => False) s.heap NL ad (ctO cA c v w u ad) s.heap [] := ⟨hP0, va_S.rf⟩
  have hl := lv_entry ([.ref (ad 5 0), .int x1, .int 4]) (n := 4) (Nat.le_of_ble_eq_true rfl)
  rw [lg_entry_eq]
  generalize (lg_sl ([.ref (ad 5 0), .int x1, .int 4]) ++ List.replicate (4 - (lg_sl ([.ref (ad 5 0), .int x1, .int 4])).length) Slot.unset).toArray = ls at hl ⊢
  have hl : lv_has ls 4 [(0, .ref (ad 5 0)), (1, .int x1), (2, .int 4)] := hl
  refine lv_aload_n hx hb dX5_ofSheet_0 rfl (lv_at hl 0 rfl) ?_
  refine lv_iload_n hx hb dX5_ofSheet_1 rfl (lv_at hl 1 rfl) ?_
  refine pc_qcallv (va_runV (As := [.int x1]) (rest := []) ⟨hx, hb, hml, hown, hts⟩ (r_X5_requireSheet l D cA NL c v w u ad x1 hM hBd hF h1n h1) (cwV 1 hts gX5_ofSheet_X5_requireSheet rfl rfl rfl (by decide +kernel) ⟨Nat.le_of_ble_eq_true rfl, Nat.le_of_ble_eq_true rfl⟩) (pc_preV pcN_ok hX hW.1 hM.1 rfl rfl hW.1) rfl rfl hl.1 rfl (lv_room (Nat.le_of_ble_eq_true rfl)) dX5_ofSheet_2 ⟨Nat.le_of_ble_eq_true rfl, Nat.le_of_ble_eq_true rfl⟩) hW (fun H locs _ hW => ?_)
  refine lv_aload_n hx hb dX5_ofSheet_5 rfl (lv_at hl 0 rfl) ?_
  refine pc_get (C := RX5) (T := TX5) (N := 13) (ci := 5) hx hb hts (by decide +kernel) hown hX.1 hW.1 5 0 hM.1 rfl rfl 0 (by decide) (hts (.fieldLink RX5 11 "DraftsmanOffice" "sheets" "[LDraftsmanOffice$Sheet;") (by decide +kernel)) (fun _ h9 => h9) rfl dX5_ofSheet_6 ?_
  refine lv_iload_n hx hb dX5_ofSheet_9 rfl (lv_at hl 1 rfl) ?_
  refine pc_aald (r := .ref (ad 1 x1.toNatClampNeg)) hx hb hX.1 hW.1 50 0 3 (hM.2.1 50 (by decide) (by decide)) rfl rfl rfl (fun q => q.elim h1n (fun q => absurd (Nat.lt_of_lt_of_le h1 hBd.1) (Nat.not_lt.mpr q))) (by rw [sRf_in h1]; rfl) dX5_ofSheet_10 ?_
  refine lv_astore_n (lv' := [(3, .ref (ad 1 x1.toNatClampNeg)), (0, .ref (ad 5 0)), (1, .int x1), (2, .int 4)]) hx hb dX5_ofSheet_11 rfl hl (by decide) rfl (fun ls hl => ?_)
  refine lv_iload_n hx hb dX5_ofSheet_12 rfl (lv_at hl 3 rfl) ?_
  refine lv_tableIn (tgt := 90) hx hb dX5_ofSheet_13 (by decide) (by decide) rfl (by decide) ?_
  refine lv_aload_n hx hb dX5_ofSheet_90 rfl (lv_at hl 0 rfl) ?_
  refine pc_getN (C := RX3) (T := TX3) (N := 10) (ci := 3) hx hb hts (by decide +kernel) hown hX.1 hW.1 1 x1.toNatClampNeg (hM.2.2.2.1 x1.toNatClampNeg h1).1 rfl rfl 6 (by decide) (hX.2.1 (.fieldLinkNest RX5 159 "DraftsmanOffice$Sheet" "issuedRegion" "J" R_host) (by decide +kernel)) (fun _ h9 => h9) rfl dX5_ofSheet_91 ?_
  refine pc_qcalli (va_runS (As := [.long (w 1 x1.toNatClampNeg 0)]) (rest := []) ⟨hx, hb, hml, hown, hts⟩ (r_X5_fieldsOf l D cA (w 1 x1.toNatClampNeg 0) ) (va_cwS 1 hts gX5_ofSheet_X5_fieldsOf rfl rfl rfl (by decide +kernel) ⟨Nat.le_of_ble_eq_true rfl, Nat.le_of_ble_eq_true rfl⟩) (pc_preS pcN_ok hX trivial) rfl rfl hl.1 rfl (lv_room (Nat.le_of_ble_eq_true rfl)) dX5_ofSheet_94 ⟨Nat.le_of_ble_eq_true rfl, Nat.le_of_ble_eq_true rfl⟩) hW (fun r167 H locs hwr167 hW => ?_)
  replace hwr167 := hwr167.symm
  subst hwr167
  exact W.iret (v := (F_X5_fieldsOf (w 1 x1.toNatClampNeg 0))) hx hb hr (fun t ht hW9 => ⟨⟨(F_X5_fieldsOf (w 1 x1.toNatClampNeg 0)), (), rfl, rfl, trivial⟩, hW.2.F ht⟩) hW.2.2.2 dX5_ofSheet_97

def F_X5_ofSheet5 (c : SC) (v : SV) (w : SW) (x1 : Int32) : Int32 := (v 1 x1.toNatClampNeg 4)

set_option maxHeartbeats 4000000 in
set_option maxRecDepth 100000 in
theorem r_X5_ofSheet5 (l : Launch) (D : va_G) (cA : Nat → ClassId) (NL : List (Nat × Nat)) (c : SC) (v : SV) (w : SW) (u : Nat → Int32) (ad : Nat → Nat → Nat) (x1 : Int32) (hM : MEM c NL) (hBd : BND c) (hF : WF c v) (h1n : ¬ x1 < 0) (h1 : x1.toNatClampNeg < c 0) : Met l yX5_ofSheet wsX5_ofSheet ({ frames := 1, cells := 0, slots := 0, locals := 21 }) (pcPre D vwCl (tyL cA) [.ref (ad 5 0), .int x1, .int 5] (fun H => va_P D vwCl (pcW NL ad (ctO cA c v w u ad)) H)) (va_Qi (fun (r : Int32) (_ : Unit) => r = F_X5_ofSheet5 c v w x1) (fun _ _ => True) (fun _ => False)) 0 0 (fun _ => False) := by
  refine Met.ofW (cc := cX5_ofSheet) (maxL := 4) (ret := (some .int)) (by decide) rfl ?_
  intro p e s m args below meth c0 s₁ B hml hv
  obtain ⟨rfl, hX, hP0⟩ := hv
  have hx := B.exec
  have hb := B.bytes
  have hr := B.returns
  have hts := atoms_spec (ws := wsX5_ofSheet) B.pre
  have hown : s.vm.findClass RX5 = some m.cls := findClass_of_methodNamed B.named
  have hlocks := B.notSynchronized
  have hW : pcQ D vwCl (fun _ => False) s.heap NL ad (ctO cA c v w u ad) s.heap [] := ⟨hP0, va_S.rf⟩
  have hl := lv_entry ([.ref (ad 5 0), .int x1, .int 5]) (n := 4) (Nat.le_of_ble_eq_true rfl)
  rw [lg_entry_eq]
  generalize (lg_sl ([.ref (ad 5 0), .int x1, .int 5]) ++ List.replicate (4 - (lg_sl ([.ref (ad 5 0), .int x1, .int 5])).length) Slot.unset).toArray = ls at hl ⊢
  have hl : lv_has ls 4 [(0, .ref (ad 5 0)), (1, .int x1), (2, .int 5)] := hl
  refine lv_aload_n hx hb dX5_ofSheet_0 rfl (lv_at hl 0 rfl) ?_
  refine lv_iload_n hx hb dX5_ofSheet_1 rfl (lv_at hl 1 rfl) ?_
  refine pc_qcallv (va_runV (As := [.int x1]) (rest := []) ⟨hx, hb, hml, hown, hts⟩ (r_X5_requireSheet l D cA NL c v w u ad x1 hM hBd hF h1n h1) (cwV 1 hts gX5_ofSheet_X5_requireSheet rfl rfl rfl (by decide +kernel) ⟨Nat.le_of_ble_eq_true rfl, Nat.le_of_ble_eq_true rfl⟩) (pc_preV pcN_ok hX hW.1 hM.1 rfl rfl hW.1) rfl rfl hl.1 rfl (lv_room (Nat.le_of_ble_eq_true rfl)) dX5_ofSheet_2 ⟨Nat.le_of_ble_eq_true rfl, Nat.le_of_ble_eq_true rfl⟩) hW (fun H locs _ hW => ?_)
  refine lv_aload_n hx hb dX5_ofSheet_5 rfl (lv_at hl 0 rfl) ?_
  refine pc_get (C := RX5) (T := TX5) (N := 13) (ci := 5) hx hb hts (by decide +kernel) hown hX.1 hW.1 5 0 hM.1 rfl rfl 0 (by decide) (hts (.fieldLink RX5 11 "DraftsmanOffice" "sheets" "[LDraftsmanOffice$Sheet;") (by decide +kernel)) (fun _ h9 => h9) rfl dX5_ofSheet_6 ?_
  refine lv_iload_n hx hb dX5_ofSheet_9 rfl (lv_at hl 1 rfl) ?_
  refine pc_aald (r := .ref (ad 1 x1.toNatClampNeg)) hx hb hX.1 hW.1 50 0 3 (hM.2.1 50 (by decide) (by decide)) rfl rfl rfl (fun q => q.elim h1n (fun q => absurd (Nat.lt_of_lt_of_le h1 hBd.1) (Nat.not_lt.mpr q))) (by rw [sRf_in h1]; rfl) dX5_ofSheet_10 ?_
  refine lv_astore_n (lv' := [(3, .ref (ad 1 x1.toNatClampNeg)), (0, .ref (ad 5 0)), (1, .int x1), (2, .int 5)]) hx hb dX5_ofSheet_11 rfl hl (by decide) rfl (fun ls hl => ?_)
  refine lv_iload_n hx hb dX5_ofSheet_12 rfl (lv_at hl 3 rfl) ?_
  refine lv_tableIn (tgt := 98) hx hb dX5_ofSheet_13 (by decide) (by decide) rfl (by decide) ?_
  refine lv_aload_n hx hb dX5_ofSheet_98 rfl (lv_at hl 0 rfl) ?_
  refine pc_getN (C := RX3) (T := TX3) (N := 10) (ci := 3) hx hb hts (by decide +kernel) hown hX.1 hW.1 1 x1.toNatClampNeg (hM.2.2.2.1 x1.toNatClampNeg h1).1 rfl rfl 7 (by decide) (hX.2.1 (.fieldLinkNest RX5 163 "DraftsmanOffice$Sheet" "issuedDetails" "I" R_host) (by decide +kernel)) (fun _ h9 => h9) rfl dX5_ofSheet_99 ?_
  exact W.iret (v := (v 1 x1.toNatClampNeg 4)) hx hb hr (fun t ht hW9 => ⟨⟨(v 1 x1.toNatClampNeg 4), (), rfl, rfl, trivial⟩, hW.2.F ht⟩) hW.2.2.2 dX5_ofSheet_102

def F_X5_ofSheet6 (c : SC) (v : SV) (w : SW) (x1 : Int32) : Int32 := (v 1 x1.toNatClampNeg 5)

set_option maxHeartbeats 4000000 in
set_option maxRecDepth 100000 in
theorem r_X5_ofSheet6 (l : Launch) (D : va_G) (cA : Nat → ClassId) (NL : List (Nat × Nat)) (c : SC) (v : SV) (w : SW) (u : Nat → Int32) (ad : Nat → Nat → Nat) (x1 : Int32) (hM : MEM c NL) (hBd : BND c) (hF : WF c v) (h1n : ¬ x1 < 0) (h1 : x1.toNatClampNeg < c 0) : Met l yX5_ofSheet wsX5_ofSheet ({ frames := 1, cells := 0, slots := 0, locals := 21 }) (pcPre D vwCl (tyL cA) [.ref (ad 5 0), .int x1, .int 6] (fun H => va_P D vwCl (pcW NL ad (ctO cA c v w u ad)) H)) (va_Qi (fun (r : Int32) (_ : Unit) => r = F_X5_ofSheet6 c v w x1) (fun _ _ => True) (fun _ => False)) 0 0 (fun _ => False) := by
  refine Met.ofW (cc := cX5_ofSheet) (maxL := 4) (ret := (some .int)) (by decide) rfl ?_
  intro p e s m args below meth c0 s₁ B hml hv
  obtain ⟨rfl, hX, hP0⟩ := hv
  have hx := B.exec
  have hb := B.bytes
  have hr := B.returns
  have hts := atoms_spec (ws := wsX5_ofSheet) B.pre
  have hown : s.vm.findClass RX5 = some m.cls := findClass_of_methodNamed B.named
  have hlocks := B.notSynchronized
  have hW : pcQ D vwCl (fun _ => False) s.heap NL ad (ctO cA c v w u ad) s.heap [] := ⟨hP0, va_S.rf⟩
  have hl := lv_entry ([.ref (ad 5 0), .int x1, .int 6]) (n := 4) (Nat.le_of_ble_eq_true rfl)
  rw [lg_entry_eq]
  generalize (lg_sl ([.ref (ad 5 0), .int x1, .int 6]) ++ List.replicate (4 - (lg_sl ([.ref (ad 5 0), .int x1, .int 6])).length) Slot.unset).toArray = ls at hl ⊢
  have hl : lv_has ls 4 [(0, .ref (ad 5 0)), (1, .int x1), (2, .int 6)] := hl
  refine lv_aload_n hx hb dX5_ofSheet_0 rfl (lv_at hl 0 rfl) ?_
  refine lv_iload_n hx hb dX5_ofSheet_1 rfl (lv_at hl 1 rfl) ?_
  refine pc_qcallv (va_runV (As := [.int x1]) (rest := []) ⟨hx, hb, hml, hown, hts⟩ (r_X5_requireSheet l D cA NL c v w u ad x1 hM hBd hF h1n h1) (cwV 1 hts gX5_ofSheet_X5_requireSheet rfl rfl rfl (by decide +kernel) ⟨Nat.le_of_ble_eq_true rfl, Nat.le_of_ble_eq_true rfl⟩) (pc_preV pcN_ok hX hW.1 hM.1 rfl rfl hW.1) rfl rfl hl.1 rfl (lv_room (Nat.le_of_ble_eq_true rfl)) dX5_ofSheet_2 ⟨Nat.le_of_ble_eq_true rfl, Nat.le_of_ble_eq_true rfl⟩) hW (fun H locs _ hW => ?_)
  refine lv_aload_n hx hb dX5_ofSheet_5 rfl (lv_at hl 0 rfl) ?_
  refine pc_get (C := RX5) (T := TX5) (N := 13) (ci := 5) hx hb hts (by decide +kernel) hown hX.1 hW.1 5 0 hM.1 rfl rfl 0 (by decide) (hts (.fieldLink RX5 11 "DraftsmanOffice" "sheets" "[LDraftsmanOffice$Sheet;") (by decide +kernel)) (fun _ h9 => h9) rfl dX5_ofSheet_6 ?_
  refine lv_iload_n hx hb dX5_ofSheet_9 rfl (lv_at hl 1 rfl) ?_
  refine pc_aald (r := .ref (ad 1 x1.toNatClampNeg)) hx hb hX.1 hW.1 50 0 3 (hM.2.1 50 (by decide) (by decide)) rfl rfl rfl (fun q => q.elim h1n (fun q => absurd (Nat.lt_of_lt_of_le h1 hBd.1) (Nat.not_lt.mpr q))) (by rw [sRf_in h1]; rfl) dX5_ofSheet_10 ?_
  refine lv_astore_n (lv' := [(3, .ref (ad 1 x1.toNatClampNeg)), (0, .ref (ad 5 0)), (1, .int x1), (2, .int 6)]) hx hb dX5_ofSheet_11 rfl hl (by decide) rfl (fun ls hl => ?_)
  refine lv_iload_n hx hb dX5_ofSheet_12 rfl (lv_at hl 3 rfl) ?_
  refine lv_tableIn (tgt := 103) hx hb dX5_ofSheet_13 (by decide) (by decide) rfl (by decide) ?_
  refine lv_aload_n hx hb dX5_ofSheet_103 rfl (lv_at hl 0 rfl) ?_
  refine pc_getN (C := RX3) (T := TX3) (N := 10) (ci := 3) hx hb hts (by decide +kernel) hown hX.1 hW.1 1 x1.toNatClampNeg (hM.2.2.2.1 x1.toNatClampNeg h1).1 rfl rfl 8 (by decide) (hX.2.1 (.fieldLinkNest RX5 166 "DraftsmanOffice$Sheet" "marks" "I" R_host) (by decide +kernel)) (fun _ h9 => h9) rfl dX5_ofSheet_104 ?_
  exact W.iret (v := (v 1 x1.toNatClampNeg 5)) hx hb hr (fun t ht hW9 => ⟨⟨(v 1 x1.toNatClampNeg 5), (), rfl, rfl, trivial⟩, hW.2.F ht⟩) hW.2.2.2 dX5_ofSheet_107

def F_X5_ofSheet7 (c : SC) (v : SV) (w : SW) (x1 : Int32) : Int32 := (F_X5_brokenFrom c v w x1)

set_option maxHeartbeats 4000000 in
set_option maxRecDepth 100000 in
theorem r_X5_ofSheet7 (l : Launch) (D : va_G) (cA : Nat → ClassId) (NL : List (Nat × Nat)) (c : SC) (v : SV) (w : SW) (u : Nat → Int32) (ad : Nat → Nat → Nat) (x1 : Int32) (hM : MEM c NL) (hBd : BND c) (hF : WF c v) (h1n : ¬ x1 < 0) (h1 : x1.toNatClampNeg < c 0) : Met l yX5_ofSheet wsX5_ofSheet ({ frames := 3, cells := 0, slots := 0, locals := 65 }) (pcPre D vwCl (tyL cA) [.ref (ad 5 0), .int x1, .int 7] (fun H => va_P D vwCl (pcW NL ad (ctO cA c v w u ad)) H)) (va_Qi (fun (r : Int32) (_ : Unit) => r = F_X5_ofSheet7 c v w x1) (fun _ _ => True) (fun _ => False)) 0 0 (fun _ => False) := by
  refine Met.ofW (cc := cX5_ofSheet) (maxL := 4) (ret := (some .int)) (by decide) rfl ?_
  intro p e s m args below meth c0 s₁ B hml hv
  obtain ⟨rfl, hX, hP0⟩ := hv
  have hx := B.exec
  have hb := B.bytes
  have hr := B.returns
  have hts := atoms_spec (ws := wsX5_ofSheet) B.pre
  have hown : s.vm.findClass RX5 = some m.cls := findClass_of_methodNamed B.named
  have hlocks := B.notSynchronized
  have hW : pcQ D vwCl (fun _ => False) s.heap NL ad (ctO cA c v w u ad) s.heap [] := ⟨hP0, va_S.rf⟩
  have hl := lv_entry ([.ref (ad 5 0), .int x1, .int 7]) (n := 4) (Nat.le_of_ble_eq_true rfl)
  rw [lg_entry_eq]
  generalize (lg_sl ([.ref (ad 5 0), .int x1, .int 7]) ++ List.replicate (4 - (lg_sl ([.ref (ad 5 0), .int x1, .int 7])).length) Slot.unset).toArray = ls at hl ⊢
  have hl : lv_has ls 4 [(0, .ref (ad 5 0)), (1, .int x1), (2, .int 7)] := hl
  refine lv_aload_n hx hb dX5_ofSheet_0 rfl (lv_at hl 0 rfl) ?_
  refine lv_iload_n hx hb dX5_ofSheet_1 rfl (lv_at hl 1 rfl) ?_
  refine pc_qcallv (va_runV (As := [.int x1]) (rest := []) ⟨hx, hb, hml, hown, hts⟩ (r_X5_requireSheet l D cA NL c v w u ad x1 hM hBd hF h1n h1) (cwV 1 hts gX5_ofSheet_X5_requireSheet rfl rfl rfl (by decide +kernel) ⟨Nat.le_of_ble_eq_true rfl, Nat.le_of_ble_eq_true rfl⟩) (pc_preV pcN_ok hX hW.1 hM.1 rfl rfl hW.1) rfl rfl hl.1 rfl (lv_room (Nat.le_of_ble_eq_true rfl)) dX5_ofSheet_2 ⟨Nat.le_of_ble_eq_true rfl, Nat.le_of_ble_eq_true rfl⟩) hW (fun H locs _ hW => ?_)
  refine lv_aload_n hx hb dX5_ofSheet_5 rfl (lv_at hl 0 rfl) ?_
  refine pc_get (C := RX5) (T := TX5) (N := 13) (ci := 5) hx hb hts (by decide +kernel) hown hX.1 hW.1 5 0 hM.1 rfl rfl 0 (by decide) (hts (.fieldLink RX5 11 "DraftsmanOffice" "sheets" "[LDraftsmanOffice$Sheet;") (by decide +kernel)) (fun _ h9 => h9) rfl dX5_ofSheet_6 ?_
  refine lv_iload_n hx hb dX5_ofSheet_9 rfl (lv_at hl 1 rfl) ?_
  refine pc_aald (r := .ref (ad 1 x1.toNatClampNeg)) hx hb hX.1 hW.1 50 0 3 (hM.2.1 50 (by decide) (by decide)) rfl rfl rfl (fun q => q.elim h1n (fun q => absurd (Nat.lt_of_lt_of_le h1 hBd.1) (Nat.not_lt.mpr q))) (by rw [sRf_in h1]; rfl) dX5_ofSheet_10 ?_
  refine lv_astore_n (lv' := [(3, .ref (ad 1 x1.toNatClampNeg)), (0, .ref (ad 5 0)), (1, .int x1), (2, .int 7)]) hx hb dX5_ofSheet_11 rfl hl (by decide) rfl (fun ls hl => ?_)
  refine lv_iload_n hx hb dX5_ofSheet_12 rfl (lv_at hl 3 rfl) ?_
  refine lv_tableIn (tgt := 108) hx hb dX5_ofSheet_13 (by decide) (by decide) rfl (by decide) ?_
  refine lv_aload_n hx hb dX5_ofSheet_108 rfl (lv_at hl 1 rfl) ?_
  refine lv_iload_n hx hb dX5_ofSheet_109 rfl (lv_at hl 2 rfl) ?_
  refine pc_qcalli (va_runV (As := [.int x1]) (rest := []) ⟨hx, hb, hml, hown, hts⟩ (r_X5_brokenFrom l D cA NL c v w u ad x1 hM hBd hF ) (cwV 1 hts gX5_ofSheet_X5_brokenFrom rfl rfl rfl (by decide +kernel) ⟨Nat.le_of_ble_eq_true rfl, Nat.le_of_ble_eq_true rfl⟩) (pc_preV pcN_ok hX hW.1 hM.1 rfl rfl hW.1) rfl rfl hl.1 rfl (lv_room (Nat.le_of_ble_eq_true rfl)) dX5_ofSheet_110 ⟨Nat.le_of_ble_eq_true rfl, Nat.le_of_ble_eq_true rfl⟩) hW (fun r171 H locs hwr171 hW => ?_)
  replace hwr171 := hwr171.symm
  subst hwr171
  exact W.iret (v := (F_X5_brokenFrom c v w x1)) hx hb hr (fun t ht hW9 => ⟨⟨(F_X5_brokenFrom c v w x1), (), rfl, rfl, trivial⟩, hW.2.F ht⟩) hW.2.2.2 dX5_ofSheet_113

def F_X5_ofSheet8 (c : SC) (v : SV) (w : SW) (x1 : Int32) : Int32 := (F_X5_brokenTo c v w x1)

set_option maxHeartbeats 4000000 in
set_option maxRecDepth 100000 in
theorem r_X5_ofSheet8 (l : Launch) (D : va_G) (cA : Nat → ClassId) (NL : List (Nat × Nat)) (c : SC) (v : SV) (w : SW) (u : Nat → Int32) (ad : Nat → Nat → Nat) (x1 : Int32) (hM : MEM c NL) (hBd : BND c) (hF : WF c v) (h1n : ¬ x1 < 0) (h1 : x1.toNatClampNeg < c 0) : Met l yX5_ofSheet wsX5_ofSheet ({ frames := 3, cells := 0, slots := 0, locals := 65 }) (pcPre D vwCl (tyL cA) [.ref (ad 5 0), .int x1, .int 8] (fun H => va_P D vwCl (pcW NL ad (ctO cA c v w u ad)) H)) (va_Qi (fun (r : Int32) (_ : Unit) => r = F_X5_ofSheet8 c v w x1) (fun _ _ => True) (fun _ => False)) 0 0 (fun _ => False) := by
  refine Met.ofW (cc := cX5_ofSheet) (maxL := 4) (ret := (some .int)) (by decide) rfl ?_
  intro p e s m args below meth c0 s₁ B hml hv
  obtain ⟨rfl, hX, hP0⟩ := hv
  have hx := B.exec
  have hb := B.bytes
  have hr := B.returns
  have hts := atoms_spec (ws := wsX5_ofSheet) B.pre
  have hown : s.vm.findClass RX5 = some m.cls := findClass_of_methodNamed B.named
  have hlocks := B.notSynchronized
  have hW : pcQ D vwCl (fun _ => False) s.heap NL ad (ctO cA c v w u ad) s.heap [] := ⟨hP0, va_S.rf⟩
  have hl := lv_entry ([.ref (ad 5 0), .int x1, .int 8]) (n := 4) (Nat.le_of_ble_eq_true rfl)
  rw [lg_entry_eq]
  generalize (lg_sl ([.ref (ad 5 0), .int x1, .int 8]) ++ List.replicate (4 - (lg_sl ([.ref (ad 5 0), .int x1, .int 8])).length) Slot.unset).toArray = ls at hl ⊢
  have hl : lv_has ls 4 [(0, .ref (ad 5 0)), (1, .int x1), (2, .int 8)] := hl
  refine lv_aload_n hx hb dX5_ofSheet_0 rfl (lv_at hl 0 rfl) ?_
  refine lv_iload_n hx hb dX5_ofSheet_1 rfl (lv_at hl 1 rfl) ?_
  refine pc_qcallv (va_runV (As := [.int x1]) (rest := []) ⟨hx, hb, hml, hown, hts⟩ (r_X5_requireSheet l D cA NL c v w u ad x1 hM hBd hF h1n h1) (cwV 1 hts gX5_ofSheet_X5_requireSheet rfl rfl rfl (by decide +kernel) ⟨Nat.le_of_ble_eq_true rfl, Nat.le_of_ble_eq_true rfl⟩) (pc_preV pcN_ok hX hW.1 hM.1 rfl rfl hW.1) rfl rfl hl.1 rfl (lv_room (Nat.le_of_ble_eq_true rfl)) dX5_ofSheet_2 ⟨Nat.le_of_ble_eq_true rfl, Nat.le_of_ble_eq_true rfl⟩) hW (fun H locs _ hW => ?_)
  refine lv_aload_n hx hb dX5_ofSheet_5 rfl (lv_at hl 0 rfl) ?_
  refine pc_get (C := RX5) (T := TX5) (N := 13) (ci := 5) hx hb hts (by decide +kernel) hown hX.1 hW.1 5 0 hM.1 rfl rfl 0 (by decide) (hts (.fieldLink RX5 11 "DraftsmanOffice" "sheets" "[LDraftsmanOffice$Sheet;") (by decide +kernel)) (fun _ h9 => h9) rfl dX5_ofSheet_6 ?_
  refine lv_iload_n hx hb dX5_ofSheet_9 rfl (lv_at hl 1 rfl) ?_
  refine pc_aald (r := .ref (ad 1 x1.toNatClampNeg)) hx hb hX.1 hW.1 50 0 3 (hM.2.1 50 (by decide) (by decide)) rfl rfl rfl (fun q => q.elim h1n (fun q => absurd (Nat.lt_of_lt_of_le h1 hBd.1) (Nat.not_lt.mpr q))) (by rw [sRf_in h1]; rfl) dX5_ofSheet_10 ?_
  refine lv_astore_n (lv' := [(3, .ref (ad 1 x1.toNatClampNeg)), (0, .ref (ad 5 0)), (1, .int x1), (2, .int 8)]) hx hb dX5_ofSheet_11 rfl hl (by decide) rfl (fun ls hl => ?_)
  refine lv_iload_n hx hb dX5_ofSheet_12 rfl (lv_at hl 3 rfl) ?_
  refine lv_tableIn (tgt := 114) hx hb dX5_ofSheet_13 (by decide) (by decide) rfl (by decide) ?_
  refine lv_aload_n hx hb dX5_ofSheet_114 rfl (lv_at hl 1 rfl) ?_
  refine lv_iload_n hx hb dX5_ofSheet_115 rfl (lv_at hl 2 rfl) ?_
  refine pc_qcalli (va_runV (As := [.int x1]) (rest := []) ⟨hx, hb, hml, hown, hts⟩ (r_X5_brokenTo l D cA NL c v w u ad x1 hM hBd hF ) (cwV 1 hts gX5_ofSheet_X5_brokenTo rfl rfl rfl (by decide +kernel) ⟨Nat.le_of_ble_eq_true rfl, Nat.le_of_ble_eq_true rfl⟩) (pc_preV pcN_ok hX hW.1 hM.1 rfl rfl hW.1) rfl rfl hl.1 rfl (lv_room (Nat.le_of_ble_eq_true rfl)) dX5_ofSheet_116 ⟨Nat.le_of_ble_eq_true rfl, Nat.le_of_ble_eq_true rfl⟩) hW (fun r173 H locs hwr173 hW => ?_)
  replace hwr173 := hwr173.symm
  subst hwr173
  exact W.iret (v := (F_X5_brokenTo c v w x1)) hx hb hr (fun t ht hW9 => ⟨⟨(F_X5_brokenTo c v w x1), (), rfl, rfl, trivial⟩, hW.2.F ht⟩) hW.2.2.2 dX5_ofSheet_119

def F_X5_ofSheet9 (c : SC) (v : SV) (w : SW) (x1 : Int32) : Int32 := (F_X5_clashesOf c v w x1)

set_option maxHeartbeats 4000000 in
set_option maxRecDepth 100000 in
theorem r_X5_ofSheet9 (l : Launch) (D : va_G) (cA : Nat → ClassId) (NL : List (Nat × Nat)) (c : SC) (v : SV) (w : SW) (u : Nat → Int32) (ad : Nat → Nat → Nat) (x1 : Int32) (hM : MEM c NL) (hBd : BND c) (hF : WF c v) (h1n : ¬ x1 < 0) (h1 : x1.toNatClampNeg < c 0) : Met l yX5_ofSheet wsX5_ofSheet ({ frames := 3, cells := 0, slots := 0, locals := 68 }) (pcPre D vwCl (tyL cA) [.ref (ad 5 0), .int x1, .int 9] (fun H => va_P D vwCl (pcW NL ad (ctO cA c v w u ad)) H)) (va_Qi (fun (r : Int32) (_ : Unit) => r = F_X5_ofSheet9 c v w x1) (fun _ _ => True) (fun _ => False)) 0 0 (fun _ => False) := by
  refine Met.ofW (cc := cX5_ofSheet) (maxL := 4) (ret := (some .int)) (by decide) rfl ?_
  intro p e s m args below meth c0 s₁ B hml hv
  obtain ⟨rfl, hX, hP0⟩ := hv
  have hx := B.exec
  have hb := B.bytes
  have hr := B.returns
  have hts := atoms_spec (ws := wsX5_ofSheet) B.pre
  have hown : s.vm.findClass RX5 = some m.cls := findClass_of_methodNamed B.named
  have hlocks := B.notSynchronized
  have hW : pcQ D vwCl (fun _ => False) s.heap NL ad (ctO cA c v w u ad) s.heap [] := ⟨hP0, va_S.rf⟩
  have hl := lv_entry ([.ref (ad 5 0), .int x1, .int 9]) (n := 4) (Nat.le_of_ble_eq_true rfl)
  rw [lg_entry_eq]
  generalize (lg_sl ([.ref (ad 5 0), .int x1, .int 9]) ++ List.replicate (4 - (lg_sl ([.ref (ad 5 0), .int x1, .int 9])).length) Slot.unset).toArray = ls at hl ⊢
  have hl : lv_has ls 4 [(0, .ref (ad 5 0)), (1, .int x1), (2, .int 9)] := hl
  refine lv_aload_n hx hb dX5_ofSheet_0 rfl (lv_at hl 0 rfl) ?_
  refine lv_iload_n hx hb dX5_ofSheet_1 rfl (lv_at hl 1 rfl) ?_
  refine pc_qcallv (va_runV (As := [.int x1]) (rest := []) ⟨hx, hb, hml, hown, hts⟩ (r_X5_requireSheet l D cA NL c v w u ad x1 hM hBd hF h1n h1) (cwV 1 hts gX5_ofSheet_X5_requireSheet rfl rfl rfl (by decide +kernel) ⟨Nat.le_of_ble_eq_true rfl, Nat.le_of_ble_eq_true rfl⟩) (pc_preV pcN_ok hX hW.1 hM.1 rfl rfl hW.1) rfl rfl hl.1 rfl (lv_room (Nat.le_of_ble_eq_true rfl)) dX5_ofSheet_2 ⟨Nat.le_of_ble_eq_true rfl, Nat.le_of_ble_eq_true rfl⟩) hW (fun H locs _ hW => ?_)
  refine lv_aload_n hx hb dX5_ofSheet_5 rfl (lv_at hl 0 rfl) ?_
  refine pc_get (C := RX5) (T := TX5) (N := 13) (ci := 5) hx hb hts (by decide +kernel) hown hX.1 hW.1 5 0 hM.1 rfl rfl 0 (by decide) (hts (.fieldLink RX5 11 "DraftsmanOffice" "sheets" "[LDraftsmanOffice$Sheet;") (by decide +kernel)) (fun _ h9 => h9) rfl dX5_ofSheet_6 ?_
  refine lv_iload_n hx hb dX5_ofSheet_9 rfl (lv_at hl 1 rfl) ?_
  refine pc_aald (r := .ref (ad 1 x1.toNatClampNeg)) hx hb hX.1 hW.1 50 0 3 (hM.2.1 50 (by decide) (by decide)) rfl rfl rfl (fun q => q.elim h1n (fun q => absurd (Nat.lt_of_lt_of_le h1 hBd.1) (Nat.not_lt.mpr q))) (by rw [sRf_in h1]; rfl) dX5_ofSheet_10 ?_
  refine lv_astore_n (lv' := [(3, .ref (ad 1 x1.toNatClampNeg)), (0, .ref (ad 5 0)), (1, .int x1), (2, .int 9)]) hx hb dX5_ofSheet_11 rfl hl (by decide) rfl (fun ls hl => ?_)
  refine lv_iload_n hx hb dX5_ofSheet_12 rfl (lv_at hl 3 rfl) ?_
  refine lv_tableIn (tgt := 120) hx hb dX5_ofSheet_13 (by decide) (by decide) rfl (by decide) ?_
  refine lv_aload_n hx hb dX5_ofSheet_120 rfl (lv_at hl 1 rfl) ?_
  refine lv_iload_n hx hb dX5_ofSheet_121 rfl (lv_at hl 2 rfl) ?_
  refine pc_qcalli (va_runV (As := [.int x1]) (rest := []) ⟨hx, hb, hml, hown, hts⟩ (r_X5_clashesOf l D cA NL c v w u ad x1 hM hBd hF h1n h1) (cwV 1 hts gX5_ofSheet_X5_clashesOf rfl rfl rfl (by decide +kernel) ⟨Nat.le_of_ble_eq_true rfl, Nat.le_of_ble_eq_true rfl⟩) (pc_preV pcN_ok hX hW.1 hM.1 rfl rfl hW.1) rfl rfl hl.1 rfl (lv_room (Nat.le_of_ble_eq_true rfl)) dX5_ofSheet_122 ⟨Nat.le_of_ble_eq_true rfl, Nat.le_of_ble_eq_true rfl⟩) hW (fun r175 H locs hwr175 hW => ?_)
  replace hwr175 := hwr175.symm
  subst hwr175
  exact W.iret (v := (F_X5_clashesOf c v w x1)) hx hb hr (fun t ht hW9 => ⟨⟨(F_X5_clashesOf c v w x1), (), rfl, rfl, trivial⟩, hW.2.F ht⟩) hW.2.2.2 dX5_ofSheet_125

def F_X5_ofPack0 (c : SC) (v : SV) (w : SW) (x1 : Int32) : Int32 := (v 7 x1.toNatClampNeg 0)

set_option maxHeartbeats 4000000 in
set_option maxRecDepth 100000 in
theorem r_X5_ofPack0 (l : Launch) (D : va_G) (cA : Nat → ClassId) (NL : List (Nat × Nat)) (c : SC) (v : SV) (w : SW) (u : Nat → Int32) (ad : Nat → Nat → Nat) (x1 : Int32) (hM : MEM c NL) (hBd : BND c) (hF : WF c v) (h1n : ¬ x1 < 0) (h1 : x1.toNatClampNeg < c 4) : Met l yX5_ofPack wsX5_ofPack ({ frames := 1, cells := 0, slots := 0, locals := 21 }) (pcPre D vwCl (tyL cA) [.ref (ad 5 0), .int x1, .int 0] (fun H => va_P D vwCl (pcW NL ad (ctO cA c v w u ad)) H)) (va_Qi (fun (r : Int32) (_ : Unit) => r = F_X5_ofPack0 c v w x1) (fun _ _ => True) (fun _ => False)) 0 0 (fun _ => False) := by
  refine Met.ofW (cc := cX5_ofPack) (maxL := 4) (ret := (some .int)) (by decide) rfl ?_
  intro p e s m args below meth c0 s₁ B hml hv
  obtain ⟨rfl, hX, hP0⟩ := hv
  have hx := B.exec
  have hb := B.bytes
  have hr := B.returns
  have hts := atoms_spec (ws := wsX5_ofPack) B.pre
  have hown : s.vm.findClass RX5 = some m.cls := findClass_of_methodNamed B.named
  have hlocks := B.notSynchronized
  have hW : pcQ D vwCl (fun _ => False) s.heap NL ad (ctO cA c v w u ad) s.heap [] := ⟨hP0, va_S.rf⟩
  have hl := lv_entry ([.ref (ad 5 0), .int x1, .int 0]) (n := 4) (Nat.le_of_ble_eq_true rfl)
  rw [lg_entry_eq]
  generalize (lg_sl ([.ref (ad 5 0), .int x1, .int 0]) ++ List.replicate (4 - (lg_sl ([.ref (ad 5 0), .int x1, .int 0])).length) Slot.unset).toArray = ls at hl ⊢
  have hl : lv_has ls 4 [(0, .ref (ad 5 0)), (1, .int x1), (2, .int 0)] := hl
  refine lv_aload_n hx hb dX5_ofPack_0 rfl (lv_at hl 0 rfl) ?_
  refine lv_iload_n hx hb dX5_ofPack_1 rfl (lv_at hl 1 rfl) ?_
  refine pc_qcallv (va_runV (As := [.int x1]) (rest := []) ⟨hx, hb, hml, hown, hts⟩ (r_X5_requirePackage l D cA NL c v w u ad x1 hM hBd hF h1n h1) (cwV 1 hts gX5_ofPack_X5_requirePackage rfl rfl rfl (by decide +kernel) ⟨Nat.le_of_ble_eq_true rfl, Nat.le_of_ble_eq_true rfl⟩) (pc_preV pcN_ok hX hW.1 hM.1 rfl rfl hW.1) rfl rfl hl.1 rfl (lv_room (Nat.le_of_ble_eq_true rfl)) dX5_ofPack_2 ⟨Nat.le_of_ble_eq_true rfl, Nat.le_of_ble_eq_true rfl⟩) hW (fun H locs _ hW => ?_)
  refine lv_aload_n hx hb dX5_ofPack_5 rfl (lv_at hl 0 rfl) ?_
  refine pc_get (C := RX5) (T := TX5) (N := 13) (ci := 5) hx hb hts (by decide +kernel) hown hX.1 hW.1 5 0 hM.1 rfl rfl 4 (by decide) (hts (.fieldLink RX5 35 "DraftsmanOffice" "packages" "[LDraftsmanOffice$WorkPackage;") (by decide +kernel)) (fun _ h9 => h9) rfl dX5_ofPack_6 ?_
  refine lv_iload_n hx hb dX5_ofPack_9 rfl (lv_at hl 1 rfl) ?_
  refine pc_aald (r := .ref (ad 7 x1.toNatClampNeg)) hx hb hX.1 hW.1 54 0 7 (hM.2.1 54 (by decide) (by decide)) rfl rfl rfl (fun q => q.elim h1n (fun q => absurd (Nat.lt_of_lt_of_le h1 hBd.2.2.2.2) (Nat.not_lt.mpr q))) (by rw [sRf_in h1]; rfl) dX5_ofPack_10 ?_
  refine lv_astore_n (lv' := [(3, .ref (ad 7 x1.toNatClampNeg)), (0, .ref (ad 5 0)), (1, .int x1), (2, .int 0)]) hx hb dX5_ofPack_11 rfl hl (by decide) rfl (fun ls hl => ?_)
  refine lv_iload_n hx hb dX5_ofPack_12 rfl (lv_at hl 3 rfl) ?_
  refine lv_tableIn (tgt := 56) hx hb dX5_ofPack_13 (by decide) (by decide) rfl (by decide) ?_
  refine lv_aload_n hx hb dX5_ofPack_56 rfl (lv_at hl 0 rfl) ?_
  refine pc_getN (C := RX4) (T := TX4) (N := 6) (ci := 4) hx hb hts (by decide +kernel) hown hX.1 hW.1 7 x1.toNatClampNeg (hM.2.2.2.2.2.2.2 x1.toNatClampNeg h1) rfl rfl 0 (by decide) (hX.2.1 (.fieldLinkNest RX5 274 "DraftsmanOffice$WorkPackage" "crew" "I" R_host) (by decide +kernel)) (fun _ h9 => h9) rfl dX5_ofPack_57 ?_
  exact W.iret (v := (v 7 x1.toNatClampNeg 0)) hx hb hr (fun t ht hW9 => ⟨⟨(v 7 x1.toNatClampNeg 0), (), rfl, rfl, trivial⟩, hW.2.F ht⟩) hW.2.2.2 dX5_ofPack_60

def F_X5_ofPack1 (c : SC) (v : SV) (w : SW) (x1 : Int32) : Int32 := (v 7 x1.toNatClampNeg 1)

set_option maxHeartbeats 4000000 in
set_option maxRecDepth 100000 in
theorem r_X5_ofPack1 (l : Launch) (D : va_G) (cA : Nat → ClassId) (NL : List (Nat × Nat)) (c : SC) (v : SV) (w : SW) (u : Nat → Int32) (ad : Nat → Nat → Nat) (x1 : Int32) (hM : MEM c NL) (hBd : BND c) (hF : WF c v) (h1n : ¬ x1 < 0) (h1 : x1.toNatClampNeg < c 4) : Met l yX5_ofPack wsX5_ofPack ({ frames := 1, cells := 0, slots := 0, locals := 21 }) (pcPre D vwCl (tyL cA) [.ref (ad 5 0), .int x1, .int 1] (fun H => va_P D vwCl (pcW NL ad (ctO cA c v w u ad)) H)) (va_Qi (fun (r : Int32) (_ : Unit) => r = F_X5_ofPack1 c v w x1) (fun _ _ => True) (fun _ => False)) 0 0 (fun _ => False) := by
  refine Met.ofW (cc := cX5_ofPack) (maxL := 4) (ret := (some .int)) (by decide) rfl ?_
  intro p e s m args below meth c0 s₁ B hml hv
  obtain ⟨rfl, hX, hP0⟩ := hv
  have hx := B.exec
  have hb := B.bytes
  have hr := B.returns
  have hts := atoms_spec (ws := wsX5_ofPack) B.pre
  have hown : s.vm.findClass RX5 = some m.cls := findClass_of_methodNamed B.named
  have hlocks := B.notSynchronized
  have hW : pcQ D vwCl (fun _ => False) s.heap NL ad (ctO cA c v w u ad) s.heap [] := ⟨hP0, va_S.rf⟩
  have hl := lv_entry ([.ref (ad 5 0), .int x1, .int 1]) (n := 4) (Nat.le_of_ble_eq_true rfl)
  rw [lg_entry_eq]
  generalize (lg_sl ([.ref (ad 5 0), .int x1, .int 1]) ++ List.replicate (4 - (lg_sl ([.ref (ad 5 0), .int x1, .int 1])).length) Slot.unset).toArray = ls at hl ⊢
  have hl : lv_has ls 4 [(0, .ref (ad 5 0)), (1, .int x1), (2, .int 1)] := hl
  refine lv_aload_n hx hb dX5_ofPack_0 rfl (lv_at hl 0 rfl) ?_
  refine lv_iload_n hx hb dX5_ofPack_1 rfl (lv_at hl 1 rfl) ?_
  refine pc_qcallv (va_runV (As := [.int x1]) (rest := []) ⟨hx, hb, hml, hown, hts⟩ (r_X5_requirePackage l D cA NL c v w u ad x1 hM hBd hF h1n h1) (cwV 1 hts gX5_ofPack_X5_requirePackage rfl rfl rfl (by decide +kernel) ⟨Nat.le_of_ble_eq_true rfl, Nat.le_of_ble_eq_true rfl⟩) (pc_preV pcN_ok hX hW.1 hM.1 rfl rfl hW.1) rfl rfl hl.1 rfl (lv_room (Nat.le_of_ble_eq_true rfl)) dX5_ofPack_2 ⟨Nat.le_of_ble_eq_true rfl, Nat.le_of_ble_eq_true rfl⟩) hW (fun H locs _ hW => ?_)
  refine lv_aload_n hx hb dX5_ofPack_5 rfl (lv_at hl 0 rfl) ?_
  refine pc_get (C := RX5) (T := TX5) (N := 13) (ci := 5) hx hb hts (by decide +kernel) hown hX.1 hW.1 5 0 hM.1 rfl rfl 4 (by decide) (hts (.fieldLink RX5 35 "DraftsmanOffice" "packages" "[LDraftsmanOffice$WorkPackage;") (by decide +kernel)) (fun _ h9 => h9) rfl dX5_ofPack_6 ?_
  refine lv_iload_n hx hb dX5_ofPack_9 rfl (lv_at hl 1 rfl) ?_
  refine pc_aald (r := .ref (ad 7 x1.toNatClampNeg)) hx hb hX.1 hW.1 54 0 7 (hM.2.1 54 (by decide) (by decide)) rfl rfl rfl (fun q => q.elim h1n (fun q => absurd (Nat.lt_of_lt_of_le h1 hBd.2.2.2.2) (Nat.not_lt.mpr q))) (by rw [sRf_in h1]; rfl) dX5_ofPack_10 ?_
  refine lv_astore_n (lv' := [(3, .ref (ad 7 x1.toNatClampNeg)), (0, .ref (ad 5 0)), (1, .int x1), (2, .int 1)]) hx hb dX5_ofPack_11 rfl hl (by decide) rfl (fun ls hl => ?_)
  refine lv_iload_n hx hb dX5_ofPack_12 rfl (lv_at hl 3 rfl) ?_
  refine lv_tableIn (tgt := 61) hx hb dX5_ofPack_13 (by decide) (by decide) rfl (by decide) ?_
  refine lv_aload_n hx hb dX5_ofPack_61 rfl (lv_at hl 0 rfl) ?_
  refine pc_getN (C := RX4) (T := TX4) (N := 6) (ci := 4) hx hb hts (by decide +kernel) hown hX.1 hW.1 7 x1.toNatClampNeg (hM.2.2.2.2.2.2.2 x1.toNatClampNeg h1) rfl rfl 1 (by decide) (hX.2.1 (.fieldLinkNest RX5 289 "DraftsmanOffice$WorkPackage" "sheets" "I" R_host) (by decide +kernel)) (fun _ h9 => h9) rfl dX5_ofPack_62 ?_
  exact W.iret (v := (v 7 x1.toNatClampNeg 1)) hx hb hr (fun t ht hW9 => ⟨⟨(v 7 x1.toNatClampNeg 1), (), rfl, rfl, trivial⟩, hW.2.F ht⟩) hW.2.2.2 dX5_ofPack_65

def F_X5_ofPack2 (c : SC) (v : SV) (w : SW) (x1 : Int32) : Int32 := (v 7 x1.toNatClampNeg 3)

set_option maxHeartbeats 4000000 in
set_option maxRecDepth 100000 in
theorem r_X5_ofPack2 (l : Launch) (D : va_G) (cA : Nat → ClassId) (NL : List (Nat × Nat)) (c : SC) (v : SV) (w : SW) (u : Nat → Int32) (ad : Nat → Nat → Nat) (x1 : Int32) (hM : MEM c NL) (hBd : BND c) (hF : WF c v) (h1n : ¬ x1 < 0) (h1 : x1.toNatClampNeg < c 4) : Met l yX5_ofPack wsX5_ofPack ({ frames := 1, cells := 0, slots := 0, locals := 21 }) (pcPre D vwCl (tyL cA) [.ref (ad 5 0), .int x1, .int 2] (fun H => va_P D vwCl (pcW NL ad (ctO cA c v w u ad)) H)) (va_Qi (fun (r : Int32) (_ : Unit) => r = F_X5_ofPack2 c v w x1) (fun _ _ => True) (fun _ => False)) 0 0 (fun _ => False) := by
  refine Met.ofW (cc := cX5_ofPack) (maxL := 4) (ret := (some .int)) (by decide) rfl ?_
  intro p e s m args below meth c0 s₁ B hml hv
  obtain ⟨rfl, hX, hP0⟩ := hv
  have hx := B.exec
  have hb := B.bytes
  have hr := B.returns
  have hts := atoms_spec (ws := wsX5_ofPack) B.pre
  have hown : s.vm.findClass RX5 = some m.cls := findClass_of_methodNamed B.named
  have hlocks := B.notSynchronized
  have hW : pcQ D vwCl (fun _ => False) s.heap NL ad (ctO cA c v w u ad) s.heap [] := ⟨hP0, va_S.rf⟩
  have hl := lv_entry ([.ref (ad 5 0), .int x1, .int 2]) (n := 4) (Nat.le_of_ble_eq_true rfl)
  rw [lg_entry_eq]
  generalize (lg_sl ([.ref (ad 5 0), .int x1, .int 2]) ++ List.replicate (4 - (lg_sl ([.ref (ad 5 0), .int x1, .int 2])).length) Slot.unset).toArray = ls at hl ⊢
  have hl : lv_has ls 4 [(0, .ref (ad 5 0)), (1, .int x1), (2, .int 2)] := hl
  refine lv_aload_n hx hb dX5_ofPack_0 rfl (lv_at hl 0 rfl) ?_
  refine lv_iload_n hx hb dX5_ofPack_1 rfl (lv_at hl 1 rfl) ?_
  refine pc_qcallv (va_runV (As := [.int x1]) (rest := []) ⟨hx, hb, hml, hown, hts⟩ (r_X5_requirePackage l D cA NL c v w u ad x1 hM hBd hF h1n h1) (cwV 1 hts gX5_ofPack_X5_requirePackage rfl rfl rfl (by decide +kernel) ⟨Nat.le_of_ble_eq_true rfl, Nat.le_of_ble_eq_true rfl⟩) (pc_preV pcN_ok hX hW.1 hM.1 rfl rfl hW.1) rfl rfl hl.1 rfl (lv_room (Nat.le_of_ble_eq_true rfl)) dX5_ofPack_2 ⟨Nat.le_of_ble_eq_true rfl, Nat.le_of_ble_eq_true rfl⟩) hW (fun H locs _ hW => ?_)
  refine lv_aload_n hx hb dX5_ofPack_5 rfl (lv_at hl 0 rfl) ?_
  refine pc_get (C := RX5) (T := TX5) (N := 13) (ci := 5) hx hb hts (by decide +kernel) hown hX.1 hW.1 5 0 hM.1 rfl rfl 4 (by decide) (hts (.fieldLink RX5 35 "DraftsmanOffice" "packages" "[LDraftsmanOffice$WorkPackage;") (by decide +kernel)) (fun _ h9 => h9) rfl dX5_ofPack_6 ?_
  refine lv_iload_n hx hb dX5_ofPack_9 rfl (lv_at hl 1 rfl) ?_
  refine pc_aald (r := .ref (ad 7 x1.toNatClampNeg)) hx hb hX.1 hW.1 54 0 7 (hM.2.1 54 (by decide) (by decide)) rfl rfl rfl (fun q => q.elim h1n (fun q => absurd (Nat.lt_of_lt_of_le h1 hBd.2.2.2.2) (Nat.not_lt.mpr q))) (by rw [sRf_in h1]; rfl) dX5_ofPack_10 ?_
  refine lv_astore_n (lv' := [(3, .ref (ad 7 x1.toNatClampNeg)), (0, .ref (ad 5 0)), (1, .int x1), (2, .int 2)]) hx hb dX5_ofPack_11 rfl hl (by decide) rfl (fun ls hl => ?_)
  refine lv_iload_n hx hb dX5_ofPack_12 rfl (lv_at hl 3 rfl) ?_
  refine lv_tableIn (tgt := 66) hx hb dX5_ofPack_13 (by decide) (by decide) rfl (by decide) ?_
  refine lv_aload_n hx hb dX5_ofPack_66 rfl (lv_at hl 0 rfl) ?_
  refine pc_getN (C := RX4) (T := TX4) (N := 6) (ci := 4) hx hb hts (by decide +kernel) hown hX.1 hW.1 7 x1.toNatClampNeg (hM.2.2.2.2.2.2.2 x1.toNatClampNeg h1) rfl rfl 4 (by decide) (hX.2.1 (.fieldLinkNest RX5 264 "DraftsmanOffice$WorkPackage" "state" "I" R_host) (by decide +kernel)) (fun _ h9 => h9) rfl dX5_ofPack_67 ?_
  exact W.iret (v := (v 7 x1.toNatClampNeg 3)) hx hb hr (fun t ht hW9 => ⟨⟨(v 7 x1.toNatClampNeg 3), (), rfl, rfl, trivial⟩, hW.2.F ht⟩) hW.2.2.2 dX5_ofPack_70

def F_X5_ofPack3 (c : SC) (v : SV) (w : SW) (x1 : Int32) : Int32 := (v 7 x1.toNatClampNeg 2)

set_option maxHeartbeats 4000000 in
set_option maxRecDepth 100000 in
theorem r_X5_ofPack3 (l : Launch) (D : va_G) (cA : Nat → ClassId) (NL : List (Nat × Nat)) (c : SC) (v : SV) (w : SW) (u : Nat → Int32) (ad : Nat → Nat → Nat) (x1 : Int32) (hM : MEM c NL) (hBd : BND c) (hF : WF c v) (h1n : ¬ x1 < 0) (h1 : x1.toNatClampNeg < c 4) : Met l yX5_ofPack wsX5_ofPack ({ frames := 1, cells := 0, slots := 0, locals := 21 }) (pcPre D vwCl (tyL cA) [.ref (ad 5 0), .int x1, .int 3] (fun H => va_P D vwCl (pcW NL ad (ctO cA c v w u ad)) H)) (va_Qi (fun (r : Int32) (_ : Unit) => r = F_X5_ofPack3 c v w x1) (fun _ _ => True) (fun _ => False)) 0 0 (fun _ => False) := by
  refine Met.ofW (cc := cX5_ofPack) (maxL := 4) (ret := (some .int)) (by decide) rfl ?_
  intro p e s m args below meth c0 s₁ B hml hv
  obtain ⟨rfl, hX, hP0⟩ := hv
  have hx := B.exec
  have hb := B.bytes
  have hr := B.returns
  have hts := atoms_spec (ws := wsX5_ofPack) B.pre
  have hown : s.vm.findClass RX5 = some m.cls := findClass_of_methodNamed B.named
  have hlocks := B.notSynchronized
  have hW : pcQ D vwCl (fun _ => False) s.heap NL ad (ctO cA c v w u ad) s.heap [] := ⟨hP0, va_S.rf⟩
  have hl := lv_entry ([.ref (ad 5 0), .int x1, .int 3]) (n := 4) (Nat.le_of_ble_eq_true rfl)
  rw [lg_entry_eq]
  generalize (lg_sl ([.ref (ad 5 0), .int x1, .int 3]) ++ List.replicate (4 - (lg_sl ([.ref (ad 5 0), .int x1, .int 3])).length) Slot.unset).toArray = ls at hl ⊢
  have hl : lv_has ls 4 [(0, .ref (ad 5 0)), (1, .int x1), (2, .int 3)] := hl
  refine lv_aload_n hx hb dX5_ofPack_0 rfl (lv_at hl 0 rfl) ?_
  refine lv_iload_n hx hb dX5_ofPack_1 rfl (lv_at hl 1 rfl) ?_
  refine pc_qcallv (va_runV (As := [.int x1]) (rest := []) ⟨hx, hb, hml, hown, hts⟩ (r_X5_requirePackage l D cA NL c v w u ad x1 hM hBd hF h1n h1) (cwV 1 hts gX5_ofPack_X5_requirePackage rfl rfl rfl (by decide +kernel) ⟨Nat.le_of_ble_eq_true rfl, Nat.le_of_ble_eq_true rfl⟩) (pc_preV pcN_ok hX hW.1 hM.1 rfl rfl hW.1) rfl rfl hl.1 rfl (lv_room (Nat.le_of_ble_eq_true rfl)) dX5_ofPack_2 ⟨Nat.le_of_ble_eq_true rfl, Nat.le_of_ble_eq_true rfl⟩) hW (fun H locs _ hW => ?_)
  refine lv_aload_n hx hb dX5_ofPack_5 rfl (lv_at hl 0 rfl) ?_
  refine pc_get (C := RX5) (T := TX5) (N := 13) (ci := 5) hx hb hts (by decide +kernel) hown hX.1 hW.1 5 0 hM.1 rfl rfl 4 (by decide) (hts (.fieldLink RX5 35 "DraftsmanOffice" "packages" "[LDraftsmanOffice$WorkPackage;") (by decide +kernel)) (fun _ h9 => h9) rfl dX5_ofPack_6 ?_
  refine lv_iload_n hx hb dX5_ofPack_9 rfl (lv_at hl 1 rfl) ?_
  refine pc_aald (r := .ref (ad 7 x1.toNatClampNeg)) hx hb hX.1 hW.1 54 0 7 (hM.2.1 54 (by decide) (by decide)) rfl rfl rfl (fun q => q.elim h1n (fun q => absurd (Nat.lt_of_lt_of_le h1 hBd.2.2.2.2) (Nat.not_lt.mpr q))) (by rw [sRf_in h1]; rfl) dX5_ofPack_10 ?_
  refine lv_astore_n (lv' := [(3, .ref (ad 7 x1.toNatClampNeg)), (0, .ref (ad 5 0)), (1, .int x1), (2, .int 3)]) hx hb dX5_ofPack_11 rfl hl (by decide) rfl (fun ls hl => ?_)
  refine lv_iload_n hx hb dX5_ofPack_12 rfl (lv_at hl 3 rfl) ?_
  refine lv_tableIn (tgt := 71) hx hb dX5_ofPack_13 (by decide) (by decide) rfl (by decide) ?_
  refine lv_aload_n hx hb dX5_ofPack_71 rfl (lv_at hl 0 rfl) ?_
  refine pc_getN (C := RX4) (T := TX4) (N := 6) (ci := 4) hx hb hts (by decide +kernel) hown hX.1 hW.1 7 x1.toNatClampNeg (hM.2.2.2.2.2.2.2 x1.toNatClampNeg h1) rfl rfl 2 (by decide) (hX.2.1 (.fieldLinkNest RX5 283 "DraftsmanOffice$WorkPackage" "daysLeft" "I" R_host) (by decide +kernel)) (fun _ h9 => h9) rfl dX5_ofPack_72 ?_
  exact W.iret (v := (v 7 x1.toNatClampNeg 2)) hx hb hr (fun t ht hW9 => ⟨⟨(v 7 x1.toNatClampNeg 2), (), rfl, rfl, trivial⟩, hW.2.F ht⟩) hW.2.2.2 dX5_ofPack_75

def F_X5_ofPack4 (c : SC) (v : SV) (w : SW) (x1 : Int32) : Int32 := (F_X5_firstUnfit c v w x1.toNatClampNeg (v 57 ((v 7 x1.toNatClampNeg 0).toNatClampNeg)))

set_option maxHeartbeats 4000000 in
set_option maxRecDepth 100000 in
theorem r_X5_ofPack4 (l : Launch) (D : va_G) (cA : Nat → ClassId) (NL : List (Nat × Nat)) (c : SC) (v : SV) (w : SW) (u : Nat → Int32) (ad : Nat → Nat → Nat) (x1 : Int32) (hM : MEM c NL) (hBd : BND c) (hF : WF c v) (h1n : ¬ x1 < 0) (h1 : x1.toNatClampNeg < c 4) : Met l yX5_ofPack wsX5_ofPack ({ frames := 5, cells := 0, slots := 0, locals := 118 }) (pcPre D vwCl (tyL cA) [.ref (ad 5 0), .int x1, .int 4] (fun H => va_P D vwCl (pcW NL ad (ctO cA c v w u ad)) H)) (va_Qi (fun (r : Int32) (_ : Unit) => r = F_X5_ofPack4 c v w x1) (fun _ _ => True) (fun _ => False)) 0 0 (fun _ => False) := by
  refine Met.ofW (cc := cX5_ofPack) (maxL := 4) (ret := (some .int)) (by decide) rfl ?_
  intro p e s m args below meth c0 s₁ B hml hv
  obtain ⟨rfl, hX, hP0⟩ := hv
  have hx := B.exec
  have hb := B.bytes
  have hr := B.returns
  have hts := atoms_spec (ws := wsX5_ofPack) B.pre
  have hown : s.vm.findClass RX5 = some m.cls := findClass_of_methodNamed B.named
  have hlocks := B.notSynchronized
  have hW : pcQ D vwCl (fun _ => False) s.heap NL ad (ctO cA c v w u ad) s.heap [] := ⟨hP0, va_S.rf⟩
  have hl := lv_entry ([.ref (ad 5 0), .int x1, .int 4]) (n := 4) (Nat.le_of_ble_eq_true rfl)
  rw [lg_entry_eq]
  generalize (lg_sl ([.ref (ad 5 0), .int x1, .int 4]) ++ List.replicate (4 - (lg_sl ([.ref (ad 5 0), .int x1, .int 4])).length) Slot.unset).toArray = ls at hl ⊢
  have hl : lv_has ls 4 [(0, .ref (ad 5 0)), (1, .int x1), (2, .int 4)] := hl
  refine lv_aload_n hx hb dX5_ofPack_0 rfl (lv_at hl 0 rfl) ?_
  refine lv_iload_n hx hb dX5_ofPack_1 rfl (lv_at hl 1 rfl) ?_
  refine pc_qcallv (va_runV (As := [.int x1]) (rest := []) ⟨hx, hb, hml, hown, hts⟩ (r_X5_requirePackage l D cA NL c v w u ad x1 hM hBd hF h1n h1) (cwV 1 hts gX5_ofPack_X5_requirePackage rfl rfl rfl (by decide +kernel) ⟨Nat.le_of_ble_eq_true rfl, Nat.le_of_ble_eq_true rfl⟩) (pc_preV pcN_ok hX hW.1 hM.1 rfl rfl hW.1) rfl rfl hl.1 rfl (lv_room (Nat.le_of_ble_eq_true rfl)) dX5_ofPack_2 ⟨Nat.le_of_ble_eq_true rfl, Nat.le_of_ble_eq_true rfl⟩) hW (fun H locs _ hW => ?_)
  refine lv_aload_n hx hb dX5_ofPack_5 rfl (lv_at hl 0 rfl) ?_
  refine pc_get (C := RX5) (T := TX5) (N := 13) (ci := 5) hx hb hts (by decide +kernel) hown hX.1 hW.1 5 0 hM.1 rfl rfl 4 (by decide) (hts (.fieldLink RX5 35 "DraftsmanOffice" "packages" "[LDraftsmanOffice$WorkPackage;") (by decide +kernel)) (fun _ h9 => h9) rfl dX5_ofPack_6 ?_
  refine lv_iload_n hx hb dX5_ofPack_9 rfl (lv_at hl 1 rfl) ?_
  refine pc_aald (r := .ref (ad 7 x1.toNatClampNeg)) hx hb hX.1 hW.1 54 0 7 (hM.2.1 54 (by decide) (by decide)) rfl rfl rfl (fun q => q.elim h1n (fun q => absurd (Nat.lt_of_lt_of_le h1 hBd.2.2.2.2) (Nat.not_lt.mpr q))) (by rw [sRf_in h1]; rfl) dX5_ofPack_10 ?_
  refine lv_astore_n (lv' := [(3, .ref (ad 7 x1.toNatClampNeg)), (0, .ref (ad 5 0)), (1, .int x1), (2, .int 4)]) hx hb dX5_ofPack_11 rfl hl (by decide) rfl (fun ls hl => ?_)
  refine lv_iload_n hx hb dX5_ofPack_12 rfl (lv_at hl 3 rfl) ?_
  refine lv_tableIn (tgt := 76) hx hb dX5_ofPack_13 (by decide) (by decide) rfl (by decide) ?_
  refine lv_aload_n hx hb dX5_ofPack_76 rfl (lv_at hl 1 rfl) ?_
  refine lv_aload_n hx hb dX5_ofPack_77 rfl (lv_at hl 0 rfl) ?_
  refine lv_aload_n hx hb dX5_ofPack_78 rfl (lv_at hl 1 rfl) ?_
  refine pc_get (C := RX5) (T := TX5) (N := 13) (ci := 5) hx hb hts (by decide +kernel) hown hX.1 hW.1 5 0 hM.1 rfl rfl 5 (by decide) (hts (.fieldLink RX5 41 "DraftsmanOffice" "crewHas" "[[I") (by decide +kernel)) (fun _ h9 => h9) rfl dX5_ofPack_79 ?_
  refine lv_aload_n hx hb dX5_ofPack_82 rfl (lv_at hl 0 rfl) ?_
  refine pc_getN (C := RX4) (T := TX4) (N := 6) (ci := 4) hx hb hts (by decide +kernel) hown hX.1 hW.1 7 x1.toNatClampNeg (hM.2.2.2.2.2.2.2 x1.toNatClampNeg h1) rfl rfl 0 (by decide) (hX.2.1 (.fieldLinkNest RX5 274 "DraftsmanOffice$WorkPackage" "crew" "I" R_host) (by decide +kernel)) (fun _ h9 => h9) rfl dX5_ofPack_83 ?_
  refine pc_aald (r := .ref (ad 57 ((v 7 x1.toNatClampNeg 0).toNatClampNeg))) hx hb hX.1 hW.1 55 0 2 (hM.2.1 55 (by decide) (by decide)) rfl rfl rfl (fun q => q.elim (hF.2.1 x1.toNatClampNeg h1).1 (fun q => absurd (hF.2.1 x1.toNatClampNeg h1).2 (Nat.not_lt.mpr q))) (by rw [sRf_in (hF.2.1 x1.toNatClampNeg h1).2]; rfl) dX5_ofPack_86 ?_
  refine pc_qcalli (va_runV (As := [.ref (ad 7 x1.toNatClampNeg), .ref (ad 57 ((v 7 x1.toNatClampNeg 0).toNatClampNeg))]) (rest := []) ⟨hx, hb, hml, hown, hts⟩ (r_X5_firstUnfit l D cA NL c v w u ad x1.toNatClampNeg 57 ((v 7 x1.toNatClampNeg 0).toNatClampNeg) (v 57 ((v 7 x1.toNatClampNeg 0).toNatClampNeg)) hM hBd hF h1 (hM.2.2.1 ((v 7 x1.toNatClampNeg 0).toNatClampNeg) (hF.2.1 x1.toNatClampNeg h1).2) rfl) (cwV 2 hts gX5_ofPack_X5_firstUnfit rfl rfl rfl (by decide +kernel) ⟨Nat.le_of_ble_eq_true rfl, Nat.le_of_ble_eq_true rfl⟩) (pc_preV pcN_ok hX hW.1 hM.1 rfl rfl hW.1) rfl rfl hl.1 rfl (lv_room (Nat.le_of_ble_eq_true rfl)) dX5_ofPack_87 ⟨Nat.le_of_ble_eq_true rfl, Nat.le_of_ble_eq_true rfl⟩) hW (fun r181 H locs hwr181 hW => ?_)
  replace hwr181 := hwr181.symm
  subst hwr181
  exact W.iret (v := (F_X5_firstUnfit c v w x1.toNatClampNeg (v 57 ((v 7 x1.toNatClampNeg 0).toNatClampNeg)))) hx hb hr (fun t ht hW9 => ⟨⟨(F_X5_firstUnfit c v w x1.toNatClampNeg (v 57 ((v 7 x1.toNatClampNeg 0).toNatClampNeg))), (), rfl, rfl, trivial⟩, hW.2.F ht⟩) hW.2.2.2 dX5_ofPack_90

def F_X5_ofPack5 (c : SC) (v : SV) (w : SW) (x1 : Int32) : Int32 := (F_X5_wrongWithFirst c v w x1.toNatClampNeg)

set_option maxHeartbeats 4000000 in
set_option maxRecDepth 100000 in
theorem r_X5_ofPack5 (l : Launch) (D : va_G) (cA : Nat → ClassId) (NL : List (Nat × Nat)) (c : SC) (v : SV) (w : SW) (u : Nat → Int32) (ad : Nat → Nat → Nat) (x1 : Int32) (hM : MEM c NL) (hBd : BND c) (hF : WF c v) (h1n : ¬ x1 < 0) (h1 : x1.toNatClampNeg < c 4) : Met l yX5_ofPack wsX5_ofPack ({ frames := 6, cells := 0, slots := 0, locals := 141 }) (pcPre D vwCl (tyL cA) [.ref (ad 5 0), .int x1, .int 5] (fun H => va_P D vwCl (pcW NL ad (ctO cA c v w u ad)) H)) (va_Qi (fun (r : Int32) (_ : Unit) => r = F_X5_ofPack5 c v w x1) (fun _ _ => True) (fun _ => False)) 0 0 (fun _ => False) := by
  refine Met.ofW (cc := cX5_ofPack) (maxL := 4) (ret := (some .int)) (by decide) rfl ?_
  intro p e s m args below meth c0 s₁ B hml hv
  obtain ⟨rfl, hX, hP0⟩ := hv
  have hx := B.exec
  have hb := B.bytes
  have hr := B.returns
  have hts := atoms_spec (ws := wsX5_ofPack) B.pre
  have hown : s.vm.findClass RX5 = some m.cls := findClass_of_methodNamed B.named
  have hlocks := B.notSynchronized
  have hW : pcQ D vwCl (fun _ => False) s.heap NL ad (ctO cA c v w u ad) s.heap [] := ⟨hP0, va_S.rf⟩
  have hl := lv_entry ([.ref (ad 5 0), .int x1, .int 5]) (n := 4) (Nat.le_of_ble_eq_true rfl)
  rw [lg_entry_eq]
  generalize (lg_sl ([.ref (ad 5 0), .int x1, .int 5]) ++ List.replicate (4 - (lg_sl ([.ref (ad 5 0), .int x1, .int 5])).length) Slot.unset).toArray = ls at hl ⊢
  have hl : lv_has ls 4 [(0, .ref (ad 5 0)), (1, .int x1), (2, .int 5)] := hl
  refine lv_aload_n hx hb dX5_ofPack_0 rfl (lv_at hl 0 rfl) ?_
  refine lv_iload_n hx hb dX5_ofPack_1 rfl (lv_at hl 1 rfl) ?_
  refine pc_qcallv (va_runV (As := [.int x1]) (rest := []) ⟨hx, hb, hml, hown, hts⟩ (r_X5_requirePackage l D cA NL c v w u ad x1 hM hBd hF h1n h1) (cwV 1 hts gX5_ofPack_X5_requirePackage rfl rfl rfl (by decide +kernel) ⟨Nat.le_of_ble_eq_true rfl, Nat.le_of_ble_eq_true rfl⟩) (pc_preV pcN_ok hX hW.1 hM.1 rfl rfl hW.1) rfl rfl hl.1 rfl (lv_room (Nat.le_of_ble_eq_true rfl)) dX5_ofPack_2 ⟨Nat.le_of_ble_eq_true rfl, Nat.le_of_ble_eq_true rfl⟩) hW (fun H locs _ hW => ?_)
  refine lv_aload_n hx hb dX5_ofPack_5 rfl (lv_at hl 0 rfl) ?_
  refine pc_get (C := RX5) (T := TX5) (N := 13) (ci := 5) hx hb hts (by decide +kernel) hown hX.1 hW.1 5 0 hM.1 rfl rfl 4 (by decide) (hts (.fieldLink RX5 35 "DraftsmanOffice" "packages" "[LDraftsmanOffice$WorkPackage;") (by decide +kernel)) (fun _ h9 => h9) rfl dX5_ofPack_6 ?_
  refine lv_iload_n hx hb dX5_ofPack_9 rfl (lv_at hl 1 rfl) ?_
  refine pc_aald (r := .ref (ad 7 x1.toNatClampNeg)) hx hb hX.1 hW.1 54 0 7 (hM.2.1 54 (by decide) (by decide)) rfl rfl rfl (fun q => q.elim h1n (fun q => absurd (Nat.lt_of_lt_of_le h1 hBd.2.2.2.2) (Nat.not_lt.mpr q))) (by rw [sRf_in h1]; rfl) dX5_ofPack_10 ?_
  refine lv_astore_n (lv' := [(3, .ref (ad 7 x1.toNatClampNeg)), (0, .ref (ad 5 0)), (1, .int x1), (2, .int 5)]) hx hb dX5_ofPack_11 rfl hl (by decide) rfl (fun ls hl => ?_)
  refine lv_iload_n hx hb dX5_ofPack_12 rfl (lv_at hl 3 rfl) ?_
  refine lv_tableIn (tgt := 91) hx hb dX5_ofPack_13 (by decide) (by decide) rfl (by decide) ?_
  refine lv_aload_n hx hb dX5_ofPack_91 rfl (lv_at hl 1 rfl) ?_
  refine lv_aload_n hx hb dX5_ofPack_92 rfl (lv_at hl 0 rfl) ?_
  refine pc_qcalli (va_runV (As := [.ref (ad 7 x1.toNatClampNeg)]) (rest := []) ⟨hx, hb, hml, hown, hts⟩ (r_X5_wrongWithFirst l D cA NL c v w u ad x1.toNatClampNeg hM hBd hF h1) (cwV 1 hts gX5_ofPack_X5_wrongWithFirst rfl rfl rfl (by decide +kernel) ⟨Nat.le_of_ble_eq_true rfl, Nat.le_of_ble_eq_true rfl⟩) (pc_preV pcN_ok hX hW.1 hM.1 rfl rfl hW.1) rfl rfl hl.1 rfl (lv_room (Nat.le_of_ble_eq_true rfl)) dX5_ofPack_93 ⟨Nat.le_of_ble_eq_true rfl, Nat.le_of_ble_eq_true rfl⟩) hW (fun r183 H locs hwr183 hW => ?_)
  replace hwr183 := hwr183.symm
  subst hwr183
  exact W.iret (v := (F_X5_wrongWithFirst c v w x1.toNatClampNeg)) hx hb hr (fun t ht hW9 => ⟨⟨(F_X5_wrongWithFirst c v w x1.toNatClampNeg), (), rfl, rfl, trivial⟩, hW.2.F ht⟩) hW.2.2.2 dX5_ofPack_96

def F_X5_ofPack6 (c : SC) (v : SV) (w : SW) (x1 : Int32) : Int32 := (v 7 x1.toNatClampNeg 4)

set_option maxHeartbeats 4000000 in
set_option maxRecDepth 100000 in
theorem r_X5_ofPack6 (l : Launch) (D : va_G) (cA : Nat → ClassId) (NL : List (Nat × Nat)) (c : SC) (v : SV) (w : SW) (u : Nat → Int32) (ad : Nat → Nat → Nat) (x1 : Int32) (hM : MEM c NL) (hBd : BND c) (hF : WF c v) (h1n : ¬ x1 < 0) (h1 : x1.toNatClampNeg < c 4) : Met l yX5_ofPack wsX5_ofPack ({ frames := 1, cells := 0, slots := 0, locals := 21 }) (pcPre D vwCl (tyL cA) [.ref (ad 5 0), .int x1, .int 6] (fun H => va_P D vwCl (pcW NL ad (ctO cA c v w u ad)) H)) (va_Qi (fun (r : Int32) (_ : Unit) => r = F_X5_ofPack6 c v w x1) (fun _ _ => True) (fun _ => False)) 0 0 (fun _ => False) := by
  refine Met.ofW (cc := cX5_ofPack) (maxL := 4) (ret := (some .int)) (by decide) rfl ?_
  intro p e s m args below meth c0 s₁ B hml hv
  obtain ⟨rfl, hX, hP0⟩ := hv
  have hx := B.exec
  have hb := B.bytes
  have hr := B.returns
  have hts := atoms_spec (ws := wsX5_ofPack) B.pre
  have hown : s.vm.findClass RX5 = some m.cls := findClass_of_methodNamed B.named
  have hlocks := B.notSynchronized
  have hW : pcQ D vwCl (fun _ => False) s.heap NL ad (ctO cA c v w u ad) s.heap [] := ⟨hP0, va_S.rf⟩
  have hl := lv_entry ([.ref (ad 5 0), .int x1, .int 6]) (n := 4) (Nat.le_of_ble_eq_true rfl)
  rw [lg_entry_eq]
  generalize (lg_sl ([.ref (ad 5 0), .int x1, .int 6]) ++ List.replicate (4 - (lg_sl ([.ref (ad 5 0), .int x1, .int 6])).length) Slot.unset).toArray = ls at hl ⊢
  have hl : lv_has ls 4 [(0, .ref (ad 5 0)), (1, .int x1), (2, .int 6)] := hl
  refine lv_aload_n hx hb dX5_ofPack_0 rfl (lv_at hl 0 rfl) ?_
  refine lv_iload_n hx hb dX5_ofPack_1 rfl (lv_at hl 1 rfl) ?_
  refine pc_qcallv (va_runV (As := [.int x1]) (rest := []) ⟨hx, hb, hml, hown, hts⟩ (r_X5_requirePackage l D cA NL c v w u ad x1 hM hBd hF h1n h1) (cwV 1 hts gX5_ofPack_X5_requirePackage rfl rfl rfl (by decide +kernel) ⟨Nat.le_of_ble_eq_true rfl, Nat.le_of_ble_eq_true rfl⟩) (pc_preV pcN_ok hX hW.1 hM.1 rfl rfl hW.1) rfl rfl hl.1 rfl (lv_room (Nat.le_of_ble_eq_true rfl)) dX5_ofPack_2 ⟨Nat.le_of_ble_eq_true rfl, Nat.le_of_ble_eq_true rfl⟩) hW (fun H locs _ hW => ?_)
  refine lv_aload_n hx hb dX5_ofPack_5 rfl (lv_at hl 0 rfl) ?_
  refine pc_get (C := RX5) (T := TX5) (N := 13) (ci := 5) hx hb hts (by decide +kernel) hown hX.1 hW.1 5 0 hM.1 rfl rfl 4 (by decide) (hts (.fieldLink RX5 35 "DraftsmanOffice" "packages" "[LDraftsmanOffice$WorkPackage;") (by decide +kernel)) (fun _ h9 => h9) rfl dX5_ofPack_6 ?_
  refine lv_iload_n hx hb dX5_ofPack_9 rfl (lv_at hl 1 rfl) ?_
  refine pc_aald (r := .ref (ad 7 x1.toNatClampNeg)) hx hb hX.1 hW.1 54 0 7 (hM.2.1 54 (by decide) (by decide)) rfl rfl rfl (fun q => q.elim h1n (fun q => absurd (Nat.lt_of_lt_of_le h1 hBd.2.2.2.2) (Nat.not_lt.mpr q))) (by rw [sRf_in h1]; rfl) dX5_ofPack_10 ?_
  refine lv_astore_n (lv' := [(3, .ref (ad 7 x1.toNatClampNeg)), (0, .ref (ad 5 0)), (1, .int x1), (2, .int 6)]) hx hb dX5_ofPack_11 rfl hl (by decide) rfl (fun ls hl => ?_)
  refine lv_iload_n hx hb dX5_ofPack_12 rfl (lv_at hl 3 rfl) ?_
  refine lv_tableIn (tgt := 97) hx hb dX5_ofPack_13 (by decide) (by decide) rfl (by decide) ?_
  refine lv_aload_n hx hb dX5_ofPack_97 rfl (lv_at hl 0 rfl) ?_
  refine pc_getN (C := RX4) (T := TX4) (N := 6) (ci := 4) hx hb hts (by decide +kernel) hown hX.1 hW.1 7 x1.toNatClampNeg (hM.2.2.2.2.2.2.2 x1.toNatClampNeg h1) rfl rfl 5 (by decide) (hX.2.1 (.fieldLinkNest RX5 298 "DraftsmanOffice$WorkPackage" "stops" "I" R_host) (by decide +kernel)) (fun _ h9 => h9) rfl dX5_ofPack_98 ?_
  exact W.iret (v := (v 7 x1.toNatClampNeg 4)) hx hb hr (fun t ht hW9 => ⟨⟨(v 7 x1.toNatClampNeg 4), (), rfl, rfl, trivial⟩, hW.2.F ht⟩) hW.2.2.2 dX5_ofPack_101

def F_X5_many0 (c : SC) (v : SV) (w : SW)  : Int32 := (nI (c 0))

set_option maxHeartbeats 4000000 in
set_option maxRecDepth 100000 in
theorem r_X5_many0 (l : Launch) (D : va_G) (cA : Nat → ClassId) (NL : List (Nat × Nat)) (c : SC) (v : SV) (w : SW) (u : Nat → Int32) (ad : Nat → Nat → Nat)  (hM : MEM c NL) (hBd : BND c) (hF : WF c v) : Met l yX5_many wsX5_many ({ frames := 0, cells := 0, slots := 0, locals := 0 }) (pcPre D vwCl (tyL cA) [.ref (ad 5 0), .int 0] (fun H => va_P D vwCl (pcW NL ad (ctO cA c v w u ad)) H)) (va_Qi (fun (r : Int32) (_ : Unit) => r = F_X5_many0 c v w) (fun _ _ => True) (fun _ => False)) 0 0 (fun _ => False) := by
  refine Met.ofW (cc := cX5_many) (maxL := 2) (ret := (some .int)) (by decide) rfl ?_
  intro p e s m args below meth c0 s₁ B hml hv
  obtain ⟨rfl, hX, hP0⟩ := hv
  have hx := B.exec
  have hb := B.bytes
  have hr := B.returns
  have hts := atoms_spec (ws := wsX5_many) B.pre
  have hown : s.vm.findClass RX5 = some m.cls := findClass_of_methodNamed B.named
  have hlocks := B.notSynchronized
  have hW : pcQ D vwCl (fun _ => False) s.heap NL ad (ctO cA c v w u ad) s.heap [] := ⟨hP0, va_S.rf⟩
  have hl := lv_entry ([.ref (ad 5 0), .int 0]) (n := 2) (Nat.le_of_ble_eq_true rfl)
  rw [lg_entry_eq]
  generalize (lg_sl ([.ref (ad 5 0), .int 0]) ++ List.replicate (2 - (lg_sl ([.ref (ad 5 0), .int 0])).length) Slot.unset).toArray = ls at hl ⊢
  have hl : lv_has ls 2 [(0, .ref (ad 5 0)), (1, .int 0)] := hl
  refine lv_iload_n hx hb dX5_many_0 rfl (lv_at hl 1 rfl) ?_
  refine lv_tableIn (tgt := 68) hx hb dX5_many_1 (by decide) (by decide) rfl (by decide) ?_
  refine lv_aload_n hx hb dX5_many_68 rfl (lv_at hl 0 rfl) ?_
  refine pc_get (C := RX5) (T := TX5) (N := 13) (ci := 5) hx hb hts (by decide +kernel) hown hX.1 hW.1 5 0 hM.1 rfl rfl 7 (by decide) (hts (.fieldLink RX5 48 "DraftsmanOffice" "sheetCount" "I") (by decide +kernel)) (fun _ h9 => h9) rfl dX5_many_69 ?_
  exact W.iret (v := (nI (c 0))) hx hb hr (fun t ht hW9 => ⟨⟨(nI (c 0)), (), rfl, rfl, trivial⟩, hW.2.F ht⟩) hW.2.2.2 dX5_many_72

def F_X5_many1 (c : SC) (v : SV) (w : SW)  : Int32 := (nI (c 1))

set_option maxHeartbeats 4000000 in
set_option maxRecDepth 100000 in
theorem r_X5_many1 (l : Launch) (D : va_G) (cA : Nat → ClassId) (NL : List (Nat × Nat)) (c : SC) (v : SV) (w : SW) (u : Nat → Int32) (ad : Nat → Nat → Nat)  (hM : MEM c NL) (hBd : BND c) (hF : WF c v) : Met l yX5_many wsX5_many ({ frames := 0, cells := 0, slots := 0, locals := 0 }) (pcPre D vwCl (tyL cA) [.ref (ad 5 0), .int 1] (fun H => va_P D vwCl (pcW NL ad (ctO cA c v w u ad)) H)) (va_Qi (fun (r : Int32) (_ : Unit) => r = F_X5_many1 c v w) (fun _ _ => True) (fun _ => False)) 0 0 (fun _ => False) := by
  refine Met.ofW (cc := cX5_many) (maxL := 2) (ret := (some .int)) (by decide) rfl ?_
  intro p e s m args below meth c0 s₁ B hml hv
  obtain ⟨rfl, hX, hP0⟩ := hv
  have hx := B.exec
  have hb := B.bytes
  have hr := B.returns
  have hts := atoms_spec (ws := wsX5_many) B.pre
  have hown : s.vm.findClass RX5 = some m.cls := findClass_of_methodNamed B.named
  have hlocks := B.notSynchronized
  have hW : pcQ D vwCl (fun _ => False) s.heap NL ad (ctO cA c v w u ad) s.heap [] := ⟨hP0, va_S.rf⟩
  have hl := lv_entry ([.ref (ad 5 0), .int 1]) (n := 2) (Nat.le_of_ble_eq_true rfl)
  rw [lg_entry_eq]
  generalize (lg_sl ([.ref (ad 5 0), .int 1]) ++ List.replicate (2 - (lg_sl ([.ref (ad 5 0), .int 1])).length) Slot.unset).toArray = ls at hl ⊢
  have hl : lv_has ls 2 [(0, .ref (ad 5 0)), (1, .int 1)] := hl
  refine lv_iload_n hx hb dX5_many_0 rfl (lv_at hl 1 rfl) ?_
  refine lv_tableIn (tgt := 73) hx hb dX5_many_1 (by decide) (by decide) rfl (by decide) ?_
  refine lv_aload_n hx hb dX5_many_73 rfl (lv_at hl 0 rfl) ?_
  refine pc_get (C := RX5) (T := TX5) (N := 13) (ci := 5) hx hb hts (by decide +kernel) hown hX.1 hW.1 5 0 hM.1 rfl rfl 8 (by decide) (hts (.fieldLink RX5 52 "DraftsmanOffice" "referenceCount" "I") (by decide +kernel)) (fun _ h9 => h9) rfl dX5_many_74 ?_
  exact W.iret (v := (nI (c 1))) hx hb hr (fun t ht hW9 => ⟨⟨(nI (c 1)), (), rfl, rfl, trivial⟩, hW.2.F ht⟩) hW.2.2.2 dX5_many_77

def F_X5_many2 (c : SC) (v : SV) (w : SW)  : Int32 := (F_X5_brokenOfAll c v w)

set_option maxHeartbeats 4000000 in
set_option maxRecDepth 100000 in
theorem r_X5_many2 (l : Launch) (D : va_G) (cA : Nat → ClassId) (NL : List (Nat × Nat)) (c : SC) (v : SV) (w : SW) (u : Nat → Int32) (ad : Nat → Nat → Nat)  (hM : MEM c NL) (hBd : BND c) (hF : WF c v) : Met l yX5_many wsX5_many ({ frames := 3, cells := 0, slots := 0, locals := 64 }) (pcPre D vwCl (tyL cA) [.ref (ad 5 0), .int 2] (fun H => va_P D vwCl (pcW NL ad (ctO cA c v w u ad)) H)) (va_Qi (fun (r : Int32) (_ : Unit) => r = F_X5_many2 c v w) (fun _ _ => True) (fun _ => False)) 0 0 (fun _ => False) := by
  refine Met.ofW (cc := cX5_many) (maxL := 2) (ret := (some .int)) (by decide) rfl ?_
  intro p e s m args below meth c0 s₁ B hml hv
  obtain ⟨rfl, hX, hP0⟩ := hv
  have hx := B.exec
  have hb := B.bytes
  have hr := B.returns
  have hts := atoms_spec (ws := wsX5_many) B.pre
  have hown : s.vm.findClass RX5 = some m.cls := findClass_of_methodNamed B.named
  have hlocks := B.notSynchronized
  have hW : pcQ D vwCl (fun _ => False) s.heap NL ad (ctO cA c v w u ad) s.heap [] := ⟨hP0, va_S.rf⟩
  have hl := lv_entry ([.ref (ad 5 0), .int 2]) (n := 2) (Nat.le_of_ble_eq_true rfl)
  rw [lg_entry_eq]
  generalize (lg_sl ([.ref (ad 5 0), .int 2]) ++ List.replicate (2 - (lg_sl ([.ref (ad 5 0), .int 2])).length) Slot.unset).toArray = ls at hl ⊢
  have hl : lv_has ls 2 [(0, .ref (ad 5 0)), (1, .int 2)] := hl
  refine lv_iload_n hx hb dX5_many_0 rfl (lv_at hl 1 rfl) ?_
  refine lv_tableIn (tgt := 78) hx hb dX5_many_1 (by decide) (by decide) rfl (by decide) ?_
  refine lv_aload_n hx hb dX5_many_78 rfl (lv_at hl 0 rfl) ?_
  refine pc_qcalli (va_runV (As := []) (rest := []) ⟨hx, hb, hml, hown, hts⟩ (r_X5_brokenOfAll l D cA NL c v w u ad  hM hBd hF ) (cwV 0 hts gX5_many_X5_brokenOfAll rfl rfl rfl (by decide +kernel) ⟨Nat.le_of_ble_eq_true rfl, Nat.le_of_ble_eq_true rfl⟩) (pc_preV pcN_ok hX hW.1 hM.1 rfl rfl hW.1) rfl rfl hl.1 rfl (lv_room (Nat.le_of_ble_eq_true rfl)) dX5_many_79 ⟨Nat.le_of_ble_eq_true rfl, Nat.le_of_ble_eq_true rfl⟩) hW (fun r185 H locs hwr185 hW => ?_)
  replace hwr185 := hwr185.symm
  subst hwr185
  exact W.iret (v := (F_X5_brokenOfAll c v w)) hx hb hr (fun t ht hW9 => ⟨⟨(F_X5_brokenOfAll c v w), (), rfl, rfl, trivial⟩, hW.2.F ht⟩) hW.2.2.2 dX5_many_82

def F_X5_many3 (c : SC) (v : SV) (w : SW)  : Int32 := (nI (c 2))

set_option maxHeartbeats 4000000 in
set_option maxRecDepth 100000 in
theorem r_X5_many3 (l : Launch) (D : va_G) (cA : Nat → ClassId) (NL : List (Nat × Nat)) (c : SC) (v : SV) (w : SW) (u : Nat → Int32) (ad : Nat → Nat → Nat)  (hM : MEM c NL) (hBd : BND c) (hF : WF c v) : Met l yX5_many wsX5_many ({ frames := 0, cells := 0, slots := 0, locals := 0 }) (pcPre D vwCl (tyL cA) [.ref (ad 5 0), .int 3] (fun H => va_P D vwCl (pcW NL ad (ctO cA c v w u ad)) H)) (va_Qi (fun (r : Int32) (_ : Unit) => r = F_X5_many3 c v w) (fun _ _ => True) (fun _ => False)) 0 0 (fun _ => False) := by
  refine Met.ofW (cc := cX5_many) (maxL := 2) (ret := (some .int)) (by decide) rfl ?_
  intro p e s m args below meth c0 s₁ B hml hv
  obtain ⟨rfl, hX, hP0⟩ := hv
  have hx := B.exec
  have hb := B.bytes
  have hr := B.returns
  have hts := atoms_spec (ws := wsX5_many) B.pre
  have hown : s.vm.findClass RX5 = some m.cls := findClass_of_methodNamed B.named
  have hlocks := B.notSynchronized
  have hW : pcQ D vwCl (fun _ => False) s.heap NL ad (ctO cA c v w u ad) s.heap [] := ⟨hP0, va_S.rf⟩
  have hl := lv_entry ([.ref (ad 5 0), .int 3]) (n := 2) (Nat.le_of_ble_eq_true rfl)
  rw [lg_entry_eq]
  generalize (lg_sl ([.ref (ad 5 0), .int 3]) ++ List.replicate (2 - (lg_sl ([.ref (ad 5 0), .int 3])).length) Slot.unset).toArray = ls at hl ⊢
  have hl : lv_has ls 2 [(0, .ref (ad 5 0)), (1, .int 3)] := hl
  refine lv_iload_n hx hb dX5_many_0 rfl (lv_at hl 1 rfl) ?_
  refine lv_tableIn (tgt := 83) hx hb dX5_many_1 (by decide) (by decide) rfl (by decide) ?_
  refine lv_aload_n hx hb dX5_many_83 rfl (lv_at hl 0 rfl) ?_
  refine pc_get (C := RX5) (T := TX5) (N := 13) (ci := 5) hx hb hts (by decide +kernel) hown hX.1 hW.1 5 0 hM.1 rfl rfl 9 (by decide) (hts (.fieldLink RX5 55 "DraftsmanOffice" "sendingCount" "I") (by decide +kernel)) (fun _ h9 => h9) rfl dX5_many_84 ?_
  exact W.iret (v := (nI (c 2))) hx hb hr (fun t ht hW9 => ⟨⟨(nI (c 2)), (), rfl, rfl, trivial⟩, hW.2.F ht⟩) hW.2.2.2 dX5_many_87

def F_X5_many4 (c : SC) (v : SV) (w : SW)  : Int32 := (nI (c 3))

set_option maxHeartbeats 4000000 in
set_option maxRecDepth 100000 in
theorem r_X5_many4 (l : Launch) (D : va_G) (cA : Nat → ClassId) (NL : List (Nat × Nat)) (c : SC) (v : SV) (w : SW) (u : Nat → Int32) (ad : Nat → Nat → Nat)  (hM : MEM c NL) (hBd : BND c) (hF : WF c v) : Met l yX5_many wsX5_many ({ frames := 0, cells := 0, slots := 0, locals := 0 }) (pcPre D vwCl (tyL cA) [.ref (ad 5 0), .int 4] (fun H => va_P D vwCl (pcW NL ad (ctO cA c v w u ad)) H)) (va_Qi (fun (r : Int32) (_ : Unit) => r = F_X5_many4 c v w) (fun _ _ => True) (fun _ => False)) 0 0 (fun _ => False) := by
  refine Met.ofW (cc := cX5_many) (maxL := 2) (ret := (some .int)) (by decide) rfl ?_
  intro p e s m args below meth c0 s₁ B hml hv
  obtain ⟨rfl, hX, hP0⟩ := hv
  have hx := B.exec
  have hb := B.bytes
  have hr := B.returns
  have hts := atoms_spec (ws := wsX5_many) B.pre
  have hown : s.vm.findClass RX5 = some m.cls := findClass_of_methodNamed B.named
  have hlocks := B.notSynchronized
  have hW : pcQ D vwCl (fun _ => False) s.heap NL ad (ctO cA c v w u ad) s.heap [] := ⟨hP0, va_S.rf⟩
  have hl := lv_entry ([.ref (ad 5 0), .int 4]) (n := 2) (Nat.le_of_ble_eq_true rfl)
  rw [lg_entry_eq]
  generalize (lg_sl ([.ref (ad 5 0), .int 4]) ++ List.replicate (2 - (lg_sl ([.ref (ad 5 0), .int 4])).length) Slot.unset).toArray = ls at hl ⊢
  have hl : lv_has ls 2 [(0, .ref (ad 5 0)), (1, .int 4)] := hl
  refine lv_iload_n hx hb dX5_many_0 rfl (lv_at hl 1 rfl) ?_
  refine lv_tableIn (tgt := 88) hx hb dX5_many_1 (by decide) (by decide) rfl (by decide) ?_
  refine lv_aload_n hx hb dX5_many_88 rfl (lv_at hl 0 rfl) ?_
  refine pc_get (C := RX5) (T := TX5) (N := 13) (ci := 5) hx hb hts (by decide +kernel) hown hX.1 hW.1 5 0 hM.1 rfl rfl 10 (by decide) (hts (.fieldLink RX5 58 "DraftsmanOffice" "queryCount" "I") (by decide +kernel)) (fun _ h9 => h9) rfl dX5_many_89 ?_
  exact W.iret (v := (nI (c 3))) hx hb hr (fun t ht hW9 => ⟨⟨(nI (c 3)), (), rfl, rfl, trivial⟩, hW.2.F ht⟩) hW.2.2.2 dX5_many_92

def F_X5_many5 (c : SC) (v : SV) (w : SW)  : Int32 := (F_X5_queriesNotClosed c v w)

set_option maxHeartbeats 4000000 in
set_option maxRecDepth 100000 in
theorem r_X5_many5 (l : Launch) (D : va_G) (cA : Nat → ClassId) (NL : List (Nat × Nat)) (c : SC) (v : SV) (w : SW) (u : Nat → Int32) (ad : Nat → Nat → Nat)  (hM : MEM c NL) (hBd : BND c) (hF : WF c v) : Met l yX5_many wsX5_many ({ frames := 1, cells := 0, slots := 0, locals := 22 }) (pcPre D vwCl (tyL cA) [.ref (ad 5 0), .int 5] (fun H => va_P D vwCl (pcW NL ad (ctO cA c v w u ad)) H)) (va_Qi (fun (r : Int32) (_ : Unit) => r = F_X5_many5 c v w) (fun _ _ => True) (fun _ => False)) 0 0 (fun _ => False) := by
  refine Met.ofW (cc := cX5_many) (maxL := 2) (ret := (some .int)) (by decide) rfl ?_
  intro p e s m args below meth c0 s₁ B hml hv
  obtain ⟨rfl, hX, hP0⟩ := hv
  have hx := B.exec
  have hb := B.bytes
  have hr := B.returns
  have hts := atoms_spec (ws := wsX5_many) B.pre
  have hown : s.vm.findClass RX5 = some m.cls := findClass_of_methodNamed B.named
  have hlocks := B.notSynchronized
  have hW : pcQ D vwCl (fun _ => False) s.heap NL ad (ctO cA c v w u ad) s.heap [] := ⟨hP0, va_S.rf⟩
  have hl := lv_entry ([.ref (ad 5 0), .int 5]) (n := 2) (Nat.le_of_ble_eq_true rfl)
  rw [lg_entry_eq]
  generalize (lg_sl ([.ref (ad 5 0), .int 5]) ++ List.replicate (2 - (lg_sl ([.ref (ad 5 0), .int 5])).length) Slot.unset).toArray = ls at hl ⊢
  have hl : lv_has ls 2 [(0, .ref (ad 5 0)), (1, .int 5)] := hl
  refine lv_iload_n hx hb dX5_many_0 rfl (lv_at hl 1 rfl) ?_
  refine lv_tableIn (tgt := 93) hx hb dX5_many_1 (by decide) (by decide) rfl (by decide) ?_
  refine lv_aload_n hx hb dX5_many_93 rfl (lv_at hl 0 rfl) ?_
  refine pc_qcalli (va_runV (As := []) (rest := []) ⟨hx, hb, hml, hown, hts⟩ (r_X5_queriesNotClosed l D cA NL c v w u ad  hM hBd hF ) (cwV 0 hts gX5_many_X5_queriesNotClosed rfl rfl rfl (by decide +kernel) ⟨Nat.le_of_ble_eq_true rfl, Nat.le_of_ble_eq_true rfl⟩) (pc_preV pcN_ok hX hW.1 hM.1 rfl rfl hW.1) rfl rfl hl.1 rfl (lv_room (Nat.le_of_ble_eq_true rfl)) dX5_many_94 ⟨Nat.le_of_ble_eq_true rfl, Nat.le_of_ble_eq_true rfl⟩) hW (fun r186 H locs hwr186 hW => ?_)
  replace hwr186 := hwr186.symm
  subst hwr186
  exact W.iret (v := (F_X5_queriesNotClosed c v w)) hx hb hr (fun t ht hW9 => ⟨⟨(F_X5_queriesNotClosed c v w), (), rfl, rfl, trivial⟩, hW.2.F ht⟩) hW.2.2.2 dX5_many_97

def F_X5_many6 (c : SC) (v : SV) (w : SW)  : Int32 := (F_X5_clashingPairs c v w)

set_option maxHeartbeats 4000000 in
set_option maxRecDepth 100000 in
theorem r_X5_many6 (l : Launch) (D : va_G) (cA : Nat → ClassId) (NL : List (Nat × Nat)) (c : SC) (v : SV) (w : SW) (u : Nat → Int32) (ad : Nat → Nat → Nat)  (hM : MEM c NL) (hBd : BND c) (hF : WF c v) : Met l yX5_many wsX5_many ({ frames := 3, cells := 0, slots := 0, locals := 68 }) (pcPre D vwCl (tyL cA) [.ref (ad 5 0), .int 6] (fun H => va_P D vwCl (pcW NL ad (ctO cA c v w u ad)) H)) (va_Qi (fun (r : Int32) (_ : Unit) => r = F_X5_many6 c v w) (fun _ _ => True) (fun _ => False)) 0 0 (fun _ => False) := by
  refine Met.ofW (cc := cX5_many) (maxL := 2) (ret := (some .int)) (by decide) rfl ?_
  intro p e s m args below meth c0 s₁ B hml hv
  obtain ⟨rfl, hX, hP0⟩ := hv
  have hx := B.exec
  have hb := B.bytes
  have hr := B.returns
  have hts := atoms_spec (ws := wsX5_many) B.pre
  have hown : s.vm.findClass RX5 = some m.cls := findClass_of_methodNamed B.named
  have hlocks := B.notSynchronized
  have hW : pcQ D vwCl (fun _ => False) s.heap NL ad (ctO cA c v w u ad) s.heap [] := ⟨hP0, va_S.rf⟩
  have hl := lv_entry ([.ref (ad 5 0), .int 6]) (n := 2) (Nat.le_of_ble_eq_true rfl)
  rw [lg_entry_eq]
  generalize (lg_sl ([.ref (ad 5 0), .int 6]) ++ List.replicate (2 - (lg_sl ([.ref (ad 5 0), .int 6])).length) Slot.unset).toArray = ls at hl ⊢
  have hl : lv_has ls 2 [(0, .ref (ad 5 0)), (1, .int 6)] := hl
  refine lv_iload_n hx hb dX5_many_0 rfl (lv_at hl 1 rfl) ?_
  refine lv_tableIn (tgt := 98) hx hb dX5_many_1 (by decide) (by decide) rfl (by decide) ?_
  refine lv_aload_n hx hb dX5_many_98 rfl (lv_at hl 0 rfl) ?_
  refine pc_qcalli (va_runV (As := []) (rest := []) ⟨hx, hb, hml, hown, hts⟩ (r_X5_clashingPairs l D cA NL c v w u ad  hM hBd hF ) (cwV 0 hts gX5_many_X5_clashingPairs rfl rfl rfl (by decide +kernel) ⟨Nat.le_of_ble_eq_true rfl, Nat.le_of_ble_eq_true rfl⟩) (pc_preV pcN_ok hX hW.1 hM.1 rfl rfl hW.1) rfl rfl hl.1 rfl (lv_room (Nat.le_of_ble_eq_true rfl)) dX5_many_99 ⟨Nat.le_of_ble_eq_true rfl, Nat.le_of_ble_eq_true rfl⟩) hW (fun r187 H locs hwr187 hW => ?_)
  replace hwr187 := hwr187.symm
  subst hwr187
  exact W.iret (v := (F_X5_clashingPairs c v w)) hx hb hr (fun t ht hW9 => ⟨⟨(F_X5_clashingPairs c v w), (), rfl, rfl, trivial⟩, hW.2.F ht⟩) hW.2.2.2 dX5_many_102

def F_X5_many7 (c : SC) (v : SV) (w : SW)  : Int32 := (nI (c 4))

set_option maxHeartbeats 4000000 in
set_option maxRecDepth 100000 in
theorem r_X5_many7 (l : Launch) (D : va_G) (cA : Nat → ClassId) (NL : List (Nat × Nat)) (c : SC) (v : SV) (w : SW) (u : Nat → Int32) (ad : Nat → Nat → Nat)  (hM : MEM c NL) (hBd : BND c) (hF : WF c v) : Met l yX5_many wsX5_many ({ frames := 0, cells := 0, slots := 0, locals := 0 }) (pcPre D vwCl (tyL cA) [.ref (ad 5 0), .int 7] (fun H => va_P D vwCl (pcW NL ad (ctO cA c v w u ad)) H)) (va_Qi (fun (r : Int32) (_ : Unit) => r = F_X5_many7 c v w) (fun _ _ => True) (fun _ => False)) 0 0 (fun _ => False) := by
  refine Met.ofW (cc := cX5_many) (maxL := 2) (ret := (some .int)) (by decide) rfl ?_
  intro p e s m args below meth c0 s₁ B hml hv
  obtain ⟨rfl, hX, hP0⟩ := hv
  have hx := B.exec
  have hb := B.bytes
  have hr := B.returns
  have hts := atoms_spec (ws := wsX5_many) B.pre
  have hown : s.vm.findClass RX5 = some m.cls := findClass_of_methodNamed B.named
  have hlocks := B.notSynchronized
  have hW : pcQ D vwCl (fun _ => False) s.heap NL ad (ctO cA c v w u ad) s.heap [] := ⟨hP0, va_S.rf⟩
  have hl := lv_entry ([.ref (ad 5 0), .int 7]) (n := 2) (Nat.le_of_ble_eq_true rfl)
  rw [lg_entry_eq]
  generalize (lg_sl ([.ref (ad 5 0), .int 7]) ++ List.replicate (2 - (lg_sl ([.ref (ad 5 0), .int 7])).length) Slot.unset).toArray = ls at hl ⊢
  have hl : lv_has ls 2 [(0, .ref (ad 5 0)), (1, .int 7)] := hl
  refine lv_iload_n hx hb dX5_many_0 rfl (lv_at hl 1 rfl) ?_
  refine lv_tableIn (tgt := 103) hx hb dX5_many_1 (by decide) (by decide) rfl (by decide) ?_
  refine lv_aload_n hx hb dX5_many_103 rfl (lv_at hl 0 rfl) ?_
  refine pc_get (C := RX5) (T := TX5) (N := 13) (ci := 5) hx hb hts (by decide +kernel) hown hX.1 hW.1 5 0 hM.1 rfl rfl 11 (by decide) (hts (.fieldLink RX5 61 "DraftsmanOffice" "packageCount" "I") (by decide +kernel)) (fun _ h9 => h9) rfl dX5_many_104 ?_
  exact W.iret (v := (nI (c 4))) hx hb hr (fun t ht hW9 => ⟨⟨(nI (c 4)), (), rfl, rfl, trivial⟩, hW.2.F ht⟩) hW.2.2.2 dX5_many_107

def F_X5_many8 (c : SC) (v : SV) (w : SW)  : Int32 := (F_X5_packagesThatAre c v w (0 : Int32))

set_option maxHeartbeats 4000000 in
set_option maxRecDepth 100000 in
theorem r_X5_many8 (l : Launch) (D : va_G) (cA : Nat → ClassId) (NL : List (Nat × Nat)) (c : SC) (v : SV) (w : SW) (u : Nat → Int32) (ad : Nat → Nat → Nat)  (hM : MEM c NL) (hBd : BND c) (hF : WF c v) : Met l yX5_many wsX5_many ({ frames := 1, cells := 0, slots := 0, locals := 23 }) (pcPre D vwCl (tyL cA) [.ref (ad 5 0), .int 8] (fun H => va_P D vwCl (pcW NL ad (ctO cA c v w u ad)) H)) (va_Qi (fun (r : Int32) (_ : Unit) => r = F_X5_many8 c v w) (fun _ _ => True) (fun _ => False)) 0 0 (fun _ => False) := by
  refine Met.ofW (cc := cX5_many) (maxL := 2) (ret := (some .int)) (by decide) rfl ?_
  intro p e s m args below meth c0 s₁ B hml hv
  obtain ⟨rfl, hX, hP0⟩ := hv
  have hx := B.exec
  have hb := B.bytes
  have hr := B.returns
  have hts := atoms_spec (ws := wsX5_many) B.pre
  have hown : s.vm.findClass RX5 = some m.cls := findClass_of_methodNamed B.named
  have hlocks := B.notSynchronized
  have hW : pcQ D vwCl (fun _ => False) s.heap NL ad (ctO cA c v w u ad) s.heap [] := ⟨hP0, va_S.rf⟩
  have hl := lv_entry ([.ref (ad 5 0), .int 8]) (n := 2) (Nat.le_of_ble_eq_true rfl)
  rw [lg_entry_eq]
  generalize (lg_sl ([.ref (ad 5 0), .int 8]) ++ List.replicate (2 - (lg_sl ([.ref (ad 5 0), .int 8])).length) Slot.unset).toArray = ls at hl ⊢
  have hl : lv_has ls 2 [(0, .ref (ad 5 0)), (1, .int 8)] := hl
  refine lv_iload_n hx hb dX5_many_0 rfl (lv_at hl 1 rfl) ?_
  refine lv_tableIn (tgt := 108) hx hb dX5_many_1 (by decide) (by decide) rfl (by decide) ?_
  refine lv_aload_n hx hb dX5_many_108 rfl (lv_at hl 0 rfl) ?_
  refine lv_iconst (v := 0) hx hb dX5_many_109 (by decide) ?_
  refine pc_qcalli (va_runV (As := [.int 0]) (rest := []) ⟨hx, hb, hml, hown, hts⟩ (r_X5_packagesThatAre l D cA NL c v w u ad (0 : Int32) hM hBd hF ) (cwV 1 hts gX5_many_X5_packagesThatAre rfl rfl rfl (by decide +kernel) ⟨Nat.le_of_ble_eq_true rfl, Nat.le_of_ble_eq_true rfl⟩) (pc_preV pcN_ok hX hW.1 hM.1 rfl rfl hW.1) rfl rfl hl.1 rfl (lv_room (Nat.le_of_ble_eq_true rfl)) dX5_many_110 ⟨Nat.le_of_ble_eq_true rfl, Nat.le_of_ble_eq_true rfl⟩) hW (fun r188 H locs hwr188 hW => ?_)
  replace hwr188 := hwr188.symm
  subst hwr188
  exact W.iret (v := (F_X5_packagesThatAre c v w (0 : Int32))) hx hb hr (fun t ht hW9 => ⟨⟨(F_X5_packagesThatAre c v w (0 : Int32)), (), rfl, rfl, trivial⟩, hW.2.F ht⟩) hW.2.2.2 dX5_many_113

def F_X5_many9 (c : SC) (v : SV) (w : SW)  : Int32 := (F_X5_packagesThatAre c v w (1 : Int32))

set_option maxHeartbeats 4000000 in
set_option maxRecDepth 100000 in
theorem r_X5_many9 (l : Launch) (D : va_G) (cA : Nat → ClassId) (NL : List (Nat × Nat)) (c : SC) (v : SV) (w : SW) (u : Nat → Int32) (ad : Nat → Nat → Nat)  (hM : MEM c NL) (hBd : BND c) (hF : WF c v) : Met l yX5_many wsX5_many ({ frames := 1, cells := 0, slots := 0, locals := 23 }) (pcPre D vwCl (tyL cA) [.ref (ad 5 0), .int 9] (fun H => va_P D vwCl (pcW NL ad (ctO cA c v w u ad)) H)) (va_Qi (fun (r : Int32) (_ : Unit) => r = F_X5_many9 c v w) (fun _ _ => True) (fun _ => False)) 0 0 (fun _ => False) := by
  refine Met.ofW (cc := cX5_many) (maxL := 2) (ret := (some .int)) (by decide) rfl ?_
  intro p e s m args below meth c0 s₁ B hml hv
  obtain ⟨rfl, hX, hP0⟩ := hv
  have hx := B.exec
  have hb := B.bytes
  have hr := B.returns
  have hts := atoms_spec (ws := wsX5_many) B.pre
  have hown : s.vm.findClass RX5 = some m.cls := findClass_of_methodNamed B.named
  have hlocks := B.notSynchronized
  have hW : pcQ D vwCl (fun _ => False) s.heap NL ad (ctO cA c v w u ad) s.heap [] := ⟨hP0, va_S.rf⟩
  have hl := lv_entry ([.ref (ad 5 0), .int 9]) (n := 2) (Nat.le_of_ble_eq_true rfl)
  rw [lg_entry_eq]
  generalize (lg_sl ([.ref (ad 5 0), .int 9]) ++ List.replicate (2 - (lg_sl ([.ref (ad 5 0), .int 9])).length) Slot.unset).toArray = ls at hl ⊢
  have hl : lv_has ls 2 [(0, .ref (ad 5 0)), (1, .int 9)] := hl
  refine lv_iload_n hx hb dX5_many_0 rfl (lv_at hl 1 rfl) ?_
  refine lv_tableIn (tgt := 114) hx hb dX5_many_1 (by decide) (by decide) rfl (by decide) ?_
  refine lv_aload_n hx hb dX5_many_114 rfl (lv_at hl 0 rfl) ?_
  refine lv_iconst (v := 1) hx hb dX5_many_115 (by decide) ?_
  refine pc_qcalli (va_runV (As := [.int 1]) (rest := []) ⟨hx, hb, hml, hown, hts⟩ (r_X5_packagesThatAre l D cA NL c v w u ad (1 : Int32) hM hBd hF ) (cwV 1 hts gX5_many_X5_packagesThatAre rfl rfl rfl (by decide +kernel) ⟨Nat.le_of_ble_eq_true rfl, Nat.le_of_ble_eq_true rfl⟩) (pc_preV pcN_ok hX hW.1 hM.1 rfl rfl hW.1) rfl rfl hl.1 rfl (lv_room (Nat.le_of_ble_eq_true rfl)) dX5_many_116 ⟨Nat.le_of_ble_eq_true rfl, Nat.le_of_ble_eq_true rfl⟩) hW (fun r189 H locs hwr189 hW => ?_)
  replace hwr189 := hwr189.symm
  subst hwr189
  exact W.iret (v := (F_X5_packagesThatAre c v w (1 : Int32))) hx hb hr (fun t ht hW9 => ⟨⟨(F_X5_packagesThatAre c v w (1 : Int32)), (), rfl, rfl, trivial⟩, hW.2.F ht⟩) hW.2.2.2 dX5_many_119

def F_X5_many10 (c : SC) (v : SV) (w : SW)  : Int32 := (F_X5_packagesThatAre c v w (2 : Int32))

set_option maxHeartbeats 4000000 in
set_option maxRecDepth 100000 in
theorem r_X5_many10 (l : Launch) (D : va_G) (cA : Nat → ClassId) (NL : List (Nat × Nat)) (c : SC) (v : SV) (w : SW) (u : Nat → Int32) (ad : Nat → Nat → Nat)  (hM : MEM c NL) (hBd : BND c) (hF : WF c v) : Met l yX5_many wsX5_many ({ frames := 1, cells := 0, slots := 0, locals := 23 }) (pcPre D vwCl (tyL cA) [.ref (ad 5 0), .int 10] (fun H => va_P D vwCl (pcW NL ad (ctO cA c v w u ad)) H)) (va_Qi (fun (r : Int32) (_ : Unit) => r = F_X5_many10 c v w) (fun _ _ => True) (fun _ => False)) 0 0 (fun _ => False) := by
  refine Met.ofW (cc := cX5_many) (maxL := 2) (ret := (some .int)) (by decide) rfl ?_
  intro p e s m args below meth c0 s₁ B hml hv
  obtain ⟨rfl, hX, hP0⟩ := hv
  have hx := B.exec
  have hb := B.bytes
  have hr := B.returns
  have hts := atoms_spec (ws := wsX5_many) B.pre
  have hown : s.vm.findClass RX5 = some m.cls := findClass_of_methodNamed B.named
  have hlocks := B.notSynchronized
  have hW : pcQ D vwCl (fun _ => False) s.heap NL ad (ctO cA c v w u ad) s.heap [] := ⟨hP0, va_S.rf⟩
  have hl := lv_entry ([.ref (ad 5 0), .int 10]) (n := 2) (Nat.le_of_ble_eq_true rfl)
  rw [lg_entry_eq]
  generalize (lg_sl ([.ref (ad 5 0), .int 10]) ++ List.replicate (2 - (lg_sl ([.ref (ad 5 0), .int 10])).length) Slot.unset).toArray = ls at hl ⊢
  have hl : lv_has ls 2 [(0, .ref (ad 5 0)), (1, .int 10)] := hl
  refine lv_iload_n hx hb dX5_many_0 rfl (lv_at hl 1 rfl) ?_
  refine lv_tableIn (tgt := 120) hx hb dX5_many_1 (by decide) (by decide) rfl (by decide) ?_
  refine lv_aload_n hx hb dX5_many_120 rfl (lv_at hl 0 rfl) ?_
  refine lv_iconst (v := 2) hx hb dX5_many_121 (by decide) ?_
  refine pc_qcalli (va_runV (As := [.int 2]) (rest := []) ⟨hx, hb, hml, hown, hts⟩ (r_X5_packagesThatAre l D cA NL c v w u ad (2 : Int32) hM hBd hF ) (cwV 1 hts gX5_many_X5_packagesThatAre rfl rfl rfl (by decide +kernel) ⟨Nat.le_of_ble_eq_true rfl, Nat.le_of_ble_eq_true rfl⟩) (pc_preV pcN_ok hX hW.1 hM.1 rfl rfl hW.1) rfl rfl hl.1 rfl (lv_room (Nat.le_of_ble_eq_true rfl)) dX5_many_122 ⟨Nat.le_of_ble_eq_true rfl, Nat.le_of_ble_eq_true rfl⟩) hW (fun r190 H locs hwr190 hW => ?_)
  replace hwr190 := hwr190.symm
  subst hwr190
  exact W.iret (v := (F_X5_packagesThatAre c v w (2 : Int32))) hx hb hr (fun t ht hW9 => ⟨⟨(F_X5_packagesThatAre c v w (2 : Int32)), (), rfl, rfl, trivial⟩, hW.2.F ht⟩) hW.2.2.2 dX5_many_125

def F_X5_many11 (c : SC) (v : SV) (w : SW)  : Int32 := (F_X5_packagesThatAre c v w (3 : Int32))

set_option maxHeartbeats 4000000 in
set_option maxRecDepth 100000 in
theorem r_X5_many11 (l : Launch) (D : va_G) (cA : Nat → ClassId) (NL : List (Nat × Nat)) (c : SC) (v : SV) (w : SW) (u : Nat → Int32) (ad : Nat → Nat → Nat)  (hM : MEM c NL) (hBd : BND c) (hF : WF c v) : Met l yX5_many wsX5_many ({ frames := 1, cells := 0, slots := 0, locals := 23 }) (pcPre D vwCl (tyL cA) [.ref (ad 5 0), .int 11] (fun H => va_P D vwCl (pcW NL ad (ctO cA c v w u ad)) H)) (va_Qi (fun (r : Int32) (_ : Unit) => r = F_X5_many11 c v w) (fun _ _ => True) (fun _ => False)) 0 0 (fun _ => False) := by
  refine Met.ofW (cc := cX5_many) (maxL := 2) (ret := (some .int)) (by decide) rfl ?_
  intro p e s m args below meth c0 s₁ B hml hv
  obtain ⟨rfl, hX, hP0⟩ := hv
  have hx := B.exec
  have hb := B.bytes
  have hr := B.returns
  have hts := atoms_spec (ws := wsX5_many) B.pre
  have hown : s.vm.findClass RX5 = some m.cls := findClass_of_methodNamed B.named
  have hlocks := B.notSynchronized
  have hW : pcQ D vwCl (fun _ => False) s.heap NL ad (ctO cA c v w u ad) s.heap [] := ⟨hP0, va_S.rf⟩
  have hl := lv_entry ([.ref (ad 5 0), .int 11]) (n := 2) (Nat.le_of_ble_eq_true rfl)
  rw [lg_entry_eq]
  generalize (lg_sl ([.ref (ad 5 0), .int 11]) ++ List.replicate (2 - (lg_sl ([.ref (ad 5 0), .int 11])).length) Slot.unset).toArray = ls at hl ⊢
  have hl : lv_has ls 2 [(0, .ref (ad 5 0)), (1, .int 11)] := hl
  refine lv_iload_n hx hb dX5_many_0 rfl (lv_at hl 1 rfl) ?_
  refine lv_tableIn (tgt := 126) hx hb dX5_many_1 (by decide) (by decide) rfl (by decide) ?_
  refine lv_aload_n hx hb dX5_many_126 rfl (lv_at hl 0 rfl) ?_
  refine lv_iconst (v := 3) hx hb dX5_many_127 (by decide) ?_
  refine pc_qcalli (va_runV (As := [.int 3]) (rest := []) ⟨hx, hb, hml, hown, hts⟩ (r_X5_packagesThatAre l D cA NL c v w u ad (3 : Int32) hM hBd hF ) (cwV 1 hts gX5_many_X5_packagesThatAre rfl rfl rfl (by decide +kernel) ⟨Nat.le_of_ble_eq_true rfl, Nat.le_of_ble_eq_true rfl⟩) (pc_preV pcN_ok hX hW.1 hM.1 rfl rfl hW.1) rfl rfl hl.1 rfl (lv_room (Nat.le_of_ble_eq_true rfl)) dX5_many_128 ⟨Nat.le_of_ble_eq_true rfl, Nat.le_of_ble_eq_true rfl⟩) hW (fun r191 H locs hwr191 hW => ?_)
  replace hwr191 := hwr191.symm
  subst hwr191
  exact W.iret (v := (F_X5_packagesThatAre c v w (3 : Int32))) hx hb hr (fun t ht hW9 => ⟨⟨(F_X5_packagesThatAre c v w (3 : Int32)), (), rfl, rfl, trivial⟩, hW.2.F ht⟩) hW.2.2.2 dX5_many_131

def F_X5_many12 (c : SC) (v : SV) (w : SW)  : Int32 := (nI (c 5))

set_option maxHeartbeats 4000000 in
set_option maxRecDepth 100000 in
theorem r_X5_many12 (l : Launch) (D : va_G) (cA : Nat → ClassId) (NL : List (Nat × Nat)) (c : SC) (v : SV) (w : SW) (u : Nat → Int32) (ad : Nat → Nat → Nat)  (hM : MEM c NL) (hBd : BND c) (hF : WF c v) : Met l yX5_many wsX5_many ({ frames := 0, cells := 0, slots := 0, locals := 0 }) (pcPre D vwCl (tyL cA) [.ref (ad 5 0), .int 12] (fun H => va_P D vwCl (pcW NL ad (ctO cA c v w u ad)) H)) (va_Qi (fun (r : Int32) (_ : Unit) => r = F_X5_many12 c v w) (fun _ _ => True) (fun _ => False)) 0 0 (fun _ => False) := by
  refine Met.ofW (cc := cX5_many) (maxL := 2) (ret := (some .int)) (by decide) rfl ?_
  intro p e s m args below meth c0 s₁ B hml hv
  obtain ⟨rfl, hX, hP0⟩ := hv
  have hx := B.exec
  have hb := B.bytes
  have hr := B.returns
  have hts := atoms_spec (ws := wsX5_many) B.pre
  have hown : s.vm.findClass RX5 = some m.cls := findClass_of_methodNamed B.named
  have hlocks := B.notSynchronized
  have hW : pcQ D vwCl (fun _ => False) s.heap NL ad (ctO cA c v w u ad) s.heap [] := ⟨hP0, va_S.rf⟩
  have hl := lv_entry ([.ref (ad 5 0), .int 12]) (n := 2) (Nat.le_of_ble_eq_true rfl)
  rw [lg_entry_eq]
  generalize (lg_sl ([.ref (ad 5 0), .int 12]) ++ List.replicate (2 - (lg_sl ([.ref (ad 5 0), .int 12])).length) Slot.unset).toArray = ls at hl ⊢
  have hl : lv_has ls 2 [(0, .ref (ad 5 0)), (1, .int 12)] := hl
  refine lv_iload_n hx hb dX5_many_0 rfl (lv_at hl 1 rfl) ?_
  refine lv_tableIn (tgt := 132) hx hb dX5_many_1 (by decide) (by decide) rfl (by decide) ?_
  refine lv_aload_n hx hb dX5_many_132 rfl (lv_at hl 0 rfl) ?_
  refine pc_get (C := RX5) (T := TX5) (N := 13) (ci := 5) hx hb hts (by decide +kernel) hown hX.1 hW.1 5 0 hM.1 rfl rfl 12 (by decide) (hts (.fieldLink RX5 64 "DraftsmanOffice" "today" "I") (by decide +kernel)) (fun _ h9 => h9) rfl dX5_many_133 ?_
  exact W.iret (v := (nI (c 5))) hx hb hr (fun t ht hW9 => ⟨⟨(nI (c 5)), (), rfl, rfl, trivial⟩, hW.2.F ht⟩) hW.2.2.2 dX5_many_136

def F_X5_ofQuery (c : SC) (v : SV) (w : SW) (x1 : Int32) : Int32 := (v 4 x1.toNatClampNeg 1)

set_option maxHeartbeats 4000000 in
set_option maxRecDepth 100000 in
theorem r_X5_ofQuery (l : Launch) (D : va_G) (cA : Nat → ClassId) (NL : List (Nat × Nat)) (c : SC) (v : SV) (w : SW) (u : Nat → Int32) (ad : Nat → Nat → Nat) (x1 : Int32) (hM : MEM c NL) (hBd : BND c) (hF : WF c v) (h1n : ¬ x1 < 0) (h1 : x1.toNatClampNeg < c 3) : Met l yX5_ofQuery wsX5_ofQuery ({ frames := 1, cells := 0, slots := 0, locals := 21 }) (pcPre D vwCl (tyL cA) [.ref (ad 5 0), .int x1] (fun H => va_P D vwCl (pcW NL ad (ctO cA c v w u ad)) H)) (va_Qi (fun (r : Int32) (_ : Unit) => r = F_X5_ofQuery c v w x1) (fun _ _ => True) (fun _ => False)) 0 0 (fun _ => False) := by
  refine Met.ofW (cc := cX5_ofQuery) (maxL := 2) (ret := (some .int)) (by decide) rfl ?_
  intro p e s m args below meth c0 s₁ B hml hv
  obtain ⟨rfl, hX, hP0⟩ := hv
  have hx := B.exec
  have hb := B.bytes
  have hr := B.returns
  have hts := atoms_spec (ws := wsX5_ofQuery) B.pre
  have hown : s.vm.findClass RX5 = some m.cls := findClass_of_methodNamed B.named
  have hlocks := B.notSynchronized
  have hW : pcQ D vwCl (fun _ => False) s.heap NL ad (ctO cA c v w u ad) s.heap [] := ⟨hP0, va_S.rf⟩
  have hl := lv_entry ([.ref (ad 5 0), .int x1]) (n := 2) (Nat.le_of_ble_eq_true rfl)
  rw [lg_entry_eq]
  generalize (lg_sl ([.ref (ad 5 0), .int x1]) ++ List.replicate (2 - (lg_sl ([.ref (ad 5 0), .int x1])).length) Slot.unset).toArray = ls at hl ⊢
  have hl : lv_has ls 2 [(0, .ref (ad 5 0)), (1, .int x1)] := hl
  refine lv_aload_n hx hb dX5_ofQuery_0 rfl (lv_at hl 0 rfl) ?_
  refine lv_iload_n hx hb dX5_ofQuery_1 rfl (lv_at hl 1 rfl) ?_
  refine pc_qcallv (va_runV (As := [.int x1]) (rest := []) ⟨hx, hb, hml, hown, hts⟩ (r_X5_requireQuery l D cA NL c v w u ad x1 hM hBd hF h1n h1) (cwV 1 hts gX5_ofQuery_X5_requireQuery rfl rfl rfl (by decide +kernel) ⟨Nat.le_of_ble_eq_true rfl, Nat.le_of_ble_eq_true rfl⟩) (pc_preV pcN_ok hX hW.1 hM.1 rfl rfl hW.1) rfl rfl hl.1 rfl (lv_room (Nat.le_of_ble_eq_true rfl)) dX5_ofQuery_2 ⟨Nat.le_of_ble_eq_true rfl, Nat.le_of_ble_eq_true rfl⟩) hW (fun H locs _ hW => ?_)
  refine lv_aload_n hx hb dX5_ofQuery_5 rfl (lv_at hl 0 rfl) ?_
  refine pc_get (C := RX5) (T := TX5) (N := 13) (ci := 5) hx hb hts (by decide +kernel) hown hX.1 hW.1 5 0 hM.1 rfl rfl 3 (by decide) (hts (.fieldLink RX5 29 "DraftsmanOffice" "queries" "[LDraftsmanOffice$Query;") (by decide +kernel)) (fun _ h9 => h9) rfl dX5_ofQuery_6 ?_
  refine lv_iload_n hx hb dX5_ofQuery_9 rfl (lv_at hl 1 rfl) ?_
  refine pc_aald (r := .ref (ad 4 x1.toNatClampNeg)) hx hb hX.1 hW.1 53 0 6 (hM.2.1 53 (by decide) (by decide)) rfl rfl rfl (fun q => q.elim h1n (fun q => absurd (Nat.lt_of_lt_of_le h1 hBd.2.2.2.1) (Nat.not_lt.mpr q))) (by rw [sRf_in h1]; rfl) dX5_ofQuery_10 ?_
  refine pc_getN (C := RX0) (T := TX0) (N := 3) (ci := 0) hx hb hts (by decide +kernel) hown hX.1 hW.1 4 x1.toNatClampNeg (hM.2.2.2.2.2.2.1 x1.toNatClampNeg h1) rfl rfl 2 (by decide) (hX.2.1 (.fieldLinkNest RX5 237 "DraftsmanOffice$Query" "state" "I" R_host) (by decide +kernel)) (fun _ h9 => h9) rfl dX5_ofQuery_11 ?_
  exact W.iret (v := (v 4 x1.toNatClampNeg 1)) hx hb hr (fun t ht hW9 => ⟨⟨(v 4 x1.toNatClampNeg 1), (), rfl, rfl, trivial⟩, hW.2.F ht⟩) hW.2.2.2 dX5_ofQuery_14


set_option maxHeartbeats 4000000 in
set_option maxRecDepth 100000 in
theorem r_X5_requireRegion (l : Launch) (D : va_G) (cA : Nat → ClassId) (x1 x2 x3 x4 : Int32)  (g1 : ¬ x1 < 0) (g2 : ¬ x3 < x1) (g3 : ¬ 20 ≤ x3) (g4 : ¬ x2 < 0) (g5 : ¬ x4 < x2) (g6 : x4 < 20) : Met l yX5_requireRegion wsX5_requireRegion ({ frames := 0, cells := 0, slots := 0, locals := 0 }) (pcPre D vwCl (tyL cA) [.int x1, .int x2, .int x3, .int x4] (fun _ => True)) (va_Qv (fun (_ : Unit) => True) (fun _ _ => True) (fun _ => False)) 0 0 (fun _ => False) := by
  refine Met.ofW (cc := cX5_requireRegion) (maxL := 4) (ret := none) (by decide) rfl ?_
  intro p e s m args below meth c0 s₁ B hml hv
  obtain ⟨rfl, hX, hP0⟩ := hv
  have hx := B.exec
  have hb := B.bytes
  have hr := B.returns
  have hts := atoms_spec (ws := wsX5_requireRegion) B.pre
  have hown : s.vm.findClass RX5 = some m.cls := findClass_of_methodNamed B.named
  have hlocks := B.notSynchronized
  have hW : pcQ D vwCl (fun _ => False) s.heap [] (fun _ _ => 0) (fun _ _ => .inr (0, [])) s.heap [] := ⟨fun k q h => by simp [pcW] at h, va_S.rf⟩
  have hl := lv_entry ([.int x1, .int x2, .int x3, .int x4]) (n := 4) (Nat.le_of_ble_eq_true rfl)
  rw [lg_entry_eq]
  generalize (lg_sl ([.int x1, .int x2, .int x3, .int x4]) ++ List.replicate (4 - (lg_sl ([.int x1, .int x2, .int x3, .int x4])).length) Slot.unset).toArray = ls at hl ⊢
  have hl : lv_has ls 4 [(0, .int x1), (1, .int x2), (2, .int x3), (3, .int x4)] := hl
  refine lv_iload_n hx hb dX5_requireRegion_0 rfl (lv_at hl 0 rfl) ?_
  refine lv_if_lt (tgt := 30) hx hb dX5_requireRegion_1 (by decide) (fun c193 => absurd c193 g1) (fun _ => ?_)
  refine lv_iload_n hx hb dX5_requireRegion_4 rfl (lv_at hl 0 rfl) ?_
  refine lv_iload_n hx hb dX5_requireRegion_5 rfl (lv_at hl 2 rfl) ?_
  refine lv_icmp_gt (tgt := 30) hx hb dX5_requireRegion_6 (by decide) (fun c194 => absurd c194 g2) (fun _ => ?_)
  refine lv_iload_n hx hb dX5_requireRegion_9 rfl (lv_at hl 2 rfl) ?_
  refine lv_bipush (v := 20) hx hb dX5_requireRegion_10 (by decide) ?_
  refine lv_icmp_ge (tgt := 30) hx hb dX5_requireRegion_12 (by decide) (fun c195 => absurd c195 g3) (fun _ => ?_)
  refine lv_iload_n hx hb dX5_requireRegion_15 rfl (lv_at hl 1 rfl) ?_
  refine lv_if_lt (tgt := 30) hx hb dX5_requireRegion_16 (by decide) (fun c196 => absurd c196 g4) (fun _ => ?_)
  refine lv_iload_n hx hb dX5_requireRegion_19 rfl (lv_at hl 1 rfl) ?_
  refine lv_iload_n hx hb dX5_requireRegion_20 rfl (lv_at hl 3 rfl) ?_
  refine lv_icmp_gt (tgt := 30) hx hb dX5_requireRegion_21 (by decide) (fun c197 => absurd c197 g5) (fun _ => ?_)
  refine lv_iload_n hx hb dX5_requireRegion_24 rfl (lv_at hl 3 rfl) ?_
  refine lv_bipush (v := 20) hx hb dX5_requireRegion_25 (by decide) ?_
  refine lv_icmp_lt (tgt := 41) hx hb dX5_requireRegion_27 (by decide) (fun _ => ?_) (fun c198 => absurd g6 c198)
  exact W.vret hx hb hr (fun t ht hW9 => ⟨⟨(), rfl, trivial, trivial⟩, hW.2.F ht⟩) hW.2.2.2 dX5_requireRegion_41


set_option maxHeartbeats 4000000 in
set_option maxRecDepth 100000 in
theorem r_X5_requireCrew (l : Launch) (D : va_G) (cA : Nat → ClassId) (x1 : Int32)  (g1 : ¬ x1 < 0) (g2 : x1 < 4) : Met l yX5_requireCrew wsX5_requireCrew ({ frames := 0, cells := 0, slots := 0, locals := 0 }) (pcPre D vwCl (tyL cA) [.int x1] (fun _ => True)) (va_Qv (fun (_ : Unit) => True) (fun _ _ => True) (fun _ => False)) 0 0 (fun _ => False) := by
  refine Met.ofW (cc := cX5_requireCrew) (maxL := 1) (ret := none) (by decide) rfl ?_
  intro p e s m args below meth c0 s₁ B hml hv
  obtain ⟨rfl, hX, hP0⟩ := hv
  have hx := B.exec
  have hb := B.bytes
  have hr := B.returns
  have hts := atoms_spec (ws := wsX5_requireCrew) B.pre
  have hown : s.vm.findClass RX5 = some m.cls := findClass_of_methodNamed B.named
  have hlocks := B.notSynchronized
  have hW : pcQ D vwCl (fun _ => False) s.heap [] (fun _ _ => 0) (fun _ _ => .inr (0, [])) s.heap [] := ⟨fun k q h => by simp [pcW] at h, va_S.rf⟩
  have hl := lv_entry ([.int x1]) (n := 1) (Nat.le_of_ble_eq_true rfl)
  rw [lg_entry_eq]
  generalize (lg_sl ([.int x1]) ++ List.replicate (1 - (lg_sl ([.int x1])).length) Slot.unset).toArray = ls at hl ⊢
  have hl : lv_has ls 1 [(0, .int x1)] := hl
  refine lv_iload_n hx hb dX5_requireCrew_0 rfl (lv_at hl 0 rfl) ?_
  refine lv_if_lt (tgt := 9) hx hb dX5_requireCrew_1 (by decide) (fun c199 => absurd c199 g1) (fun _ => ?_)
  refine lv_iload_n hx hb dX5_requireCrew_4 rfl (lv_at hl 0 rfl) ?_
  refine lv_iconst (v := 4) hx hb dX5_requireCrew_5 (by decide) ?_
  refine lv_icmp_lt (tgt := 20) hx hb dX5_requireCrew_6 (by decide) (fun _ => ?_) (fun c200 => absurd g2 c200)
  exact W.vret hx hb hr (fun t ht hW9 => ⟨⟨(), rfl, trivial, trivial⟩, hW.2.F ht⟩) hW.2.2.2 dX5_requireCrew_20


set_option maxHeartbeats 4000000 in
set_option maxRecDepth 100000 in
theorem r_X5_requireTwoSheets (l : Launch) (D : va_G) (cA : Nat → ClassId) (NL : List (Nat × Nat)) (c : SC) (v : SV) (w : SW) (u : Nat → Int32) (ad : Nat → Nat → Nat) (x1 x2 : Int32) (hM : MEM c NL) (hBd : BND c) (hF : WF c v) (h1n : ¬ x1 < 0) (h1 : x1.toNatClampNeg < c 0) (h2n : ¬ x2 < 0) (h2 : x2.toNatClampNeg < c 0) (hne : ¬ x1 = x2) : Met l yX5_requireTwoSheets wsX5_requireTwoSheets ({ frames := 1, cells := 0, slots := 0, locals := 21 }) (pcPre D vwCl (tyL cA) [.ref (ad 5 0), .int x1, .int x2] (fun H => va_P D vwCl (pcW NL ad (ctO cA c v w u ad)) H)) (va_Qv (fun (_ : Unit) => True) (fun _ _ => True) (fun _ => False)) 0 0 (fun _ => False) := by
  refine Met.ofW (cc := cX5_requireTwoSheets) (maxL := 3) (ret := none) (by decide) rfl ?_
  intro p e s m args below meth c0 s₁ B hml hv
  obtain ⟨rfl, hX, hP0⟩ := hv
  have hx := B.exec
  have hb := B.bytes
  have hr := B.returns
  have hts := atoms_spec (ws := wsX5_requireTwoSheets) B.pre
  have hown : s.vm.findClass RX5 = some m.cls := findClass_of_methodNamed B.named
  have hlocks := B.notSynchronized
  have hW : pcQ D vwCl (fun _ => False) s.heap NL ad (ctO cA c v w u ad) s.heap [] := ⟨hP0, va_S.rf⟩
  have hl := lv_entry ([.ref (ad 5 0), .int x1, .int x2]) (n := 3) (Nat.le_of_ble_eq_true rfl)
  rw [lg_entry_eq]
  generalize (lg_sl ([.ref (ad 5 0), .int x1, .int x2]) ++ List.replicate (3 - (lg_sl ([.ref (ad 5 0), .int x1, .int x2])).length) Slot.unset).toArray = ls at hl ⊢
  have hl : lv_has ls 3 [(0, .ref (ad 5 0)), (1, .int x1), (2, .int x2)] := hl
  refine lv_aload_n hx hb dX5_requireTwoSheets_0 rfl (lv_at hl 0 rfl) ?_
  refine lv_iload_n hx hb dX5_requireTwoSheets_1 rfl (lv_at hl 1 rfl) ?_
  refine pc_qcallv (va_runV (As := [.int x1]) (rest := []) ⟨hx, hb, hml, hown, hts⟩ (r_X5_requireSheet l D cA NL c v w u ad x1 hM hBd hF h1n h1) (cwV 1 hts gX5_requireTwoSheets_X5_requireSheet rfl rfl rfl (by decide +kernel) ⟨Nat.le_of_ble_eq_true rfl, Nat.le_of_ble_eq_true rfl⟩) (pc_preV pcN_ok hX hW.1 hM.1 rfl rfl hW.1) rfl rfl hl.1 rfl (lv_room (Nat.le_of_ble_eq_true rfl)) dX5_requireTwoSheets_2 ⟨Nat.le_of_ble_eq_true rfl, Nat.le_of_ble_eq_true rfl⟩) hW (fun H locs _ hW => ?_)
  refine lv_aload_n hx hb dX5_requireTwoSheets_5 rfl (lv_at hl 0 rfl) ?_
  refine lv_iload_n hx hb dX5_requireTwoSheets_6 rfl (lv_at hl 2 rfl) ?_
  refine pc_qcallv (va_runV (As := [.int x2]) (rest := []) ⟨hx, hb, hml, hown, hts⟩ (r_X5_requireSheet l D cA NL c v w u ad x2 hM hBd hF h2n h2) (cwV 1 hts gX5_requireTwoSheets_X5_requireSheet rfl rfl rfl (by decide +kernel) ⟨Nat.le_of_ble_eq_true rfl, Nat.le_of_ble_eq_true rfl⟩) (pc_preV pcN_ok hX hW.1 hM.1 rfl rfl hW.1) rfl rfl hl.1 rfl (lv_room (Nat.le_of_ble_eq_true rfl)) dX5_requireTwoSheets_7 ⟨Nat.le_of_ble_eq_true rfl, Nat.le_of_ble_eq_true rfl⟩) hW (fun H locs _ hW => ?_)
  refine lv_iload_n hx hb dX5_requireTwoSheets_10 rfl (lv_at hl 1 rfl) ?_
  refine lv_iload_n hx hb dX5_requireTwoSheets_11 rfl (lv_at hl 2 rfl) ?_
  refine lv_icmp_ne (tgt := 26) hx hb dX5_requireTwoSheets_12 (by decide) (fun _ => ?_) (fun c203 => absurd c203 hne)
  exact W.vret hx hb hr (fun t ht hW9 => ⟨⟨(), rfl, trivial, trivial⟩, hW.2.F ht⟩) hW.2.2.2 dX5_requireTwoSheets_26

def F_X5_clash (c : SC) (v : SV) (w : SW) (x1 x2 : Int32) : Int32 := (F_X5_fieldsOf (F_X5_clashRegion c v w x1 x2))

set_option maxHeartbeats 4000000 in
set_option maxRecDepth 100000 in
theorem r_X5_clash (l : Launch) (D : va_G) (cA : Nat → ClassId) (NL : List (Nat × Nat)) (c : SC) (v : SV) (w : SW) (u : Nat → Int32) (ad : Nat → Nat → Nat) (x1 x2 : Int32) (hM : MEM c NL) (hBd : BND c) (hF : WF c v) (h1n : ¬ x1 < 0) (h1 : x1.toNatClampNeg < c 0) (h2n : ¬ x2 < 0) (h2 : x2.toNatClampNeg < c 0) (hne : ¬ x1 = x2) : Met l yX5_clash wsX5_clash ({ frames := 2, cells := 0, slots := 0, locals := 45 }) (pcPre D vwCl (tyL cA) [.ref (ad 5 0), .int x1, .int x2] (fun H => va_P D vwCl (pcW NL ad (ctO cA c v w u ad)) H)) (va_Qi (fun (r : Int32) (_ : Unit) => r = F_X5_clash c v w x1 x2) (fun _ _ => True) (fun _ => False)) 0 0 (fun _ => False) := by
  refine Met.ofW (cc := cX5_clash) (maxL := 3) (ret := (some .int)) (by decide) rfl ?_
  intro p e s m args below meth c0 s₁ B hml hv
  obtain ⟨rfl, hX, hP0⟩ := hv
  have hx := B.exec
  have hb := B.bytes
  have hr := B.returns
  have hts := atoms_spec (ws := wsX5_clash) B.pre
  have hown : s.vm.findClass RX5 = some m.cls := findClass_of_methodNamed B.named
  have hlocks := B.notSynchronized
  have hW : pcQ D vwCl (fun _ => False) s.heap NL ad (ctO cA c v w u ad) s.heap [] := ⟨hP0, va_S.rf⟩
  have hl := lv_entry ([.ref (ad 5 0), .int x1, .int x2]) (n := 3) (Nat.le_of_ble_eq_true rfl)
  rw [lg_entry_eq]
  generalize (lg_sl ([.ref (ad 5 0), .int x1, .int x2]) ++ List.replicate (3 - (lg_sl ([.ref (ad 5 0), .int x1, .int x2])).length) Slot.unset).toArray = ls at hl ⊢
  have hl : lv_has ls 3 [(0, .ref (ad 5 0)), (1, .int x1), (2, .int x2)] := hl
  refine lv_aload_n hx hb dX5_clash_0 rfl (lv_at hl 0 rfl) ?_
  refine lv_iload_n hx hb dX5_clash_1 rfl (lv_at hl 1 rfl) ?_
  refine lv_iload_n hx hb dX5_clash_2 rfl (lv_at hl 2 rfl) ?_
  refine pc_qcallv (va_runV (As := [.int x1, .int x2]) (rest := []) ⟨hx, hb, hml, hown, hts⟩ (r_X5_requireTwoSheets l D cA NL c v w u ad x1 x2 hM hBd hF h1n h1 h2n h2 hne) (cwV 2 hts gX5_clash_X5_requireTwoSheets rfl rfl rfl (by decide +kernel) ⟨Nat.le_of_ble_eq_true rfl, Nat.le_of_ble_eq_true rfl⟩) (pc_preV pcN_ok hX hW.1 hM.1 rfl rfl hW.1) rfl rfl hl.1 rfl (lv_room (Nat.le_of_ble_eq_true rfl)) dX5_clash_3 ⟨Nat.le_of_ble_eq_true rfl, Nat.le_of_ble_eq_true rfl⟩) hW (fun H locs _ hW => ?_)
  refine lv_aload_n hx hb dX5_clash_6 rfl (lv_at hl 0 rfl) ?_
  refine lv_iload_n hx hb dX5_clash_7 rfl (lv_at hl 1 rfl) ?_
  refine lv_iload_n hx hb dX5_clash_8 rfl (lv_at hl 2 rfl) ?_
  refine pc_qcalll (va_runV (As := [.int x1, .int x2]) (rest := []) ⟨hx, hb, hml, hown, hts⟩ (r_X5_clashRegion l D cA NL c v w u ad x1 x2 hM hBd hF h1n h1 h2n h2) (cwV 2 hts gX5_clash_X5_clashRegion rfl rfl rfl (by decide +kernel) ⟨Nat.le_of_ble_eq_true rfl, Nat.le_of_ble_eq_true rfl⟩) (pc_preV pcN_ok hX hW.1 hM.1 rfl rfl hW.1) rfl rfl hl.1 rfl (lv_room (Nat.le_of_ble_eq_true rfl)) dX5_clash_9 ⟨Nat.le_of_ble_eq_true rfl, Nat.le_of_ble_eq_true rfl⟩) hW (fun r205 H locs hwr205 hW => ?_)
  replace hwr205 := hwr205.symm
  subst hwr205
  refine pc_qcalli (va_runS (As := [.long (F_X5_clashRegion c v w x1 x2)]) (rest := []) ⟨hx, hb, hml, hown, hts⟩ (r_X5_fieldsOf l D cA (F_X5_clashRegion c v w x1 x2) ) (va_cwS 1 hts gX5_clash_X5_fieldsOf rfl rfl rfl (by decide +kernel) ⟨Nat.le_of_ble_eq_true rfl, Nat.le_of_ble_eq_true rfl⟩) (pc_preS pcN_ok hX trivial) rfl rfl hl.1 rfl (lv_room (Nat.le_of_ble_eq_true rfl)) dX5_clash_12 ⟨Nat.le_of_ble_eq_true rfl, Nat.le_of_ble_eq_true rfl⟩) hW (fun r206 H locs hwr206 hW => ?_)
  replace hwr206 := hwr206.symm
  subst hwr206
  exact W.iret (v := (F_X5_fieldsOf (F_X5_clashRegion c v w x1 x2))) hx hb hr (fun t ht hW9 => ⟨⟨(F_X5_fieldsOf (F_X5_clashRegion c v w x1 x2)), (), rfl, rfl, trivial⟩, hW.2.F ht⟩) hW.2.2.2 dX5_clash_15

def F_X5_status (c : SC) (v : SV) (w : SW) (x1 x2 : Int32) : Int32 := (F_X3_statusOf c v w x1.toNatClampNeg x2)

set_option maxHeartbeats 4000000 in
set_option maxRecDepth 100000 in
theorem r_X5_status (l : Launch) (D : va_G) (cA : Nat → ClassId) (NL : List (Nat × Nat)) (c : SC) (v : SV) (w : SW) (u : Nat → Int32) (ad : Nat → Nat → Nat) (x1 x2 : Int32) (hM : MEM c NL) (hBd : BND c) (hF : WF c v) (h1n : ¬ x1 < 0) (h1 : x1.toNatClampNeg < c 0) (g1 : ¬ x2 < 0) (g2 : x2 ≤ v 1 x1.toNatClampNeg 1) : Met l yX5_status wsX5_status ({ frames := 1, cells := 0, slots := 0, locals := 21 }) (pcPre D vwCl (tyL cA) [.ref (ad 5 0), .int x1, .int x2] (fun H => va_P D vwCl (pcW NL ad (ctO cA c v w u ad)) H)) (va_Qi (fun (r : Int32) (_ : Unit) => r = F_X5_status c v w x1 x2) (fun _ _ => True) (fun _ => False)) 0 0 (fun _ => False) := by
  refine Met.ofW (cc := cX5_status) (maxL := 4) (ret := (some .int)) (by decide) rfl ?_
  intro p e s m args below meth c0 s₁ B hml hv
  obtain ⟨rfl, hX, hP0⟩ := hv
  have hx := B.exec
  have hb := B.bytes
  have hr := B.returns
  have hts := atoms_spec (ws := wsX5_status) B.pre
  have hown : s.vm.findClass RX5 = some m.cls := findClass_of_methodNamed B.named
  have hlocks := B.notSynchronized
  have hW : pcQ D vwCl (fun _ => False) s.heap NL ad (ctO cA c v w u ad) s.heap [] := ⟨hP0, va_S.rf⟩
  have hl := lv_entry ([.ref (ad 5 0), .int x1, .int x2]) (n := 4) (Nat.le_of_ble_eq_true rfl)
  rw [lg_entry_eq]
  generalize (lg_sl ([.ref (ad 5 0), .int x1, .int x2]) ++ List.replicate (4 - (lg_sl ([.ref (ad 5 0), .int x1, .int x2])).length) Slot.unset).toArray = ls at hl ⊢
  have hl : lv_has ls 4 [(0, .ref (ad 5 0)), (1, .int x1), (2, .int x2)] := hl
  refine lv_aload_n hx hb dX5_status_0 rfl (lv_at hl 0 rfl) ?_
  refine lv_iload_n hx hb dX5_status_1 rfl (lv_at hl 1 rfl) ?_
  refine pc_qcallv (va_runV (As := [.int x1]) (rest := []) ⟨hx, hb, hml, hown, hts⟩ (r_X5_requireSheet l D cA NL c v w u ad x1 hM hBd hF h1n h1) (cwV 1 hts gX5_status_X5_requireSheet rfl rfl rfl (by decide +kernel) ⟨Nat.le_of_ble_eq_true rfl, Nat.le_of_ble_eq_true rfl⟩) (pc_preV pcN_ok hX hW.1 hM.1 rfl rfl hW.1) rfl rfl hl.1 rfl (lv_room (Nat.le_of_ble_eq_true rfl)) dX5_status_2 ⟨Nat.le_of_ble_eq_true rfl, Nat.le_of_ble_eq_true rfl⟩) hW (fun H locs _ hW => ?_)
  refine lv_aload_n hx hb dX5_status_5 rfl (lv_at hl 0 rfl) ?_
  refine pc_get (C := RX5) (T := TX5) (N := 13) (ci := 5) hx hb hts (by decide +kernel) hown hX.1 hW.1 5 0 hM.1 rfl rfl 0 (by decide) (hts (.fieldLink RX5 11 "DraftsmanOffice" "sheets" "[LDraftsmanOffice$Sheet;") (by decide +kernel)) (fun _ h9 => h9) rfl dX5_status_6 ?_
  refine lv_iload_n hx hb dX5_status_9 rfl (lv_at hl 1 rfl) ?_
  refine pc_aald (r := .ref (ad 1 x1.toNatClampNeg)) hx hb hX.1 hW.1 50 0 3 (hM.2.1 50 (by decide) (by decide)) rfl rfl rfl (fun q => q.elim h1n (fun q => absurd (Nat.lt_of_lt_of_le h1 hBd.1) (Nat.not_lt.mpr q))) (by rw [sRf_in h1]; rfl) dX5_status_10 ?_
  refine lv_astore_n (lv' := [(3, .ref (ad 1 x1.toNatClampNeg)), (0, .ref (ad 5 0)), (1, .int x1), (2, .int x2)]) hx hb dX5_status_11 rfl hl (by decide) rfl (fun ls hl => ?_)
  refine lv_iload_n hx hb dX5_status_12 rfl (lv_at hl 3 rfl) ?_
  refine lv_if_lt (tgt := 24) hx hb dX5_status_13 (by decide) (fun c208 => absurd c208 g1) (fun _ => ?_)
  refine lv_iload_n hx hb dX5_status_16 rfl (lv_at hl 3 rfl) ?_
  refine lv_aload_n hx hb dX5_status_17 rfl (lv_at hl 0 rfl) ?_
  refine pc_getN (C := RX3) (T := TX3) (N := 10) (ci := 3) hx hb hts (by decide +kernel) hown hX.1 hW.1 1 x1.toNatClampNeg (hM.2.2.2.1 x1.toNatClampNeg h1).1 rfl rfl 3 (by decide) (hX.2.1 (.fieldLinkNest RX5 115 "DraftsmanOffice$Sheet" "last" "I" R_host) (by decide +kernel)) (fun _ h9 => h9) rfl dX5_status_18 ?_
  refine lv_icmp_le (tgt := 34) hx hb dX5_status_21 (by decide) (fun _ => ?_) (fun c209 => absurd g2 c209)
  refine lv_aload_n hx hb dX5_status_34 rfl (lv_at hl 0 rfl) ?_
  refine lv_iload_n hx hb dX5_status_35 rfl (lv_at hl 3 rfl) ?_
  refine pc_qcalli (va_runVN (As := [.int x2]) (rest := []) ⟨hx, hb, hml, hown, hts⟩ (r_X3_statusOf l D cA NL c v w u ad x1.toNatClampNeg x2 hM hBd h1) ⟨va_cnB 1 hts gX5_status_X3_statusOf_n182 rfl rfl rfl (hX.2.1 (.methodLinkNest RX5 182 yX3_statusOf R_host) (by decide +kernel)) (hts (.initialized RX3) (by decide +kernel)) (by decide +kernel) ⟨Nat.le_of_ble_eq_true rfl, Nat.le_of_ble_eq_true rfl⟩, hts (.instanceMethod yX3_statusOf) (by decide +kernel), hts (.selects RX3 yX3_statusOf yX3_statusOf) (by decide +kernel)⟩ (pc_preV pcN_ok hX hW.1 (hM.2.2.2.1 x1.toNatClampNeg h1).1 rfl rfl hW.1) rfl rfl hl.1 rfl (lv_room (Nat.le_of_ble_eq_true rfl)) dX5_status_36 ⟨Nat.le_of_ble_eq_true rfl, Nat.le_of_ble_eq_true rfl⟩) hW (fun r210 H locs hwr210 hW => ?_)
  replace hwr210 := hwr210.symm
  subst hwr210
  exact W.iret (v := (F_X3_statusOf c v w x1.toNatClampNeg x2)) hx hb hr (fun t ht hW9 => ⟨⟨(F_X3_statusOf c v w x1.toNatClampNeg x2), (), rfl, rfl, trivial⟩, hW.2.F ht⟩) hW.2.2.2 dX5_status_39

def F_X5_clouds (c : SC) (v : SV) (w : SW) (x1 x2 x3 : Int32) : Int32 := (F_X5_cloudsOver c v w x1 (F_X5_regionOf x2 x3 x2 x3))

set_option maxHeartbeats 4000000 in
set_option maxRecDepth 100000 in
theorem r_X5_clouds (l : Launch) (D : va_G) (cA : Nat → ClassId) (NL : List (Nat × Nat)) (c : SC) (v : SV) (w : SW) (u : Nat → Int32) (ad : Nat → Nat → Nat) (x1 x2 x3 : Int32) (hM : MEM c NL) (hBd : BND c) (hF : WF c v) (h1n : ¬ x1 < 0) (h1 : x1.toNatClampNeg < c 0) (g1 : ¬ x2 < 0) (g2 : x2 < 20) (g4 : ¬ x3 < 0) (g6 : x3 < 20) : Met l yX5_clouds wsX5_clouds ({ frames := 3, cells := 0, slots := 0, locals := 71 }) (pcPre D vwCl (tyL cA) [.ref (ad 5 0), .int x1, .int x2, .int x3] (fun H => va_P D vwCl (pcW NL ad (ctO cA c v w u ad)) H)) (va_Qi (fun (r : Int32) (_ : Unit) => r = F_X5_clouds c v w x1 x2 x3) (fun _ _ => True) (fun _ => False)) 0 0 (fun _ => False) := by
  refine Met.ofW (cc := cX5_clouds) (maxL := 4) (ret := (some .int)) (by decide) rfl ?_
  intro p e s m args below meth c0 s₁ B hml hv
  obtain ⟨rfl, hX, hP0⟩ := hv
  have hx := B.exec
  have hb := B.bytes
  have hr := B.returns
  have hts := atoms_spec (ws := wsX5_clouds) B.pre
  have hown : s.vm.findClass RX5 = some m.cls := findClass_of_methodNamed B.named
  have hlocks := B.notSynchronized
  have hW : pcQ D vwCl (fun _ => False) s.heap NL ad (ctO cA c v w u ad) s.heap [] := ⟨hP0, va_S.rf⟩
  have hl := lv_entry ([.ref (ad 5 0), .int x1, .int x2, .int x3]) (n := 4) (Nat.le_of_ble_eq_true rfl)
  rw [lg_entry_eq]
  generalize (lg_sl ([.ref (ad 5 0), .int x1, .int x2, .int x3]) ++ List.replicate (4 - (lg_sl ([.ref (ad 5 0), .int x1, .int x2, .int x3])).length) Slot.unset).toArray = ls at hl ⊢
  have hl : lv_has ls 4 [(0, .ref (ad 5 0)), (1, .int x1), (2, .int x2), (3, .int x3)] := hl
  refine lv_aload_n hx hb dX5_clouds_0 rfl (lv_at hl 0 rfl) ?_
  refine lv_iload_n hx hb dX5_clouds_1 rfl (lv_at hl 1 rfl) ?_
  refine pc_qcallv (va_runV (As := [.int x1]) (rest := []) ⟨hx, hb, hml, hown, hts⟩ (r_X5_requireSheet l D cA NL c v w u ad x1 hM hBd hF h1n h1) (cwV 1 hts gX5_clouds_X5_requireSheet rfl rfl rfl (by decide +kernel) ⟨Nat.le_of_ble_eq_true rfl, Nat.le_of_ble_eq_true rfl⟩) (pc_preV pcN_ok hX hW.1 hM.1 rfl rfl hW.1) rfl rfl hl.1 rfl (lv_room (Nat.le_of_ble_eq_true rfl)) dX5_clouds_2 ⟨Nat.le_of_ble_eq_true rfl, Nat.le_of_ble_eq_true rfl⟩) hW (fun H locs _ hW => ?_)
  refine lv_iload_n hx hb dX5_clouds_5 rfl (lv_at hl 2 rfl) ?_
  refine lv_iload_n hx hb dX5_clouds_6 rfl (lv_at hl 3 rfl) ?_
  refine lv_iload_n hx hb dX5_clouds_7 rfl (lv_at hl 2 rfl) ?_
  refine lv_iload_n hx hb dX5_clouds_8 rfl (lv_at hl 3 rfl) ?_
  refine pc_qcallv (va_runS (As := [.int x2, .int x3, .int x2, .int x3]) (rest := []) ⟨hx, hb, hml, hown, hts⟩ (r_X5_requireRegion l D cA x2 x3 x2 x3 g1 (fun h => absurd h Int32.lt_irrefl) (Int32.not_le.mpr g2) g4 (fun h => absurd h Int32.lt_irrefl) g6) (va_cwS 4 hts gX5_clouds_X5_requireRegion rfl rfl rfl (by decide +kernel) ⟨Nat.le_of_ble_eq_true rfl, Nat.le_of_ble_eq_true rfl⟩) (pc_preS pcN_ok hX trivial) rfl rfl hl.1 rfl (lv_room (Nat.le_of_ble_eq_true rfl)) dX5_clouds_9 ⟨Nat.le_of_ble_eq_true rfl, Nat.le_of_ble_eq_true rfl⟩) hW (fun H locs _ hW => ?_)
  refine lv_aload_n hx hb dX5_clouds_12 rfl (lv_at hl 0 rfl) ?_
  refine lv_iload_n hx hb dX5_clouds_13 rfl (lv_at hl 1 rfl) ?_
  refine lv_iload_n hx hb dX5_clouds_14 rfl (lv_at hl 2 rfl) ?_
  refine lv_iload_n hx hb dX5_clouds_15 rfl (lv_at hl 3 rfl) ?_
  refine lv_iload_n hx hb dX5_clouds_16 rfl (lv_at hl 2 rfl) ?_
  refine lv_iload_n hx hb dX5_clouds_17 rfl (lv_at hl 3 rfl) ?_
  refine pc_qcalll (va_runS (As := [.int x2, .int x3, .int x2, .int x3]) (rest := [.int x1, .ref (ad 5 0)]) ⟨hx, hb, hml, hown, hts⟩ (r_X5_regionOf l D cA x2 x3 x2 x3 ) (va_cwS 4 hts gX5_clouds_X5_regionOf rfl rfl rfl (by decide +kernel) ⟨Nat.le_of_ble_eq_true rfl, Nat.le_of_ble_eq_true rfl⟩) (pc_preS pcN_ok hX trivial) rfl rfl hl.1 rfl (lv_room (Nat.le_of_ble_eq_true rfl)) dX5_clouds_18 ⟨Nat.le_of_ble_eq_true rfl, Nat.le_of_ble_eq_true rfl⟩) hW (fun r213 H locs hwr213 hW => ?_)
  replace hwr213 := hwr213.symm
  subst hwr213
  refine pc_qcalli (va_runV (As := [.int x1, .long (F_X5_regionOf x2 x3 x2 x3)]) (rest := []) ⟨hx, hb, hml, hown, hts⟩ (r_X5_cloudsOver l D cA NL c v w u ad x1 (F_X5_regionOf x2 x3 x2 x3) hM hBd hF h1n h1) (cwV 2 hts gX5_clouds_X5_cloudsOver rfl rfl rfl (by decide +kernel) ⟨Nat.le_of_ble_eq_true rfl, Nat.le_of_ble_eq_true rfl⟩) (pc_preV pcN_ok hX hW.1 hM.1 rfl rfl hW.1) rfl rfl hl.1 rfl (lv_room (Nat.le_of_ble_eq_true rfl)) dX5_clouds_21 ⟨Nat.le_of_ble_eq_true rfl, Nat.le_of_ble_eq_true rfl⟩) hW (fun r214 H locs hwr214 hW => ?_)
  replace hwr214 := hwr214.symm
  subst hwr214
  exact W.iret (v := (F_X5_cloudsOver c v w x1 (F_X5_regionOf x2 x3 x2 x3))) hx hb hr (fun t ht hW9 => ⟨⟨(F_X5_cloudsOver c v w x1 (F_X5_regionOf x2 x3 x2 x3)), (), rfl, rfl, trivial⟩, hW.2.F ht⟩) hW.2.2.2 dX5_clouds_24

def F_X5_has (c : SC) (v : SV) (w : SW) (x1 x2 : Int32) : Int32 := (v 57 x1.toNatClampNeg x2.toNatClampNeg)

set_option maxHeartbeats 4000000 in
set_option maxRecDepth 100000 in
theorem r_X5_has (l : Launch) (D : va_G) (cA : Nat → ClassId) (NL : List (Nat × Nat)) (c : SC) (v : SV) (w : SW) (u : Nat → Int32) (ad : Nat → Nat → Nat) (x1 x2 : Int32) (hM : MEM c NL) (hBd : BND c) (hF : WF c v) (g1 : ¬ x1 < 0) (g2 : x1 < 4) (h2n : ¬ x2 < 0) (h2 : x2.toNatClampNeg < c 0) : Met l yX5_has wsX5_has ({ frames := 1, cells := 0, slots := 0, locals := 21 }) (pcPre D vwCl (tyL cA) [.ref (ad 5 0), .int x1, .int x2] (fun H => va_P D vwCl (pcW NL ad (ctO cA c v w u ad)) H)) (va_Qi (fun (r : Int32) (_ : Unit) => r = F_X5_has c v w x1 x2) (fun _ _ => True) (fun _ => False)) 0 0 (fun _ => False) := by
  refine Met.ofW (cc := cX5_has) (maxL := 3) (ret := (some .int)) (by decide) rfl ?_
  intro p e s m args below meth c0 s₁ B hml hv
  obtain ⟨rfl, hX, hP0⟩ := hv
  have hx := B.exec
  have hb := B.bytes
  have hr := B.returns
  have hts := atoms_spec (ws := wsX5_has) B.pre
  have hown : s.vm.findClass RX5 = some m.cls := findClass_of_methodNamed B.named
  have hlocks := B.notSynchronized
  have hW : pcQ D vwCl (fun _ => False) s.heap NL ad (ctO cA c v w u ad) s.heap [] := ⟨hP0, va_S.rf⟩
  have hl := lv_entry ([.ref (ad 5 0), .int x1, .int x2]) (n := 3) (Nat.le_of_ble_eq_true rfl)
  rw [lg_entry_eq]
  generalize (lg_sl ([.ref (ad 5 0), .int x1, .int x2]) ++ List.replicate (3 - (lg_sl ([.ref (ad 5 0), .int x1, .int x2])).length) Slot.unset).toArray = ls at hl ⊢
  have hl : lv_has ls 3 [(0, .ref (ad 5 0)), (1, .int x1), (2, .int x2)] := hl
  refine lv_iload_n hx hb dX5_has_0 rfl (lv_at hl 1 rfl) ?_
  refine pc_qcallv (va_runS (As := [.int x1]) (rest := []) ⟨hx, hb, hml, hown, hts⟩ (r_X5_requireCrew l D cA x1 g1 g2) (va_cwS 1 hts gX5_has_X5_requireCrew rfl rfl rfl (by decide +kernel) ⟨Nat.le_of_ble_eq_true rfl, Nat.le_of_ble_eq_true rfl⟩) (pc_preS pcN_ok hX trivial) rfl rfl hl.1 rfl (lv_room (Nat.le_of_ble_eq_true rfl)) dX5_has_1 ⟨Nat.le_of_ble_eq_true rfl, Nat.le_of_ble_eq_true rfl⟩) hW (fun H locs _ hW => ?_)
  refine lv_aload_n hx hb dX5_has_4 rfl (lv_at hl 0 rfl) ?_
  refine lv_iload_n hx hb dX5_has_5 rfl (lv_at hl 2 rfl) ?_
  refine pc_qcallv (va_runV (As := [.int x2]) (rest := []) ⟨hx, hb, hml, hown, hts⟩ (r_X5_requireSheet l D cA NL c v w u ad x2 hM hBd hF h2n h2) (cwV 1 hts gX5_has_X5_requireSheet rfl rfl rfl (by decide +kernel) ⟨Nat.le_of_ble_eq_true rfl, Nat.le_of_ble_eq_true rfl⟩) (pc_preV pcN_ok hX hW.1 hM.1 rfl rfl hW.1) rfl rfl hl.1 rfl (lv_room (Nat.le_of_ble_eq_true rfl)) dX5_has_6 ⟨Nat.le_of_ble_eq_true rfl, Nat.le_of_ble_eq_true rfl⟩) hW (fun H locs _ hW => ?_)
  refine lv_aload_n hx hb dX5_has_9 rfl (lv_at hl 0 rfl) ?_
  refine pc_get (C := RX5) (T := TX5) (N := 13) (ci := 5) hx hb hts (by decide +kernel) hown hX.1 hW.1 5 0 hM.1 rfl rfl 5 (by decide) (hts (.fieldLink RX5 41 "DraftsmanOffice" "crewHas" "[[I") (by decide +kernel)) (fun _ h9 => h9) rfl dX5_has_10 ?_
  refine lv_iload_n hx hb dX5_has_13 rfl (lv_at hl 1 rfl) ?_
  refine pc_aald (r := .ref (ad 57 x1.toNatClampNeg)) hx hb hX.1 hW.1 55 0 2 (hM.2.1 55 (by decide) (by decide)) rfl rfl rfl (fun q => q.elim g1 (fun q => absurd (by have h4 := Int32.lt_iff_toInt_lt.mp g2; obtain ⟨j, hj, rfl⟩ := nI_of g1; rw [nI_clamp hj]; rw [nI_toInt hj] at h4; have h5 : (4 : Int32).toInt = 4 := (by decide); omega) (Nat.not_lt.mpr q))) (by rw [sRf_in (by have h4 := Int32.lt_iff_toInt_lt.mp g2; obtain ⟨j, hj, rfl⟩ := nI_of g1; rw [nI_clamp hj]; rw [nI_toInt hj] at h4; have h5 : (4 : Int32).toInt = 4 := (by decide); omega)]; rfl) dX5_has_14 ?_
  refine lv_iload_n hx hb dX5_has_15 rfl (lv_at hl 2 rfl) ?_
  refine pc_iald (f := (v 57 x1.toNatClampNeg)) hx hb hX.1 hW.1 57 x1.toNatClampNeg 0 (hM.2.2.1 x1.toNatClampNeg (by have h4 := Int32.lt_iff_toInt_lt.mp g2; obtain ⟨j, hj, rfl⟩ := nI_of g1; rw [nI_clamp hj]; rw [nI_toInt hj] at h4; have h5 : (4 : Int32).toInt = 4 := (by decide); omega)) rfl rfl (fun q => q.elim h2n (fun q => absurd (Nat.lt_of_lt_of_le h2 hBd.1) (Nat.not_lt.mpr q))) dX5_has_16 ?_
  exact W.iret (v := (v 57 x1.toNatClampNeg x2.toNatClampNeg)) hx hb hr (fun t ht hW9 => ⟨⟨(v 57 x1.toNatClampNeg x2.toNatClampNeg), (), rfl, rfl, trivial⟩, hW.2.F ht⟩) hW.2.2.2 dX5_has_17

def FL_X5_owes (c : SC) (v : SV) (w : SW)  (x1 : Int32) : Nat → Nat → Int32 → Int32
  | 0, _, s220 => s220
  | k219 + 1, i218, s220 => FL_X5_owes c v w x1 k219 (i218 + 1) (if (F_X5_isIn (v 3 i218 1) x1) = 0 then s220 else (if ((nI (c 5)) - (v 3 i218 0)) ≤ (5 : Int32) then s220 else (s220 + 1)))
def F_X5_owes (c : SC) (v : SV) (w : SW) (x1 : Int32) : Int32 := (FL_X5_owes c v w x1 (c 2) 0 (0 : Int32))

set_option maxHeartbeats 4000000 in
set_option maxRecDepth 100000 in
theorem r_X5_owes (l : Launch) (D : va_G) (cA : Nat → ClassId) (NL : List (Nat × Nat)) (c : SC) (v : SV) (w : SW) (u : Nat → Int32) (ad : Nat → Nat → Nat) (x1 : Int32) (hM : MEM c NL) (hBd : BND c) (hF : WF c v) (g1 : ¬ x1 < 0) (g2 : x1 < 4) : Met l yX5_owes wsX5_owes ({ frames := 1, cells := 0, slots := 0, locals := 21 }) (pcPre D vwCl (tyL cA) [.ref (ad 5 0), .int x1] (fun H => va_P D vwCl (pcW NL ad (ctO cA c v w u ad)) H)) (va_Qi (fun (r : Int32) (_ : Unit) => r = F_X5_owes c v w x1) (fun _ _ => True) (fun _ => False)) 0 0 (fun _ => False) := by
  refine Met.ofW (cc := cX5_owes) (maxL := 5) (ret := (some .int)) (by decide) rfl ?_
  intro p e s m args below meth c0 s₁ B hml hv
  obtain ⟨rfl, hX, hP0⟩ := hv
  have hx := B.exec
  have hb := B.bytes
  have hr := B.returns
  have hts := atoms_spec (ws := wsX5_owes) B.pre
  have hown : s.vm.findClass RX5 = some m.cls := findClass_of_methodNamed B.named
  have hlocks := B.notSynchronized
  have hW : pcQ D vwCl (fun _ => False) s.heap NL ad (ctO cA c v w u ad) s.heap [] := ⟨hP0, va_S.rf⟩
  have hl := lv_entry ([.ref (ad 5 0), .int x1]) (n := 5) (Nat.le_of_ble_eq_true rfl)
  rw [lg_entry_eq]
  generalize (lg_sl ([.ref (ad 5 0), .int x1]) ++ List.replicate (5 - (lg_sl ([.ref (ad 5 0), .int x1])).length) Slot.unset).toArray = ls at hl ⊢
  have hl : lv_has ls 5 [(0, .ref (ad 5 0)), (1, .int x1)] := hl
  refine lv_iload_n hx hb dX5_owes_0 rfl (lv_at hl 1 rfl) ?_
  refine pc_qcallv (va_runS (As := [.int x1]) (rest := []) ⟨hx, hb, hml, hown, hts⟩ (r_X5_requireCrew l D cA x1 g1 g2) (va_cwS 1 hts gX5_owes_X5_requireCrew rfl rfl rfl (by decide +kernel) ⟨Nat.le_of_ble_eq_true rfl, Nat.le_of_ble_eq_true rfl⟩) (pc_preS pcN_ok hX trivial) rfl rfl hl.1 rfl (lv_room (Nat.le_of_ble_eq_true rfl)) dX5_owes_1 ⟨Nat.le_of_ble_eq_true rfl, Nat.le_of_ble_eq_true rfl⟩) hW (fun H locs _ hW => ?_)
  refine lv_iconst (v := 0) hx hb dX5_owes_4 (by decide) ?_
  refine lv_istore_n (lv' := [(2, .int 0), (0, .ref (ad 5 0)), (1, .int x1)]) hx hb dX5_owes_5 rfl hl (by decide) rfl (fun ls hl => ?_)
  refine lv_iconst (v := 0) hx hb dX5_owes_6 (by decide) ?_
  refine lv_istore_n (lv' := [(3, .int 0), (2, .int 0), (0, .ref (ad 5 0)), (1, .int x1)]) hx hb dX5_owes_7 rfl hl (by decide) rfl (fun ls hl => ?_)
  have K221 : ∀ (k219 i218 : Nat) (s220 : Int32) (H : Heap) (locs : List Loc) (ls : Array Slot), i218 + k219 = c 2 → (FL_X5_owes c v w x1 k219 i218 s220) = (FL_X5_owes c v w x1 (c 2) 0 (0 : Int32)) → pcQ D vwCl (fun _ => False) s.heap NL ad (ctO cA c v w u ad) H locs → lv_has ls 5 [(3, .int (nI i218)), (2, .int s220), (0, .ref (ad 5 0)), (1, .int x1)] → W p l e (headSpec wsX5_owes ({ frames := 1, cells := 0, slots := 0, locals := 21 })).room s m ([.ref (ad 5 0), .int x1] : List Value).toArray below meth c0 H locs 0 0 (MQ below (va_Qi (fun (r : Int32) (_ : Unit) => r = F_X5_owes c v w x1) (fun _ _ => True) (fun _ => False)) ([.ref (ad 5 0), .int x1] : List Value).toArray s 0 0 (fun _ => False)) (F0 m 8 ls []) := by
    intro k219
    induction k219 with
    | zero =>
      intro i218 s220 H locs ls hk heF hW hl
      have ei : i218 = c 2 := by omega
      rw [ei] at hl
      obtain rfl : (FL_X5_owes c v w x1 (c 2) 0 (0 : Int32)) = s220 := heF.symm
      clear heF
      refine lv_iload_n hx hb dX5_owes_8 rfl (lv_at hl 0 rfl) ?_
      refine lv_aload_n hx hb dX5_owes_9 rfl (lv_at hl 2 rfl) ?_
      refine pc_get (C := RX5) (T := TX5) (N := 13) (ci := 5) hx hb hts (by decide +kernel) hown hX.1 hW.1 5 0 hM.1 rfl rfl 9 (by decide) (hts (.fieldLink RX5 55 "DraftsmanOffice" "sendingCount" "I") (by decide +kernel)) (fun _ h9 => h9) rfl dX5_owes_10 ?_
      refine lv_icmp_ge (tgt := 59) hx hb dX5_owes_13 (by decide) (fun _ => ?_) (fun c222 => absurd (Int32.le_refl _) c222)
      refine lv_iload_n hx hb dX5_owes_59 rfl (lv_at hl 1 rfl) ?_
      exact W.iret (v := (FL_X5_owes c v w x1 (c 2) 0 (0 : Int32))) hx hb hr (fun t ht hW9 => ⟨⟨(FL_X5_owes c v w x1 (c 2) 0 (0 : Int32)), (), rfl, rfl, trivial⟩, hW.2.F ht⟩) hW.2.2.2 dX5_owes_60
    | succ k219 ihk219 =>
      intro i218 s220 H locs ls hk heF hW hl
      have hlt : i218 < c 2 := by omega
      have hlt9i218 := hlt
      refine lv_iload_n hx hb dX5_owes_8 rfl (lv_at hl 0 rfl) ?_
      refine lv_aload_n hx hb dX5_owes_9 rfl (lv_at hl 2 rfl) ?_
      refine pc_get (C := RX5) (T := TX5) (N := 13) (ci := 5) hx hb hts (by decide +kernel) hown hX.1 hW.1 5 0 hM.1 rfl rfl 9 (by decide) (hts (.fieldLink RX5 55 "DraftsmanOffice" "sendingCount" "I") (by decide +kernel)) (fun _ h9 => h9) rfl dX5_owes_10 ?_
      refine lv_icmp_ge (tgt := 59) hx hb dX5_owes_13 (by decide) (fun c223 => absurd c223 (nI_ge hlt (Nat.lt_of_le_of_lt hBd.2.2.1 (by decide)))) (fun _ => ?_)
      refine lv_aload_n hx hb dX5_owes_16 rfl (lv_at hl 2 rfl) ?_
      refine pc_get (C := RX5) (T := TX5) (N := 13) (ci := 5) hx hb hts (by decide +kernel) hown hX.1 hW.1 5 0 hM.1 rfl rfl 2 (by decide) (hts (.fieldLink RX5 23 "DraftsmanOffice" "sendings" "[LDraftsmanOffice$Sending;") (by decide +kernel)) (fun _ h9 => h9) rfl dX5_owes_17 ?_
      refine lv_iload_n hx hb dX5_owes_20 rfl (lv_at hl 0 rfl) ?_
      refine pc_aald (r := .ref (ad 3 i218)) hx hb hX.1 hW.1 52 0 5 (hM.2.1 52 (by decide) (by decide)) rfl rfl rfl (vp_in_nI (Nat.lt_of_lt_of_le hlt9i218 hBd.2.2.1) (by decide)) (by rw [nI_clamp (Nat.lt_of_lt_of_le (Nat.lt_of_lt_of_le hlt9i218 hBd.2.2.1) (by decide)), sRf_in hlt9i218]; rfl) dX5_owes_21 ?_
      refine lv_astore (lv' := [(4, .ref (ad 3 i218)), (3, .int (nI i218)), (2, .int s220), (0, .ref (ad 5 0)), (1, .int x1)]) hx hb dX5_owes_22 hl (by decide) rfl (fun ls hl => ?_)
      refine lv_aload hx hb dX5_owes_24 (lv_at hl 0 rfl) ?_
      refine pc_getN (C := RX2) (T := TX2) (N := 3) (ci := 2) hx hb hts (by decide +kernel) hown hX.1 hW.1 3 i218 (hM.2.2.2.2.2.1 i218 hlt9i218).1 rfl rfl 2 (by decide) (hX.2.1 (.fieldLinkNest RX5 213 "DraftsmanOffice$Sending" "awaitedBy" "I" R_host) (by decide +kernel)) (fun _ h9 => h9) rfl dX5_owes_26 ?_
      refine lv_iload_n hx hb dX5_owes_29 rfl (lv_at hl 4 rfl) ?_
      refine pc_qcalli (va_runS (As := [.int (v 3 i218 1), .int x1]) (rest := []) ⟨hx, hb, hml, hown, hts⟩ (r_X5_isIn l D cA (v 3 i218 1) x1 ) (va_cwS 2 hts gX5_owes_X5_isIn rfl rfl rfl (by decide +kernel) ⟨Nat.le_of_ble_eq_true rfl, Nat.le_of_ble_eq_true rfl⟩) (pc_preS pcN_ok hX trivial) rfl rfl hl.1 rfl (lv_room (Nat.le_of_ble_eq_true rfl)) dX5_owes_30 ⟨Nat.le_of_ble_eq_true rfl, Nat.le_of_ble_eq_true rfl⟩) hW (fun r224 H locs hwr224 hW => ?_)
      replace hwr224 := hwr224.symm
      subst hwr224
      refine lv_if_eq (tgt := 53) hx hb dX5_owes_33 (by decide) (fun (c225 : (F_X5_isIn (v 3 i218 1) x1) = 0) => ?_) (fun (c225 : ¬ (F_X5_isIn (v 3 i218 1) x1) = 0) => ?_)
      · refine lv_iinc (v := nI (i218 + 1)) (lv' := [(3, .int (nI (i218 + 1))), (4, .ref (ad 3 i218)), (2, .int s220), (0, .ref (ad 5 0)), (1, .int x1)]) hx hb dX5_owes_53 hl (k := 1) rfl (nI_1 i218) (by decide) rfl (fun ls hl => ?_)
        refine lv_goto (tgt := 8) hx hb dX5_owes_56 (by decide) ?_
        have he9F : (FL_X5_owes c v w x1 k219 (i218 + 1) s220) = (FL_X5_owes c v w x1 (c 2) 0 (0 : Int32)) := by rw [← heF]; show (FL_X5_owes c v w x1 k219 (i218 + 1) s220) = (FL_X5_owes c v w x1 (k219 + 1) i218 s220); simp only [FL_X5_owes, if_pos c225]
        exact ihk219 (i218 + 1)  s220 H locs ls (by omega) he9F hW (lv_sub hl [0, 2, 3, 4] rfl)
      · refine lv_aload_n hx hb dX5_owes_36 rfl (lv_at hl 3 rfl) ?_
        refine pc_get (C := RX5) (T := TX5) (N := 13) (ci := 5) hx hb hts (by decide +kernel) hown hX.1 hW.1 5 0 hM.1 rfl rfl 12 (by decide) (hts (.fieldLink RX5 64 "DraftsmanOffice" "today" "I") (by decide +kernel)) (fun _ h9 => h9) rfl dX5_owes_37 ?_
        refine lv_aload hx hb dX5_owes_40 (lv_at hl 0 rfl) ?_
        refine pc_getN (C := RX2) (T := TX2) (N := 3) (ci := 2) hx hb hts (by decide +kernel) hown hX.1 hW.1 3 i218 (hM.2.2.2.2.2.1 i218 hlt9i218).1 rfl rfl 0 (by decide) (hX.2.1 (.fieldLinkNest RX5 226 "DraftsmanOffice$Sending" "sentOn" "I" R_host) (by decide +kernel)) (fun _ h9 => h9) rfl dX5_owes_42 ?_
        refine lv_isub hx hb dX5_owes_45 ?_
        refine lv_iconst (v := 5) hx hb dX5_owes_46 (by decide) ?_
        refine lv_icmp_le (tgt := 53) hx hb dX5_owes_47 (by decide) (fun (c226 : ((nI (c 5)) - (v 3 i218 0)) ≤ (5 : Int32)) => ?_) (fun (c226 : ¬ ((nI (c 5)) - (v 3 i218 0)) ≤ (5 : Int32)) => ?_)
        · refine lv_iinc (v := nI (i218 + 1)) (lv' := [(3, .int (nI (i218 + 1))), (4, .ref (ad 3 i218)), (2, .int s220), (0, .ref (ad 5 0)), (1, .int x1)]) hx hb dX5_owes_53 hl (k := 1) rfl (nI_1 i218) (by decide) rfl (fun ls hl => ?_)
          refine lv_goto (tgt := 8) hx hb dX5_owes_56 (by decide) ?_
          have he9F : (FL_X5_owes c v w x1 k219 (i218 + 1) s220) = (FL_X5_owes c v w x1 (c 2) 0 (0 : Int32)) := by rw [← heF]; show (FL_X5_owes c v w x1 k219 (i218 + 1) s220) = (FL_X5_owes c v w x1 (k219 + 1) i218 s220); simp only [FL_X5_owes, if_neg c225, if_pos c226]
          exact ihk219 (i218 + 1)  s220 H locs ls (by omega) he9F hW (lv_sub hl [0, 2, 3, 4] rfl)
        · refine lv_iinc (v := (s220 + 1)) (lv' := [(2, .int (s220 + 1)), (4, .ref (ad 3 i218)), (3, .int (nI i218)), (0, .ref (ad 5 0)), (1, .int x1)]) hx hb dX5_owes_50 hl (k := 2) rfl rfl (by decide) rfl (fun ls hl => ?_)
          refine lv_iinc (v := nI (i218 + 1)) (lv' := [(3, .int (nI (i218 + 1))), (2, .int (s220 + 1)), (4, .ref (ad 3 i218)), (0, .ref (ad 5 0)), (1, .int x1)]) hx hb dX5_owes_53 hl (k := 2) rfl (nI_1 i218) (by decide) rfl (fun ls hl => ?_)
          refine lv_goto (tgt := 8) hx hb dX5_owes_56 (by decide) ?_
          have he9F : (FL_X5_owes c v w x1 k219 (i218 + 1) (s220 + 1)) = (FL_X5_owes c v w x1 (c 2) 0 (0 : Int32)) := by rw [← heF]; show (FL_X5_owes c v w x1 k219 (i218 + 1) (s220 + 1)) = (FL_X5_owes c v w x1 (k219 + 1) i218 s220); simp only [FL_X5_owes, if_neg c225, if_neg c226]
          exact ihk219 (i218 + 1)  (s220 + 1) H locs ls (by omega) he9F hW (lv_sub hl [0, 1, 3, 4] rfl)
  exact K221 (c 2) 0  (0 : Int32) _ _ ls (by omega) rfl hW (lv_sub hl [0, 1, 2, 3] rfl)

