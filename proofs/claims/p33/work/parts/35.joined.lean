
set_option maxHeartbeats 4000000 in
set_option maxRecDepth 100000 in
theorem r_X5_requireSheet (l : Launch) (D : va_G) (cA : Nat → ClassId) (NL : List (Nat × Nat)) (c : SC) (v : SV) (w : SW) (u : Nat → Int32) (ad : Nat → Nat → Nat) (x1 : Int32) (hM : MEM c NL) (hBd : BND c) (hF : WF c v) (h1n : ¬ x1 < 0) (h1 : x1.toNatClampNeg < c 0) : Met l yX5_requireSheet wsX5_requireSheet ({ frames := 0, cells := 0, slots := 0, locals := 0 }) (pcPre D vwCl (tyL cA) [.ref (ad 5 0), .int x1] (fun H => va_P D vwCl (pcW NL ad (ctO cA c v w u ad)) H)) (va_Qv (fun (_ : Unit) => True) (fun _ _ => True) (fun _ => False)) 0 0 (fun _ => False) := by
  refine Met.ofW (cc := cX5_requireSheet) (maxL := 2) (ret := none) (by decide) rfl ?_
  intro p e s m args below meth c0 s₁ B hml hv
  obtain ⟨rfl, hX, hP0⟩ := hv
  have hx := B.exec
  have hb := B.bytes
  have hr := B.returns
  have hts := atoms_spec (ws := wsX5_requireSheet) B.pre
  have hown : s.vm.findClass RX5 = some m.cls := findClass_of_methodNamed B.named
  have hlocks := B.notSynchronized
  have hW : pcQ D vwCl (fun _ => False) s.heap NL ad (ctO cA c v w u ad) s.heap [] := ⟨hP0, va_S.rf⟩
  have hl := lv_entry ([.ref (ad 5 0), .int x1]) (n := 2) (Nat.le_of_ble_eq_true rfl)
  rw [lg_entry_eq]
  generalize (lg_sl ([.ref (ad 5 0), .int x1]) ++ List.replicate (2 - (lg_sl ([.ref (ad 5 0), .int x1])).length) Slot.unset).toArray = ls at hl ⊢
  have hl : lv_has ls 2 [(0, .ref (ad 5 0)), (1, .int x1)] := hl
  refine lv_iload_n hx hb dX5_requireSheet_0 rfl (lv_at hl 1 rfl) ?_
  refine lv_if_lt (tgt := 12) hx hb dX5_requireSheet_1 (by decide) (fun c153 => absurd c153 h1n) (fun _ => ?_)
  refine lv_iload_n hx hb dX5_requireSheet_4 rfl (lv_at hl 1 rfl) ?_
  refine lv_aload_n hx hb dX5_requireSheet_5 rfl (lv_at hl 0 rfl) ?_
  refine pc_get (C := RX5) (T := TX5) (N := 13) (ci := 5) hx hb hts (by decide +kernel) hown hX.1 hW.1 5 0 hM.1 rfl rfl 7 (by decide) (hts (.fieldLink RX5 48 "DraftsmanOffice" "sheetCount" "I") (by decide +kernel)) (fun _ h9 => h9) rfl dX5_requireSheet_6 ?_
  refine lv_icmp_lt (tgt := 23) hx hb dX5_requireSheet_9 (by decide) (fun _ => ?_) (fun c154 => absurd (lt_nI h1n h1 (Nat.lt_of_le_of_lt hBd.1 (by decide))) c154)
  exact W.vret hx hb hr (fun t ht hW9 => ⟨⟨(), rfl, trivial, trivial⟩, hW.2.F ht⟩) hW.2.2.2 dX5_requireSheet_23


set_option maxHeartbeats 4000000 in
set_option maxRecDepth 100000 in
theorem r_X5_requireQuery (l : Launch) (D : va_G) (cA : Nat → ClassId) (NL : List (Nat × Nat)) (c : SC) (v : SV) (w : SW) (u : Nat → Int32) (ad : Nat → Nat → Nat) (x1 : Int32) (hM : MEM c NL) (hBd : BND c) (hF : WF c v) (h1n : ¬ x1 < 0) (h1 : x1.toNatClampNeg < c 3) : Met l yX5_requireQuery wsX5_requireQuery ({ frames := 0, cells := 0, slots := 0, locals := 0 }) (pcPre D vwCl (tyL cA) [.ref (ad 5 0), .int x1] (fun H => va_P D vwCl (pcW NL ad (ctO cA c v w u ad)) H)) (va_Qv (fun (_ : Unit) => True) (fun _ _ => True) (fun _ => False)) 0 0 (fun _ => False) := by
  refine Met.ofW (cc := cX5_requireQuery) (maxL := 2) (ret := none) (by decide) rfl ?_
  intro p e s m args below meth c0 s₁ B hml hv
  obtain ⟨rfl, hX, hP0⟩ := hv
  have hx := B.exec
  have hb := B.bytes
  have hr := B.returns
  have hts := atoms_spec (ws := wsX5_requireQuery) B.pre
  have hown : s.vm.findClass RX5 = some m.cls := findClass_of_methodNamed B.named
  have hlocks := B.notSynchronized
  have hW : pcQ D vwCl (fun _ => False) s.heap NL ad (ctO cA c v w u ad) s.heap [] := ⟨hP0, va_S.rf⟩
  have hl := lv_entry ([.ref (ad 5 0), .int x1]) (n := 2) (Nat.le_of_ble_eq_true rfl)
  rw [lg_entry_eq]
  generalize (lg_sl ([.ref (ad 5 0), .int x1]) ++ List.replicate (2 - (lg_sl ([.ref (ad 5 0), .int x1])).length) Slot.unset).toArray = ls at hl ⊢
  have hl : lv_has ls 2 [(0, .ref (ad 5 0)), (1, .int x1)] := hl
  refine lv_iload_n hx hb dX5_requireQuery_0 rfl (lv_at hl 1 rfl) ?_
  refine lv_if_lt (tgt := 12) hx hb dX5_requireQuery_1 (by decide) (fun c155 => absurd c155 h1n) (fun _ => ?_)
  refine lv_iload_n hx hb dX5_requireQuery_4 rfl (lv_at hl 1 rfl) ?_
  refine lv_aload_n hx hb dX5_requireQuery_5 rfl (lv_at hl 0 rfl) ?_
  refine pc_get (C := RX5) (T := TX5) (N := 13) (ci := 5) hx hb hts (by decide +kernel) hown hX.1 hW.1 5 0 hM.1 rfl rfl 10 (by decide) (hts (.fieldLink RX5 58 "DraftsmanOffice" "queryCount" "I") (by decide +kernel)) (fun _ h9 => h9) rfl dX5_requireQuery_6 ?_
  refine lv_icmp_lt (tgt := 23) hx hb dX5_requireQuery_9 (by decide) (fun _ => ?_) (fun c156 => absurd (lt_nI h1n h1 (Nat.lt_of_le_of_lt hBd.2.2.2.1 (by decide))) c156)
  exact W.vret hx hb hr (fun t ht hW9 => ⟨⟨(), rfl, trivial, trivial⟩, hW.2.F ht⟩) hW.2.2.2 dX5_requireQuery_23


set_option maxHeartbeats 4000000 in
set_option maxRecDepth 100000 in
theorem r_X5_requirePackage (l : Launch) (D : va_G) (cA : Nat → ClassId) (NL : List (Nat × Nat)) (c : SC) (v : SV) (w : SW) (u : Nat → Int32) (ad : Nat → Nat → Nat) (x1 : Int32) (hM : MEM c NL) (hBd : BND c) (hF : WF c v) (h1n : ¬ x1 < 0) (h1 : x1.toNatClampNeg < c 4) : Met l yX5_requirePackage wsX5_requirePackage ({ frames := 0, cells := 0, slots := 0, locals := 0 }) (pcPre D vwCl (tyL cA) [.ref (ad 5 0), .int x1] (fun H => va_P D vwCl (pcW NL ad (ctO cA c v w u ad)) H)) (va_Qv (fun (_ : Unit) => True) (fun _ _ => True) (fun _ => False)) 0 0 (fun _ => False) := by
  refine Met.ofW (cc := cX5_requirePackage) (maxL := 2) (ret := none) (by decide) rfl ?_
  intro p e s m args below meth c0 s₁ B hml hv
  obtain ⟨rfl, hX, hP0⟩ := hv
  have hx := B.exec
  have hb := B.bytes
  have hr := B.returns
  have hts := atoms_spec (ws := wsX5_requirePackage) B.pre
  have hown : s.vm.findClass RX5 = some m.cls := findClass_of_methodNamed B.named
  have hlocks := B.notSynchronized
  have hW : pcQ D vwCl (fun _ => False) s.heap NL ad (ctO cA c v w u ad) s.heap [] := ⟨hP0, va_S.rf⟩
  have hl := lv_entry ([.ref (ad 5 0), .int x1]) (n := 2) (Nat.le_of_ble_eq_true rfl)
  rw [lg_entry_eq]
  generalize (lg_sl ([.ref (ad 5 0), .int x1]) ++ List.replicate (2 - (lg_sl ([.ref (ad 5 0), .int x1])).length) Slot.unset).toArray = ls at hl ⊢
  have hl : lv_has ls 2 [(0, .ref (ad 5 0)), (1, .int x1)] := hl
  refine lv_iload_n hx hb dX5_requirePackage_0 rfl (lv_at hl 1 rfl) ?_
  refine lv_if_lt (tgt := 12) hx hb dX5_requirePackage_1 (by decide) (fun c157 => absurd c157 h1n) (fun _ => ?_)
  refine lv_iload_n hx hb dX5_requirePackage_4 rfl (lv_at hl 1 rfl) ?_
  refine lv_aload_n hx hb dX5_requirePackage_5 rfl (lv_at hl 0 rfl) ?_
  refine pc_get (C := RX5) (T := TX5) (N := 13) (ci := 5) hx hb hts (by decide +kernel) hown hX.1 hW.1 5 0 hM.1 rfl rfl 11 (by decide) (hts (.fieldLink RX5 61 "DraftsmanOffice" "packageCount" "I") (by decide +kernel)) (fun _ h9 => h9) rfl dX5_requirePackage_6 ?_
  refine lv_icmp_lt (tgt := 23) hx hb dX5_requirePackage_9 (by decide) (fun _ => ?_) (fun c158 => absurd (lt_nI h1n h1 (Nat.lt_of_le_of_lt hBd.2.2.2.2 (by decide))) c158)
  exact W.vret hx hb hr (fun t ht hW9 => ⟨⟨(), rfl, trivial, trivial⟩, hW.2.F ht⟩) hW.2.2.2 dX5_requirePackage_23

def G1_J13_bitCount_95d88 (y : Int64) : Int64 := (y - (((y.toUInt64 >>> ((1 : Int32).toInt64.toUInt64 &&& Int64.toUInt64 63)).toInt64) &&& (6148914691236517205 : Int64)))
def G2_J13_bitCount_95d88 (y : Int64) : Int64 := ((y &&& (3689348814741910323 : Int64)) + (((y.toUInt64 >>> ((2 : Int32).toInt64.toUInt64 &&& Int64.toUInt64 63)).toInt64) &&& (3689348814741910323 : Int64)))
def G3_J13_bitCount_95d88 (y : Int64) : Int64 := ((y + ((y.toUInt64 >>> ((4 : Int32).toInt64.toUInt64 &&& Int64.toUInt64 63)).toInt64)) &&& (1085102592571150095 : Int64))
def G4_J13_bitCount_95d88 (y : Int64) : Int64 := (y + ((y.toUInt64 >>> ((8 : Int32).toInt64.toUInt64 &&& Int64.toUInt64 63)).toInt64))
def G5_J13_bitCount_95d88 (y : Int64) : Int64 := (y + ((y.toUInt64 >>> ((16 : Int32).toInt64.toUInt64 &&& Int64.toUInt64 63)).toInt64))
def G6_J13_bitCount_95d88 (y : Int64) : Int64 := (y + ((y.toUInt64 >>> ((32 : Int32).toInt64.toUInt64 &&& Int64.toUInt64 63)).toInt64))
def F_J13_bitCount_95d88 (x1 : Int64) : Int32 := (((G6_J13_bitCount_95d88 (G5_J13_bitCount_95d88 (G4_J13_bitCount_95d88 (G3_J13_bitCount_95d88 (G2_J13_bitCount_95d88 (G1_J13_bitCount_95d88 x1)))))).toInt32) &&& (127 : Int32))

set_option maxHeartbeats 4000000 in
set_option maxRecDepth 100000 in
theorem r_J13_bitCount_95d88 (l : Launch) (D : va_G) (cA : Nat → ClassId) (x1 : Int64)  : Met l yJ13_bitCount_95d88 wsJ13_bitCount_95d88 ({ frames := 0, cells := 0, slots := 0, locals := 0 }) (pcPre D vwCl (tyL cA) [.long x1] (fun _ => True)) (va_Qi (fun (r : Int32) (_ : Unit) => r = F_J13_bitCount_95d88 x1) (fun _ _ => True) (fun _ => False)) 0 0 (fun _ => False) := by
  refine Met.ofW (cc := cJ13_bitCount_95d88) (maxL := 2) (ret := (some .int)) (by decide) rfl ?_
  intro p e s m args below meth c0 s₁ B hml hv
  obtain ⟨rfl, hX, hP0⟩ := hv
  have hx := B.exec
  have hb := B.bytes
  have hr := B.returns
  have hts := atoms_spec (ws := wsJ13_bitCount_95d88) B.pre
  have hown : s.vm.findClass RJ13 = some m.cls := findClass_of_methodNamed B.named
  have hlocks := B.notSynchronized
  have hW : pcQ D vwCl (fun _ => False) s.heap [] (fun _ _ => 0) (fun _ _ => .inr (0, [])) s.heap [] := ⟨fun k q h => by simp [pcW] at h, va_S.rf⟩
  have hl := lv_entry ([.long x1]) (n := 2) (Nat.le_of_ble_eq_true rfl)
  rw [lg_entry_eq]
  generalize (lg_sl ([.long x1]) ++ List.replicate (2 - (lg_sl ([.long x1])).length) Slot.unset).toArray = ls at hl ⊢
  have hl : lv_has ls 2 [(0, .long x1)] := hl
  refine lv_lload_n hx hb dJ13_bitCount_95d88_0 rfl (lv_at hl 0 rfl) ?_
  refine lv_lload_n hx hb dJ13_bitCount_95d88_1 rfl (lv_at hl 0 rfl) ?_
  refine lv_iconst (v := 1) hx hb dJ13_bitCount_95d88_2 (by decide) ?_
  refine lv_lushr (v := (x1.toUInt64 >>> ((1 : Int32).toInt64.toUInt64 &&& Int64.toUInt64 63)).toInt64) hx hb dJ13_bitCount_95d88_3 rfl ?_
  refine lv_ldc2 (v := 6148914691236517205) hx hb hown (hts (.constantLong RJ13 314 6148914691236517205) (by decide +kernel)) dJ13_bitCount_95d88_4 ?_
  refine lv_land hx hb dJ13_bitCount_95d88_7 ?_
  refine lv_lsub hx hb dJ13_bitCount_95d88_8 ?_
  refine lv_lstore_n (lv' := [(0, .long (G1_J13_bitCount_95d88 x1))]) hx hb dJ13_bitCount_95d88_9 rfl hl (by decide) rfl (fun ls hl => ?_)
  refine lv_lload_n hx hb dJ13_bitCount_95d88_10 rfl (lv_at hl 0 rfl) ?_
  refine lv_ldc2 (v := 3689348814741910323) hx hb hown (hts (.constantLong RJ13 316 3689348814741910323) (by decide +kernel)) dJ13_bitCount_95d88_11 ?_
  refine lv_land hx hb dJ13_bitCount_95d88_14 ?_
  refine lv_lload_n hx hb dJ13_bitCount_95d88_15 rfl (lv_at hl 0 rfl) ?_
  refine lv_iconst (v := 2) hx hb dJ13_bitCount_95d88_16 (by decide) ?_
  refine lv_lushr (v := ((G1_J13_bitCount_95d88 x1).toUInt64 >>> ((2 : Int32).toInt64.toUInt64 &&& Int64.toUInt64 63)).toInt64) hx hb dJ13_bitCount_95d88_17 rfl ?_
  refine lv_ldc2 (v := 3689348814741910323) hx hb hown (hts (.constantLong RJ13 316 3689348814741910323) (by decide +kernel)) dJ13_bitCount_95d88_18 ?_
  refine lv_land hx hb dJ13_bitCount_95d88_21 ?_
  refine lv_ladd hx hb dJ13_bitCount_95d88_22 ?_
  refine lv_lstore_n (lv' := [(0, .long (G2_J13_bitCount_95d88 (G1_J13_bitCount_95d88 x1)))]) hx hb dJ13_bitCount_95d88_23 rfl hl (by decide) rfl (fun ls hl => ?_)
  refine lv_lload_n hx hb dJ13_bitCount_95d88_24 rfl (lv_at hl 0 rfl) ?_
  refine lv_lload_n hx hb dJ13_bitCount_95d88_25 rfl (lv_at hl 0 rfl) ?_
  refine lv_iconst (v := 4) hx hb dJ13_bitCount_95d88_26 (by decide) ?_
  refine lv_lushr (v := ((G2_J13_bitCount_95d88 (G1_J13_bitCount_95d88 x1)).toUInt64 >>> ((4 : Int32).toInt64.toUInt64 &&& Int64.toUInt64 63)).toInt64) hx hb dJ13_bitCount_95d88_27 rfl ?_
  refine lv_ladd hx hb dJ13_bitCount_95d88_28 ?_
  refine lv_ldc2 (v := 1085102592571150095) hx hb hown (hts (.constantLong RJ13 318 1085102592571150095) (by decide +kernel)) dJ13_bitCount_95d88_29 ?_
  refine lv_land hx hb dJ13_bitCount_95d88_32 ?_
  refine lv_lstore_n (lv' := [(0, .long (G3_J13_bitCount_95d88 (G2_J13_bitCount_95d88 (G1_J13_bitCount_95d88 x1))))]) hx hb dJ13_bitCount_95d88_33 rfl hl (by decide) rfl (fun ls hl => ?_)
  refine lv_lload_n hx hb dJ13_bitCount_95d88_34 rfl (lv_at hl 0 rfl) ?_
  refine lv_lload_n hx hb dJ13_bitCount_95d88_35 rfl (lv_at hl 0 rfl) ?_
  refine lv_bipush (v := 8) hx hb dJ13_bitCount_95d88_36 (by decide) ?_
  refine lv_lushr (v := ((G3_J13_bitCount_95d88 (G2_J13_bitCount_95d88 (G1_J13_bitCount_95d88 x1))).toUInt64 >>> ((8 : Int32).toInt64.toUInt64 &&& Int64.toUInt64 63)).toInt64) hx hb dJ13_bitCount_95d88_38 rfl ?_
  refine lv_ladd hx hb dJ13_bitCount_95d88_39 ?_
  refine lv_lstore_n (lv' := [(0, .long (G4_J13_bitCount_95d88 (G3_J13_bitCount_95d88 (G2_J13_bitCount_95d88 (G1_J13_bitCount_95d88 x1)))))]) hx hb dJ13_bitCount_95d88_40 rfl hl (by decide) rfl (fun ls hl => ?_)
  refine lv_lload_n hx hb dJ13_bitCount_95d88_41 rfl (lv_at hl 0 rfl) ?_
  refine lv_lload_n hx hb dJ13_bitCount_95d88_42 rfl (lv_at hl 0 rfl) ?_
  refine lv_bipush (v := 16) hx hb dJ13_bitCount_95d88_43 (by decide) ?_
  refine lv_lushr (v := ((G4_J13_bitCount_95d88 (G3_J13_bitCount_95d88 (G2_J13_bitCount_95d88 (G1_J13_bitCount_95d88 x1)))).toUInt64 >>> ((16 : Int32).toInt64.toUInt64 &&& Int64.toUInt64 63)).toInt64) hx hb dJ13_bitCount_95d88_45 rfl ?_
  refine lv_ladd hx hb dJ13_bitCount_95d88_46 ?_
  refine lv_lstore_n (lv' := [(0, .long (G5_J13_bitCount_95d88 (G4_J13_bitCount_95d88 (G3_J13_bitCount_95d88 (G2_J13_bitCount_95d88 (G1_J13_bitCount_95d88 x1))))))]) hx hb dJ13_bitCount_95d88_47 rfl hl (by decide) rfl (fun ls hl => ?_)
  refine lv_lload_n hx hb dJ13_bitCount_95d88_48 rfl (lv_at hl 0 rfl) ?_
  refine lv_lload_n hx hb dJ13_bitCount_95d88_49 rfl (lv_at hl 0 rfl) ?_
  refine lv_bipush (v := 32) hx hb dJ13_bitCount_95d88_50 (by decide) ?_
  refine lv_lushr (v := ((G5_J13_bitCount_95d88 (G4_J13_bitCount_95d88 (G3_J13_bitCount_95d88 (G2_J13_bitCount_95d88 (G1_J13_bitCount_95d88 x1))))).toUInt64 >>> ((32 : Int32).toInt64.toUInt64 &&& Int64.toUInt64 63)).toInt64) hx hb dJ13_bitCount_95d88_52 rfl ?_
  refine lv_ladd hx hb dJ13_bitCount_95d88_53 ?_
  refine lv_lstore_n (lv' := [(0, .long (G6_J13_bitCount_95d88 (G5_J13_bitCount_95d88 (G4_J13_bitCount_95d88 (G3_J13_bitCount_95d88 (G2_J13_bitCount_95d88 (G1_J13_bitCount_95d88 x1)))))))]) hx hb dJ13_bitCount_95d88_54 rfl hl (by decide) rfl (fun ls hl => ?_)
  refine lv_lload_n hx hb dJ13_bitCount_95d88_55 rfl (lv_at hl 0 rfl) ?_
  refine lv_l2i (v := (G6_J13_bitCount_95d88 (G5_J13_bitCount_95d88 (G4_J13_bitCount_95d88 (G3_J13_bitCount_95d88 (G2_J13_bitCount_95d88 (G1_J13_bitCount_95d88 x1)))))).toInt32) hx hb dJ13_bitCount_95d88_56 rfl ?_
  refine lv_bipush (v := 127) hx hb dJ13_bitCount_95d88_57 (by decide) ?_
  refine lv_iand hx hb dJ13_bitCount_95d88_59 ?_
  exact W.iret (v := (((G6_J13_bitCount_95d88 (G5_J13_bitCount_95d88 (G4_J13_bitCount_95d88 (G3_J13_bitCount_95d88 (G2_J13_bitCount_95d88 (G1_J13_bitCount_95d88 x1)))))).toInt32) &&& (127 : Int32))) hx hb hr (fun t ht hW9 => ⟨⟨(((G6_J13_bitCount_95d88 (G5_J13_bitCount_95d88 (G4_J13_bitCount_95d88 (G3_J13_bitCount_95d88 (G2_J13_bitCount_95d88 (G1_J13_bitCount_95d88 x1)))))).toInt32) &&& (127 : Int32)), (), rfl, rfl, trivial⟩, hW.2.F ht⟩) hW.2.2.2 dJ13_bitCount_95d88_60

def G1_J6_bitCount_0f7a4 (y : Int32) : Int32 := (y - (((y.toUInt32 >>> ((1 : Int32).toUInt32 &&& Int32.toUInt32 31)).toInt32) &&& (1431655765 : Int32)))
def G2_J6_bitCount_0f7a4 (y : Int32) : Int32 := ((y &&& (858993459 : Int32)) + (((y.toUInt32 >>> ((2 : Int32).toUInt32 &&& Int32.toUInt32 31)).toInt32) &&& (858993459 : Int32)))
def G3_J6_bitCount_0f7a4 (y : Int32) : Int32 := ((y + ((y.toUInt32 >>> ((4 : Int32).toUInt32 &&& Int32.toUInt32 31)).toInt32)) &&& (252645135 : Int32))
def G4_J6_bitCount_0f7a4 (y : Int32) : Int32 := (y + ((y.toUInt32 >>> ((8 : Int32).toUInt32 &&& Int32.toUInt32 31)).toInt32))
def G5_J6_bitCount_0f7a4 (y : Int32) : Int32 := (y + ((y.toUInt32 >>> ((16 : Int32).toUInt32 &&& Int32.toUInt32 31)).toInt32))
def F_J6_bitCount_0f7a4 (x1 : Int32) : Int32 := ((G5_J6_bitCount_0f7a4 (G4_J6_bitCount_0f7a4 (G3_J6_bitCount_0f7a4 (G2_J6_bitCount_0f7a4 (G1_J6_bitCount_0f7a4 x1))))) &&& (63 : Int32))

set_option maxHeartbeats 4000000 in
set_option maxRecDepth 100000 in
theorem r_J6_bitCount_0f7a4 (l : Launch) (D : va_G) (cA : Nat → ClassId) (x1 : Int32)  : Met l yJ6_bitCount_0f7a4 wsJ6_bitCount_0f7a4 ({ frames := 0, cells := 0, slots := 0, locals := 0 }) (pcPre D vwCl (tyL cA) [.int x1] (fun _ => True)) (va_Qi (fun (r : Int32) (_ : Unit) => r = F_J6_bitCount_0f7a4 x1) (fun _ _ => True) (fun _ => False)) 0 0 (fun _ => False) := by
  refine Met.ofW (cc := cJ6_bitCount_0f7a4) (maxL := 1) (ret := (some .int)) (by decide) rfl ?_
  intro p e s m args below meth c0 s₁ B hml hv
  obtain ⟨rfl, hX, hP0⟩ := hv
  have hx := B.exec
  have hb := B.bytes
  have hr := B.returns
  have hts := atoms_spec (ws := wsJ6_bitCount_0f7a4) B.pre
  have hown : s.vm.findClass RJ6 = some m.cls := findClass_of_methodNamed B.named
  have hlocks := B.notSynchronized
  have hW : pcQ D vwCl (fun _ => False) s.heap [] (fun _ _ => 0) (fun _ _ => .inr (0, [])) s.heap [] := ⟨fun k q h => by simp [pcW] at h, va_S.rf⟩
  have hl := lv_entry ([.int x1]) (n := 1) (Nat.le_of_ble_eq_true rfl)
  rw [lg_entry_eq]
  generalize (lg_sl ([.int x1]) ++ List.replicate (1 - (lg_sl ([.int x1])).length) Slot.unset).toArray = ls at hl ⊢
  have hl : lv_has ls 1 [(0, .int x1)] := hl
  refine lv_iload_n hx hb dJ6_bitCount_0f7a4_0 rfl (lv_at hl 0 rfl) ?_
  refine lv_iload_n hx hb dJ6_bitCount_0f7a4_1 rfl (lv_at hl 0 rfl) ?_
  refine lv_iconst (v := 1) hx hb dJ6_bitCount_0f7a4_2 (by decide) ?_
  refine lv_iushr (v := (x1.toUInt32 >>> ((1 : Int32).toUInt32 &&& Int32.toUInt32 31)).toInt32) hx hb dJ6_bitCount_0f7a4_3 rfl ?_
  refine lv_ldcw (v := 1431655765) hx hb hown (hts (.constant RJ6 265 1431655765) (by decide +kernel)) dJ6_bitCount_0f7a4_4 ?_
  refine lv_iand hx hb dJ6_bitCount_0f7a4_7 ?_
  refine lv_isub hx hb dJ6_bitCount_0f7a4_8 ?_
  refine lv_istore_n (lv' := [(0, .int (G1_J6_bitCount_0f7a4 x1))]) hx hb dJ6_bitCount_0f7a4_9 rfl hl (by decide) rfl (fun ls hl => ?_)
  refine lv_iload_n hx hb dJ6_bitCount_0f7a4_10 rfl (lv_at hl 0 rfl) ?_
  refine lv_ldcw (v := 858993459) hx hb hown (hts (.constant RJ6 266 858993459) (by decide +kernel)) dJ6_bitCount_0f7a4_11 ?_
  refine lv_iand hx hb dJ6_bitCount_0f7a4_14 ?_
  refine lv_iload_n hx hb dJ6_bitCount_0f7a4_15 rfl (lv_at hl 0 rfl) ?_
  refine lv_iconst (v := 2) hx hb dJ6_bitCount_0f7a4_16 (by decide) ?_
  refine lv_iushr (v := ((G1_J6_bitCount_0f7a4 x1).toUInt32 >>> ((2 : Int32).toUInt32 &&& Int32.toUInt32 31)).toInt32) hx hb dJ6_bitCount_0f7a4_17 rfl ?_
  refine lv_ldcw (v := 858993459) hx hb hown (hts (.constant RJ6 266 858993459) (by decide +kernel)) dJ6_bitCount_0f7a4_18 ?_
  refine lv_iand hx hb dJ6_bitCount_0f7a4_21 ?_
  refine lv_iadd hx hb dJ6_bitCount_0f7a4_22 ?_
  refine lv_istore_n (lv' := [(0, .int (G2_J6_bitCount_0f7a4 (G1_J6_bitCount_0f7a4 x1)))]) hx hb dJ6_bitCount_0f7a4_23 rfl hl (by decide) rfl (fun ls hl => ?_)
  refine lv_iload_n hx hb dJ6_bitCount_0f7a4_24 rfl (lv_at hl 0 rfl) ?_
  refine lv_iload_n hx hb dJ6_bitCount_0f7a4_25 rfl (lv_at hl 0 rfl) ?_
  refine lv_iconst (v := 4) hx hb dJ6_bitCount_0f7a4_26 (by decide) ?_
  refine lv_iushr (v := ((G2_J6_bitCount_0f7a4 (G1_J6_bitCount_0f7a4 x1)).toUInt32 >>> ((4 : Int32).toUInt32 &&& Int32.toUInt32 31)).toInt32) hx hb dJ6_bitCount_0f7a4_27 rfl ?_
  refine lv_iadd hx hb dJ6_bitCount_0f7a4_28 ?_
  refine lv_ldcw (v := 252645135) hx hb hown (hts (.constant RJ6 267 252645135) (by decide +kernel)) dJ6_bitCount_0f7a4_29 ?_
  refine lv_iand hx hb dJ6_bitCount_0f7a4_32 ?_
  refine lv_istore_n (lv' := [(0, .int (G3_J6_bitCount_0f7a4 (G2_J6_bitCount_0f7a4 (G1_J6_bitCount_0f7a4 x1))))]) hx hb dJ6_bitCount_0f7a4_33 rfl hl (by decide) rfl (fun ls hl => ?_)
  refine lv_iload_n hx hb dJ6_bitCount_0f7a4_34 rfl (lv_at hl 0 rfl) ?_
  refine lv_iload_n hx hb dJ6_bitCount_0f7a4_35 rfl (lv_at hl 0 rfl) ?_
  refine lv_bipush (v := 8) hx hb dJ6_bitCount_0f7a4_36 (by decide) ?_
  refine lv_iushr (v := ((G3_J6_bitCount_0f7a4 (G2_J6_bitCount_0f7a4 (G1_J6_bitCount_0f7a4 x1))).toUInt32 >>> ((8 : Int32).toUInt32 &&& Int32.toUInt32 31)).toInt32) hx hb dJ6_bitCount_0f7a4_38 rfl ?_
  refine lv_iadd hx hb dJ6_bitCount_0f7a4_39 ?_
  refine lv_istore_n (lv' := [(0, .int (G4_J6_bitCount_0f7a4 (G3_J6_bitCount_0f7a4 (G2_J6_bitCount_0f7a4 (G1_J6_bitCount_0f7a4 x1)))))]) hx hb dJ6_bitCount_0f7a4_40 rfl hl (by decide) rfl (fun ls hl => ?_)
  refine lv_iload_n hx hb dJ6_bitCount_0f7a4_41 rfl (lv_at hl 0 rfl) ?_
  refine lv_iload_n hx hb dJ6_bitCount_0f7a4_42 rfl (lv_at hl 0 rfl) ?_
  refine lv_bipush (v := 16) hx hb dJ6_bitCount_0f7a4_43 (by decide) ?_
  refine lv_iushr (v := ((G4_J6_bitCount_0f7a4 (G3_J6_bitCount_0f7a4 (G2_J6_bitCount_0f7a4 (G1_J6_bitCount_0f7a4 x1)))).toUInt32 >>> ((16 : Int32).toUInt32 &&& Int32.toUInt32 31)).toInt32) hx hb dJ6_bitCount_0f7a4_45 rfl ?_
  refine lv_iadd hx hb dJ6_bitCount_0f7a4_46 ?_
  refine lv_istore_n (lv' := [(0, .int (G5_J6_bitCount_0f7a4 (G4_J6_bitCount_0f7a4 (G3_J6_bitCount_0f7a4 (G2_J6_bitCount_0f7a4 (G1_J6_bitCount_0f7a4 x1))))))]) hx hb dJ6_bitCount_0f7a4_47 rfl hl (by decide) rfl (fun ls hl => ?_)
  refine lv_iload_n hx hb dJ6_bitCount_0f7a4_48 rfl (lv_at hl 0 rfl) ?_
  refine lv_bipush (v := 63) hx hb dJ6_bitCount_0f7a4_49 (by decide) ?_
  refine lv_iand hx hb dJ6_bitCount_0f7a4_51 ?_
  exact W.iret (v := ((G5_J6_bitCount_0f7a4 (G4_J6_bitCount_0f7a4 (G3_J6_bitCount_0f7a4 (G2_J6_bitCount_0f7a4 (G1_J6_bitCount_0f7a4 x1))))) &&& (63 : Int32))) hx hb hr (fun t ht hW9 => ⟨⟨((G5_J6_bitCount_0f7a4 (G4_J6_bitCount_0f7a4 (G3_J6_bitCount_0f7a4 (G2_J6_bitCount_0f7a4 (G1_J6_bitCount_0f7a4 x1))))) &&& (63 : Int32)), (), rfl, rfl, trivial⟩, hW.2.F ht⟩) hW.2.2.2 dJ6_bitCount_0f7a4_52

def F_X5_fieldsOf (x1 : Int64) : Int32 := ((F_J13_bitCount_95d88 (x1 &&& (1048575 : Int64))) * (F_J13_bitCount_95d88 (x1 &&& (1099510579200 : Int64))))

set_option maxHeartbeats 4000000 in
set_option maxRecDepth 100000 in
theorem r_X5_fieldsOf (l : Launch) (D : va_G) (cA : Nat → ClassId) (x1 : Int64)  : Met l yX5_fieldsOf wsX5_fieldsOf ({ frames := 1, cells := 0, slots := 0, locals := 21 }) (pcPre D vwCl (tyL cA) [.long x1] (fun _ => True)) (va_Qi (fun (r : Int32) (_ : Unit) => r = F_X5_fieldsOf x1) (fun _ _ => True) (fun _ => False)) 0 0 (fun _ => False) := by
  refine Met.ofW (cc := cX5_fieldsOf) (maxL := 2) (ret := (some .int)) (by decide) rfl ?_
  intro p e s m args below meth c0 s₁ B hml hv
  obtain ⟨rfl, hX, hP0⟩ := hv
  have hx := B.exec
  have hb := B.bytes
  have hr := B.returns
  have hts := atoms_spec (ws := wsX5_fieldsOf) B.pre
  have hown : s.vm.findClass RX5 = some m.cls := findClass_of_methodNamed B.named
  have hlocks := B.notSynchronized
  have hW : pcQ D vwCl (fun _ => False) s.heap [] (fun _ _ => 0) (fun _ _ => .inr (0, [])) s.heap [] := ⟨fun k q h => by simp [pcW] at h, va_S.rf⟩
  have hl := lv_entry ([.long x1]) (n := 2) (Nat.le_of_ble_eq_true rfl)
  rw [lg_entry_eq]
  generalize (lg_sl ([.long x1]) ++ List.replicate (2 - (lg_sl ([.long x1])).length) Slot.unset).toArray = ls at hl ⊢
  have hl : lv_has ls 2 [(0, .long x1)] := hl
  refine lv_lload_n hx hb dX5_fieldsOf_0 rfl (lv_at hl 0 rfl) ?_
  refine lv_ldc2 (v := 1048575) hx hb hown (hts (.constantLong RX5 386 1048575) (by decide +kernel)) dX5_fieldsOf_1 ?_
  refine lv_land hx hb dX5_fieldsOf_4 ?_
  refine pc_qcalli (va_runS (As := [.long (x1 &&& (1048575 : Int64))]) (rest := []) ⟨hx, hb, hml, hown, hts⟩ (r_J13_bitCount_95d88 l D cA (x1 &&& (1048575 : Int64)) ) (va_cwS 1 hts gX5_fieldsOf_J13_bitCount_95d88 rfl rfl rfl (by decide +kernel) ⟨Nat.le_of_ble_eq_true rfl, Nat.le_of_ble_eq_true rfl⟩) (pc_preS pcN_ok hX trivial) rfl rfl hl.1 rfl (lv_room (Nat.le_of_ble_eq_true rfl)) dX5_fieldsOf_5 ⟨Nat.le_of_ble_eq_true rfl, Nat.le_of_ble_eq_true rfl⟩) hW (fun r159 H locs hwr159 hW => ?_)
  subst hwr159
  refine lv_lload_n hx hb dX5_fieldsOf_8 rfl (lv_at hl 0 rfl) ?_
  refine lv_ldc2 (v := 1099510579200) hx hb hown (hts (.constantLong RX5 392 1099510579200) (by decide +kernel)) dX5_fieldsOf_9 ?_
  refine lv_land hx hb dX5_fieldsOf_12 ?_
  refine pc_qcalli (va_runS (As := [.long (x1 &&& (1099510579200 : Int64))]) (rest := [.int (F_J13_bitCount_95d88 (x1 &&& (1048575 : Int64)))]) ⟨hx, hb, hml, hown, hts⟩ (r_J13_bitCount_95d88 l D cA (x1 &&& (1099510579200 : Int64)) ) (va_cwS 1 hts gX5_fieldsOf_J13_bitCount_95d88 rfl rfl rfl (by decide +kernel) ⟨Nat.le_of_ble_eq_true rfl, Nat.le_of_ble_eq_true rfl⟩) (pc_preS pcN_ok hX trivial) rfl rfl hl.1 rfl (lv_room (Nat.le_of_ble_eq_true rfl)) dX5_fieldsOf_13 ⟨Nat.le_of_ble_eq_true rfl, Nat.le_of_ble_eq_true rfl⟩) hW (fun r160 H locs hwr160 hW => ?_)
  subst hwr160
  refine lv_imul hx hb dX5_fieldsOf_16 ?_
  exact W.iret (v := ((F_J13_bitCount_95d88 (x1 &&& (1048575 : Int64))) * (F_J13_bitCount_95d88 (x1 &&& (1099510579200 : Int64))))) hx hb hr (fun t ht hW9 => ⟨⟨((F_J13_bitCount_95d88 (x1 &&& (1048575 : Int64))) * (F_J13_bitCount_95d88 (x1 &&& (1099510579200 : Int64)))), (), rfl, rfl, trivial⟩, hW.2.F ht⟩) hW.2.2.2 dX5_fieldsOf_17

def F_X5_ofSheet0 (c : SC) (v : SV) (w : SW) (x1 : Int32) : Int32 := (v 1 x1.toNatClampNeg 0)

set_option maxHeartbeats 4000000 in
set_option maxRecDepth 100000 in
theorem r_X5_ofSheet0 (l : Launch) (D : va_G) (cA : Nat → ClassId) (NL : List (Nat × Nat)) (c : SC) (v : SV) (w : SW) (u : Nat → Int32) (ad : Nat → Nat → Nat) (x1 : Int32) (hM : MEM c NL) (hBd : BND c) (hF : WF c v) (h1n : ¬ x1 < 0) (h1 : x1.toNatClampNeg < c 0) : Met l yX5_ofSheet wsX5_ofSheet ({ frames := 1, cells := 0, slots := 0, locals := 21 }) (pcPre D vwCl (tyL cA) [.ref (ad 5 0), .int x1, .int 0] (fun H => va_P D vwCl (pcW NL ad (ctO cA c v w u ad)) H)) (va_Qi (fun (r : Int32) (_ : Unit) => r = F_X5_ofSheet0 c v w x1) (fun _ _ => True) (fun _ => False)) 0 0 (fun _ => False) := by
  refine Met.ofW (cc := cX5_ofSheet) (maxL := 4) (ret := (some .int)) (by decide) rfl ?_
  intro p e s m args below meth c0 s₁ B hml hv
  obtain ⟨rfl, hX, hP0⟩ := hv
  have hx := B.exec
  have hb := B.bytes
  have hr := B.returns
  have hts := atoms_spec (ws := wsX5_ofSheet) B.pre
  have hown : s.vm.findClass RX5 = some m.cls := findClass_of_methodNamed B.named
  have hlocks := B.notSynchronized
  have hW : pcQ D vwCl (fun _ => False) s.heap NL ad (ctO cA c v w u ad) s.heap [] := ⟨hP0, va_S.rf⟩
  have hl := lv_entry ([.ref (ad 5 0), .int x1, .int 0]) (n := 4) (Nat.le_of_ble_eq_true rfl)
  rw [lg_entry_eq]
  generalize (lg_sl ([.ref (ad 5 0), .int x1, .int 0]) ++ List.replicate (4 - (lg_sl ([.ref (ad 5 0), .int x1, .int 0])).length) Slot.unset).toArray = ls at hl ⊢
  have hl : lv_has ls 4 [(0, .ref (ad 5 0)), (1, .int x1), (2, .int 0)] := hl
  refine lv_aload_n hx hb dX5_ofSheet_0 rfl (lv_at hl 0 rfl) ?_
  refine lv_iload_n hx hb dX5_ofSheet_1 rfl (lv_at hl 1 rfl) ?_
  refine pc_qcallv (va_runV (As := [.int x1]) (rest := []) ⟨hx, hb, hml, hown, hts⟩ (r_X5_requireSheet l D cA NL c v w u ad x1 hM hBd hF h1n h1) (cwV 1 hts gX5_ofSheet_X5_requireSheet rfl rfl rfl (by decide +kernel) ⟨Nat.le_of_ble_eq_true rfl, Nat.le_of_ble_eq_true rfl⟩) (pc_preV pcN_ok hX hW.1 hM.1 rfl rfl hW.1) rfl rfl hl.1 rfl (lv_room (Nat.le_of_ble_eq_true rfl)) dX5_ofSheet_2 ⟨Nat.le_of_ble_eq_true rfl, Nat.le_of_ble_eq_true rfl⟩) hW (fun H locs _ hW => ?_)
  refine lv_aload_n hx hb dX5_ofSheet_5 rfl (lv_at hl 0 rfl) ?_
  refine pc_get (C := RX5) (T := TX5) (N := 13) (ci := 5) hx hb hts (by decide +kernel) hown hX.1 hW.1 5 0 hM.1 rfl rfl 0 (by decide) (hts (.fieldLink RX5 11 "DraftsmanOffice" "sheets" "[LDraftsmanOffice$Sheet;") (by decide +kernel)) (fun _ h9 => h9) rfl dX5_ofSheet_6 ?_
  refine lv_iload_n hx hb dX5_ofSheet_9 rfl (lv_at hl 1 rfl) ?_
  refine pc_aald (r := .ref (ad 1 x1.toNatClampNeg)) hx hb hX.1 hW.1 50 0 3 (hM.2.1 50 (by decide) (by decide)) rfl rfl rfl (fun q => q.elim h1n (fun q => absurd (Nat.lt_of_lt_of_le h1 hBd.1) (Nat.not_lt.mpr q))) (by rw [sRf_in h1]; rfl) dX5_ofSheet_10 ?_
  refine lv_astore_n (lv' := [(3, .ref (ad 1 x1.toNatClampNeg)), (0, .ref (ad 5 0)), (1, .int x1), (2, .int 0)]) hx hb dX5_ofSheet_11 rfl hl (by decide) rfl (fun ls hl => ?_)
  refine lv_iload_n hx hb dX5_ofSheet_12 rfl (lv_at hl 3 rfl) ?_
  refine lv_tableIn (tgt := 68) hx hb dX5_ofSheet_13 (by decide) (by decide) rfl (by decide) ?_
  refine lv_aload_n hx hb dX5_ofSheet_68 rfl (lv_at hl 0 rfl) ?_
  refine pc_getN (C := RX3) (T := TX3) (N := 10) (ci := 3) hx hb hts (by decide +kernel) hown hX.1 hW.1 1 x1.toNatClampNeg (hM.2.2.2.1 x1.toNatClampNeg h1).1 rfl rfl 0 (by decide) (hX.2.1 (.fieldLinkNest RX5 153 "DraftsmanOffice$Sheet" "trade" "I" R_host) (by decide +kernel)) (fun _ h9 => h9) rfl dX5_ofSheet_69 ?_
  exact W.iret (v := (v 1 x1.toNatClampNeg 0)) hx hb hr (fun t ht hW9 => ⟨⟨(v 1 x1.toNatClampNeg 0), (), rfl, rfl, trivial⟩, hW.2.F ht⟩) hW.2.2.2 dX5_ofSheet_72

def F_X5_ofSheet1 (c : SC) (v : SV) (w : SW) (x1 : Int32) : Int32 := ((v 1 x1.toNatClampNeg 1) + (1 : Int32))

set_option maxHeartbeats 4000000 in
set_option maxRecDepth 100000 in
theorem r_X5_ofSheet1 (l : Launch) (D : va_G) (cA : Nat → ClassId) (NL : List (Nat × Nat)) (c : SC) (v : SV) (w : SW) (u : Nat → Int32) (ad : Nat → Nat → Nat) (x1 : Int32) (hM : MEM c NL) (hBd : BND c) (hF : WF c v) (h1n : ¬ x1 < 0) (h1 : x1.toNatClampNeg < c 0) : Met l yX5_ofSheet wsX5_ofSheet ({ frames := 1, cells := 0, slots := 0, locals := 21 }) (pcPre D vwCl (tyL cA) [.ref (ad 5 0), .int x1, .int 1] (fun H => va_P D vwCl (pcW NL ad (ctO cA c v w u ad)) H)) (va_Qi (fun (r : Int32) (_ : Unit) => r = F_X5_ofSheet1 c v w x1) (fun _ _ => True) (fun _ => False)) 0 0 (fun _ => False) := by
  refine Met.ofW (cc := cX5_ofSheet) (maxL := 4) (ret := (some .int)) (by decide) rfl ?_
  intro p e s m args below meth c0 s₁ B hml hv
  obtain ⟨rfl, hX, hP0⟩ := hv
  have hx := B.exec
  have hb := B.bytes
  have hr := B.returns
  have hts := atoms_spec (ws := wsX5_ofSheet) B.pre
  have hown : s.vm.findClass RX5 = some m.cls := findClass_of_methodNamed B.named
  have hlocks := B.notSynchronized
  have hW : pcQ D vwCl (fun _ => False) s.heap NL ad (ctO cA c v w u ad) s.heap [] := ⟨hP0, va_S.rf⟩
  have hl := lv_entry ([.ref (ad 5 0), .int x1, .int 1]) (n := 4) (Nat.le_of_ble_eq_true rfl)
  rw [lg_entry_eq]
  generalize (lg_sl ([.ref (ad 5 0), .int x1, .int 1]) ++ List.replicate (4 - (lg_sl ([.ref (ad 5 0), .int x1, .int 1])).length) Slot.unset).toArray = ls at hl ⊢
  have hl : lv_has ls 4 [(0, .ref (ad 5 0)), (1, .int x1), (2, .int 1)] := hl
  refine lv_aload_n hx hb dX5_ofSheet_0 rfl (lv_at hl 0 rfl) ?_
  refine lv_iload_n hx hb dX5_ofSheet_1 rfl (lv_at hl 1 rfl) ?_
  refine pc_qcallv (va_runV (As := [.int x1]) (rest := []) ⟨hx, hb, hml, hown, hts⟩ (r_X5_requireSheet l D cA NL c v w u ad x1 hM hBd hF h1n h1) (cwV 1 hts gX5_ofSheet_X5_requireSheet rfl rfl rfl (by decide +kernel) ⟨Nat.le_of_ble_eq_true rfl, Nat.le_of_ble_eq_true rfl⟩) (pc_preV pcN_ok hX hW.1 hM.1 rfl rfl hW.1) rfl rfl hl.1 rfl (lv_room (Nat.le_of_ble_eq_true rfl)) dX5_ofSheet_2 ⟨Nat.le_of_ble_eq_true rfl, Nat.le_of_ble_eq_true rfl⟩) hW (fun H locs _ hW => ?_)
  refine lv_aload_n hx hb dX5_ofSheet_5 rfl (lv_at hl 0 rfl) ?_
  refine pc_get (C := RX5) (T := TX5) (N := 13) (ci := 5) hx hb hts (by decide +kernel) hown hX.1 hW.1 5 0 hM.1 rfl rfl 0 (by decide) (hts (.fieldLink RX5 11 "DraftsmanOffice" "sheets" "[LDraftsmanOffice$Sheet;") (by decide +kernel)) (fun _ h9 => h9) rfl dX5_ofSheet_6 ?_
  refine lv_iload_n hx hb dX5_ofSheet_9 rfl (lv_at hl 1 rfl) ?_
  refine pc_aald (r := .ref (ad 1 x1.toNatClampNeg)) hx hb hX.1 hW.1 50 0 3 (hM.2.1 50 (by decide) (by decide)) rfl rfl rfl (fun q => q.elim h1n (fun q => absurd (Nat.lt_of_lt_of_le h1 hBd.1) (Nat.not_lt.mpr q))) (by rw [sRf_in h1]; rfl) dX5_ofSheet_10 ?_
  refine lv_astore_n (lv' := [(3, .ref (ad 1 x1.toNatClampNeg)), (0, .ref (ad 5 0)), (1, .int x1), (2, .int 1)]) hx hb dX5_ofSheet_11 rfl hl (by decide) rfl (fun ls hl => ?_)
  refine lv_iload_n hx hb dX5_ofSheet_12 rfl (lv_at hl 3 rfl) ?_
  refine lv_tableIn (tgt := 73) hx hb dX5_ofSheet_13 (by decide) (by decide) rfl (by decide) ?_
  refine lv_aload_n hx hb dX5_ofSheet_73 rfl (lv_at hl 0 rfl) ?_
  refine pc_getN (C := RX3) (T := TX3) (N := 10) (ci := 3) hx hb hts (by decide +kernel) hown hX.1 hW.1 1 x1.toNatClampNeg (hM.2.2.2.1 x1.toNatClampNeg h1).1 rfl rfl 3 (by decide) (hX.2.1 (.fieldLinkNest RX5 115 "DraftsmanOffice$Sheet" "last" "I" R_host) (by decide +kernel)) (fun _ h9 => h9) rfl dX5_ofSheet_74 ?_
  refine lv_iconst (v := 1) hx hb dX5_ofSheet_77 (by decide) ?_
  refine lv_iadd hx hb dX5_ofSheet_78 ?_
  exact W.iret (v := ((v 1 x1.toNatClampNeg 1) + (1 : Int32))) hx hb hr (fun t ht hW9 => ⟨⟨((v 1 x1.toNatClampNeg 1) + (1 : Int32)), (), rfl, rfl, trivial⟩, hW.2.F ht⟩) hW.2.2.2 dX5_ofSheet_79

def F_X5_ofSheet2 (c : SC) (v : SV) (w : SW) (x1 : Int32) : Int32 := (v 1 x1.toNatClampNeg 3)

set_option maxHeartbeats 4000000 in
set_option maxRecDepth 100000 in
theorem r_X5_ofSheet2 (l : Launch) (D : va_G) (cA : Nat → ClassId) (NL : List (Nat × Nat)) (c : SC) (v : SV) (w : SW) (u : Nat → Int32) (ad : Nat → Nat → Nat) (x1 : Int32) (hM : MEM c NL) (hBd : BND c) (hF : WF c v) (h1n : ¬ x1 < 0) (h1 : x1.toNatClampNeg < c 0) : Met l yX5_ofSheet wsX5_ofSheet ({ frames := 1, cells := 0, slots := 0, locals := 21 }) (pcPre D vwCl (tyL cA) [.ref (ad 5 0), .int x1, .int 2] (fun H => va_P D vwCl (pcW NL ad (ctO cA c v w u ad)) H)) (va_Qi (fun (r : Int32) (_ : Unit) => r = F_X5_ofSheet2 c v w x1) (fun _ _ => True) (fun _ => False)) 0 0 (fun _ => False) := by
  refine Met.ofW (cc := cX5_ofSheet) (maxL := 4) (ret := (some .int)) (by decide) rfl ?_
  intro p e s m args below meth c0 s₁ B hml hv
  obtain ⟨rfl, hX, hP0⟩ := hv
  have hx := B.exec
  have hb := B.bytes
  have hr := B.returns
  have hts := atoms_spec (ws := wsX5_ofSheet) B.pre
  have hown : s.vm.findClass RX5 = some m.cls := findClass_of_methodNamed B.named
  have hlocks := B.notSynchronized
  have hW : pcQ D vwCl (fun _ => False) s.heap NL ad (ctO cA c v w u ad) s.heap [] := ⟨hP0, va_S.rf⟩
  have hl := lv_entry ([.ref (ad 5 0), .int x1, .int 2]) (n := 4) (Nat.le_of_ble_eq_true rfl)
  rw [lg_entry_eq]
  generalize (lg_sl ([.ref (ad 5 0), .int x1, .int 2]) ++ List.replicate (4 - (lg_sl ([.ref (ad 5 0), .int x1, .int 2])).length) Slot.unset).toArray = ls at hl ⊢
  have hl : lv_has ls 4 [(0, .ref (ad 5 0)), (1, .int x1), (2, .int 2)] := hl
  refine lv_aload_n hx hb dX5_ofSheet_0 rfl (lv_at hl 0 rfl) ?_
  refine lv_iload_n hx hb dX5_ofSheet_1 rfl (lv_at hl 1 rfl) ?_
  refine pc_qcallv (va_runV (As := [.int x1]) (rest := []) ⟨hx, hb, hml, hown, hts⟩ (r_X5_requireSheet l D cA NL c v w u ad x1 hM hBd hF h1n h1) (cwV 1 hts gX5_ofSheet_X5_requireSheet rfl rfl rfl (by decide +kernel) ⟨Nat.le_of_ble_eq_true rfl, Nat.le_of_ble_eq_true rfl⟩) (pc_preV pcN_ok hX hW.1 hM.1 rfl rfl hW.1) rfl rfl hl.1 rfl (lv_room (Nat.le_of_ble_eq_true rfl)) dX5_ofSheet_2 ⟨Nat.le_of_ble_eq_true rfl, Nat.le_of_ble_eq_true rfl⟩) hW (fun H locs _ hW => ?_)
  refine lv_aload_n hx hb dX5_ofSheet_5 rfl (lv_at hl 0 rfl) ?_
  refine pc_get (C := RX5) (T := TX5) (N := 13) (ci := 5) hx hb hts (by decide +kernel) hown hX.1 hW.1 5 0 hM.1 rfl rfl 0 (by decide) (hts (.fieldLink RX5 11 "DraftsmanOffice" "sheets" "[LDraftsmanOffice$Sheet;") (by decide +kernel)) (fun _ h9 => h9) rfl dX5_ofSheet_6 ?_
  refine lv_iload_n hx hb dX5_ofSheet_9 rfl (lv_at hl 1 rfl) ?_
  refine pc_aald (r := .ref (ad 1 x1.toNatClampNeg)) hx hb hX.1 hW.1 50 0 3 (hM.2.1 50 (by decide) (by decide)) rfl rfl rfl (fun q => q.elim h1n (fun q => absurd (Nat.lt_of_lt_of_le h1 hBd.1) (Nat.not_lt.mpr q))) (by rw [sRf_in h1]; rfl) dX5_ofSheet_10 ?_
  refine lv_astore_n (lv' := [(3, .ref (ad 1 x1.toNatClampNeg)), (0, .ref (ad 5 0)), (1, .int x1), (2, .int 2)]) hx hb dX5_ofSheet_11 rfl hl (by decide) rfl (fun ls hl => ?_)
  refine lv_iload_n hx hb dX5_ofSheet_12 rfl (lv_at hl 3 rfl) ?_
  refine lv_tableIn (tgt := 80) hx hb dX5_ofSheet_13 (by decide) (by decide) rfl (by decide) ?_
  refine lv_aload_n hx hb dX5_ofSheet_80 rfl (lv_at hl 0 rfl) ?_
  refine pc_getN (C := RX3) (T := TX3) (N := 10) (ci := 3) hx hb hts (by decide +kernel) hown hX.1 hW.1 1 x1.toNatClampNeg (hM.2.2.2.1 x1.toNatClampNeg h1).1 rfl rfl 5 (by decide) (hX.2.1 (.fieldLinkNest RX5 156 "DraftsmanOffice$Sheet" "issued" "I" R_host) (by decide +kernel)) (fun _ h9 => h9) rfl dX5_ofSheet_81 ?_
  exact W.iret (v := (v 1 x1.toNatClampNeg 3)) hx hb hr (fun t ht hW9 => ⟨⟨(v 1 x1.toNatClampNeg 3), (), rfl, rfl, trivial⟩, hW.2.F ht⟩) hW.2.2.2 dX5_ofSheet_84

def F_X5_ofSheet3 (c : SC) (v : SV) (w : SW) (x1 : Int32) : Int32 := (F_X3_lastStatus c v w x1.toNatClampNeg)

set_option maxHeartbeats 4000000 in
set_option maxRecDepth 100000 in
theorem r_X5_ofSheet3 (l : Launch) (D : va_G) (cA : Nat → ClassId) (NL : List (Nat × Nat)) (c : SC) (v : SV) (w : SW) (u : Nat → Int32) (ad : Nat → Nat → Nat) (x1 : Int32) (hM : MEM c NL) (hBd : BND c) (hF : WF c v) (h1n : ¬ x1 < 0) (h1 : x1.toNatClampNeg < c 0) : Met l yX5_ofSheet wsX5_ofSheet ({ frames := 2, cells := 0, slots := 0, locals := 41 }) (pcPre D vwCl (tyL cA) [.ref (ad 5 0), .int x1, .int 3] (fun H => va_P D vwCl (pcW NL ad (ctO cA c v w u ad)) H)) (va_Qi (fun (r : Int32) (_ : Unit) => r = F_X5_ofSheet3 c v w x1) (fun _ _ => True) (fun _ => False)) 0 0 (fun _ => False) := by
  refine Met.ofW (cc := cX5_ofSheet) (maxL := 4) (ret := (some .int)) (by decide) rfl ?_
  intro p e s m args below meth c0 s₁ B hml hv
  obtain ⟨rfl, hX, hP0⟩ := hv
  have hx := B.exec
  have hb := B.bytes
  have hr := B.returns
  have hts := atoms_spec (ws := wsX5_ofSheet) B.pre
  have hown : s.vm.findClass RX5 = some m.cls := findClass_of_methodNamed B.named
  have hlocks := B.notSynchronized
  have hW : pcQ D vwCl (fun _ => False) s.heap NL ad (ctO cA c v w u ad) s.heap [] := ⟨hP0, va_S.rf⟩
  have hl := lv_entry ([.ref (ad 5 0), .int x1, .int 3]) (n := 4) (Nat.le_of_ble_eq_true rfl)
  rw [lg_entry_eq]
  generalize (lg_sl ([.ref (ad 5 0), .int x1, .int 3]) ++ List.replicate (4 - (lg_sl ([.ref (ad 5 0), .int x1, .int 3])).length) Slot.unset).toArray = ls at hl ⊢
  have hl : lv_has ls 4 [(0, .ref (ad 5 0)), (1, .int x1), (2, .int 3)] := hl
  refine lv_aload_n hx hb dX5_ofSheet_0 rfl (lv_at hl 0 rfl) ?_
  refine lv_iload_n hx hb dX5_ofSheet_1 rfl (lv_at hl 1 rfl) ?_
  refine pc_qcallv (va_runV (As := [.int x1]) (rest := []) ⟨hx, hb, hml, hown, hts⟩ (r_X5_requireSheet l D cA NL c v w u ad x1 hM hBd hF h1n h1) (cwV 1 hts gX5_ofSheet_X5_requireSheet rfl rfl rfl (by decide +kernel) ⟨Nat.le_of_ble_eq_true rfl, Nat.le_of_ble_eq_true rfl⟩) (pc_preV pcN_ok hX hW.1 hM.1 rfl rfl hW.1) rfl rfl hl.1 rfl (lv_room (Nat.le_of_ble_eq_true rfl)) dX5_ofSheet_2 ⟨Nat.le_of_ble_eq_true rfl, Nat.le_of_ble_eq_true rfl⟩) hW (fun H locs _ hW => ?_)
  refine lv_aload_n hx hb dX5_ofSheet_5 rfl (lv_at hl 0 rfl) ?_
  refine pc_get (C := RX5) (T := TX5) (N := 13) (ci := 5) hx hb hts (by decide +kernel) hown hX.1 hW.1 5 0 hM.1 rfl rfl 0 (by decide) (hts (.fieldLink RX5 11 "DraftsmanOffice" "sheets" "[LDraftsmanOffice$Sheet;") (by decide +kernel)) (fun _ h9 => h9) rfl dX5_ofSheet_6 ?_
  refine lv_iload_n hx hb dX5_ofSheet_9 rfl (lv_at hl 1 rfl) ?_
  refine pc_aald (r := .ref (ad 1 x1.toNatClampNeg)) hx hb hX.1 hW.1 50 0 3 (hM.2.1 50 (by decide) (by decide)) rfl rfl rfl (fun q => q.elim h1n (fun q => absurd (Nat.lt_of_lt_of_le h1 hBd.1) (Nat.not_lt.mpr q))) (by rw [sRf_in h1]; rfl) dX5_ofSheet_10 ?_
  refine lv_astore_n (lv' := [(3, .ref (ad 1 x1.toNatClampNeg)), (0, .ref (ad 5 0)), (1, .int x1), (2, .int 3)]) hx hb dX5_ofSheet_11 rfl hl (by decide) rfl (fun ls hl => ?_)
  refine lv_iload_n hx hb dX5_ofSheet_12 rfl (lv_at hl 3 rfl) ?_
  refine lv_tableIn (tgt := 85) hx hb dX5_ofSheet_13 (by decide) (by decide) rfl (by decide) ?_
  refine lv_aload_n hx hb dX5_ofSheet_85 rfl (lv_at hl 0 rfl) ?_
  refine pc_qcalli (va_runVN (As := []) (rest := []) ⟨hx, hb, hml, hown, hts⟩ (r_X3_lastStatus l D cA NL c v w u ad x1.toNatClampNeg hM hBd h1) ⟨va_cnB 0 hts gX5_ofSheet_X3_lastStatus_n97 rfl rfl rfl (hX.2.1 (.methodLinkNest RX5 97 yX3_lastStatus R_host) (by decide +kernel)) (hts (.initialized RX3) (by decide +kernel)) (by decide +kernel) ⟨Nat.le_of_ble_eq_true rfl, Nat.le_of_ble_eq_true rfl⟩, hts (.instanceMethod yX3_lastStatus) (by decide +kernel), hts (.selects RX3 yX3_lastStatus yX3_lastStatus) (by decide +kernel)⟩ (pc_preV pcN_ok hX hW.1 (hM.2.2.2.1 x1.toNatClampNeg h1).1 rfl rfl hW.1) rfl rfl hl.1 rfl (lv_room (Nat.le_of_ble_eq_true rfl)) dX5_ofSheet_86 ⟨Nat.le_of_ble_eq_true rfl, Nat.le_of_ble_eq_true rfl⟩) hW (fun r165 H locs hwr165 hW => ?_)
  subst hwr165
  exact W.iret (v := (F_X3_lastStatus c v w x1.toNatClampNeg)) hx hb hr (fun t ht hW9 => ⟨⟨(F_X3_lastStatus c v w x1.toNatClampNeg), (), rfl, rfl, trivial⟩, hW.2.F ht⟩) hW.2.2.2 dX5_ofSheet_89

def F_X5_ofSheet4 (c : SC) (v : SV) (w : SW) (x1 : Int32) : Int32 := (F_X5_fieldsOf (w 1 x1.toNatClampNeg 0))

set_option maxHeartbeats 4000000 in
set_option maxRecDepth 100000 in
theorem r_X5_ofSheet4 (l : Launch) (D : va_G) (cA : Nat → ClassId) (NL : List (Nat × Nat)) (c : SC) (v : SV) (w : SW) (u : Nat → Int32) (ad : Nat → Nat → Nat) (x1 : Int32) (hM : MEM c NL) (hBd : BND c) (hF : WF c v) (h1n : ¬ x1 < 0) (h1 : x1.toNatClampNeg < c 0) : Met l yX5_ofSheet wsX5_ofSheet ({ frames := 2, cells := 0, slots := 0, locals := 42 }) (pcPre D vwCl (tyL cA) [.ref (ad 5 0), .int x1, .int 4] (fun H => va_P D vwCl (pcW NL ad (ctO cA c v w u ad)) H)) (va_Qi (fun (r : Int32) (_ : Unit) => r = F_X5_ofSheet4 c v w x1) (fun _ _ => True) (fun _ => False)) 0 0 (fun _ => False) := by
  refine Met.ofW (cc := cX5_ofSheet) (maxL := 4) (ret := (some .int)) (by decide) rfl ?_
  intro p e s m args below meth c0 s₁ B hml hv
  obtain ⟨rfl, hX, hP0⟩ := hv
  have hx := B.exec
  have hb := B.bytes
  have hr := B.returns
  have hts := atoms_spec (ws := wsX5_ofSheet) B.pre
  have hown : s.vm.findClass RX5 = some m.cls := findClass_of_methodNamed B.named
  have hlocks := B.notSynchronized
  have hW : pcQ D vwCl (fun _ => False) s.heap NL ad (ctO cA c v w u ad) s.heap [] := ⟨hP0, va_S.rf⟩
  have hl := lv_entry ([.ref (ad 5 0), .int x1, .int 4]) (n := 4) (Nat.le_of_ble_eq_true rfl)
  rw [lg_entry_eq]
  generalize (lg_sl ([.ref (ad 5 0), .int x1, .int 4]) ++ List.replicate (4 - (lg_sl ([.ref (ad 5 0), .int x1, .int 4])).length) Slot.unset).toArray = ls at hl ⊢
  have hl : lv_has ls 4 [(0, .ref (ad 5 0)), (1, .int x1), (2, .int 4)] := hl
  refine lv_aload_n hx hb dX5_ofSheet_0 rfl (lv_at hl 0 rfl) ?_
  refine lv_iload_n hx hb dX5_ofSheet_1 rfl (lv_at hl 1 rfl) ?_
  refine pc_qcallv (va_runV (As := [.int x1]) (rest := []) ⟨hx, hb, hml, hown, hts⟩ (r_X5_requireSheet l D cA NL c v w u ad x1 hM hBd hF h1n h1) (cwV 1 hts gX5_ofSheet_X5_requireSheet rfl rfl rfl (by decide +kernel) ⟨Nat.le_of_ble_eq_true rfl, Nat.le_of_ble_eq_true rfl⟩) (pc_preV pcN_ok hX hW.1 hM.1 rfl rfl hW.1) rfl rfl hl.1 rfl (lv_room (Nat.le_of_ble_eq_true rfl)) dX5_ofSheet_2 ⟨Nat.le_of_ble_eq_true rfl, Nat.le_of_ble_eq_true rfl⟩) hW (fun H locs _ hW => ?_)
  refine lv_aload_n hx hb dX5_ofSheet_5 rfl (lv_at hl 0 rfl) ?_
  refine pc_get (C := RX5) (T := TX5) (N := 13) (ci := 5) hx hb hts (by decide +kernel) hown hX.1 hW.1 5 0 hM.1 rfl rfl 0 (by decide) (hts (.fieldLink RX5 11 "DraftsmanOffice" "sheets" "[LDraftsmanOffice$Sheet;") (by decide +kernel)) (fun _ h9 => h9) rfl dX5_ofSheet_6 ?_
  refine lv_iload_n hx hb dX5_ofSheet_9 rfl (lv_at hl 1 rfl) ?_
  refine pc_aald (r := .ref (ad 1 x1.toNatClampNeg)) hx hb hX.1 hW.1 50 0 3 (hM.2.1 50 (by decide) (by decide)) rfl rfl rfl (fun q => q.elim h1n (fun q => absurd (Nat.lt_of_lt_of_le h1 hBd.1) (Nat.not_lt.mpr q))) (by rw [sRf_in h1]; rfl) dX5_ofSheet_10 ?_
  refine lv_astore_n (lv' := [(3, .ref (ad 1 x1.toNatClampNeg)), (0, .ref (ad 5 0)), (1, .int x1), (2, .int 4)]) hx hb dX5_ofSheet_11 rfl hl (by decide) rfl (fun ls hl => ?_)
  refine lv_iload_n hx hb dX5_ofSheet_12 rfl (lv_at hl 3 rfl) ?_
  refine lv_tableIn (tgt := 90) hx hb dX5_ofSheet_13 (by decide) (by decide) rfl (by decide) ?_
  refine lv_aload_n hx hb dX5_ofSheet_90 rfl (lv_at hl 0 rfl) ?_
  refine pc_getN (C := RX3) (T := TX3) (N := 10) (ci := 3) hx hb hts (by decide +kernel) hown hX.1 hW.1 1 x1.toNatClampNeg (hM.2.2.2.1 x1.toNatClampNeg h1).1 rfl rfl 6 (by decide) (hX.2.1 (.fieldLinkNest RX5 159 "DraftsmanOffice$Sheet" "issuedRegion" "J" R_host) (by decide +kernel)) (fun _ h9 => h9) rfl dX5_ofSheet_91 ?_
  refine pc_qcalli (va_runS (As := [.long (w 1 x1.toNatClampNeg 0)]) (rest := []) ⟨hx, hb, hml, hown, hts⟩ (r_X5_fieldsOf l D cA (w 1 x1.toNatClampNeg 0) ) (va_cwS 1 hts gX5_ofSheet_X5_fieldsOf rfl rfl rfl (by decide +kernel) ⟨Nat.le_of_ble_eq_true rfl, Nat.le_of_ble_eq_true rfl⟩) (pc_preS pcN_ok hX trivial) rfl rfl hl.1 rfl (lv_room (Nat.le_of_ble_eq_true rfl)) dX5_ofSheet_94 ⟨Nat.le_of_ble_eq_true rfl, Nat.le_of_ble_eq_true rfl⟩) hW (fun r167 H locs hwr167 hW => ?_)
  subst hwr167
  exact W.iret (v := (F_X5_fieldsOf (w 1 x1.toNatClampNeg 0))) hx hb hr (fun t ht hW9 => ⟨⟨(F_X5_fieldsOf (w 1 x1.toNatClampNeg 0)), (), rfl, rfl, trivial⟩, hW.2.F ht⟩) hW.2.2.2 dX5_ofSheet_97

def F_X5_ofSheet5 (c : SC) (v : SV) (w : SW) (x1 : Int32) : Int32 := (v 1 x1.toNatClampNeg 4)

set_option maxHeartbeats 4000000 in
set_option maxRecDepth 100000 in
theorem r_X5_ofSheet5 (l : Launch) (D : va_G) (cA : Nat → ClassId) (NL : List (Nat × Nat)) (c : SC) (v : SV) (w : SW) (u : Nat → Int32) (ad : Nat → Nat → Nat) (x1 : Int32) (hM : MEM c NL) (hBd : BND c) (hF : WF c v) (h1n : ¬ x1 < 0) (h1 : x1.toNatClampNeg < c 0) : Met l yX5_ofSheet wsX5_ofSheet ({ frames := 1, cells := 0, slots := 0, locals := 21 }) (pcPre D vwCl (tyL cA) [.ref (ad 5 0), .int x1, .int 5] (fun H => va_P D vwCl (pcW NL ad (ctO cA c v w u ad)) H)) (va_Qi (fun (r : Int32) (_ : Unit) => r = F_X5_ofSheet5 c v w x1) (fun _ _ => True) (fun _ => False)) 0 0 (fun _ => False) := by
  refine Met.ofW (cc := cX5_ofSheet) (maxL := 4) (ret := (some .int)) (by decide) rfl ?_
  intro p e s m args below meth c0 s₁ B hml hv
  obtain ⟨rfl, hX, hP0⟩ := hv
  have hx := B.exec
  have hb := B.bytes
  have hr := B.returns
  have hts := atoms_spec (ws := wsX5_ofSheet) B.pre
  have hown : s.vm.findClass RX5 = some m.cls := findClass_of_methodNamed B.named
  have hlocks := B.notSynchronized
  have hW : pcQ D vwCl (fun _ => False) s.heap NL ad (ctO cA c v w u ad) s.heap [] := ⟨hP0, va_S.rf⟩
  have hl := lv_entry ([.ref (ad 5 0), .int x1, .int 5]) (n := 4) (Nat.le_of_ble_eq_true rfl)
  rw [lg_entry_eq]
  generalize (lg_sl ([.ref (ad 5 0), .int x1, .int 5]) ++ List.replicate (4 - (lg_sl ([.ref (ad 5 0), .int x1, .int 5])).length) Slot.unset).toArray = ls at hl ⊢
  have hl : lv_has ls 4 [(0, .ref (ad 5 0)), (1, .int x1), (2, .int 5)] := hl
  refine lv_aload_n hx hb dX5_ofSheet_0 rfl (lv_at hl 0 rfl) ?_
  refine lv_iload_n hx hb dX5_ofSheet_1 rfl (lv_at hl 1 rfl) ?_
  refine pc_qcallv (va_runV (As := [.int x1]) (rest := []) ⟨hx, hb, hml, hown, hts⟩ (r_X5_requireSheet l D cA NL c v w u ad x1 hM hBd hF h1n h1) (cwV 1 hts gX5_ofSheet_X5_requireSheet rfl rfl rfl (by decide +kernel) ⟨Nat.le_of_ble_eq_true rfl, Nat.le_of_ble_eq_true rfl⟩) (pc_preV pcN_ok hX hW.1 hM.1 rfl rfl hW.1) rfl rfl hl.1 rfl (lv_room (Nat.le_of_ble_eq_true rfl)) dX5_ofSheet_2 ⟨Nat.le_of_ble_eq_true rfl, Nat.le_of_ble_eq_true rfl⟩) hW (fun H locs _ hW => ?_)
  refine lv_aload_n hx hb dX5_ofSheet_5 rfl (lv_at hl 0 rfl) ?_
  refine pc_get (C := RX5) (T := TX5) (N := 13) (ci := 5) hx hb hts (by decide +kernel) hown hX.1 hW.1 5 0 hM.1 rfl rfl 0 (by decide) (hts (.fieldLink RX5 11 "DraftsmanOffice" "sheets" "[LDraftsmanOffice$Sheet;") (by decide +kernel)) (fun _ h9 => h9) rfl dX5_ofSheet_6 ?_
  refine lv_iload_n hx hb dX5_ofSheet_9 rfl (lv_at hl 1 rfl) ?_
  refine pc_aald (r := .ref (ad 1 x1.toNatClampNeg)) hx hb hX.1 hW.1 50 0 3 (hM.2.1 50 (by decide) (by decide)) rfl rfl rfl (fun q => q.elim h1n (fun q => absurd (Nat.lt_of_lt_of_le h1 hBd.1) (Nat.not_lt.mpr q))) (by rw [sRf_in h1]; rfl) dX5_ofSheet_10 ?_
  refine lv_astore_n (lv' := [(3, .ref (ad 1 x1.toNatClampNeg)), (0, .ref (ad 5 0)), (1, .int x1), (2, .int 5)]) hx hb dX5_ofSheet_11 rfl hl (by decide) rfl (fun ls hl => ?_)
  refine lv_iload_n hx hb dX5_ofSheet_12 rfl (lv_at hl 3 rfl) ?_
  refine lv_tableIn (tgt := 98) hx hb dX5_ofSheet_13 (by decide) (by decide) rfl (by decide) ?_
  refine lv_aload_n hx hb dX5_ofSheet_98 rfl (lv_at hl 0 rfl) ?_
  refine pc_getN (C := RX3) (T := TX3) (N := 10) (ci := 3) hx hb hts (by decide +kernel) hown hX.1 hW.1 1 x1.toNatClampNeg (hM.2.2.2.1 x1.toNatClampNeg h1).1 rfl rfl 7 (by decide) (hX.2.1 (.fieldLinkNest RX5 163 "DraftsmanOffice$Sheet" "issuedDetails" "I" R_host) (by decide +kernel)) (fun _ h9 => h9) rfl dX5_ofSheet_99 ?_
  exact W.iret (v := (v 1 x1.toNatClampNeg 4)) hx hb hr (fun t ht hW9 => ⟨⟨(v 1 x1.toNatClampNeg 4), (), rfl, rfl, trivial⟩, hW.2.F ht⟩) hW.2.2.2 dX5_ofSheet_102

def F_X5_ofSheet6 (c : SC) (v : SV) (w : SW) (x1 : Int32) : Int32 := (v 1 x1.toNatClampNeg 5)

set_option maxHeartbeats 4000000 in
set_option maxRecDepth 100000 in
theorem r_X5_ofSheet6 (l : Launch) (D : va_G) (cA : Nat → ClassId) (NL : List (Nat × Nat)) (c : SC) (v : SV) (w : SW) (u : Nat → Int32) (ad : Nat → Nat → Nat) (x1 : Int32) (hM : MEM c NL) (hBd : BND c) (hF : WF c v) (h1n : ¬ x1 < 0) (h1 : x1.toNatClampNeg < c 0) : Met l yX5_ofSheet wsX5_ofSheet ({ frames := 1, cells := 0, slots := 0, locals := 21 }) (pcPre D vwCl (tyL cA) [.ref (ad 5 0), .int x1, .int 6] (fun H => va_P D vwCl (pcW NL ad (ctO cA c v w u ad)) H)) (va_Qi (fun (r : Int32) (_ : Unit) => r = F_X5_ofSheet6 c v w x1) (fun _ _ => True) (fun _ => False)) 0 0 (fun _ => False) := by
  refine Met.ofW (cc := cX5_ofSheet) (maxL := 4) (ret := (some .int)) (by decide) rfl ?_
  intro p e s m args below meth c0 s₁ B hml hv
  obtain ⟨rfl, hX, hP0⟩ := hv
  have hx := B.exec
  have hb := B.bytes
  have hr := B.returns
  have hts := atoms_spec (ws := wsX5_ofSheet) B.pre
  have hown : s.vm.findClass RX5 = some m.cls := findClass_of_methodNamed B.named
  have hlocks := B.notSynchronized
  have hW : pcQ D vwCl (fun _ => False) s.heap NL ad (ctO cA c v w u ad) s.heap [] := ⟨hP0, va_S.rf⟩
  have hl := lv_entry ([.ref (ad 5 0), .int x1, .int 6]) (n := 4) (Nat.le_of_ble_eq_true rfl)
  rw [lg_entry_eq]
  generalize (lg_sl ([.ref (ad 5 0), .int x1, .int 6]) ++ List.replicate (4 - (lg_sl ([.ref (ad 5 0), .int x1, .int 6])).length) Slot.unset).toArray = ls at hl ⊢
  have hl : lv_has ls 4 [(0, .ref (ad 5 0)), (1, .int x1), (2, .int 6)] := hl
  refine lv_aload_n hx hb dX5_ofSheet_0 rfl (lv_at hl 0 rfl) ?_
  refine lv_iload_n hx hb dX5_ofSheet_1 rfl (lv_at hl 1 rfl) ?_
  refine pc_qcallv (va_runV (As := [.int x1]) (rest := []) ⟨hx, hb, hml, hown, hts⟩ (r_X5_requireSheet l D cA NL c v w u ad x1 hM hBd hF h1n h1) (cwV 1 hts gX5_ofSheet_X5_requireSheet rfl rfl rfl (by decide +kernel) ⟨Nat.le_of_ble_eq_true rfl, Nat.le_of_ble_eq_true rfl⟩) (pc_preV pcN_ok hX hW.1 hM.1 rfl rfl hW.1) rfl rfl hl.1 rfl (lv_room (Nat.le_of_ble_eq_true rfl)) dX5_ofSheet_2 ⟨Nat.le_of_ble_eq_true rfl, Nat.le_of_ble_eq_true rfl⟩) hW (fun H locs _ hW => ?_)
  refine lv_aload_n hx hb dX5_ofSheet_5 rfl (lv_at hl 0 rfl) ?_
  refine pc_get (C := RX5) (T := TX5) (N := 13) (ci := 5) hx hb hts (by decide +kernel) hown hX.1 hW.1 5 0 hM.1 rfl rfl 0 (by decide) (hts (.fieldLink RX5 11 "DraftsmanOffice" "sheets" "[LDraftsmanOffice$Sheet;") (by decide +kernel)) (fun _ h9 => h9) rfl dX5_ofSheet_6 ?_
  refine lv_iload_n hx hb dX5_ofSheet_9 rfl (lv_at hl 1 rfl) ?_
  refine pc_aald (r := .ref (ad 1 x1.toNatClampNeg)) hx hb hX.1 hW.1 50 0 3 (hM.2.1 50 (by decide) (by decide)) rfl rfl rfl (fun q => q.elim h1n (fun q => absurd (Nat.lt_of_lt_of_le h1 hBd.1) (Nat.not_lt.mpr q))) (by rw [sRf_in h1]; rfl) dX5_ofSheet_10 ?_
  refine lv_astore_n (lv' := [(3, .ref (ad 1 x1.toNatClampNeg)), (0, .ref (ad 5 0)), (1, .int x1), (2, .int 6)]) hx hb dX5_ofSheet_11 rfl hl (by decide) rfl (fun ls hl => ?_)
  refine lv_iload_n hx hb dX5_ofSheet_12 rfl (lv_at hl 3 rfl) ?_
  refine lv_tableIn (tgt := 103) hx hb dX5_ofSheet_13 (by decide) (by decide) rfl (by decide) ?_
  refine lv_aload_n hx hb dX5_ofSheet_103 rfl (lv_at hl 0 rfl) ?_
  refine pc_getN (C := RX3) (T := TX3) (N := 10) (ci := 3) hx hb hts (by decide +kernel) hown hX.1 hW.1 1 x1.toNatClampNeg (hM.2.2.2.1 x1.toNatClampNeg h1).1 rfl rfl 8 (by decide) (hX.2.1 (.fieldLinkNest RX5 166 "DraftsmanOffice$Sheet" "marks" "I" R_host) (by decide +kernel)) (fun _ h9 => h9) rfl dX5_ofSheet_104 ?_
  exact W.iret (v := (v 1 x1.toNatClampNeg 5)) hx hb hr (fun t ht hW9 => ⟨⟨(v 1 x1.toNatClampNeg 5), (), rfl, rfl, trivial⟩, hW.2.F ht⟩) hW.2.2.2 dX5_ofSheet_107

def F_X5_ofSheet7 (c : SC) (v : SV) (w : SW) (x1 : Int32) : Int32 := (F_X5_brokenFrom c v w x1)

set_option maxHeartbeats 4000000 in
set_option maxRecDepth 100000 in
theorem r_X5_ofSheet7 (l : Launch) (D : va_G) (cA : Nat → ClassId) (NL : List (Nat × Nat)) (c : SC) (v : SV) (w : SW) (u : Nat → Int32) (ad : Nat → Nat → Nat) (x1 : Int32) (hM : MEM c NL) (hBd : BND c) (hF : WF c v) (h1n : ¬ x1 < 0) (h1 : x1.toNatClampNeg < c 0) : Met l yX5_ofSheet wsX5_ofSheet ({ frames := 3, cells := 0, slots := 0, locals := 65 }) (pcPre D vwCl (tyL cA) [.ref (ad 5 0), .int x1, .int 7] (fun H => va_P D vwCl (pcW NL ad (ctO cA c v w u ad)) H)) (va_Qi (fun (r : Int32) (_ : Unit) => r = F_X5_ofSheet7 c v w x1) (fun _ _ => True) (fun _ => False)) 0 0 (fun _ => False) := by
  refine Met.ofW (cc := cX5_ofSheet) (maxL := 4) (ret := (some .int)) (by decide) rfl ?_
  intro p e s m args below meth c0 s₁ B hml hv
  obtain ⟨rfl, hX, hP0⟩ := hv
  have hx := B.exec
  have hb := B.bytes
  have hr := B.returns
  have hts := atoms_spec (ws := wsX5_ofSheet) B.pre
  have hown : s.vm.findClass RX5 = some m.cls := findClass_of_methodNamed B.named
  have hlocks := B.notSynchronized
  have hW : pcQ D vwCl (fun _ => False) s.heap NL ad (ctO cA c v w u ad) s.heap [] := ⟨hP0, va_S.rf⟩
  have hl := lv_entry ([.ref (ad 5 0), .int x1, .int 7]) (n := 4) (Nat.le_of_ble_eq_true rfl)
  rw [lg_entry_eq]
  generalize (lg_sl ([.ref (ad 5 0), .int x1, .int 7]) ++ List.replicate (4 - (lg_sl ([.ref (ad 5 0), .int x1, .int 7])).length) Slot.unset).toArray = ls at hl ⊢
  have hl : lv_has ls 4 [(0, .ref (ad 5 0)), (1, .int x1), (2, .int 7)] := hl
  refine lv_aload_n hx hb dX5_ofSheet_0 rfl (lv_at hl 0 rfl) ?_
  refine lv_iload_n hx hb dX5_ofSheet_1 rfl (lv_at hl 1 rfl) ?_
  refine pc_qcallv (va_runV (As := [.int x1]) (rest := []) ⟨hx, hb, hml, hown, hts⟩ (r_X5_requireSheet l D cA NL c v w u ad x1 hM hBd hF h1n h1) (cwV 1 hts gX5_ofSheet_X5_requireSheet rfl rfl rfl (by decide +kernel) ⟨Nat.le_of_ble_eq_true rfl, Nat.le_of_ble_eq_true rfl⟩) (pc_preV pcN_ok hX hW.1 hM.1 rfl rfl hW.1) rfl rfl hl.1 rfl (lv_room (Nat.le_of_ble_eq_true rfl)) dX5_ofSheet_2 ⟨Nat.le_of_ble_eq_true rfl, Nat.le_of_ble_eq_true rfl⟩) hW (fun H locs _ hW => ?_)
  refine lv_aload_n hx hb dX5_ofSheet_5 rfl (lv_at hl 0 rfl) ?_
  refine pc_get (C := RX5) (T := TX5) (N := 13) (ci := 5) hx hb hts (by decide +kernel) hown hX.1 hW.1 5 0 hM.1 rfl rfl 0 (by decide) (hts (.fieldLink RX5 11 "DraftsmanOffice" "sheets" "[LDraftsmanOffice$Sheet;") (by decide +kernel)) (fun _ h9 => h9) rfl dX5_ofSheet_6 ?_
  refine lv_iload_n hx hb dX5_ofSheet_9 rfl (lv_at hl 1 rfl) ?_
  refine pc_aald (r := .ref (ad 1 x1.toNatClampNeg)) hx hb hX.1 hW.1 50 0 3 (hM.2.1 50 (by decide) (by decide)) rfl rfl rfl (fun q => q.elim h1n (fun q => absurd (Nat.lt_of_lt_of_le h1 hBd.1) (Nat.not_lt.mpr q))) (by rw [sRf_in h1]; rfl) dX5_ofSheet_10 ?_
  refine lv_astore_n (lv' := [(3, .ref (ad 1 x1.toNatClampNeg)), (0, .ref (ad 5 0)), (1, .int x1), (2, .int 7)]) hx hb dX5_ofSheet_11 rfl hl (by decide) rfl (fun ls hl => ?_)
  refine lv_iload_n hx hb dX5_ofSheet_12 rfl (lv_at hl 3 rfl) ?_
  refine lv_tableIn (tgt := 108) hx hb dX5_ofSheet_13 (by decide) (by decide) rfl (by decide) ?_
  refine lv_aload_n hx hb dX5_ofSheet_108 rfl (lv_at hl 1 rfl) ?_
  refine lv_iload_n hx hb dX5_ofSheet_109 rfl (lv_at hl 2 rfl) ?_
  refine pc_qcalli (va_runV (As := [.int x1]) (rest := []) ⟨hx, hb, hml, hown, hts⟩ (r_X5_brokenFrom l D cA NL c v w u ad x1 hM hBd hF ) (cwV 1 hts gX5_ofSheet_X5_brokenFrom rfl rfl rfl (by decide +kernel) ⟨Nat.le_of_ble_eq_true rfl, Nat.le_of_ble_eq_true rfl⟩) (pc_preV pcN_ok hX hW.1 hM.1 rfl rfl hW.1) rfl rfl hl.1 rfl (lv_room (Nat.le_of_ble_eq_true rfl)) dX5_ofSheet_110 ⟨Nat.le_of_ble_eq_true rfl, Nat.le_of_ble_eq_true rfl⟩) hW (fun r171 H locs hwr171 hW => ?_)
  subst hwr171
  exact W.iret (v := (F_X5_brokenFrom c v w x1)) hx hb hr (fun t ht hW9 => ⟨⟨(F_X5_brokenFrom c v w x1), (), rfl, rfl, trivial⟩, hW.2.F ht⟩) hW.2.2.2 dX5_ofSheet_113

def F_X5_ofSheet8 (c : SC) (v : SV) (w : SW) (x1 : Int32) : Int32 := (F_X5_brokenTo c v w x1)

set_option maxHeartbeats 4000000 in
set_option maxRecDepth 100000 in
theorem r_X5_ofSheet8 (l : Launch) (D : va_G) (cA : Nat → ClassId) (NL : List (Nat × Nat)) (c : SC) (v : SV) (w : SW) (u : Nat → Int32) (ad : Nat → Nat → Nat) (x1 : Int32) (hM : MEM c NL) (hBd : BND c) (hF : WF c v) (h1n : ¬ x1 < 0) (h1 : x1.toNatClampNeg < c 0) : Met l yX5_ofSheet wsX5_ofSheet ({ frames := 3, cells := 0, slots := 0, locals := 65 }) (pcPre D vwCl (tyL cA) [.ref (ad 5 0), .int x1, .int 8] (fun H => va_P D vwCl (pcW NL ad (ctO cA c v w u ad)) H)) (va_Qi (fun (r : Int32) (_ : Unit) => r = F_X5_ofSheet8 c v w x1) (fun _ _ => True) (fun _ => False)) 0 0 (fun _ => False) := by
  refine Met.ofW (cc := cX5_ofSheet) (maxL := 4) (ret := (some .int)) (by decide) rfl ?_
  intro p e s m args below meth c0 s₁ B hml hv
  obtain ⟨rfl, hX, hP0⟩ := hv
  have hx := B.exec
  have hb := B.bytes
  have hr := B.returns
  have hts := atoms_spec (ws := wsX5_ofSheet) B.pre
  have hown : s.vm.findClass RX5 = some m.cls := findClass_of_methodNamed B.named
  have hlocks := B.notSynchronized
  have hW : pcQ D vwCl (fun _ => False) s.heap NL ad (ctO cA c v w u ad) s.heap [] := ⟨hP0, va_S.rf⟩
  have hl := lv_entry ([.ref (ad 5 0), .int x1, .int 8]) (n := 4) (Nat.le_of_ble_eq_true rfl)
  rw [lg_entry_eq]
  generalize (lg_sl ([.ref (ad 5 0), .int x1, .int 8]) ++ List.replicate (4 - (lg_sl ([.ref (ad 5 0), .int x1, .int 8])).length) Slot.unset).toArray = ls at hl ⊢
  have hl : lv_has ls 4 [(0, .ref (ad 5 0)), (1, .int x1), (2, .int 8)] := hl
  refine lv_aload_n hx hb dX5_ofSheet_0 rfl (lv_at hl 0 rfl) ?_
  refine lv_iload_n hx hb dX5_ofSheet_1 rfl (lv_at hl 1 rfl) ?_
  refine pc_qcallv (va_runV (As := [.int x1]) (rest := []) ⟨hx, hb, hml, hown, hts⟩ (r_X5_requireSheet l D cA NL c v w u ad x1 hM hBd hF h1n h1) (cwV 1 hts gX5_ofSheet_X5_requireSheet rfl rfl rfl (by decide +kernel) ⟨Nat.le_of_ble_eq_true rfl, Nat.le_of_ble_eq_true rfl⟩) (pc_preV pcN_ok hX hW.1 hM.1 rfl rfl hW.1) rfl rfl hl.1 rfl (lv_room (Nat.le_of_ble_eq_true rfl)) dX5_ofSheet_2 ⟨Nat.le_of_ble_eq_true rfl, Nat.le_of_ble_eq_true rfl⟩) hW (fun H locs _ hW => ?_)
  refine lv_aload_n hx hb dX5_ofSheet_5 rfl (lv_at hl 0 rfl) ?_
  refine pc_get (C := RX5) (T := TX5) (N := 13) (ci := 5) hx hb hts (by decide +kernel) hown hX.1 hW.1 5 0 hM.1 rfl rfl 0 (by decide) (hts (.fieldLink RX5 11 "DraftsmanOffice" "sheets" "[LDraftsmanOffice$Sheet;") (by decide +kernel)) (fun _ h9 => h9) rfl dX5_ofSheet_6 ?_
  refine lv_iload_n hx hb dX5_ofSheet_9 rfl (lv_at hl 1 rfl) ?_
  refine pc_aald (r := .ref (ad 1 x1.toNatClampNeg)) hx hb hX.1 hW.1 50 0 3 (hM.2.1 50 (by decide) (by decide)) rfl rfl rfl (fun q => q.elim h1n (fun q => absurd (Nat.lt_of_lt_of_le h1 hBd.1) (Nat.not_lt.mpr q))) (by rw [sRf_in h1]; rfl) dX5_ofSheet_10 ?_
  refine lv_astore_n (lv' := [(3, .ref (ad 1 x1.toNatClampNeg)), (0, .ref (ad 5 0)), (1, .int x1), (2, .int 8)]) hx hb dX5_ofSheet_11 rfl hl (by decide) rfl (fun ls hl => ?_)
  refine lv_iload_n hx hb dX5_ofSheet_12 rfl (lv_at hl 3 rfl) ?_
  refine lv_tableIn (tgt := 114) hx hb dX5_ofSheet_13 (by decide) (by decide) rfl (by decide) ?_
  refine lv_aload_n hx hb dX5_ofSheet_114 rfl (lv_at hl 1 rfl) ?_
  refine lv_iload_n hx hb dX5_ofSheet_115 rfl (lv_at hl 2 rfl) ?_
  refine pc_qcalli (va_runV (As := [.int x1]) (rest := []) ⟨hx, hb, hml, hown, hts⟩ (r_X5_brokenTo l D cA NL c v w u ad x1 hM hBd hF ) (cwV 1 hts gX5_ofSheet_X5_brokenTo rfl rfl rfl (by decide +kernel) ⟨Nat.le_of_ble_eq_true rfl, Nat.le_of_ble_eq_true rfl⟩) (pc_preV pcN_ok hX hW.1 hM.1 rfl rfl hW.1) rfl rfl hl.1 rfl (lv_room (Nat.le_of_ble_eq_true rfl)) dX5_ofSheet_116 ⟨Nat.le_of_ble_eq_true rfl, Nat.le_of_ble_eq_true rfl⟩) hW (fun r173 H locs hwr173 hW => ?_)
  subst hwr173
  exact W.iret (v := (F_X5_brokenTo c v w x1)) hx hb hr (fun t ht hW9 => ⟨⟨(F_X5_brokenTo c v w x1), (), rfl, rfl, trivial⟩, hW.2.F ht⟩) hW.2.2.2 dX5_ofSheet_119

def F_X5_ofSheet9 (c : SC) (v : SV) (w : SW) (x1 : Int32) : Int32 := (F_X5_clashesOf c v w x1)

set_option maxHeartbeats 4000000 in
set_option maxRecDepth 100000 in
theorem r_X5_ofSheet9 (l : Launch) (D : va_G) (cA : Nat → ClassId) (NL : List (Nat × Nat)) (c : SC) (v : SV) (w : SW) (u : Nat → Int32) (ad : Nat → Nat → Nat) (x1 : Int32) (hM : MEM c NL) (hBd : BND c) (hF : WF c v) (h1n : ¬ x1 < 0) (h1 : x1.toNatClampNeg < c 0) : Met l yX5_ofSheet wsX5_ofSheet ({ frames := 3, cells := 0, slots := 0, locals := 68 }) (pcPre D vwCl (tyL cA) [.ref (ad 5 0), .int x1, .int 9] (fun H => va_P D vwCl (pcW NL ad (ctO cA c v w u ad)) H)) (va_Qi (fun (r : Int32) (_ : Unit) => r = F_X5_ofSheet9 c v w x1) (fun _ _ => True) (fun _ => False)) 0 0 (fun _ => False) := by
  refine Met.ofW (cc := cX5_ofSheet) (maxL := 4) (ret := (some .int)) (by decide) rfl ?_
  intro p e s m args below meth c0 s₁ B hml hv
  obtain ⟨rfl, hX, hP0⟩ := hv
  have hx := B.exec
  have hb := B.bytes
  have hr := B.returns
  have hts := atoms_spec (ws := wsX5_ofSheet) B.pre
  have hown : s.vm.findClass RX5 = some m.cls := findClass_of_methodNamed B.named
  have hlocks := B.notSynchronized
  have hW : pcQ D vwCl (fun _ => False) s.heap NL ad (ctO cA c v w u ad) s.heap [] := ⟨hP0, va_S.rf⟩
  have hl := lv_entry ([.ref (ad 5 0), .int x1, .int 9]) (n := 4) (Nat.le_of_ble_eq_true rfl)
  rw [lg_entry_eq]
  generalize (lg_sl ([.ref (ad 5 0), .int x1, .int 9]) ++ List.replicate (4 - (lg_sl ([.ref (ad 5 0), .int x1, .int 9])).length) Slot.unset).toArray = ls at hl ⊢
  have hl : lv_has ls 4 [(0, .ref (ad 5 0)), (1, .int x1), (2, .int 9)] := hl
  refine lv_aload_n hx hb dX5_ofSheet_0 rfl (lv_at hl 0 rfl) ?_
  refine lv_iload_n hx hb dX5_ofSheet_1 rfl (lv_at hl 1 rfl) ?_
  refine pc_qcallv (va_runV (As := [.int x1]) (rest := []) ⟨hx, hb, hml, hown, hts⟩ (r_X5_requireSheet l D cA NL c v w u ad x1 hM hBd hF h1n h1) (cwV 1 hts gX5_ofSheet_X5_requireSheet rfl rfl rfl (by decide +kernel) ⟨Nat.le_of_ble_eq_true rfl, Nat.le_of_ble_eq_true rfl⟩) (pc_preV pcN_ok hX hW.1 hM.1 rfl rfl hW.1) rfl rfl hl.1 rfl (lv_room (Nat.le_of_ble_eq_true rfl)) dX5_ofSheet_2 ⟨Nat.le_of_ble_eq_true rfl, Nat.le_of_ble_eq_true rfl⟩) hW (fun H locs _ hW => ?_)
  refine lv_aload_n hx hb dX5_ofSheet_5 rfl (lv_at hl 0 rfl) ?_
  refine pc_get (C := RX5) (T := TX5) (N := 13) (ci := 5) hx hb hts (by decide +kernel) hown hX.1 hW.1 5 0 hM.1 rfl rfl 0 (by decide) (hts (.fieldLink RX5 11 "DraftsmanOffice" "sheets" "[LDraftsmanOffice$Sheet;") (by decide +kernel)) (fun _ h9 => h9) rfl dX5_ofSheet_6 ?_
  refine lv_iload_n hx hb dX5_ofSheet_9 rfl (lv_at hl 1 rfl) ?_
  refine pc_aald (r := .ref (ad 1 x1.toNatClampNeg)) hx hb hX.1 hW.1 50 0 3 (hM.2.1 50 (by decide) (by decide)) rfl rfl rfl (fun q => q.elim h1n (fun q => absurd (Nat.lt_of_lt_of_le h1 hBd.1) (Nat.not_lt.mpr q))) (by rw [sRf_in h1]; rfl) dX5_ofSheet_10 ?_
  refine lv_astore_n (lv' := [(3, .ref (ad 1 x1.toNatClampNeg)), (0, .ref (ad 5 0)), (1, .int x1), (2, .int 9)]) hx hb dX5_ofSheet_11 rfl hl (by decide) rfl (fun ls hl => ?_)
  refine lv_iload_n hx hb dX5_ofSheet_12 rfl (lv_at hl 3 rfl) ?_
  refine lv_tableIn (tgt := 120) hx hb dX5_ofSheet_13 (by decide) (by decide) rfl (by decide) ?_
  refine lv_aload_n hx hb dX5_ofSheet_120 rfl (lv_at hl 1 rfl) ?_
  refine lv_iload_n hx hb dX5_ofSheet_121 rfl (lv_at hl 2 rfl) ?_
  refine pc_qcalli (va_runV (As := [.int x1]) (rest := []) ⟨hx, hb, hml, hown, hts⟩ (r_X5_clashesOf l D cA NL c v w u ad x1 hM hBd hF h1n h1) (cwV 1 hts gX5_ofSheet_X5_clashesOf rfl rfl rfl (by decide +kernel) ⟨Nat.le_of_ble_eq_true rfl, Nat.le_of_ble_eq_true rfl⟩) (pc_preV pcN_ok hX hW.1 hM.1 rfl rfl hW.1) rfl rfl hl.1 rfl (lv_room (Nat.le_of_ble_eq_true rfl)) dX5_ofSheet_122 ⟨Nat.le_of_ble_eq_true rfl, Nat.le_of_ble_eq_true rfl⟩) hW (fun r175 H locs hwr175 hW => ?_)
  subst hwr175
  exact W.iret (v := (F_X5_clashesOf c v w x1)) hx hb hr (fun t ht hW9 => ⟨⟨(F_X5_clashesOf c v w x1), (), rfl, rfl, trivial⟩, hW.2.F ht⟩) hW.2.2.2 dX5_ofSheet_125

def F_X5_ofPack0 (c : SC) (v : SV) (w : SW) (x1 : Int32) : Int32 := (v 7 x1.toNatClampNeg 0)

set_option maxHeartbeats 4000000 in
set_option maxRecDepth 100000 in
theorem r_X5_ofPack0 (l : Launch) (D : va_G) (cA : Nat → ClassId) (NL : List (Nat × Nat)) (c : SC) (v : SV) (w : SW) (u : Nat → Int32) (ad : Nat → Nat → Nat) (x1 : Int32) (hM : MEM c NL) (hBd : BND c) (hF : WF c v) (h1n : ¬ x1 < 0) (h1 : x1.toNatClampNeg < c 4) : Met l yX5_ofPack wsX5_ofPack ({ frames := 1, cells := 0, slots := 0, locals := 21 }) (pcPre D vwCl (tyL cA) [.ref (ad 5 0), .int x1, .int 0] (fun H => va_P D vwCl (pcW NL ad (ctO cA c v w u ad)) H)) (va_Qi (fun (r : Int32) (_ : Unit) => r = F_X5_ofPack0 c v w x1) (fun _ _ => True) (fun _ => False)) 0 0 (fun _ => False) := by
  refine Met.ofW (cc := cX5_ofPack) (maxL := 4) (ret := (some .int)) (by decide) rfl ?_
  intro p e s m args below meth c0 s₁ B hml hv
  obtain ⟨rfl, hX, hP0⟩ := hv
  have hx := B.exec
  have hb := B.bytes
  have hr := B.returns
  have hts := atoms_spec (ws := wsX5_ofPack) B.pre
  have hown : s.vm.findClass RX5 = some m.cls := findClass_of_methodNamed B.named
  have hlocks := B.notSynchronized
  have hW : pcQ D vwCl (fun _ => False) s.heap NL ad (ctO cA c v w u ad) s.heap [] := ⟨hP0, va_S.rf⟩
  have hl := lv_entry ([.ref (ad 5 0), .int x1, .int 0]) (n := 4) (Nat.le_of_ble_eq_true rfl)
  rw [lg_entry_eq]
  generalize (lg_sl ([.ref (ad 5 0), .int x1, .int 0]) ++ List.replicate (4 - (lg_sl ([.ref (ad 5 0), .int x1, .int 0])).length) Slot.unset).toArray = ls at hl ⊢
  have hl : lv_has ls 4 [(0, .ref (ad 5 0)), (1, .int x1), (2, .int 0)] := hl
  refine lv_aload_n hx hb dX5_ofPack_0 rfl (lv_at hl 0 rfl) ?_
  refine lv_iload_n hx hb dX5_ofPack_1 rfl (lv_at hl 1 rfl) ?_
  refine pc_qcallv (va_runV (As := [.int x1]) (rest := []) ⟨hx, hb, hml, hown, hts⟩ (r_X5_requirePackage l D cA NL c v w u ad x1 hM hBd hF h1n h1) (cwV 1 hts gX5_ofPack_X5_requirePackage rfl rfl rfl (by decide +kernel) ⟨Nat.le_of_ble_eq_true rfl, Nat.le_of_ble_eq_true rfl⟩) (pc_preV pcN_ok hX hW.1 hM.1 rfl rfl hW.1) rfl rfl hl.1 rfl (lv_room (Nat.le_of_ble_eq_true rfl)) dX5_ofPack_2 ⟨Nat.le_of_ble_eq_true rfl, Nat.le_of_ble_eq_true rfl⟩) hW (fun H locs _ hW => ?_)
  refine lv_aload_n hx hb dX5_ofPack_5 rfl (lv_at hl 0 rfl) ?_
  refine pc_get (C := RX5) (T := TX5) (N := 13) (ci := 5) hx hb hts (by decide +kernel) hown hX.1 hW.1 5 0 hM.1 rfl rfl 4 (by decide) (hts (.fieldLink RX5 35 "DraftsmanOffice" "packages" "[LDraftsmanOffice$WorkPackage;") (by decide +kernel)) (fun _ h9 => h9) rfl dX5_ofPack_6 ?_
  refine lv_iload_n hx hb dX5_ofPack_9 rfl (lv_at hl 1 rfl) ?_
  refine pc_aald (r := .ref (ad 7 x1.toNatClampNeg)) hx hb hX.1 hW.1 54 0 7 (hM.2.1 54 (by decide) (by decide)) rfl rfl rfl (fun q => q.elim h1n (fun q => absurd (Nat.lt_of_lt_of_le h1 hBd.2.2.2.2) (Nat.not_lt.mpr q))) (by rw [sRf_in h1]; rfl) dX5_ofPack_10 ?_
  refine lv_astore_n (lv' := [(3, .ref (ad 7 x1.toNatClampNeg)), (0, .ref (ad 5 0)), (1, .int x1), (2, .int 0)]) hx hb dX5_ofPack_11 rfl hl (by decide) rfl (fun ls hl => ?_)
  refine lv_iload_n hx hb dX5_ofPack_12 rfl (lv_at hl 3 rfl) ?_
  refine lv_tableIn (tgt := 56) hx hb dX5_ofPack_13 (by decide) (by decide) rfl (by decide) ?_
  refine lv_aload_n hx hb dX5_ofPack_56 rfl (lv_at hl 0 rfl) ?_
  refine pc_getN (C := RX4) (T := TX4) (N := 6) (ci := 4) hx hb hts (by decide +kernel) hown hX.1 hW.1 7 x1.toNatClampNeg (hM.2.2.2.2.2.2.2 x1.toNatClampNeg h1) rfl rfl 0 (by decide) (hX.2.1 (.fieldLinkNest RX5 274 "DraftsmanOffice$WorkPackage" "crew" "I" R_host) (by decide +kernel)) (fun _ h9 => h9) rfl dX5_ofPack_57 ?_
  exact W.iret (v := (v 7 x1.toNatClampNeg 0)) hx hb hr (fun t ht hW9 => ⟨⟨(v 7 x1.toNatClampNeg 0), (), rfl, rfl, trivial⟩, hW.2.F ht⟩) hW.2.2.2 dX5_ofPack_60

def F_X5_ofPack1 (c : SC) (v : SV) (w : SW) (x1 : Int32) : Int32 := (v 7 x1.toNatClampNeg 1)

set_option maxHeartbeats 4000000 in
set_option maxRecDepth 100000 in
theorem r_X5_ofPack1 (l : Launch) (D : va_G) (cA : Nat → ClassId) (NL : List (Nat × Nat)) (c : SC) (v : SV) (w : SW) (u : Nat → Int32) (ad : Nat → Nat → Nat) (x1 : Int32) (hM : MEM c NL) (hBd : BND c) (hF : WF c v) (h1n : ¬ x1 < 0) (h1 : x1.toNatClampNeg < c 4) : Met l yX5_ofPack wsX5_ofPack ({ frames := 1, cells := 0, slots := 0, locals := 21 }) (pcPre D vwCl (tyL cA) [.ref (ad 5 0), .int x1, .int 1] (fun H => va_P D vwCl (pcW NL ad (ctO cA c v w u ad)) H)) (va_Qi (fun (r : Int32) (_ : Unit) => r = F_X5_ofPack1 c v w x1) (fun _ _ => True) (fun _ => False)) 0 0 (fun _ => False) := by
  refine Met.ofW (cc := cX5_ofPack) (maxL := 4) (ret := (some .int)) (by decide) rfl ?_
  intro p e s m args below meth c0 s₁ B hml hv
  obtain ⟨rfl, hX, hP0⟩ := hv
  have hx := B.exec
  have hb := B.bytes
  have hr := B.returns
  have hts := atoms_spec (ws := wsX5_ofPack) B.pre
  have hown : s.vm.findClass RX5 = some m.cls := findClass_of_methodNamed B.named
  have hlocks := B.notSynchronized
  have hW : pcQ D vwCl (fun _ => False) s.heap NL ad (ctO cA c v w u ad) s.heap [] := ⟨hP0, va_S.rf⟩
  have hl := lv_entry ([.ref (ad 5 0), .int x1, .int 1]) (n := 4) (Nat.le_of_ble_eq_true rfl)
  rw [lg_entry_eq]
  generalize (lg_sl ([.ref (ad 5 0), .int x1, .int 1]) ++ List.replicate (4 - (lg_sl ([.ref (ad 5 0), .int x1, .int 1])).length) Slot.unset).toArray = ls at hl ⊢
  have hl : lv_has ls 4 [(0, .ref (ad 5 0)), (1, .int x1), (2, .int 1)] := hl
  refine lv_aload_n hx hb dX5_ofPack_0 rfl (lv_at hl 0 rfl) ?_
  refine lv_iload_n hx hb dX5_ofPack_1 rfl (lv_at hl 1 rfl) ?_
  refine pc_qcallv (va_runV (As := [.int x1]) (rest := []) ⟨hx, hb, hml, hown, hts⟩ (r_X5_requirePackage l D cA NL c v w u ad x1 hM hBd hF h1n h1) (cwV 1 hts gX5_ofPack_X5_requirePackage rfl rfl rfl (by decide +kernel) ⟨Nat.le_of_ble_eq_true rfl, Nat.le_of_ble_eq_true rfl⟩) (pc_preV pcN_ok hX hW.1 hM.1 rfl rfl hW.1) rfl rfl hl.1 rfl (lv_room (Nat.le_of_ble_eq_true rfl)) dX5_ofPack_2 ⟨Nat.le_of_ble_eq_true rfl, Nat.le_of_ble_eq_true rfl⟩) hW (fun H locs _ hW => ?_)
  refine lv_aload_n hx hb dX5_ofPack_5 rfl (lv_at hl 0 rfl) ?_
  refine pc_get (C := RX5) (T := TX5) (N := 13) (ci := 5) hx hb hts (by decide +kernel) hown hX.1 hW.1 5 0 hM.1 rfl rfl 4 (by decide) (hts (.fieldLink RX5 35 "DraftsmanOffice" "packages" "[LDraftsmanOffice$WorkPackage;") (by decide +kernel)) (fun _ h9 => h9) rfl dX5_ofPack_6 ?_
  refine lv_iload_n hx hb dX5_ofPack_9 rfl (lv_at hl 1 rfl) ?_
  refine pc_aald (r := .ref (ad 7 x1.toNatClampNeg)) hx hb hX.1 hW.1 54 0 7 (hM.2.1 54 (by decide) (by decide)) rfl rfl rfl (fun q => q.elim h1n (fun q => absurd (Nat.lt_of_lt_of_le h1 hBd.2.2.2.2) (Nat.not_lt.mpr q))) (by rw [sRf_in h1]; rfl) dX5_ofPack_10 ?_
  refine lv_astore_n (lv' := [(3, .ref (ad 7 x1.toNatClampNeg)), (0, .ref (ad 5 0)), (1, .int x1), (2, .int 1)]) hx hb dX5_ofPack_11 rfl hl (by decide) rfl (fun ls hl => ?_)
  refine lv_iload_n hx hb dX5_ofPack_12 rfl (lv_at hl 3 rfl) ?_
  refine lv_tableIn (tgt := 61) hx hb dX5_ofPack_13 (by decide) (by decide) rfl (by decide) ?_
  refine lv_aload_n hx hb dX5_ofPack_61 rfl (lv_at hl 0 rfl) ?_
  refine pc_getN (C := RX4) (T := TX4) (N := 6) (ci := 4) hx hb hts (by decide +kernel) hown hX.1 hW.1 7 x1.toNatClampNeg (hM.2.2.2.2.2.2.2 x1.toNatClampNeg h1) rfl rfl 1 (by decide) (hX.2.1 (.fieldLinkNest RX5 289 "DraftsmanOffice$WorkPackage" "sheets" "I" R_host) (by decide +kernel)) (fun _ h9 => h9) rfl dX5_ofPack_62 ?_
  exact W.iret (v := (v 7 x1.toNatClampNeg 1)) hx hb hr (fun t ht hW9 => ⟨⟨(v 7 x1.toNatClampNeg 1), (), rfl, rfl, trivial⟩, hW.2.F ht⟩) hW.2.2.2 dX5_ofPack_65

def F_X5_ofPack2 (c : SC) (v : SV) (w : SW) (x1 : Int32) : Int32 := (v 7 x1.toNatClampNeg 3)

set_option maxHeartbeats 4000000 in
set_option maxRecDepth 100000 in
theorem r_X5_ofPack2 (l : Launch) (D : va_G) (cA : Nat → ClassId) (NL : List (Nat × Nat)) (c : SC) (v : SV) (w : SW) (u : Nat → Int32) (ad : Nat → Nat → Nat) (x1 : Int32) (hM : MEM c NL) (hBd : BND c) (hF : WF c v) (h1n : ¬ x1 < 0) (h1 : x1.toNatClampNeg < c 4) : Met l yX5_ofPack wsX5_ofPack ({ frames := 1, cells := 0, slots := 0, locals := 21 }) (pcPre D vwCl (tyL cA) [.ref (ad 5 0), .int x1, .int 2] (fun H => va_P D vwCl (pcW NL ad (ctO cA c v w u ad)) H)) (va_Qi (fun (r : Int32) (_ : Unit) => r = F_X5_ofPack2 c v w x1) (fun _ _ => True) (fun _ => False)) 0 0 (fun _ => False) := by
  refine Met.ofW (cc := cX5_ofPack) (maxL := 4) (ret := (some .int)) (by decide) rfl ?_
  intro p e s m args below meth c0 s₁ B hml hv
  obtain ⟨rfl, hX, hP0⟩ := hv
  have hx := B.exec
  have hb := B.bytes
  have hr := B.returns
  have hts := atoms_spec (ws := wsX5_ofPack) B.pre
  have hown : s.vm.findClass RX5 = some m.cls := findClass_of_methodNamed B.named
  have hlocks := B.notSynchronized
  have hW : pcQ D vwCl (fun _ => False) s.heap NL ad (ctO cA c v w u ad) s.heap [] := ⟨hP0, va_S.rf⟩
  have hl := lv_entry ([.ref (ad 5 0), .int x1, .int 2]) (n := 4) (Nat.le_of_ble_eq_true rfl)
  rw [lg_entry_eq]
  generalize (lg_sl ([.ref (ad 5 0), .int x1, .int 2]) ++ List.replicate (4 - (lg_sl ([.ref (ad 5 0), .int x1, .int 2])).length) Slot.unset).toArray = ls at hl ⊢
  have hl : lv_has ls 4 [(0, .ref (ad 5 0)), (1, .int x1), (2, .int 2)] := hl
  refine lv_aload_n hx hb dX5_ofPack_0 rfl (lv_at hl 0 rfl) ?_
  refine lv_iload_n hx hb dX5_ofPack_1 rfl (lv_at hl 1 rfl) ?_
  refine pc_qcallv (va_runV (As := [.int x1]) (rest := []) ⟨hx, hb, hml, hown, hts⟩ (r_X5_requirePackage l D cA NL c v w u ad x1 hM hBd hF h1n h1) (cwV 1 hts gX5_ofPack_X5_requirePackage rfl rfl rfl (by decide +kernel) ⟨Nat.le_of_ble_eq_true rfl, Nat.le_of_ble_eq_true rfl⟩) (pc_preV pcN_ok hX hW.1 hM.1 rfl rfl hW.1) rfl rfl hl.1 rfl (lv_room (Nat.le_of_ble_eq_true rfl)) dX5_ofPack_2 ⟨Nat.le_of_ble_eq_true rfl, Nat.le_of_ble_eq_true rfl⟩) hW (fun H locs _ hW => ?_)
  refine lv_aload_n hx hb dX5_ofPack_5 rfl (lv_at hl 0 rfl) ?_
  refine pc_get (C := RX5) (T := TX5) (N := 13) (ci := 5) hx hb hts (by decide +kernel) hown hX.1 hW.1 5 0 hM.1 rfl rfl 4 (by decide) (hts (.fieldLink RX5 35 "DraftsmanOffice" "packages" "[LDraftsmanOffice$WorkPackage;") (by decide +kernel)) (fun _ h9 => h9) rfl dX5_ofPack_6 ?_
  refine lv_iload_n hx hb dX5_ofPack_9 rfl (lv_at hl 1 rfl) ?_
  refine pc_aald (r := .ref (ad 7 x1.toNatClampNeg)) hx hb hX.1 hW.1 54 0 7 (hM.2.1 54 (by decide) (by decide)) rfl rfl rfl (fun q => q.elim h1n (fun q => absurd (Nat.lt_of_lt_of_le h1 hBd.2.2.2.2) (Nat.not_lt.mpr q))) (by rw [sRf_in h1]; rfl) dX5_ofPack_10 ?_
  refine lv_astore_n (lv' := [(3, .ref (ad 7 x1.toNatClampNeg)), (0, .ref (ad 5 0)), (1, .int x1), (2, .int 2)]) hx hb dX5_ofPack_11 rfl hl (by decide) rfl (fun ls hl => ?_)
  refine lv_iload_n hx hb dX5_ofPack_12 rfl (lv_at hl 3 rfl) ?_
  refine lv_tableIn (tgt := 66) hx hb dX5_ofPack_13 (by decide) (by decide) rfl (by decide) ?_
  refine lv_aload_n hx hb dX5_ofPack_66 rfl (lv_at hl 0 rfl) ?_
  refine pc_getN (C := RX4) (T := TX4) (N := 6) (ci := 4) hx hb hts (by decide +kernel) hown hX.1 hW.1 7 x1.toNatClampNeg (hM.2.2.2.2.2.2.2 x1.toNatClampNeg h1) rfl rfl 4 (by decide) (hX.2.1 (.fieldLinkNest RX5 264 "DraftsmanOffice$WorkPackage" "state" "I" R_host) (by decide +kernel)) (fun _ h9 => h9) rfl dX5_ofPack_67 ?_
  exact W.iret (v := (v 7 x1.toNatClampNeg 3)) hx hb hr (fun t ht hW9 => ⟨⟨(v 7 x1.toNatClampNeg 3), (), rfl, rfl, trivial⟩, hW.2.F ht⟩) hW.2.2.2 dX5_ofPack_70

def F_X5_ofPack3 (c : SC) (v : SV) (w : SW) (x1 : Int32) : Int32 := (v 7 x1.toNatClampNeg 2)

set_option maxHeartbeats 4000000 in
set_option maxRecDepth 100000 in
theorem r_X5_ofPack3 (l : Launch) (D : va_G) (cA : Nat → ClassId) (NL : List (Nat × Nat)) (c : SC) (v : SV) (w : SW) (u : Nat → Int32) (ad : Nat → Nat → Nat) (x1 : Int32) (hM : MEM c NL) (hBd : BND c) (hF : WF c v) (h1n : ¬ x1 < 0) (h1 : x1.toNatClampNeg < c 4) : Met l yX5_ofPack wsX5_ofPack ({ frames := 1, cells := 0, slots := 0, locals := 21 }) (pcPre D vwCl (tyL cA) [.ref (ad 5 0), .int x1, .int 3] (fun H => va_P D vwCl (pcW NL ad (ctO cA c v w u ad)) H)) (va_Qi (fun (r : Int32) (_ : Unit) => r = F_X5_ofPack3 c v w x1) (fun _ _ => True) (fun _ => False)) 0 0 (fun _ => False) := by
  refine Met.ofW (cc := cX5_ofPack) (maxL := 4) (ret := (some .int)) (by decide) rfl ?_
  intro p e s m args below meth c0 s₁ B hml hv
  obtain ⟨rfl, hX, hP0⟩ := hv
  have hx := B.exec
  have hb := B.bytes
  have hr := B.returns
  have hts := atoms_spec (ws := wsX5_ofPack) B.pre
  have hown : s.vm.findClass RX5 = some m.cls := findClass_of_methodNamed B.named
  have hlocks := B.notSynchronized
  have hW : pcQ D vwCl (fun _ => False) s.heap NL ad (ctO cA c v w u ad) s.heap [] := ⟨hP0, va_S.rf⟩
  have hl := lv_entry ([.ref (ad 5 0), .int x1, .int 3]) (n := 4) (Nat.le_of_ble_eq_true rfl)
  rw [lg_entry_eq]
  generalize (lg_sl ([.ref (ad 5 0), .int x1, .int 3]) ++ List.replicate (4 - (lg_sl ([.ref (ad 5 0), .int x1, .int 3])).length) Slot.unset).toArray = ls at hl ⊢
  have hl : lv_has ls 4 [(0, .ref (ad 5 0)), (1, .int x1), (2, .int 3)] := hl
  refine lv_aload_n hx hb dX5_ofPack_0 rfl (lv_at hl 0 rfl) ?_
  refine lv_iload_n hx hb dX5_ofPack_1 rfl (lv_at hl 1 rfl) ?_
  refine pc_qcallv (va_runV (As := [.int x1]) (rest := []) ⟨hx, hb, hml, hown, hts⟩ (r_X5_requirePackage l D cA NL c v w u ad x1 hM hBd hF h1n h1) (cwV 1 hts gX5_ofPack_X5_requirePackage rfl rfl rfl (by decide +kernel) ⟨Nat.le_of_ble_eq_true rfl, Nat.le_of_ble_eq_true rfl⟩) (pc_preV pcN_ok hX hW.1 hM.1 rfl rfl hW.1) rfl rfl hl.1 rfl (lv_room (Nat.le_of_ble_eq_true rfl)) dX5_ofPack_2 ⟨Nat.le_of_ble_eq_true rfl, Nat.le_of_ble_eq_true rfl⟩) hW (fun H locs _ hW => ?_)
  refine lv_aload_n hx hb dX5_ofPack_5 rfl (lv_at hl 0 rfl) ?_
  refine pc_get (C := RX5) (T := TX5) (N := 13) (ci := 5) hx hb hts (by decide +kernel) hown hX.1 hW.1 5 0 hM.1 rfl rfl 4 (by decide) (hts (.fieldLink RX5 35 "DraftsmanOffice" "packages" "[LDraftsmanOffice$WorkPackage;") (by decide +kernel)) (fun _ h9 => h9) rfl dX5_ofPack_6 ?_
  refine lv_iload_n hx hb dX5_ofPack_9 rfl (lv_at hl 1 rfl) ?_
  refine pc_aald (r := .ref (ad 7 x1.toNatClampNeg)) hx hb hX.1 hW.1 54 0 7 (hM.2.1 54 (by decide) (by decide)) rfl rfl rfl (fun q => q.elim h1n (fun q => absurd (Nat.lt_of_lt_of_le h1 hBd.2.2.2.2) (Nat.not_lt.mpr q))) (by rw [sRf_in h1]; rfl) dX5_ofPack_10 ?_
  refine lv_astore_n (lv' := [(3, .ref (ad 7 x1.toNatClampNeg)), (0, .ref (ad 5 0)), (1, .int x1), (2, .int 3)]) hx hb dX5_ofPack_11 rfl hl (by decide) rfl (fun ls hl => ?_)
  refine lv_iload_n hx hb dX5_ofPack_12 rfl (lv_at hl 3 rfl) ?_
  refine lv_tableIn (tgt := 71) hx hb dX5_ofPack_13 (by decide) (by decide) rfl (by decide) ?_
  refine lv_aload_n hx hb dX5_ofPack_71 rfl (lv_at hl 0 rfl) ?_
  refine pc_getN (C := RX4) (T := TX4) (N := 6) (ci := 4) hx hb hts (by decide +kernel) hown hX.1 hW.1 7 x1.toNatClampNeg (hM.2.2.2.2.2.2.2 x1.toNatClampNeg h1) rfl rfl 2 (by decide) (hX.2.1 (.fieldLinkNest RX5 283 "DraftsmanOffice$WorkPackage" "daysLeft" "I" R_host) (by decide +kernel)) (fun _ h9 => h9) rfl dX5_ofPack_72 ?_
  exact W.iret (v := (v 7 x1.toNatClampNeg 2)) hx hb hr (fun t ht hW9 => ⟨⟨(v 7 x1.toNatClampNeg 2), (), rfl, rfl, trivial⟩, hW.2.F ht⟩) hW.2.2.2 dX5_ofPack_75

def F_X5_ofPack4 (c : SC) (v : SV) (w : SW) (x1 : Int32) : Int32 := (F_X5_firstUnfit c v w x1.toNatClampNeg (v 57 ((v 7 x1.toNatClampNeg 0).toNatClampNeg)))

set_option maxHeartbeats 4000000 in
set_option maxRecDepth 100000 in
theorem r_X5_ofPack4 (l : Launch) (D : va_G) (cA : Nat → ClassId) (NL : List (Nat × Nat)) (c : SC) (v : SV) (w : SW) (u : Nat → Int32) (ad : Nat → Nat → Nat) (x1 : Int32) (hM : MEM c NL) (hBd : BND c) (hF : WF c v) (h1n : ¬ x1 < 0) (h1 : x1.toNatClampNeg < c 4) : Met l yX5_ofPack wsX5_ofPack ({ frames := 5, cells := 0, slots := 0, locals := 118 }) (pcPre D vwCl (tyL cA) [.ref (ad 5 0), .int x1, .int 4] (fun H => va_P D vwCl (pcW NL ad (ctO cA c v w u ad)) H)) (va_Qi (fun (r : Int32) (_ : Unit) => r = F_X5_ofPack4 c v w x1) (fun _ _ => True) (fun _ => False)) 0 0 (fun _ => False) := by
  refine Met.ofW (cc := cX5_ofPack) (maxL := 4) (ret := (some .int)) (by decide) rfl ?_
  intro p e s m args below meth c0 s₁ B hml hv
  obtain ⟨rfl, hX, hP0⟩ := hv
  have hx := B.exec
  have hb := B.bytes
  have hr := B.returns
  have hts := atoms_spec (ws := wsX5_ofPack) B.pre
  have hown : s.vm.findClass RX5 = some m.cls := findClass_of_methodNamed B.named
  have hlocks := B.notSynchronized
  have hW : pcQ D vwCl (fun _ => False) s.heap NL ad (ctO cA c v w u ad) s.heap [] := ⟨hP0, va_S.rf⟩
  have hl := lv_entry ([.ref (ad 5 0), .int x1, .int 4]) (n := 4) (Nat.le_of_ble_eq_true rfl)
  rw [lg_entry_eq]
  generalize (lg_sl ([.ref (ad 5 0), .int x1, .int 4]) ++ List.replicate (4 - (lg_sl ([.ref (ad 5 0), .int x1, .int 4])).length) Slot.unset).toArray = ls at hl ⊢
  have hl : lv_has ls 4 [(0, .ref (ad 5 0)), (1, .int x1), (2, .int 4)] := hl
  refine lv_aload_n hx hb dX5_ofPack_0 rfl (lv_at hl 0 rfl) ?_
  refine lv_iload_n hx hb dX5_ofPack_1 rfl (lv_at hl 1 rfl) ?_
  refine pc_qcallv (va_runV (As := [.int x1]) (rest := []) ⟨hx, hb, hml, hown, hts⟩ (r_X5_requirePackage l D cA NL c v w u ad x1 hM hBd hF h1n h1) (cwV 1 hts gX5_ofPack_X5_requirePackage rfl rfl rfl (by decide +kernel) ⟨Nat.le_of_ble_eq_true rfl, Nat.le_of_ble_eq_true rfl⟩) (pc_preV pcN_ok hX hW.1 hM.1 rfl rfl hW.1) rfl rfl hl.1 rfl (lv_room (Nat.le_of_ble_eq_true rfl)) dX5_ofPack_2 ⟨Nat.le_of_ble_eq_true rfl, Nat.le_of_ble_eq_true rfl⟩) hW (fun H locs _ hW => ?_)
  refine lv_aload_n hx hb dX5_ofPack_5 rfl (lv_at hl 0 rfl) ?_
  refine pc_get (C := RX5) (T := TX5) (N := 13) (ci := 5) hx hb hts (by decide +kernel) hown hX.1 hW.1 5 0 hM.1 rfl rfl 4 (by decide) (hts (.fieldLink RX5 35 "DraftsmanOffice" "packages" "[LDraftsmanOffice$WorkPackage;") (by decide +kernel)) (fun _ h9 => h9) rfl dX5_ofPack_6 ?_
  refine lv_iload_n hx hb dX5_ofPack_9 rfl (lv_at hl 1 rfl) ?_
  refine pc_aald (r := .ref (ad 7 x1.toNatClampNeg)) hx hb hX.1 hW.1 54 0 7 (hM.2.1 54 (by decide) (by decide)) rfl rfl rfl (fun q => q.elim h1n (fun q => absurd (Nat.lt_of_lt_of_le h1 hBd.2.2.2.2) (Nat.not_lt.mpr q))) (by rw [sRf_in h1]; rfl) dX5_ofPack_10 ?_
  refine lv_astore_n (lv' := [(3, .ref (ad 7 x1.toNatClampNeg)), (0, .ref (ad 5 0)), (1, .int x1), (2, .int 4)]) hx hb dX5_ofPack_11 rfl hl (by decide) rfl (fun ls hl => ?_)
  refine lv_iload_n hx hb dX5_ofPack_12 rfl (lv_at hl 3 rfl) ?_
  refine lv_tableIn (tgt := 76) hx hb dX5_ofPack_13 (by decide) (by decide) rfl (by decide) ?_
  refine lv_aload_n hx hb dX5_ofPack_76 rfl (lv_at hl 1 rfl) ?_
  refine lv_aload_n hx hb dX5_ofPack_77 rfl (lv_at hl 0 rfl) ?_
  refine lv_aload_n hx hb dX5_ofPack_78 rfl (lv_at hl 1 rfl) ?_
  refine pc_get (C := RX5) (T := TX5) (N := 13) (ci := 5) hx hb hts (by decide +kernel) hown hX.1 hW.1 5 0 hM.1 rfl rfl 5 (by decide) (hts (.fieldLink RX5 41 "DraftsmanOffice" "crewHas" "[[I") (by decide +kernel)) (fun _ h9 => h9) rfl dX5_ofPack_79 ?_
  refine lv_aload_n hx hb dX5_ofPack_82 rfl (lv_at hl 0 rfl) ?_
  refine pc_getN (C := RX4) (T := TX4) (N := 6) (ci := 4) hx hb hts (by decide +kernel) hown hX.1 hW.1 7 x1.toNatClampNeg (hM.2.2.2.2.2.2.2 x1.toNatClampNeg h1) rfl rfl 0 (by decide) (hX.2.1 (.fieldLinkNest RX5 274 "DraftsmanOffice$WorkPackage" "crew" "I" R_host) (by decide +kernel)) (fun _ h9 => h9) rfl dX5_ofPack_83 ?_
  refine pc_aald (r := .ref (ad 57 ((v 7 x1.toNatClampNeg 0).toNatClampNeg))) hx hb hX.1 hW.1 55 0 2 (hM.2.1 55 (by decide) (by decide)) rfl rfl rfl (fun q => q.elim (hF.2.1 x1.toNatClampNeg h1).1 (fun q => absurd (hF.2.1 x1.toNatClampNeg h1).2 (Nat.not_lt.mpr q))) (by rw [sRf_in (hF.2.1 x1.toNatClampNeg h1).2]; rfl) dX5_ofPack_86 ?_
  refine pc_qcalli (va_runV (As := [.ref (ad 7 x1.toNatClampNeg), .ref (ad 57 ((v 7 x1.toNatClampNeg 0).toNatClampNeg))]) (rest := []) ⟨hx, hb, hml, hown, hts⟩ (r_X5_firstUnfit l D cA NL c v w u ad x1.toNatClampNeg 57 ((v 7 x1.toNatClampNeg 0).toNatClampNeg) (v 57 ((v 7 x1.toNatClampNeg 0).toNatClampNeg)) hM hBd hF h1 (hM.2.2.1 ((v 7 x1.toNatClampNeg 0).toNatClampNeg) (hF.2.1 x1.toNatClampNeg h1).2) rfl) (cwV 2 hts gX5_ofPack_X5_firstUnfit rfl rfl rfl (by decide +kernel) ⟨Nat.le_of_ble_eq_true rfl, Nat.le_of_ble_eq_true rfl⟩) (pc_preV pcN_ok hX hW.1 hM.1 rfl rfl hW.1) rfl rfl hl.1 rfl (lv_room (Nat.le_of_ble_eq_true rfl)) dX5_ofPack_87 ⟨Nat.le_of_ble_eq_true rfl, Nat.le_of_ble_eq_true rfl⟩) hW (fun r181 H locs hwr181 hW => ?_)
  subst hwr181
  exact W.iret (v := (F_X5_firstUnfit c v w x1.toNatClampNeg (v 57 ((v 7 x1.toNatClampNeg 0).toNatClampNeg)))) hx hb hr (fun t ht hW9 => ⟨⟨(F_X5_firstUnfit c v w x1.toNatClampNeg (v 57 ((v 7 x1.toNatClampNeg 0).toNatClampNeg))), (), rfl, rfl, trivial⟩, hW.2.F ht⟩) hW.2.2.2 dX5_ofPack_90

def F_X5_ofPack5 (c : SC) (v : SV) (w : SW) (x1 : Int32) : Int32 := (F_X5_wrongWithFirst c v w x1.toNatClampNeg)

set_option maxHeartbeats 4000000 in
set_option maxRecDepth 100000 in
theorem r_X5_ofPack5 (l : Launch) (D : va_G) (cA : Nat → ClassId) (NL : List (Nat × Nat)) (c : SC) (v : SV) (w : SW) (u : Nat → Int32) (ad : Nat → Nat → Nat) (x1 : Int32) (hM : MEM c NL) (hBd : BND c) (hF : WF c v) (h1n : ¬ x1 < 0) (h1 : x1.toNatClampNeg < c 4) : Met l yX5_ofPack wsX5_ofPack ({ frames := 6, cells := 0, slots := 0, locals := 141 }) (pcPre D vwCl (tyL cA) [.ref (ad 5 0), .int x1, .int 5] (fun H => va_P D vwCl (pcW NL ad (ctO cA c v w u ad)) H)) (va_Qi (fun (r : Int32) (_ : Unit) => r = F_X5_ofPack5 c v w x1) (fun _ _ => True) (fun _ => False)) 0 0 (fun _ => False) := by
  refine Met.ofW (cc := cX5_ofPack) (maxL := 4) (ret := (some .int)) (by decide) rfl ?_
  intro p e s m args below meth c0 s₁ B hml hv
  obtain ⟨rfl, hX, hP0⟩ := hv
  have hx := B.exec
  have hb := B.bytes
  have hr := B.returns
  have hts := atoms_spec (ws := wsX5_ofPack) B.pre
  have hown : s.vm.findClass RX5 = some m.cls := findClass_of_methodNamed B.named
  have hlocks := B.notSynchronized
  have hW : pcQ D vwCl (fun _ => False) s.heap NL ad (ctO cA c v w u ad) s.heap [] := ⟨hP0, va_S.rf⟩
  have hl := lv_entry ([.ref (ad 5 0), .int x1, .int 5]) (n := 4) (Nat.le_of_ble_eq_true rfl)
  rw [lg_entry_eq]
  generalize (lg_sl ([.ref (ad 5 0), .int x1, .int 5]) ++ List.replicate (4 - (lg_sl ([.ref (ad 5 0), .int x1, .int 5])).length) Slot.unset).toArray = ls at hl ⊢
  have hl : lv_has ls 4 [(0, .ref (ad 5 0)), (1, .int x1), (2, .int 5)] := hl
  refine lv_aload_n hx hb dX5_ofPack_0 rfl (lv_at hl 0 rfl) ?_
  refine lv_iload_n hx hb dX5_ofPack_1 rfl (lv_at hl 1 rfl) ?_
  refine pc_qcallv (va_runV (As := [.int x1]) (rest := []) ⟨hx, hb, hml, hown, hts⟩ (r_X5_requirePackage l D cA NL c v w u ad x1 hM hBd hF h1n h1) (cwV 1 hts gX5_ofPack_X5_requirePackage rfl rfl rfl (by decide +kernel) ⟨Nat.le_of_ble_eq_true rfl, Nat.le_of_ble_eq_true rfl⟩) (pc_preV pcN_ok hX hW.1 hM.1 rfl rfl hW.1) rfl rfl hl.1 rfl (lv_room (Nat.le_of_ble_eq_true rfl)) dX5_ofPack_2 ⟨Nat.le_of_ble_eq_true rfl, Nat.le_of_ble_eq_true rfl⟩) hW (fun H locs _ hW => ?_)
  refine lv_aload_n hx hb dX5_ofPack_5 rfl (lv_at hl 0 rfl) ?_
  refine pc_get (C := RX5) (T := TX5) (N := 13) (ci := 5) hx hb hts (by decide +kernel) hown hX.1 hW.1 5 0 hM.1 rfl rfl 4 (by decide) (hts (.fieldLink RX5 35 "DraftsmanOffice" "packages" "[LDraftsmanOffice$WorkPackage;") (by decide +kernel)) (fun _ h9 => h9) rfl dX5_ofPack_6 ?_
  refine lv_iload_n hx hb dX5_ofPack_9 rfl (lv_at hl 1 rfl) ?_
  refine pc_aald (r := .ref (ad 7 x1.toNatClampNeg)) hx hb hX.1 hW.1 54 0 7 (hM.2.1 54 (by decide) (by decide)) rfl rfl rfl (fun q => q.elim h1n (fun q => absurd (Nat.lt_of_lt_of_le h1 hBd.2.2.2.2) (Nat.not_lt.mpr q))) (by rw [sRf_in h1]; rfl) dX5_ofPack_10 ?_
  refine lv_astore_n (lv' := [(3, .ref (ad 7 x1.toNatClampNeg)), (0, .ref (ad 5 0)), (1, .int x1), (2, .int 5)]) hx hb dX5_ofPack_11 rfl hl (by decide) rfl (fun ls hl => ?_)
  refine lv_iload_n hx hb dX5_ofPack_12 rfl (lv_at hl 3 rfl) ?_
  refine lv_tableIn (tgt := 91) hx hb dX5_ofPack_13 (by decide) (by decide) rfl (by decide) ?_
  refine lv_aload_n hx hb dX5_ofPack_91 rfl (lv_at hl 1 rfl) ?_
  refine lv_aload_n hx hb dX5_ofPack_92 rfl (lv_at hl 0 rfl) ?_
  refine pc_qcalli (va_runV (As := [.ref (ad 7 x1.toNatClampNeg)]) (rest := []) ⟨hx, hb, hml, hown, hts⟩ (r_X5_wrongWithFirst l D cA NL c v w u ad x1.toNatClampNeg hM hBd hF h1) (cwV 1 hts gX5_ofPack_X5_wrongWithFirst rfl rfl rfl (by decide +kernel) ⟨Nat.le_of_ble_eq_true rfl, Nat.le_of_ble_eq_true rfl⟩) (pc_preV pcN_ok hX hW.1 hM.1 rfl rfl hW.1) rfl rfl hl.1 rfl (lv_room (Nat.le_of_ble_eq_true rfl)) dX5_ofPack_93 ⟨Nat.le_of_ble_eq_true rfl, Nat.le_of_ble_eq_true rfl⟩) hW (fun r183 H locs hwr183 hW => ?_)
  subst hwr183
  exact W.iret (v := (F_X5_wrongWithFirst c v w x1.toNatClampNeg)) hx hb hr (fun t ht hW9 => ⟨⟨(F_X5_wrongWithFirst c v w x1.toNatClampNeg), (), rfl, rfl, trivial⟩, hW.2.F ht⟩) hW.2.2.2 dX5_ofPack_96

def F_X5_ofPack6 (c : SC) (v : SV) (w : SW) (x1 : Int32) : Int32 := (v 7 x1.toNatClampNeg 4)

set_option maxHeartbeats 4000000 in
set_option maxRecDepth 100000 in
theorem r_X5_ofPack6 (l : Launch) (D : va_G) (cA : Nat → ClassId) (NL : List (Nat × Nat)) (c : SC) (v : SV) (w : SW) (u : Nat → Int32) (ad : Nat → Nat → Nat) (x1 : Int32) (hM : MEM c NL) (hBd : BND c) (hF : WF c v) (h1n : ¬ x1 < 0) (h1 : x1.toNatClampNeg < c 4) : Met l yX5_ofPack wsX5_ofPack ({ frames := 1, cells := 0, slots := 0, locals := 21 }) (pcPre D vwCl (tyL cA) [.ref (ad 5 0), .int x1, .int 6] (fun H => va_P D vwCl (pcW NL ad (ctO cA c v w u ad)) H)) (va_Qi (fun (r : Int32) (_ : Unit) => r = F_X5_ofPack6 c v w x1) (fun _ _ => True) (fun _ => False)) 0 0 (fun _ => False) := by
  refine Met.ofW (cc := cX5_ofPack) (maxL := 4) (ret := (some .int)) (by decide) rfl ?_
  intro p e s m args below meth c0 s₁ B hml hv
  obtain ⟨rfl, hX, hP0⟩ := hv
  have hx := B.exec
  have hb := B.bytes
  have hr := B.returns
  have hts := atoms_spec (ws := wsX5_ofPack) B.pre
  have hown : s.vm.findClass RX5 = some m.cls := findClass_of_methodNamed B.named
  have hlocks := B.notSynchronized
  have hW : pcQ D vwCl (fun _ => False) s.heap NL ad (ctO cA c v w u ad) s.heap [] := ⟨hP0, va_S.rf⟩
  have hl := lv_entry ([.ref (ad 5 0), .int x1, .int 6]) (n := 4) (Nat.le_of_ble_eq_true rfl)
  rw [lg_entry_eq]
  generalize (lg_sl ([.ref (ad 5 0), .int x1, .int 6]) ++ List.replicate (4 - (lg_sl ([.ref (ad 5 0), .int x1, .int 6])).length) Slot.unset).toArray = ls at hl ⊢
  have hl : lv_has ls 4 [(0, .ref (ad 5 0)), (1, .int x1), (2, .int 6)] := hl
  refine lv_aload_n hx hb dX5_ofPack_0 rfl (lv_at hl 0 rfl) ?_
  refine lv_iload_n hx hb dX5_ofPack_1 rfl (lv_at hl 1 rfl) ?_
  refine pc_qcallv (va_runV (As := [.int x1]) (rest := []) ⟨hx, hb, hml, hown, hts⟩ (r_X5_requirePackage l D cA NL c v w u ad x1 hM hBd hF h1n h1) (cwV 1 hts gX5_ofPack_X5_requirePackage rfl rfl rfl (by decide +kernel) ⟨Nat.le_of_ble_eq_true rfl, Nat.le_of_ble_eq_true rfl⟩) (pc_preV pcN_ok hX hW.1 hM.1 rfl rfl hW.1) rfl rfl hl.1 rfl (lv_room (Nat.le_of_ble_eq_true rfl)) dX5_ofPack_2 ⟨Nat.le_of_ble_eq_true rfl, Nat.le_of_ble_eq_true rfl⟩) hW (fun H locs _ hW => ?_)
  refine lv_aload_n hx hb dX5_ofPack_5 rfl (lv_at hl 0 rfl) ?_
  refine pc_get (C := RX5) (T := TX5) (N := 13) (ci := 5) hx hb hts (by decide +kernel) hown hX.1 hW.1 5 0 hM.1 rfl rfl 4 (by decide) (hts (.fieldLink RX5 35 "DraftsmanOffice" "packages" "[LDraftsmanOffice$WorkPackage;") (by decide +kernel)) (fun _ h9 => h9) rfl dX5_ofPack_6 ?_
  refine lv_iload_n hx hb dX5_ofPack_9 rfl (lv_at hl 1 rfl) ?_
  refine pc_aald (r := .ref (ad 7 x1.toNatClampNeg)) hx hb hX.1 hW.1 54 0 7 (hM.2.1 54 (by decide) (by decide)) rfl rfl rfl (fun q => q.elim h1n (fun q => absurd (Nat.lt_of_lt_of_le h1 hBd.2.2.2.2) (Nat.not_lt.mpr q))) (by rw [sRf_in h1]; rfl) dX5_ofPack_10 ?_
  refine lv_astore_n (lv' := [(3, .ref (ad 7 x1.toNatClampNeg)), (0, .ref (ad 5 0)), (1, .int x1), (2, .int 6)]) hx hb dX5_ofPack_11 rfl hl (by decide) rfl (fun ls hl => ?_)
  refine lv_iload_n hx hb dX5_ofPack_12 rfl (lv_at hl 3 rfl) ?_
  refine lv_tableIn (tgt := 97) hx hb dX5_ofPack_13 (by decide) (by decide) rfl (by decide) ?_
  refine lv_aload_n hx hb dX5_ofPack_97 rfl (lv_at hl 0 rfl) ?_
  refine pc_getN (C := RX4) (T := TX4) (N := 6) (ci := 4) hx hb hts (by decide +kernel) hown hX.1 hW.1 7 x1.toNatClampNeg (hM.2.2.2.2.2.2.2 x1.toNatClampNeg h1) rfl rfl 5 (by decide) (hX.2.1 (.fieldLinkNest RX5 298 "DraftsmanOffice$WorkPackage" "stops" "I" R_host) (by decide +kernel)) (fun _ h9 => h9) rfl dX5_ofPack_98 ?_
  exact W.iret (v := (v 7 x1.toNatClampNeg 4)) hx hb hr (fun t ht hW9 => ⟨⟨(v 7 x1.toNatClampNeg 4), (), rfl, rfl, trivial⟩, hW.2.F ht⟩) hW.2.2.2 dX5_ofPack_101

def F_X5_many0 (c : SC) (v : SV) (w : SW)  : Int32 := (nI (c 0))

set_option maxHeartbeats 4000000 in
set_option maxRecDepth 100000 in
theorem r_X5_many0 (l : Launch) (D : va_G) (cA : Nat → ClassId) (NL : List (Nat × Nat)) (c : SC) (v : SV) (w : SW) (u : Nat → Int32) (ad : Nat → Nat → Nat)  (hM : MEM c NL) (hBd : BND c) (hF : WF c v) : Met l yX5_many wsX5_many ({ frames := 0, cells := 0, slots := 0, locals := 0 }) (pcPre D vwCl (tyL cA) [.ref (ad 5 0), .int 0] (fun H => va_P D vwCl (pcW NL ad (ctO cA c v w u ad)) H)) (va_Qi (fun (r : Int32) (_ : Unit) => r = F_X5_many0 c v w) (fun _ _ => True) (fun _ => False)) 0 0 (fun _ => False) := by
  refine Met.ofW (cc := cX5_many) (maxL := 2) (ret := (some .int)) (by decide) rfl ?_
  intro p e s m args below meth c0 s₁ B hml hv
  obtain ⟨rfl, hX, hP0⟩ := hv
  have hx := B.exec
  have hb := B.bytes
  have hr := B.returns
  have hts := atoms_spec (ws := wsX5_many) B.pre
  have hown : s.vm.findClass RX5 = some m.cls := findClass_of_methodNamed B.named
  have hlocks := B.notSynchronized
  have hW : pcQ D vwCl (fun _ => False) s.heap NL ad (ctO cA c v w u ad) s.heap [] := ⟨hP0, va_S.rf⟩
  have hl := lv_entry ([.ref (ad 5 0), .int 0]) (n := 2) (Nat.le_of_ble_eq_true rfl)
  rw [lg_entry_eq]
  generalize (lg_sl ([.ref (ad 5 0), .int 0]) ++ List.replicate (2 - (lg_sl ([.ref (ad 5 0), .int 0])).length) Slot.unset).toArray = ls at hl ⊢
  have hl : lv_has ls 2 [(0, .ref (ad 5 0)), (1, .int 0)] := hl
  refine lv_iload_n hx hb dX5_many_0 rfl (lv_at hl 1 rfl) ?_
  refine lv_tableIn (tgt := 68) hx hb dX5_many_1 (by decide) (by decide) rfl (by decide) ?_
  refine lv_aload_n hx hb dX5_many_68 rfl (lv_at hl 0 rfl) ?_
  refine pc_get (C := RX5) (T := TX5) (N := 13) (ci := 5) hx hb hts (by decide +kernel) hown hX.1 hW.1 5 0 hM.1 rfl rfl 7 (by decide) (hts (.fieldLink RX5 48 "DraftsmanOffice" "sheetCount" "I") (by decide +kernel)) (fun _ h9 => h9) rfl dX5_many_69 ?_
  exact W.iret (v := (nI (c 0))) hx hb hr (fun t ht hW9 => ⟨⟨(nI (c 0)), (), rfl, rfl, trivial⟩, hW.2.F ht⟩) hW.2.2.2 dX5_many_72

def F_X5_many1 (c : SC) (v : SV) (w : SW)  : Int32 := (nI (c 1))

set_option maxHeartbeats 4000000 in
set_option maxRecDepth 100000 in
theorem r_X5_many1 (l : Launch) (D : va_G) (cA : Nat → ClassId) (NL : List (Nat × Nat)) (c : SC) (v : SV) (w : SW) (u : Nat → Int32) (ad : Nat → Nat → Nat)  (hM : MEM c NL) (hBd : BND c) (hF : WF c v) : Met l yX5_many wsX5_many ({ frames := 0, cells := 0, slots := 0, locals := 0 }) (pcPre D vwCl (tyL cA) [.ref (ad 5 0), .int 1] (fun H => va_P D vwCl (pcW NL ad (ctO cA c v w u ad)) H)) (va_Qi (fun (r : Int32) (_ : Unit) => r = F_X5_many1 c v w) (fun _ _ => True) (fun _ => False)) 0 0 (fun _ => False) := by
  refine Met.ofW (cc := cX5_many) (maxL := 2) (ret := (some .int)) (by decide) rfl ?_
  intro p e s m args below meth c0 s₁ B hml hv
  obtain ⟨rfl, hX, hP0⟩ := hv
  have hx := B.exec
  have hb := B.bytes
  have hr := B.returns
  have hts := atoms_spec (ws := wsX5_many) B.pre
  have hown : s.vm.findClass RX5 = some m.cls := findClass_of_methodNamed B.named
  have hlocks := B.notSynchronized
  have hW : pcQ D vwCl (fun _ => False) s.heap NL ad (ctO cA c v w u ad) s.heap [] := ⟨hP0, va_S.rf⟩
  have hl := lv_entry ([.ref (ad 5 0), .int 1]) (n := 2) (Nat.le_of_ble_eq_true rfl)
  rw [lg_entry_eq]
  generalize (lg_sl ([.ref (ad 5 0), .int 1]) ++ List.replicate (2 - (lg_sl ([.ref (ad 5 0), .int 1])).length) Slot.unset).toArray = ls at hl ⊢
  have hl : lv_has ls 2 [(0, .ref (ad 5 0)), (1, .int 1)] := hl
  refine lv_iload_n hx hb dX5_many_0 rfl (lv_at hl 1 rfl) ?_
  refine lv_tableIn (tgt := 73) hx hb dX5_many_1 (by decide) (by decide) rfl (by decide) ?_
  refine lv_aload_n hx hb dX5_many_73 rfl (lv_at hl 0 rfl) ?_
  refine pc_get (C := RX5) (T := TX5) (N := 13) (ci := 5) hx hb hts (by decide +kernel) hown hX.1 hW.1 5 0 hM.1 rfl rfl 8 (by decide) (hts (.fieldLink RX5 52 "DraftsmanOffice" "referenceCount" "I") (by decide +kernel)) (fun _ h9 => h9) rfl dX5_many_74 ?_
  exact W.iret (v := (nI (c 1))) hx hb hr (fun t ht hW9 => ⟨⟨(nI (c 1)), (), rfl, rfl, trivial⟩, hW.2.F ht⟩) hW.2.2.2 dX5_many_77

def F_X5_many2 (c : SC) (v : SV) (w : SW)  : Int32 := (F_X5_brokenOfAll c v w)

set_option maxHeartbeats 4000000 in
set_option maxRecDepth 100000 in
theorem r_X5_many2 (l : Launch) (D : va_G) (cA : Nat → ClassId) (NL : List (Nat × Nat)) (c : SC) (v : SV) (w : SW) (u : Nat → Int32) (ad : Nat → Nat → Nat)  (hM : MEM c NL) (hBd : BND c) (hF : WF c v) : Met l yX5_many wsX5_many ({ frames := 3, cells := 0, slots := 0, locals := 64 }) (pcPre D vwCl (tyL cA) [.ref (ad 5 0), .int 2] (fun H => va_P D vwCl (pcW NL ad (ctO cA c v w u ad)) H)) (va_Qi (fun (r : Int32) (_ : Unit) => r = F_X5_many2 c v w) (fun _ _ => True) (fun _ => False)) 0 0 (fun _ => False) := by
  refine Met.ofW (cc := cX5_many) (maxL := 2) (ret := (some .int)) (by decide) rfl ?_
  intro p e s m args below meth c0 s₁ B hml hv
  obtain ⟨rfl, hX, hP0⟩ := hv
  have hx := B.exec
  have hb := B.bytes
  have hr := B.returns
  have hts := atoms_spec (ws := wsX5_many) B.pre
  have hown : s.vm.findClass RX5 = some m.cls := findClass_of_methodNamed B.named
  have hlocks := B.notSynchronized
  have hW : pcQ D vwCl (fun _ => False) s.heap NL ad (ctO cA c v w u ad) s.heap [] := ⟨hP0, va_S.rf⟩
  have hl := lv_entry ([.ref (ad 5 0), .int 2]) (n := 2) (Nat.le_of_ble_eq_true rfl)
  rw [lg_entry_eq]
  generalize (lg_sl ([.ref (ad 5 0), .int 2]) ++ List.replicate (2 - (lg_sl ([.ref (ad 5 0), .int 2])).length) Slot.unset).toArray = ls at hl ⊢
  have hl : lv_has ls 2 [(0, .ref (ad 5 0)), (1, .int 2)] := hl
  refine lv_iload_n hx hb dX5_many_0 rfl (lv_at hl 1 rfl) ?_
  refine lv_tableIn (tgt := 78) hx hb dX5_many_1 (by decide) (by decide) rfl (by decide) ?_
  refine lv_aload_n hx hb dX5_many_78 rfl (lv_at hl 0 rfl) ?_
  refine pc_qcalli (va_runV (As := []) (rest := []) ⟨hx, hb, hml, hown, hts⟩ (r_X5_brokenOfAll l D cA NL c v w u ad  hM hBd hF ) (cwV 0 hts gX5_many_X5_brokenOfAll rfl rfl rfl (by decide +kernel) ⟨Nat.le_of_ble_eq_true rfl, Nat.le_of_ble_eq_true rfl⟩) (pc_preV pcN_ok hX hW.1 hM.1 rfl rfl hW.1) rfl rfl hl.1 rfl (lv_room (Nat.le_of_ble_eq_true rfl)) dX5_many_79 ⟨Nat.le_of_ble_eq_true rfl, Nat.le_of_ble_eq_true rfl⟩) hW (fun r185 H locs hwr185 hW => ?_)
  subst hwr185
  exact W.iret (v := (F_X5_brokenOfAll c v w)) hx hb hr (fun t ht hW9 => ⟨⟨(F_X5_brokenOfAll c v w), (), rfl, rfl, trivial⟩, hW.2.F ht⟩) hW.2.2.2 dX5_many_82

def F_X5_many3 (c : SC) (v : SV) (w : SW)  : Int32 := (nI (c 2))

set_option maxHeartbeats 4000000 in
set_option maxRecDepth 100000 in
theorem r_X5_many3 (l : Launch) (D : va_G) (cA : Nat → ClassId) (NL : List (Nat × Nat)) (c : SC) (v : SV) (w : SW) (u : Nat → Int32) (ad : Nat → Nat → Nat)  (hM : MEM c NL) (hBd : BND c) (hF : WF c v) : Met l yX5_many wsX5_many ({ frames := 0, cells := 0, slots := 0, locals := 0 }) (pcPre D vwCl (tyL cA) [.ref (ad 5 0), .int 3] (fun H => va_P D vwCl (pcW NL ad (ctO cA c v w u ad)) H)) (va_Qi (fun (r : Int32) (_ : Unit) => r = F_X5_many3 c v w) (fun _ _ => True) (fun _ => False)) 0 0 (fun _ => False) := by
  refine Met.ofW (cc := cX5_many) (maxL := 2) (ret := (some .int)) (by decide) rfl ?_
  intro p e s m args below meth c0 s₁ B hml hv
  obtain ⟨rfl, hX, hP0⟩ := hv
  have hx := B.exec
  have hb := B.bytes
  have hr := B.returns
  have hts := atoms_spec (ws := wsX5_many) B.pre
  have hown : s.vm.findClass RX5 = some m.cls := findClass_of_methodNamed B.named
  have hlocks := B.notSynchronized
  have hW : pcQ D vwCl (fun _ => False) s.heap NL ad (ctO cA c v w u ad) s.heap [] := ⟨hP0, va_S.rf⟩
  have hl := lv_entry ([.ref (ad 5 0), .int 3]) (n := 2) (Nat.le_of_ble_eq_true rfl)
  rw [lg_entry_eq]
  generalize (lg_sl ([.ref (ad 5 0), .int 3]) ++ List.replicate (2 - (lg_sl ([.ref (ad 5 0), .int 3])).length) Slot.unset).toArray = ls at hl ⊢
  have hl : lv_has ls 2 [(0, .ref (ad 5 0)), (1, .int 3)] := hl
  refine lv_iload_n hx hb dX5_many_0 rfl (lv_at hl 1 rfl) ?_
  refine lv_tableIn (tgt := 83) hx hb dX5_many_1 (by decide) (by decide) rfl (by decide) ?_
  refine lv_aload_n hx hb dX5_many_83 rfl (lv_at hl 0 rfl) ?_
  refine pc_get (C := RX5) (T := TX5) (N := 13) (ci := 5) hx hb hts (by decide +kernel) hown hX.1 hW.1 5 0 hM.1 rfl rfl 9 (by decide) (hts (.fieldLink RX5 55 "DraftsmanOffice" "sendingCount" "I") (by decide +kernel)) (fun _ h9 => h9) rfl dX5_many_84 ?_
  exact W.iret (v := (nI (c 2))) hx hb hr (fun t ht hW9 => ⟨⟨(nI (c 2)), (), rfl, rfl, trivial⟩, hW.2.F ht⟩) hW.2.2.2 dX5_many_87

def F_X5_many4 (c : SC) (v : SV) (w : SW)  : Int32 := (nI (c 3))

set_option maxHeartbeats 4000000 in
set_option maxRecDepth 100000 in
theorem r_X5_many4 (l : Launch) (D : va_G) (cA : Nat → ClassId) (NL : List (Nat × Nat)) (c : SC) (v : SV) (w : SW) (u : Nat → Int32) (ad : Nat → Nat → Nat)  (hM : MEM c NL) (hBd : BND c) (hF : WF c v) : Met l yX5_many wsX5_many ({ frames := 0, cells := 0, slots := 0, locals := 0 }) (pcPre D vwCl (tyL cA) [.ref (ad 5 0), .int 4] (fun H => va_P D vwCl (pcW NL ad (ctO cA c v w u ad)) H)) (va_Qi (fun (r : Int32) (_ : Unit) => r = F_X5_many4 c v w) (fun _ _ => True) (fun _ => False)) 0 0 (fun _ => False) := by
  refine Met.ofW (cc := cX5_many) (maxL := 2) (ret := (some .int)) (by decide) rfl ?_
  intro p e s m args below meth c0 s₁ B hml hv
  obtain ⟨rfl, hX, hP0⟩ := hv
  have hx := B.exec
  have hb := B.bytes
  have hr := B.returns
  have hts := atoms_spec (ws := wsX5_many) B.pre
  have hown : s.vm.findClass RX5 = some m.cls := findClass_of_methodNamed B.named
  have hlocks := B.notSynchronized
  have hW : pcQ D vwCl (fun _ => False) s.heap NL ad (ctO cA c v w u ad) s.heap [] := ⟨hP0, va_S.rf⟩
  have hl := lv_entry ([.ref (ad 5 0), .int 4]) (n := 2) (Nat.le_of_ble_eq_true rfl)
  rw [lg_entry_eq]
  generalize (lg_sl ([.ref (ad 5 0), .int 4]) ++ List.replicate (2 - (lg_sl ([.ref (ad 5 0), .int 4])).length) Slot.unset).toArray = ls at hl ⊢
  have hl : lv_has ls 2 [(0, .ref (ad 5 0)), (1, .int 4)] := hl
  refine lv_iload_n hx hb dX5_many_0 rfl (lv_at hl 1 rfl) ?_
  refine lv_tableIn (tgt := 88) hx hb dX5_many_1 (by decide) (by decide) rfl (by decide) ?_
  refine lv_aload_n hx hb dX5_many_88 rfl (lv_at hl 0 rfl) ?_
  refine pc_get (C := RX5) (T := TX5) (N := 13) (ci := 5) hx hb hts (by decide +kernel) hown hX.1 hW.1 5 0 hM.1 rfl rfl 10 (by decide) (hts (.fieldLink RX5 58 "DraftsmanOffice" "queryCount" "I") (by decide +kernel)) (fun _ h9 => h9) rfl dX5_many_89 ?_
  exact W.iret (v := (nI (c 3))) hx hb hr (fun t ht hW9 => ⟨⟨(nI (c 3)), (), rfl, rfl, trivial⟩, hW.2.F ht⟩) hW.2.2.2 dX5_many_92

def F_X5_many5 (c : SC) (v : SV) (w : SW)  : Int32 := (F_X5_queriesNotClosed c v w)

set_option maxHeartbeats 4000000 in
set_option maxRecDepth 100000 in
theorem r_X5_many5 (l : Launch) (D : va_G) (cA : Nat → ClassId) (NL : List (Nat × Nat)) (c : SC) (v : SV) (w : SW) (u : Nat → Int32) (ad : Nat → Nat → Nat)  (hM : MEM c NL) (hBd : BND c) (hF : WF c v) : Met l yX5_many wsX5_many ({ frames := 1, cells := 0, slots := 0, locals := 22 }) (pcPre D vwCl (tyL cA) [.ref (ad 5 0), .int 5] (fun H => va_P D vwCl (pcW NL ad (ctO cA c v w u ad)) H)) (va_Qi (fun (r : Int32) (_ : Unit) => r = F_X5_many5 c v w) (fun _ _ => True) (fun _ => False)) 0 0 (fun _ => False) := by
  refine Met.ofW (cc := cX5_many) (maxL := 2) (ret := (some .int)) (by decide) rfl ?_
  intro p e s m args below meth c0 s₁ B hml hv
  obtain ⟨rfl, hX, hP0⟩ := hv
  have hx := B.exec
  have hb := B.bytes
  have hr := B.returns
  have hts := atoms_spec (ws := wsX5_many) B.pre
  have hown : s.vm.findClass RX5 = some m.cls := findClass_of_methodNamed B.named
  have hlocks := B.notSynchronized
  have hW : pcQ D vwCl (fun _ => False) s.heap NL ad (ctO cA c v w u ad) s.heap [] := ⟨hP0, va_S.rf⟩
  have hl := lv_entry ([.ref (ad 5 0), .int 5]) (n := 2) (Nat.le_of_ble_eq_true rfl)
  rw [lg_entry_eq]
  generalize (lg_sl ([.ref (ad 5 0), .int 5]) ++ List.replicate (2 - (lg_sl ([.ref (ad 5 0), .int 5])).length) Slot.unset).toArray = ls at hl ⊢
  have hl : lv_has ls 2 [(0, .ref (ad 5 0)), (1, .int 5)] := hl
  refine lv_iload_n hx hb dX5_many_0 rfl (lv_at hl 1 rfl) ?_
  refine lv_tableIn (tgt := 93) hx hb dX5_many_1 (by decide) (by decide) rfl (by decide) ?_
  refine lv_aload_n hx hb dX5_many_93 rfl (lv_at hl 0 rfl) ?_
  refine pc_qcalli (va_runV (As := []) (rest := []) ⟨hx, hb, hml, hown, hts⟩ (r_X5_queriesNotClosed l D cA NL c v w u ad  hM hBd hF ) (cwV 0 hts gX5_many_X5_queriesNotClosed rfl rfl rfl (by decide +kernel) ⟨Nat.le_of_ble_eq_true rfl, Nat.le_of_ble_eq_true rfl⟩) (pc_preV pcN_ok hX hW.1 hM.1 rfl rfl hW.1) rfl rfl hl.1 rfl (lv_room (Nat.le_of_ble_eq_true rfl)) dX5_many_94 ⟨Nat.le_of_ble_eq_true rfl, Nat.le_of_ble_eq_true rfl⟩) hW (fun r186 H locs hwr186 hW => ?_)
  subst hwr186
  exact W.iret (v := (F_X5_queriesNotClosed c v w)) hx hb hr (fun t ht hW9 => ⟨⟨(F_X5_queriesNotClosed c v w), (), rfl, rfl, trivial⟩, hW.2.F ht⟩) hW.2.2.2 dX5_many_97

def F_X5_many6 (c : SC) (v : SV) (w : SW)  : Int32 := (F_X5_clashingPairs c v w)

set_option maxHeartbeats 4000000 in
set_option maxRecDepth 100000 in
theorem r_X5_many6 (l : Launch) (D : va_G) (cA : Nat → ClassId) (NL : List (Nat × Nat)) (c : SC) (v : SV) (w : SW) (u : Nat → Int32) (ad : Nat → Nat → Nat)  (hM : MEM c NL) (hBd : BND c) (hF : WF c v) : Met l yX5_many wsX5_many ({ frames := 3, cells := 0, slots := 0, locals := 68 }) (pcPre D vwCl (tyL cA) [.ref (ad 5 0), .int 6] (fun H => va_P D vwCl (pcW NL ad (ctO cA c v w u ad)) H)) (va_Qi (fun (r : Int32) (_ : Unit) => r = F_X5_many6 c v w) (fun _ _ => True) (fun _ => False)) 0 0 (fun _ => False) := by
  refine Met.ofW (cc := cX5_many) (maxL := 2) (ret := (some .int)) (by decide) rfl ?_
  intro p e s m args below meth c0 s₁ B hml hv
  obtain ⟨rfl, hX, hP0⟩ := hv
  have hx := B.exec
  have hb := B.bytes
  have hr := B.returns
  have hts := atoms_spec (ws := wsX5_many) B.pre
  have hown : s.vm.findClass RX5 = some m.cls := findClass_of_methodNamed B.named
  have hlocks := B.notSynchronized
  have hW : pcQ D vwCl (fun _ => False) s.heap NL ad (ctO cA c v w u ad) s.heap [] := ⟨hP0, va_S.rf⟩
  have hl := lv_entry ([.ref (ad 5 0), .int 6]) (n := 2) (Nat.le_of_ble_eq_true rfl)
  rw [lg_entry_eq]
  generalize (lg_sl ([.ref (ad 5 0), .int 6]) ++ List.replicate (2 - (lg_sl ([.ref (ad 5 0), .int 6])).length) Slot.unset).toArray = ls at hl ⊢
  have hl : lv_has ls 2 [(0, .ref (ad 5 0)), (1, .int 6)] := hl
  refine lv_iload_n hx hb dX5_many_0 rfl (lv_at hl 1 rfl) ?_
  refine lv_tableIn (tgt := 98) hx hb dX5_many_1 (by decide) (by decide) rfl (by decide) ?_
  refine lv_aload_n hx hb dX5_many_98 rfl (lv_at hl 0 rfl) ?_
  refine pc_qcalli (va_runV (As := []) (rest := []) ⟨hx, hb, hml, hown, hts⟩ (r_X5_clashingPairs l D cA NL c v w u ad  hM hBd hF ) (cwV 0 hts gX5_many_X5_clashingPairs rfl rfl rfl (by decide +kernel) ⟨Nat.le_of_ble_eq_true rfl, Nat.le_of_ble_eq_true rfl⟩) (pc_preV pcN_ok hX hW.1 hM.1 rfl rfl hW.1) rfl rfl hl.1 rfl (lv_room (Nat.le_of_ble_eq_true rfl)) dX5_many_99 ⟨Nat.le_of_ble_eq_true rfl, Nat.le_of_ble_eq_true rfl⟩) hW (fun r187 H locs hwr187 hW => ?_)
  subst hwr187
  exact W.iret (v := (F_X5_clashingPairs c v w)) hx hb hr (fun t ht hW9 => ⟨⟨(F_X5_clashingPairs c v w), (), rfl, rfl, trivial⟩, hW.2.F ht⟩) hW.2.2.2 dX5_many_102

def F_X5_many7 (c : SC) (v : SV) (w : SW)  : Int32 := (nI (c 4))

set_option maxHeartbeats 4000000 in
set_option maxRecDepth 100000 in
theorem r_X5_many7 (l : Launch) (D : va_G) (cA : Nat → ClassId) (NL : List (Nat × Nat)) (c : SC) (v : SV) (w : SW) (u : Nat → Int32) (ad : Nat → Nat → Nat)  (hM : MEM c NL) (hBd : BND c) (hF : WF c v) : Met l yX5_many wsX5_many ({ frames := 0, cells := 0, slots := 0, locals := 0 }) (pcPre D vwCl (tyL cA) [.ref (ad 5 0), .int 7] (fun H => va_P D vwCl (pcW NL ad (ctO cA c v w u ad)) H)) (va_Qi (fun (r : Int32) (_ : Unit) => r = F_X5_many7 c v w) (fun _ _ => True) (fun _ => False)) 0 0 (fun _ => False) := by
  refine Met.ofW (cc := cX5_many) (maxL := 2) (ret := (some .int)) (by decide) rfl ?_
  intro p e s m args below meth c0 s₁ B hml hv
  obtain ⟨rfl, hX, hP0⟩ := hv
  have hx := B.exec
  have hb := B.bytes
  have hr := B.returns
  have hts := atoms_spec (ws := wsX5_many) B.pre
  have hown : s.vm.findClass RX5 = some m.cls := findClass_of_methodNamed B.named
  have hlocks := B.notSynchronized
  have hW : pcQ D vwCl (fun _ => False) s.heap NL ad (ctO cA c v w u ad) s.heap [] := ⟨hP0, va_S.rf⟩
  have hl := lv_entry ([.ref (ad 5 0), .int 7]) (n := 2) (Nat.le_of_ble_eq_true rfl)
  rw [lg_entry_eq]
  generalize (lg_sl ([.ref (ad 5 0), .int 7]) ++ List.replicate (2 - (lg_sl ([.ref (ad 5 0), .int 7])).length) Slot.unset).toArray = ls at hl ⊢
  have hl : lv_has ls 2 [(0, .ref (ad 5 0)), (1, .int 7)] := hl
  refine lv_iload_n hx hb dX5_many_0 rfl (lv_at hl 1 rfl) ?_
  refine lv_tableIn (tgt := 103) hx hb dX5_many_1 (by decide) (by decide) rfl (by decide) ?_
  refine lv_aload_n hx hb dX5_many_103 rfl (lv_at hl 0 rfl) ?_
  refine pc_get (C := RX5) (T := TX5) (N := 13) (ci := 5) hx hb hts (by decide +kernel) hown hX.1 hW.1 5 0 hM.1 rfl rfl 11 (by decide) (hts (.fieldLink RX5 61 "DraftsmanOffice" "packageCount" "I") (by decide +kernel)) (fun _ h9 => h9) rfl dX5_many_104 ?_
  exact W.iret (v := (nI (c 4))) hx hb hr (fun t ht hW9 => ⟨⟨(nI (c 4)), (), rfl, rfl, trivial⟩, hW.2.F ht⟩) hW.2.2.2 dX5_many_107

def F_X5_many8 (c : SC) (v : SV) (w : SW)  : Int32 := (F_X5_packagesThatAre c v w (0 : Int32))

set_option maxHeartbeats 4000000 in
set_option maxRecDepth 100000 in
theorem r_X5_many8 (l : Launch) (D : va_G) (cA : Nat → ClassId) (NL : List (Nat × Nat)) (c : SC) (v : SV) (w : SW) (u : Nat → Int32) (ad : Nat → Nat → Nat)  (hM : MEM c NL) (hBd : BND c) (hF : WF c v) : Met l yX5_many wsX5_many ({ frames := 1, cells := 0, slots := 0, locals := 23 }) (pcPre D vwCl (tyL cA) [.ref (ad 5 0), .int 8] (fun H => va_P D vwCl (pcW NL ad (ctO cA c v w u ad)) H)) (va_Qi (fun (r : Int32) (_ : Unit) => r = F_X5_many8 c v w) (fun _ _ => True) (fun _ => False)) 0 0 (fun _ => False) := by
  refine Met.ofW (cc := cX5_many) (maxL := 2) (ret := (some .int)) (by decide) rfl ?_
  intro p e s m args below meth c0 s₁ B hml hv
  obtain ⟨rfl, hX, hP0⟩ := hv
  have hx := B.exec
  have hb := B.bytes
  have hr := B.returns
  have hts := atoms_spec (ws := wsX5_many) B.pre
  have hown : s.vm.findClass RX5 = some m.cls := findClass_of_methodNamed B.named
  have hlocks := B.notSynchronized
  have hW : pcQ D vwCl (fun _ => False) s.heap NL ad (ctO cA c v w u ad) s.heap [] := ⟨hP0, va_S.rf⟩
  have hl := lv_entry ([.ref (ad 5 0), .int 8]) (n := 2) (Nat.le_of_ble_eq_true rfl)
  rw [lg_entry_eq]
  generalize (lg_sl ([.ref (ad 5 0), .int 8]) ++ List.replicate (2 - (lg_sl ([.ref (ad 5 0), .int 8])).length) Slot.unset).toArray = ls at hl ⊢
  have hl : lv_has ls 2 [(0, .ref (ad 5 0)), (1, .int 8)] := hl
  refine lv_iload_n hx hb dX5_many_0 rfl (lv_at hl 1 rfl) ?_
  refine lv_tableIn (tgt := 108) hx hb dX5_many_1 (by decide) (by decide) rfl (by decide) ?_
  refine lv_aload_n hx hb dX5_many_108 rfl (lv_at hl 0 rfl) ?_
  refine lv_iconst (v := 0) hx hb dX5_many_109 (by decide) ?_
  refine pc_qcalli (va_runV (As := [.int 0]) (rest := []) ⟨hx, hb, hml, hown, hts⟩ (r_X5_packagesThatAre l D cA NL c v w u ad (0 : Int32) hM hBd hF ) (cwV 1 hts gX5_many_X5_packagesThatAre rfl rfl rfl (by decide +kernel) ⟨Nat.le_of_ble_eq_true rfl, Nat.le_of_ble_eq_true rfl⟩) (pc_preV pcN_ok hX hW.1 hM.1 rfl rfl hW.1) rfl rfl hl.1 rfl (lv_room (Nat.le_of_ble_eq_true rfl)) dX5_many_110 ⟨Nat.le_of_ble_eq_true rfl, Nat.le_of_ble_eq_true rfl⟩) hW (fun r188 H locs hwr188 hW => ?_)
  subst hwr188
  exact W.iret (v := (F_X5_packagesThatAre c v w (0 : Int32))) hx hb hr (fun t ht hW9 => ⟨⟨(F_X5_packagesThatAre c v w (0 : Int32)), (), rfl, rfl, trivial⟩, hW.2.F ht⟩) hW.2.2.2 dX5_many_113

def F_X5_many9 (c : SC) (v : SV) (w : SW)  : Int32 := (F_X5_packagesThatAre c v w (1 : Int32))

set_option maxHeartbeats 4000000 in
set_option maxRecDepth 100000 in
theorem r_X5_many9 (l : Launch) (D : va_G) (cA : Nat → ClassId) (NL : List (Nat × Nat)) (c : SC) (v : SV) (w : SW) (u : Nat → Int32) (ad : Nat → Nat → Nat)  (hM : MEM c NL) (hBd : BND c) (hF : WF c v) : Met l yX5_many wsX5_many ({ frames := 1, cells := 0, slots := 0, locals := 23 }) (pcPre D vwCl (tyL cA) [.ref (ad 5 0), .int 9] (fun H => va_P D vwCl (pcW NL ad (ctO cA c v w u ad)) H)) (va_Qi (fun (r : Int32) (_ : Unit) => r = F_X5_many9 c v w) (fun _ _ => True) (fun _ => False)) 0 0 (fun _ => False) := by
  refine Met.ofW (cc := cX5_many) (maxL := 2) (ret := (some .int)) (by decide) rfl ?_
  intro p e s m args below meth c0 s₁ B hml hv
  obtain ⟨rfl, hX, hP0⟩ := hv
  have hx := B.exec
  have hb := B.bytes
  have hr := B.returns
  have hts := atoms_spec (ws := wsX5_many) B.pre
  have hown : s.vm.findClass RX5 = some m.cls := findClass_of_methodNamed B.named
  have hlocks := B.notSynchronized
  have hW : pcQ D vwCl (fun _ => False) s.heap NL ad (ctO cA c v w u ad) s.heap [] := ⟨hP0, va_S.rf⟩
  have hl := lv_entry ([.ref (ad 5 0), .int 9]) (n := 2) (Nat.le_of_ble_eq_true rfl)
  rw [lg_entry_eq]
  generalize (lg_sl ([.ref (ad 5 0), .int 9]) ++ List.replicate (2 - (lg_sl ([.ref (ad 5 0), .int 9])).length) Slot.unset).toArray = ls at hl ⊢
  have hl : lv_has ls 2 [(0, .ref (ad 5 0)), (1, .int 9)] := hl
  refine lv_iload_n hx hb dX5_many_0 rfl (lv_at hl 1 rfl) ?_
  refine lv_tableIn (tgt := 114) hx hb dX5_many_1 (by decide) (by decide) rfl (by decide) ?_
  refine lv_aload_n hx hb dX5_many_114 rfl (lv_at hl 0 rfl) ?_
  refine lv_iconst (v := 1) hx hb dX5_many_115 (by decide) ?_
  refine pc_qcalli (va_runV (As := [.int 1]) (rest := []) ⟨hx, hb, hml, hown, hts⟩ (r_X5_packagesThatAre l D cA NL c v w u ad (1 : Int32) hM hBd hF ) (cwV 1 hts gX5_many_X5_packagesThatAre rfl rfl rfl (by decide +kernel) ⟨Nat.le_of_ble_eq_true rfl, Nat.le_of_ble_eq_true rfl⟩) (pc_preV pcN_ok hX hW.1 hM.1 rfl rfl hW.1) rfl rfl hl.1 rfl (lv_room (Nat.le_of_ble_eq_true rfl)) dX5_many_116 ⟨Nat.le_of_ble_eq_true rfl, Nat.le_of_ble_eq_true rfl⟩) hW (fun r189 H locs hwr189 hW => ?_)
  subst hwr189
  exact W.iret (v := (F_X5_packagesThatAre c v w (1 : Int32))) hx hb hr (fun t ht hW9 => ⟨⟨(F_X5_packagesThatAre c v w (1 : Int32)), (), rfl, rfl, trivial⟩, hW.2.F ht⟩) hW.2.2.2 dX5_many_119

def F_X5_many10 (c : SC) (v : SV) (w : SW)  : Int32 := (F_X5_packagesThatAre c v w (2 : Int32))

set_option maxHeartbeats 4000000 in
set_option maxRecDepth 100000 in
theorem r_X5_many10 (l : Launch) (D : va_G) (cA : Nat → ClassId) (NL : List (Nat × Nat)) (c : SC) (v : SV) (w : SW) (u : Nat → Int32) (ad : Nat → Nat → Nat)  (hM : MEM c NL) (hBd : BND c) (hF : WF c v) : Met l yX5_many wsX5_many ({ frames := 1, cells := 0, slots := 0, locals := 23 }) (pcPre D vwCl (tyL cA) [.ref (ad 5 0), .int 10] (fun H => va_P D vwCl (pcW NL ad (ctO cA c v w u ad)) H)) (va_Qi (fun (r : Int32) (_ : Unit) => r = F_X5_many10 c v w) (fun _ _ => True) (fun _ => False)) 0 0 (fun _ => False) := by
  refine Met.ofW (cc := cX5_many) (maxL := 2) (ret := (some .int)) (by decide) rfl ?_
  intro p e s m args below meth c0 s₁ B hml hv
  obtain ⟨rfl, hX, hP0⟩ := hv
  have hx := B.exec
  have hb := B.bytes
  have hr := B.returns
  have hts := atoms_spec (ws := wsX5_many) B.pre
  have hown : s.vm.findClass RX5 = some m.cls := findClass_of_methodNamed B.named
  have hlocks := B.notSynchronized
  have hW : pcQ D vwCl (fun _ => False) s.heap NL ad (ctO cA c v w u ad) s.heap [] := ⟨hP0, va_S.rf⟩
  have hl := lv_entry ([.ref (ad 5 0), .int 10]) (n := 2) (Nat.le_of_ble_eq_true rfl)
  rw [lg_entry_eq]
  generalize (lg_sl ([.ref (ad 5 0), .int 10]) ++ List.replicate (2 - (lg_sl ([.ref (ad 5 0), .int 10])).length) Slot.unset).toArray = ls at hl ⊢
  have hl : lv_has ls 2 [(0, .ref (ad 5 0)), (1, .int 10)] := hl
  refine lv_iload_n hx hb dX5_many_0 rfl (lv_at hl 1 rfl) ?_
  refine lv_tableIn (tgt := 120) hx hb dX5_many_1 (by decide) (by decide) rfl (by decide) ?_
  refine lv_aload_n hx hb dX5_many_120 rfl (lv_at hl 0 rfl) ?_
  refine lv_iconst (v := 2) hx hb dX5_many_121 (by decide) ?_
  refine pc_qcalli (va_runV (As := [.int 2]) (rest := []) ⟨hx, hb, hml, hown, hts⟩ (r_X5_packagesThatAre l D cA NL c v w u ad (2 : Int32) hM hBd hF ) (cwV 1 hts gX5_many_X5_packagesThatAre rfl rfl rfl (by decide +kernel) ⟨Nat.le_of_ble_eq_true rfl, Nat.le_of_ble_eq_true rfl⟩) (pc_preV pcN_ok hX hW.1 hM.1 rfl rfl hW.1) rfl rfl hl.1 rfl (lv_room (Nat.le_of_ble_eq_true rfl)) dX5_many_122 ⟨Nat.le_of_ble_eq_true rfl, Nat.le_of_ble_eq_true rfl⟩) hW (fun r190 H locs hwr190 hW => ?_)
  subst hwr190
  exact W.iret (v := (F_X5_packagesThatAre c v w (2 : Int32))) hx hb hr (fun t ht hW9 => ⟨⟨(F_X5_packagesThatAre c v w (2 : Int32)), (), rfl, rfl, trivial⟩, hW.2.F ht⟩) hW.2.2.2 dX5_many_125

def F_X5_many11 (c : SC) (v : SV) (w : SW)  : Int32 := (F_X5_packagesThatAre c v w (3 : Int32))

set_option maxHeartbeats 4000000 in
set_option maxRecDepth 100000 in
theorem r_X5_many11 (l : Launch) (D : va_G) (cA : Nat → ClassId) (NL : List (Nat × Nat)) (c : SC) (v : SV) (w : SW) (u : Nat → Int32) (ad : Nat → Nat → Nat)  (hM : MEM c NL) (hBd : BND c) (hF : WF c v) : Met l yX5_many wsX5_many ({ frames := 1, cells := 0, slots := 0, locals := 23 }) (pcPre D vwCl (tyL cA) [.ref (ad 5 0), .int 11] (fun H => va_P D vwCl (pcW NL ad (ctO cA c v w u ad)) H)) (va_Qi (fun (r : Int32) (_ : Unit) => r = F_X5_many11 c v w) (fun _ _ => True) (fun _ => False)) 0 0 (fun _ => False) := by
  refine Met.ofW (cc := cX5_many) (maxL := 2) (ret := (some .int)) (by decide) rfl ?_
  intro p e s m args below meth c0 s₁ B hml hv
  obtain ⟨rfl, hX, hP0⟩ := hv
  have hx := B.exec
  have hb := B.bytes
  have hr := B.returns
  have hts := atoms_spec (ws := wsX5_many) B.pre
  have hown : s.vm.findClass RX5 = some m.cls := findClass_of_methodNamed B.named
  have hlocks := B.notSynchronized
  have hW : pcQ D vwCl (fun _ => False) s.heap NL ad (ctO cA c v w u ad) s.heap [] := ⟨hP0, va_S.rf⟩
  have hl := lv_entry ([.ref (ad 5 0), .int 11]) (n := 2) (Nat.le_of_ble_eq_true rfl)
  rw [lg_entry_eq]
  generalize (lg_sl ([.ref (ad 5 0), .int 11]) ++ List.replicate (2 - (lg_sl ([.ref (ad 5 0), .int 11])).length) Slot.unset).toArray = ls at hl ⊢
  have hl : lv_has ls 2 [(0, .ref (ad 5 0)), (1, .int 11)] := hl
  refine lv_iload_n hx hb dX5_many_0 rfl (lv_at hl 1 rfl) ?_
  refine lv_tableIn (tgt := 126) hx hb dX5_many_1 (by decide) (by decide) rfl (by decide) ?_
  refine lv_aload_n hx hb dX5_many_126 rfl (lv_at hl 0 rfl) ?_
  refine lv_iconst (v := 3) hx hb dX5_many_127 (by decide) ?_
  refine pc_qcalli (va_runV (As := [.int 3]) (rest := []) ⟨hx, hb, hml, hown, hts⟩ (r_X5_packagesThatAre l D cA NL c v w u ad (3 : Int32) hM hBd hF ) (cwV 1 hts gX5_many_X5_packagesThatAre rfl rfl rfl (by decide +kernel) ⟨Nat.le_of_ble_eq_true rfl, Nat.le_of_ble_eq_true rfl⟩) (pc_preV pcN_ok hX hW.1 hM.1 rfl rfl hW.1) rfl rfl hl.1 rfl (lv_room (Nat.le_of_ble_eq_true rfl)) dX5_many_128 ⟨Nat.le_of_ble_eq_true rfl, Nat.le_of_ble_eq_true rfl⟩) hW (fun r191 H locs hwr191 hW => ?_)
  subst hwr191
  exact W.iret (v := (F_X5_packagesThatAre c v w (3 : Int32))) hx hb hr (fun t ht hW9 => ⟨⟨(F_X5_packagesThatAre c v w (3 : Int32)), (), rfl, rfl, trivial⟩, hW.2.F ht⟩) hW.2.2.2 dX5_many_131

def F_X5_many12 (c : SC) (v : SV) (w : SW)  : Int32 := (nI (c 5))

set_option maxHeartbeats 4000000 in
set_option maxRecDepth 100000 in
theorem r_X5_many12 (l : Launch) (D : va_G) (cA : Nat → ClassId) (NL : List (Nat × Nat)) (c : SC) (v : SV) (w : SW) (u : Nat → Int32) (ad : Nat → Nat → Nat)  (hM : MEM c NL) (hBd : BND c) (hF : WF c v) : Met l yX5_many wsX5_many ({ frames := 0, cells := 0, slots := 0, locals := 0 }) (pcPre D vwCl (tyL cA) [.ref (ad 5 0), .int 12] (fun H => va_P D vwCl (pcW NL ad (ctO cA c v w u ad)) H)) (va_Qi (fun (r : Int32) (_ : Unit) => r = F_X5_many12 c v w) (fun _ _ => True) (fun _ => False)) 0 0 (fun _ => False) := by
  refine Met.ofW (cc := cX5_many) (maxL := 2) (ret := (some .int)) (by decide) rfl ?_
  intro p e s m args below meth c0 s₁ B hml hv
  obtain ⟨rfl, hX, hP0⟩ := hv
  have hx := B.exec
  have hb := B.bytes
  have hr := B.returns
  have hts := atoms_spec (ws := wsX5_many) B.pre
  have hown : s.vm.findClass RX5 = some m.cls := findClass_of_methodNamed B.named
  have hlocks := B.notSynchronized
  have hW : pcQ D vwCl (fun _ => False) s.heap NL ad (ctO cA c v w u ad) s.heap [] := ⟨hP0, va_S.rf⟩
  have hl := lv_entry ([.ref (ad 5 0), .int 12]) (n := 2) (Nat.le_of_ble_eq_true rfl)
  rw [lg_entry_eq]
  generalize (lg_sl ([.ref (ad 5 0), .int 12]) ++ List.replicate (2 - (lg_sl ([.ref (ad 5 0), .int 12])).length) Slot.unset).toArray = ls at hl ⊢
  have hl : lv_has ls 2 [(0, .ref (ad 5 0)), (1, .int 12)] := hl
  refine lv_iload_n hx hb dX5_many_0 rfl (lv_at hl 1 rfl) ?_
  refine lv_tableIn (tgt := 132) hx hb dX5_many_1 (by decide) (by decide) rfl (by decide) ?_
  refine lv_aload_n hx hb dX5_many_132 rfl (lv_at hl 0 rfl) ?_
  refine pc_get (C := RX5) (T := TX5) (N := 13) (ci := 5) hx hb hts (by decide +kernel) hown hX.1 hW.1 5 0 hM.1 rfl rfl 12 (by decide) (hts (.fieldLink RX5 64 "DraftsmanOffice" "today" "I") (by decide +kernel)) (fun _ h9 => h9) rfl dX5_many_133 ?_
  exact W.iret (v := (nI (c 5))) hx hb hr (fun t ht hW9 => ⟨⟨(nI (c 5)), (), rfl, rfl, trivial⟩, hW.2.F ht⟩) hW.2.2.2 dX5_many_136

def F_X5_ofQuery (c : SC) (v : SV) (w : SW) (x1 : Int32) : Int32 := (v 4 x1.toNatClampNeg 1)

set_option maxHeartbeats 4000000 in
set_option maxRecDepth 100000 in
theorem r_X5_ofQuery (l : Launch) (D : va_G) (cA : Nat → ClassId) (NL : List (Nat × Nat)) (c : SC) (v : SV) (w : SW) (u : Nat → Int32) (ad : Nat → Nat → Nat) (x1 : Int32) (hM : MEM c NL) (hBd : BND c) (hF : WF c v) (h1n : ¬ x1 < 0) (h1 : x1.toNatClampNeg < c 3) : Met l yX5_ofQuery wsX5_ofQuery ({ frames := 1, cells := 0, slots := 0, locals := 21 }) (pcPre D vwCl (tyL cA) [.ref (ad 5 0), .int x1] (fun H => va_P D vwCl (pcW NL ad (ctO cA c v w u ad)) H)) (va_Qi (fun (r : Int32) (_ : Unit) => r = F_X5_ofQuery c v w x1) (fun _ _ => True) (fun _ => False)) 0 0 (fun _ => False) := by
  refine Met.ofW (cc := cX5_ofQuery) (maxL := 2) (ret := (some .int)) (by decide) rfl ?_
  intro p e s m args below meth c0 s₁ B hml hv
  obtain ⟨rfl, hX, hP0⟩ := hv
  have hx := B.exec
  have hb := B.bytes
  have hr := B.returns
  have hts := atoms_spec (ws := wsX5_ofQuery) B.pre
  have hown : s.vm.findClass RX5 = some m.cls := findClass_of_methodNamed B.named
  have hlocks := B.notSynchronized
  have hW : pcQ D vwCl (fun _ => False) s.heap NL ad (ctO cA c v w u ad) s.heap [] := ⟨hP0, va_S.rf⟩
  have hl := lv_entry ([.ref (ad 5 0), .int x1]) (n := 2) (Nat.le_of_ble_eq_true rfl)
  rw [lg_entry_eq]
  generalize (lg_sl ([.ref (ad 5 0), .int x1]) ++ List.replicate (2 - (lg_sl ([.ref (ad 5 0), .int x1])).length) Slot.unset).toArray = ls at hl ⊢
  have hl : lv_has ls 2 [(0, .ref (ad 5 0)), (1, .int x1)] := hl
  refine lv_aload_n hx hb dX5_ofQuery_0 rfl (lv_at hl 0 rfl) ?_
  refine lv_iload_n hx hb dX5_ofQuery_1 rfl (lv_at hl 1 rfl) ?_
  refine pc_qcallv (va_runV (As := [.int x1]) (rest := []) ⟨hx, hb, hml, hown, hts⟩ (r_X5_requireQuery l D cA NL c v w u ad x1 hM hBd hF h1n h1) (cwV 1 hts gX5_ofQuery_X5_requireQuery rfl rfl rfl (by decide +kernel) ⟨Nat.le_of_ble_eq_true rfl, Nat.le_of_ble_eq_true rfl⟩) (pc_preV pcN_ok hX hW.1 hM.1 rfl rfl hW.1) rfl rfl hl.1 rfl (lv_room (Nat.le_of_ble_eq_true rfl)) dX5_ofQuery_2 ⟨Nat.le_of_ble_eq_true rfl, Nat.le_of_ble_eq_true rfl⟩) hW (fun H locs _ hW => ?_)
  refine lv_aload_n hx hb dX5_ofQuery_5 rfl (lv_at hl 0 rfl) ?_
  refine pc_get (C := RX5) (T := TX5) (N := 13) (ci := 5) hx hb hts (by decide +kernel) hown hX.1 hW.1 5 0 hM.1 rfl rfl 3 (by decide) (hts (.fieldLink RX5 29 "DraftsmanOffice" "queries" "[LDraftsmanOffice$Query;") (by decide +kernel)) (fun _ h9 => h9) rfl dX5_ofQuery_6 ?_
  refine lv_iload_n hx hb dX5_ofQuery_9 rfl (lv_at hl 1 rfl) ?_
  refine pc_aald (r := .ref (ad 4 x1.toNatClampNeg)) hx hb hX.1 hW.1 53 0 6 (hM.2.1 53 (by decide) (by decide)) rfl rfl rfl (fun q => q.elim h1n (fun q => absurd (Nat.lt_of_lt_of_le h1 hBd.2.2.2.1) (Nat.not_lt.mpr q))) (by rw [sRf_in h1]; rfl) dX5_ofQuery_10 ?_
  refine pc_getN (C := RX0) (T := TX0) (N := 3) (ci := 0) hx hb hts (by decide +kernel) hown hX.1 hW.1 4 x1.toNatClampNeg (hM.2.2.2.2.2.2.1 x1.toNatClampNeg h1) rfl rfl 2 (by decide) (hX.2.1 (.fieldLinkNest RX5 237 "DraftsmanOffice$Query" "state" "I" R_host) (by decide +kernel)) (fun _ h9 => h9) rfl dX5_ofQuery_11 ?_
  exact W.iret (v := (v 4 x1.toNatClampNeg 1)) hx hb hr (fun t ht hW9 => ⟨⟨(v 4 x1.toNatClampNeg 1), (), rfl, rfl, trivial⟩, hW.2.F ht⟩) hW.2.2.2 dX5_ofQuery_14


set_option maxHeartbeats 4000000 in
set_option maxRecDepth 100000 in
theorem r_X5_requireRegion (l : Launch) (D : va_G) (cA : Nat → ClassId) (x1 x2 x3 x4 : Int32)  (g1 : ¬ x1 < 0) (g2 : ¬ x3 < x1) (g3 : ¬ 20 ≤ x3) (g4 : ¬ x2 < 0) (g5 : ¬ x4 < x2) (g6 : x4 < 20) : Met l yX5_requireRegion wsX5_requireRegion ({ frames := 0, cells := 0, slots := 0, locals := 0 }) (pcPre D vwCl (tyL cA) [.int x1, .int x2, .int x3, .int x4] (fun _ => True)) (va_Qv (fun (_ : Unit) => True) (fun _ _ => True) (fun _ => False)) 0 0 (fun _ => False) := by
  refine Met.ofW (cc := cX5_requireRegion) (maxL := 4) (ret := none) (by decide) rfl ?_
  intro p e s m args below meth c0 s₁ B hml hv
  obtain ⟨rfl, hX, hP0⟩ := hv
  have hx := B.exec
  have hb := B.bytes
  have hr := B.returns
  have hts := atoms_spec (ws := wsX5_requireRegion) B.pre
  have hown : s.vm.findClass RX5 = some m.cls := findClass_of_methodNamed B.named
  have hlocks := B.notSynchronized
  have hW : pcQ D vwCl (fun _ => False) s.heap [] (fun _ _ => 0) (fun _ _ => .inr (0, [])) s.heap [] := ⟨fun k q h => by simp [pcW] at h, va_S.rf⟩
  have hl := lv_entry ([.int x1, .int x2, .int x3, .int x4]) (n := 4) (Nat.le_of_ble_eq_true rfl)
  rw [lg_entry_eq]
  generalize (lg_sl ([.int x1, .int x2, .int x3, .int x4]) ++ List.replicate (4 - (lg_sl ([.int x1, .int x2, .int x3, .int x4])).length) Slot.unset).toArray = ls at hl ⊢
  have hl : lv_has ls 4 [(0, .int x1), (1, .int x2), (2, .int x3), (3, .int x4)] := hl
  refine lv_iload_n hx hb dX5_requireRegion_0 rfl (lv_at hl 0 rfl) ?_
  refine lv_if_lt (tgt := 30) hx hb dX5_requireRegion_1 (by decide) (fun c193 => absurd c193 g1) (fun _ => ?_)
  refine lv_iload_n hx hb dX5_requireRegion_4 rfl (lv_at hl 0 rfl) ?_
  refine lv_iload_n hx hb dX5_requireRegion_5 rfl (lv_at hl 2 rfl) ?_
  refine lv_icmp_gt (tgt := 30) hx hb dX5_requireRegion_6 (by decide) (fun c194 => absurd c194 g2) (fun _ => ?_)
  refine lv_iload_n hx hb dX5_requireRegion_9 rfl (lv_at hl 2 rfl) ?_
  refine lv_bipush (v := 20) hx hb dX5_requireRegion_10 (by decide) ?_
  refine lv_icmp_ge (tgt := 30) hx hb dX5_requireRegion_12 (by decide) (fun c195 => absurd c195 g3) (fun _ => ?_)
  refine lv_iload_n hx hb dX5_requireRegion_15 rfl (lv_at hl 1 rfl) ?_
  refine lv_if_lt (tgt := 30) hx hb dX5_requireRegion_16 (by decide) (fun c196 => absurd c196 g4) (fun _ => ?_)
  refine lv_iload_n hx hb dX5_requireRegion_19 rfl (lv_at hl 1 rfl) ?_
  refine lv_iload_n hx hb dX5_requireRegion_20 rfl (lv_at hl 3 rfl) ?_
  refine lv_icmp_gt (tgt := 30) hx hb dX5_requireRegion_21 (by decide) (fun c197 => absurd c197 g5) (fun _ => ?_)
  refine lv_iload_n hx hb dX5_requireRegion_24 rfl (lv_at hl 3 rfl) ?_
  refine lv_bipush (v := 20) hx hb dX5_requireRegion_25 (by decide) ?_
  refine lv_icmp_lt (tgt := 41) hx hb dX5_requireRegion_27 (by decide) (fun _ => ?_) (fun c198 => absurd g6 c198)
  exact W.vret hx hb hr (fun t ht hW9 => ⟨⟨(), rfl, trivial, trivial⟩, hW.2.F ht⟩) hW.2.2.2 dX5_requireRegion_41


set_option maxHeartbeats 4000000 in
set_option maxRecDepth 100000 in
theorem r_X5_requireCrew (l : Launch) (D : va_G) (cA : Nat → ClassId) (x1 : Int32)  (g1 : ¬ x1 < 0) (g2 : x1 < 4) : Met l yX5_requireCrew wsX5_requireCrew ({ frames := 0, cells := 0, slots := 0, locals := 0 }) (pcPre D vwCl (tyL cA) [.int x1] (fun _ => True)) (va_Qv (fun (_ : Unit) => True) (fun _ _ => True) (fun _ => False)) 0 0 (fun _ => False) := by
  refine Met.ofW (cc := cX5_requireCrew) (maxL := 1) (ret := none) (by decide) rfl ?_
  intro p e s m args below meth c0 s₁ B hml hv
  obtain ⟨rfl, hX, hP0⟩ := hv
  have hx := B.exec
  have hb := B.bytes
  have hr := B.returns
  have hts := atoms_spec (ws := wsX5_requireCrew) B.pre
  have hown : s.vm.findClass RX5 = some m.cls := findClass_of_methodNamed B.named
  have hlocks := B.notSynchronized
  have hW : pcQ D vwCl (fun _ => False) s.heap [] (fun _ _ => 0) (fun _ _ => .inr (0, [])) s.heap [] := ⟨fun k q h => by simp [pcW] at h, va_S.rf⟩
  have hl := lv_entry ([.int x1]) (n := 1) (Nat.le_of_ble_eq_true rfl)
  rw [lg_entry_eq]
  generalize (lg_sl ([.int x1]) ++ List.replicate (1 - (lg_sl ([.int x1])).length) Slot.unset).toArray = ls at hl ⊢
  have hl : lv_has ls 1 [(0, .int x1)] := hl
  refine lv_iload_n hx hb dX5_requireCrew_0 rfl (lv_at hl 0 rfl) ?_
  refine lv_if_lt (tgt := 9) hx hb dX5_requireCrew_1 (by decide) (fun c199 => absurd c199 g1) (fun _ => ?_)
  refine lv_iload_n hx hb dX5_requireCrew_4 rfl (lv_at hl 0 rfl) ?_
  refine lv_iconst (v := 4) hx hb dX5_requireCrew_5 (by decide) ?_
  refine lv_icmp_lt (tgt := 20) hx hb dX5_requireCrew_6 (by decide) (fun _ => ?_) (fun c200 => absurd g2 c200)
  exact W.vret hx hb hr (fun t ht hW9 => ⟨⟨(), rfl, trivial, trivial⟩, hW.2.F ht⟩) hW.2.2.2 dX5_requireCrew_20


set_option maxHeartbeats 4000000 in
set_option maxRecDepth 100000 in
theorem r_X5_requireTwoSheets (l : Launch) (D : va_G) (cA : Nat → ClassId) (NL : List (Nat × Nat)) (c : SC) (v : SV) (w : SW) (u : Nat → Int32) (ad : Nat → Nat → Nat) (x1 x2 : Int32) (hM : MEM c NL) (hBd : BND c) (hF : WF c v) (h1n : ¬ x1 < 0) (h1 : x1.toNatClampNeg < c 0) (h2n : ¬ x2 < 0) (h2 : x2.toNatClampNeg < c 0) (hne : ¬ x1 = x2) : Met l yX5_requireTwoSheets wsX5_requireTwoSheets ({ frames := 1, cells := 0, slots := 0, locals := 21 }) (pcPre D vwCl (tyL cA) [.ref (ad 5 0), .int x1, .int x2] (fun H => va_P D vwCl (pcW NL ad (ctO cA c v w u ad)) H)) (va_Qv (fun (_ : Unit) => True) (fun _ _ => True) (fun _ => False)) 0 0 (fun _ => False) := by
  refine Met.ofW (cc := cX5_requireTwoSheets) (maxL := 3) (ret := none) (by decide) rfl ?_
  intro p e s m args below meth c0 s₁ B hml hv
  obtain ⟨rfl, hX, hP0⟩ := hv
  have hx := B.exec
  have hb := B.bytes
  have hr := B.returns
  have hts := atoms_spec (ws := wsX5_requireTwoSheets) B.pre
  have hown : s.vm.findClass RX5 = some m.cls := findClass_of_methodNamed B.named
  have hlocks := B.notSynchronized
  have hW : pcQ D vwCl (fun _ => False) s.heap NL ad (ctO cA c v w u ad) s.heap [] := ⟨hP0, va_S.rf⟩
  have hl := lv_entry ([.ref (ad 5 0), .int x1, .int x2]) (n := 3) (Nat.le_of_ble_eq_true rfl)
  rw [lg_entry_eq]
  generalize (lg_sl ([.ref (ad 5 0), .int x1, .int x2]) ++ List.replicate (3 - (lg_sl ([.ref (ad 5 0), .int x1, .int x2])).length) Slot.unset).toArray = ls at hl ⊢
  have hl : lv_has ls 3 [(0, .ref (ad 5 0)), (1, .int x1), (2, .int x2)] := hl
  refine lv_aload_n hx hb dX5_requireTwoSheets_0 rfl (lv_at hl 0 rfl) ?_
  refine lv_iload_n hx hb dX5_requireTwoSheets_1 rfl (lv_at hl 1 rfl) ?_
  refine pc_qcallv (va_runV (As := [.int x1]) (rest := []) ⟨hx, hb, hml, hown, hts⟩ (r_X5_requireSheet l D cA NL c v w u ad x1 hM hBd hF h1n h1) (cwV 1 hts gX5_requireTwoSheets_X5_requireSheet rfl rfl rfl (by decide +kernel) ⟨Nat.le_of_ble_eq_true rfl, Nat.le_of_ble_eq_true rfl⟩) (pc_preV pcN_ok hX hW.1 hM.1 rfl rfl hW.1) rfl rfl hl.1 rfl (lv_room (Nat.le_of_ble_eq_true rfl)) dX5_requireTwoSheets_2 ⟨Nat.le_of_ble_eq_true rfl, Nat.le_of_ble_eq_true rfl⟩) hW (fun H locs _ hW => ?_)
  refine lv_aload_n hx hb dX5_requireTwoSheets_5 rfl (lv_at hl 0 rfl) ?_
  refine lv_iload_n hx hb dX5_requireTwoSheets_6 rfl (lv_at hl 2 rfl) ?_
  refine pc_qcallv (va_runV (As := [.int x2]) (rest := []) ⟨hx, hb, hml, hown, hts⟩ (r_X5_requireSheet l D cA NL c v w u ad x2 hM hBd hF h2n h2) (cwV 1 hts gX5_requireTwoSheets_X5_requireSheet rfl rfl rfl (by decide +kernel) ⟨Nat.le_of_ble_eq_true rfl, Nat.le_of_ble_eq_true rfl⟩) (pc_preV pcN_ok hX hW.1 hM.1 rfl rfl hW.1) rfl rfl hl.1 rfl (lv_room (Nat.le_of_ble_eq_true rfl)) dX5_requireTwoSheets_7 ⟨Nat.le_of_ble_eq_true rfl, Nat.le_of_ble_eq_true rfl⟩) hW (fun H locs _ hW => ?_)
  refine lv_iload_n hx hb dX5_requireTwoSheets_10 rfl (lv_at hl 1 rfl) ?_
  refine lv_iload_n hx hb dX5_requireTwoSheets_11 rfl (lv_at hl 2 rfl) ?_
  refine lv_icmp_ne (tgt := 26) hx hb dX5_requireTwoSheets_12 (by decide) (fun _ => ?_) (fun c203 => absurd c203 hne)
  exact W.vret hx hb hr (fun t ht hW9 => ⟨⟨(), rfl, trivial, trivial⟩, hW.2.F ht⟩) hW.2.2.2 dX5_requireTwoSheets_26

def F_X5_clash (c : SC) (v : SV) (w : SW) (x1 x2 : Int32) : Int32 := (F_X5_fieldsOf (F_X5_clashRegion c v w x1 x2))

set_option maxHeartbeats 4000000 in
set_option maxRecDepth 100000 in
theorem r_X5_clash (l : Launch) (D : va_G) (cA : Nat → ClassId) (NL : List (Nat × Nat)) (c : SC) (v : SV) (w : SW) (u : Nat → Int32) (ad : Nat → Nat → Nat) (x1 x2 : Int32) (hM : MEM c NL) (hBd : BND c) (hF : WF c v) (h1n : ¬ x1 < 0) (h1 : x1.toNatClampNeg < c 0) (h2n : ¬ x2 < 0) (h2 : x2.toNatClampNeg < c 0) (hne : ¬ x1 = x2) : Met l yX5_clash wsX5_clash ({ frames := 2, cells := 0, slots := 0, locals := 45 }) (pcPre D vwCl (tyL cA) [.ref (ad 5 0), .int x1, .int x2] (fun H => va_P D vwCl (pcW NL ad (ctO cA c v w u ad)) H)) (va_Qi (fun (r : Int32) (_ : Unit) => r = F_X5_clash c v w x1 x2) (fun _ _ => True) (fun _ => False)) 0 0 (fun _ => False) := by
  refine Met.ofW (cc := cX5_clash) (maxL := 3) (ret := (some .int)) (by decide) rfl ?_
  intro p e s m args below meth c0 s₁ B hml hv
  obtain ⟨rfl, hX, hP0⟩ := hv
  have hx := B.exec
  have hb := B.bytes
  have hr := B.returns
  have hts := atoms_spec (ws := wsX5_clash) B.pre
  have hown : s.vm.findClass RX5 = some m.cls := findClass_of_methodNamed B.named
  have hlocks := B.notSynchronized
  have hW : pcQ D vwCl (fun _ => False) s.heap NL ad (ctO cA c v w u ad) s.heap [] := ⟨hP0, va_S.rf⟩
  have hl := lv_entry ([.ref (ad 5 0), .int x1, .int x2]) (n := 3) (Nat.le_of_ble_eq_true rfl)
  rw [lg_entry_eq]
  generalize (lg_sl ([.ref (ad 5 0), .int x1, .int x2]) ++ List.replicate (3 - (lg_sl ([.ref (ad 5 0), .int x1, .int x2])).length) Slot.unset).toArray = ls at hl ⊢
  have hl : lv_has ls 3 [(0, .ref (ad 5 0)), (1, .int x1), (2, .int x2)] := hl
  refine lv_aload_n hx hb dX5_clash_0 rfl (lv_at hl 0 rfl) ?_
  refine lv_iload_n hx hb dX5_clash_1 rfl (lv_at hl 1 rfl) ?_
  refine lv_iload_n hx hb dX5_clash_2 rfl (lv_at hl 2 rfl) ?_
  refine pc_qcallv (va_runV (As := [.int x1, .int x2]) (rest := []) ⟨hx, hb, hml, hown, hts⟩ (r_X5_requireTwoSheets l D cA NL c v w u ad x1 x2 hM hBd hF h1n h1 h2n h2 hne) (cwV 2 hts gX5_clash_X5_requireTwoSheets rfl rfl rfl (by decide +kernel) ⟨Nat.le_of_ble_eq_true rfl, Nat.le_of_ble_eq_true rfl⟩) (pc_preV pcN_ok hX hW.1 hM.1 rfl rfl hW.1) rfl rfl hl.1 rfl (lv_room (Nat.le_of_ble_eq_true rfl)) dX5_clash_3 ⟨Nat.le_of_ble_eq_true rfl, Nat.le_of_ble_eq_true rfl⟩) hW (fun H locs _ hW => ?_)
  refine lv_aload_n hx hb dX5_clash_6 rfl (lv_at hl 0 rfl) ?_
  refine lv_iload_n hx hb dX5_clash_7 rfl (lv_at hl 1 rfl) ?_
  refine lv_iload_n hx hb dX5_clash_8 rfl (lv_at hl 2 rfl) ?_
  refine pc_qcalll (va_runV (As := [.int x1, .int x2]) (rest := []) ⟨hx, hb, hml, hown, hts⟩ (r_X5_clashRegion l D cA NL c v w u ad x1 x2 hM hBd hF h1n h1 h2n h2) (cwV 2 hts gX5_clash_X5_clashRegion rfl rfl rfl (by decide +kernel) ⟨Nat.le_of_ble_eq_true rfl, Nat.le_of_ble_eq_true rfl⟩) (pc_preV pcN_ok hX hW.1 hM.1 rfl rfl hW.1) rfl rfl hl.1 rfl (lv_room (Nat.le_of_ble_eq_true rfl)) dX5_clash_9 ⟨Nat.le_of_ble_eq_true rfl, Nat.le_of_ble_eq_true rfl⟩) hW (fun r205 H locs hwr205 hW => ?_)
  subst hwr205
  refine pc_qcalli (va_runS (As := [.long (F_X5_clashRegion c v w x1 x2)]) (rest := []) ⟨hx, hb, hml, hown, hts⟩ (r_X5_fieldsOf l D cA (F_X5_clashRegion c v w x1 x2) ) (va_cwS 1 hts gX5_clash_X5_fieldsOf rfl rfl rfl (by decide +kernel) ⟨Nat.le_of_ble_eq_true rfl, Nat.le_of_ble_eq_true rfl⟩) (pc_preS pcN_ok hX trivial) rfl rfl hl.1 rfl (lv_room (Nat.le_of_ble_eq_true rfl)) dX5_clash_12 ⟨Nat.le_of_ble_eq_true rfl, Nat.le_of_ble_eq_true rfl⟩) hW (fun r206 H locs hwr206 hW => ?_)
  subst hwr206
  exact W.iret (v := (F_X5_fieldsOf (F_X5_clashRegion c v w x1 x2))) hx hb hr (fun t ht hW9 => ⟨⟨(F_X5_fieldsOf (F_X5_clashRegion c v w x1 x2)), (), rfl, rfl, trivial⟩, hW.2.F ht⟩) hW.2.2.2 dX5_clash_15

def F_X5_status (c : SC) (v : SV) (w : SW) (x1 x2 : Int32) : Int32 := (F_X3_statusOf c v w x1.toNatClampNeg x2)

set_option maxHeartbeats 4000000 in
set_option maxRecDepth 100000 in
theorem r_X5_status (l : Launch) (D : va_G) (cA : Nat → ClassId) (NL : List (Nat × Nat)) (c : SC) (v : SV) (w : SW) (u : Nat → Int32) (ad : Nat → Nat → Nat) (x1 x2 : Int32) (hM : MEM c NL) (hBd : BND c) (hF : WF c v) (h1n : ¬ x1 < 0) (h1 : x1.toNatClampNeg < c 0) (g1 : ¬ x2 < 0) (g2 : x2 ≤ v 1 x1.toNatClampNeg 1) : Met l yX5_status wsX5_status ({ frames := 1, cells := 0, slots := 0, locals := 21 }) (pcPre D vwCl (tyL cA) [.ref (ad 5 0), .int x1, .int x2] (fun H => va_P D vwCl (pcW NL ad (ctO cA c v w u ad)) H)) (va_Qi (fun (r : Int32) (_ : Unit) => r = F_X5_status c v w x1 x2) (fun _ _ => True) (fun _ => False)) 0 0 (fun _ => False) := by
  refine Met.ofW (cc := cX5_status) (maxL := 4) (ret := (some .int)) (by decide) rfl ?_
  intro p e s m args below meth c0 s₁ B hml hv
  obtain ⟨rfl, hX, hP0⟩ := hv
  have hx := B.exec
  have hb := B.bytes
  have hr := B.returns
  have hts := atoms_spec (ws := wsX5_status) B.pre
  have hown : s.vm.findClass RX5 = some m.cls := findClass_of_methodNamed B.named
  have hlocks := B.notSynchronized
  have hW : pcQ D vwCl (fun _ => False) s.heap NL ad (ctO cA c v w u ad) s.heap [] := ⟨hP0, va_S.rf⟩
  have hl := lv_entry ([.ref (ad 5 0), .int x1, .int x2]) (n := 4) (Nat.le_of_ble_eq_true rfl)
  rw [lg_entry_eq]
  generalize (lg_sl ([.ref (ad 5 0), .int x1, .int x2]) ++ List.replicate (4 - (lg_sl ([.ref (ad 5 0), .int x1, .int x2])).length) Slot.unset).toArray = ls at hl ⊢
  have hl : lv_has ls 4 [(0, .ref (ad 5 0)), (1, .int x1), (2, .int x2)] := hl
  refine lv_aload_n hx hb dX5_status_0 rfl (lv_at hl 0 rfl) ?_
  refine lv_iload_n hx hb dX5_status_1 rfl (lv_at hl 1 rfl) ?_
  refine pc_qcallv (va_runV (As := [.int x1]) (rest := []) ⟨hx, hb, hml, hown, hts⟩ (r_X5_requireSheet l D cA NL c v w u ad x1 hM hBd hF h1n h1) (cwV 1 hts gX5_status_X5_requireSheet rfl rfl rfl (by decide +kernel) ⟨Nat.le_of_ble_eq_true rfl, Nat.le_of_ble_eq_true rfl⟩) (pc_preV pcN_ok hX hW.1 hM.1 rfl rfl hW.1) rfl rfl hl.1 rfl (lv_room (Nat.le_of_ble_eq_true rfl)) dX5_status_2 ⟨Nat.le_of_ble_eq_true rfl, Nat.le_of_ble_eq_true rfl⟩) hW (fun H locs _ hW => ?_)
  refine lv_aload_n hx hb dX5_status_5 rfl (lv_at hl 0 rfl) ?_
  refine pc_get (C := RX5) (T := TX5) (N := 13) (ci := 5) hx hb hts (by decide +kernel) hown hX.1 hW.1 5 0 hM.1 rfl rfl 0 (by decide) (hts (.fieldLink RX5 11 "DraftsmanOffice" "sheets" "[LDraftsmanOffice$Sheet;") (by decide +kernel)) (fun _ h9 => h9) rfl dX5_status_6 ?_
  refine lv_iload_n hx hb dX5_status_9 rfl (lv_at hl 1 rfl) ?_
  refine pc_aald (r := .ref (ad 1 x1.toNatClampNeg)) hx hb hX.1 hW.1 50 0 3 (hM.2.1 50 (by decide) (by decide)) rfl rfl rfl (fun q => q.elim h1n (fun q => absurd (Nat.lt_of_lt_of_le h1 hBd.1) (Nat.not_lt.mpr q))) (by rw [sRf_in h1]; rfl) dX5_status_10 ?_
  refine lv_astore_n (lv' := [(3, .ref (ad 1 x1.toNatClampNeg)), (0, .ref (ad 5 0)), (1, .int x1), (2, .int x2)]) hx hb dX5_status_11 rfl hl (by decide) rfl (fun ls hl => ?_)
  refine lv_iload_n hx hb dX5_status_12 rfl (lv_at hl 3 rfl) ?_
  refine lv_if_lt (tgt := 24) hx hb dX5_status_13 (by decide) (fun c208 => absurd c208 g1) (fun _ => ?_)
  refine lv_iload_n hx hb dX5_status_16 rfl (lv_at hl 3 rfl) ?_
  refine lv_aload_n hx hb dX5_status_17 rfl (lv_at hl 0 rfl) ?_
  refine pc_getN (C := RX3) (T := TX3) (N := 10) (ci := 3) hx hb hts (by decide +kernel) hown hX.1 hW.1 1 x1.toNatClampNeg (hM.2.2.2.1 x1.toNatClampNeg h1).1 rfl rfl 3 (by decide) (hX.2.1 (.fieldLinkNest RX5 115 "DraftsmanOffice$Sheet" "last" "I" R_host) (by decide +kernel)) (fun _ h9 => h9) rfl dX5_status_18 ?_
  refine lv_icmp_le (tgt := 34) hx hb dX5_status_21 (by decide) (fun _ => ?_) (fun c209 => absurd g2 c209)
  refine lv_aload_n hx hb dX5_status_34 rfl (lv_at hl 0 rfl) ?_
  refine lv_iload_n hx hb dX5_status_35 rfl (lv_at hl 3 rfl) ?_
  refine pc_qcalli (va_runVN (As := [.int x2]) (rest := []) ⟨hx, hb, hml, hown, hts⟩ (r_X3_statusOf l D cA NL c v w u ad x1.toNatClampNeg x2 hM hBd h1) ⟨va_cnB 1 hts gX5_status_X3_statusOf_n182 rfl rfl rfl (hX.2.1 (.methodLinkNest RX5 182 yX3_statusOf R_host) (by decide +kernel)) (hts (.initialized RX3) (by decide +kernel)) (by decide +kernel) ⟨Nat.le_of_ble_eq_true rfl, Nat.le_of_ble_eq_true rfl⟩, hts (.instanceMethod yX3_statusOf) (by decide +kernel), hts (.selects RX3 yX3_statusOf yX3_statusOf) (by decide +kernel)⟩ (pc_preV pcN_ok hX hW.1 (hM.2.2.2.1 x1.toNatClampNeg h1).1 rfl rfl hW.1) rfl rfl hl.1 rfl (lv_room (Nat.le_of_ble_eq_true rfl)) dX5_status_36 ⟨Nat.le_of_ble_eq_true rfl, Nat.le_of_ble_eq_true rfl⟩) hW (fun r210 H locs hwr210 hW => ?_)
  subst hwr210
  exact W.iret (v := (F_X3_statusOf c v w x1.toNatClampNeg x2)) hx hb hr (fun t ht hW9 => ⟨⟨(F_X3_statusOf c v w x1.toNatClampNeg x2), (), rfl, rfl, trivial⟩, hW.2.F ht⟩) hW.2.2.2 dX5_status_39

def F_X5_clouds (c : SC) (v : SV) (w : SW) (x1 x2 x3 : Int32) : Int32 := (F_X5_cloudsOver c v w x1 (F_X5_regionOf x2 x3 x2 x3))

set_option maxHeartbeats 4000000 in
set_option maxRecDepth 100000 in
theorem r_X5_clouds (l : Launch) (D : va_G) (cA : Nat → ClassId) (NL : List (Nat × Nat)) (c : SC) (v : SV) (w : SW) (u : Nat → Int32) (ad : Nat → Nat → Nat) (x1 x2 x3 : Int32) (hM : MEM c NL) (hBd : BND c) (hF : WF c v) (h1n : ¬ x1 < 0) (h1 : x1.toNatClampNeg < c 0) (g1 : ¬ x2 < 0) (g2 : x2 < 20) (g4 : ¬ x3 < 0) (g6 : x3 < 20) : Met l yX5_clouds wsX5_clouds ({ frames := 3, cells := 0, slots := 0, locals := 71 }) (pcPre D vwCl (tyL cA) [.ref (ad 5 0), .int x1, .int x2, .int x3] (fun H => va_P D vwCl (pcW NL ad (ctO cA c v w u ad)) H)) (va_Qi (fun (r : Int32) (_ : Unit) => r = F_X5_clouds c v w x1 x2 x3) (fun _ _ => True) (fun _ => False)) 0 0 (fun _ => False) := by
  refine Met.ofW (cc := cX5_clouds) (maxL := 4) (ret := (some .int)) (by decide) rfl ?_
  intro p e s m args below meth c0 s₁ B hml hv
  obtain ⟨rfl, hX, hP0⟩ := hv
  have hx := B.exec
  have hb := B.bytes
  have hr := B.returns
  have hts := atoms_spec (ws := wsX5_clouds) B.pre
  have hown : s.vm.findClass RX5 = some m.cls := findClass_of_methodNamed B.named
  have hlocks := B.notSynchronized
  have hW : pcQ D vwCl (fun _ => False) s.heap NL ad (ctO cA c v w u ad) s.heap [] := ⟨hP0, va_S.rf⟩
  have hl := lv_entry ([.ref (ad 5 0), .int x1, .int x2, .int x3]) (n := 4) (Nat.le_of_ble_eq_true rfl)
  rw [lg_entry_eq]
  generalize (lg_sl ([.ref (ad 5 0), .int x1, .int x2, .int x3]) ++ List.replicate (4 - (lg_sl ([.ref (ad 5 0), .int x1, .int x2, .int x3])).length) Slot.unset).toArray = ls at hl ⊢
  have hl : lv_has ls 4 [(0, .ref (ad 5 0)), (1, .int x1), (2, .int x2), (3, .int x3)] := hl
  refine lv_aload_n hx hb dX5_clouds_0 rfl (lv_at hl 0 rfl) ?_
  refine lv_iload_n hx hb dX5_clouds_1 rfl (lv_at hl 1 rfl) ?_
  refine pc_qcallv (va_runV (As := [.int x1]) (rest := []) ⟨hx, hb, hml, hown, hts⟩ (r_X5_requireSheet l D cA NL c v w u ad x1 hM hBd hF h1n h1) (cwV 1 hts gX5_clouds_X5_requireSheet rfl rfl rfl (by decide +kernel) ⟨Nat.le_of_ble_eq_true rfl, Nat.le_of_ble_eq_true rfl⟩) (pc_preV pcN_ok hX hW.1 hM.1 rfl rfl hW.1) rfl rfl hl.1 rfl (lv_room (Nat.le_of_ble_eq_true rfl)) dX5_clouds_2 ⟨Nat.le_of_ble_eq_true rfl, Nat.le_of_ble_eq_true rfl⟩) hW (fun H locs _ hW => ?_)
  refine lv_iload_n hx hb dX5_clouds_5 rfl (lv_at hl 2 rfl) ?_
  refine lv_iload_n hx hb dX5_clouds_6 rfl (lv_at hl 3 rfl) ?_
  refine lv_iload_n hx hb dX5_clouds_7 rfl (lv_at hl 2 rfl) ?_
  refine lv_iload_n hx hb dX5_clouds_8 rfl (lv_at hl 3 rfl) ?_
  refine pc_qcallv (va_runS (As := [.int x2, .int x3, .int x2, .int x3]) (rest := []) ⟨hx, hb, hml, hown, hts⟩ (r_X5_requireRegion l D cA x2 x3 x2 x3 g1 (fun h => absurd h (Int32.lt_irrefl _)) (Int32.not_le.mpr g2) g4 (fun h => absurd h (Int32.lt_irrefl _)) g6) (va_cwS 4 hts gX5_clouds_X5_requireRegion rfl rfl rfl (by decide +kernel) ⟨Nat.le_of_ble_eq_true rfl, Nat.le_of_ble_eq_true rfl⟩) (pc_preS pcN_ok hX trivial) rfl rfl hl.1 rfl (lv_room (Nat.le_of_ble_eq_true rfl)) dX5_clouds_9 ⟨Nat.le_of_ble_eq_true rfl, Nat.le_of_ble_eq_true rfl⟩) hW (fun H locs _ hW => ?_)
  refine lv_aload_n hx hb dX5_clouds_12 rfl (lv_at hl 0 rfl) ?_
  refine lv_iload_n hx hb dX5_clouds_13 rfl (lv_at hl 1 rfl) ?_
  refine lv_iload_n hx hb dX5_clouds_14 rfl (lv_at hl 2 rfl) ?_
  refine lv_iload_n hx hb dX5_clouds_15 rfl (lv_at hl 3 rfl) ?_
  refine lv_iload_n hx hb dX5_clouds_16 rfl (lv_at hl 2 rfl) ?_
  refine lv_iload_n hx hb dX5_clouds_17 rfl (lv_at hl 3 rfl) ?_
  refine pc_qcalll (va_runS (As := [.int x2, .int x3, .int x2, .int x3]) (rest := [.int x1, .ref (ad 5 0)]) ⟨hx, hb, hml, hown, hts⟩ (r_X5_regionOf l D cA x2 x3 x2 x3 ) (va_cwS 4 hts gX5_clouds_X5_regionOf rfl rfl rfl (by decide +kernel) ⟨Nat.le_of_ble_eq_true rfl, Nat.le_of_ble_eq_true rfl⟩) (pc_preS pcN_ok hX trivial) rfl rfl hl.1 rfl (lv_room (Nat.le_of_ble_eq_true rfl)) dX5_clouds_18 ⟨Nat.le_of_ble_eq_true rfl, Nat.le_of_ble_eq_true rfl⟩) hW (fun r213 H locs hwr213 hW => ?_)
  subst hwr213
  refine pc_qcalli (va_runV (As := [.int x1, .long (F_X5_regionOf x2 x3 x2 x3)]) (rest := []) ⟨hx, hb, hml, hown, hts⟩ (r_X5_cloudsOver l D cA NL c v w u ad x1 (F_X5_regionOf x2 x3 x2 x3) hM hBd hF h1n h1) (cwV 2 hts gX5_clouds_X5_cloudsOver rfl rfl rfl (by decide +kernel) ⟨Nat.le_of_ble_eq_true rfl, Nat.le_of_ble_eq_true rfl⟩) (pc_preV pcN_ok hX hW.1 hM.1 rfl rfl hW.1) rfl rfl hl.1 rfl (lv_room (Nat.le_of_ble_eq_true rfl)) dX5_clouds_21 ⟨Nat.le_of_ble_eq_true rfl, Nat.le_of_ble_eq_true rfl⟩) hW (fun r214 H locs hwr214 hW => ?_)
  subst hwr214
  exact W.iret (v := (F_X5_cloudsOver c v w x1 (F_X5_regionOf x2 x3 x2 x3))) hx hb hr (fun t ht hW9 => ⟨⟨(F_X5_cloudsOver c v w x1 (F_X5_regionOf x2 x3 x2 x3)), (), rfl, rfl, trivial⟩, hW.2.F ht⟩) hW.2.2.2 dX5_clouds_24

def F_X5_has (c : SC) (v : SV) (w : SW) (x1 x2 : Int32) : Int32 := (v 57 x1.toNatClampNeg x2.toNatClampNeg)

set_option maxHeartbeats 4000000 in
set_option maxRecDepth 100000 in
theorem r_X5_has (l : Launch) (D : va_G) (cA : Nat → ClassId) (NL : List (Nat × Nat)) (c : SC) (v : SV) (w : SW) (u : Nat → Int32) (ad : Nat → Nat → Nat) (x1 x2 : Int32) (hM : MEM c NL) (hBd : BND c) (hF : WF c v) (g1 : ¬ x1 < 0) (g2 : x1 < 4) (h2n : ¬ x2 < 0) (h2 : x2.toNatClampNeg < c 0) : Met l yX5_has wsX5_has ({ frames := 1, cells := 0, slots := 0, locals := 21 }) (pcPre D vwCl (tyL cA) [.ref (ad 5 0), .int x1, .int x2] (fun H => va_P D vwCl (pcW NL ad (ctO cA c v w u ad)) H)) (va_Qi (fun (r : Int32) (_ : Unit) => r = F_X5_has c v w x1 x2) (fun _ _ => True) (fun _ => False)) 0 0 (fun _ => False) := by
  refine Met.ofW (cc := cX5_has) (maxL := 3) (ret := (some .int)) (by decide) rfl ?_
  intro p e s m args below meth c0 s₁ B hml hv
  obtain ⟨rfl, hX, hP0⟩ := hv
  have hx := B.exec
  have hb := B.bytes
  have hr := B.returns
  have hts := atoms_spec (ws := wsX5_has) B.pre
  have hown : s.vm.findClass RX5 = some m.cls := findClass_of_methodNamed B.named
  have hlocks := B.notSynchronized
  have hW : pcQ D vwCl (fun _ => False) s.heap NL ad (ctO cA c v w u ad) s.heap [] := ⟨hP0, va_S.rf⟩
  have hl := lv_entry ([.ref (ad 5 0), .int x1, .int x2]) (n := 3) (Nat.le_of_ble_eq_true rfl)
  rw [lg_entry_eq]
  generalize (lg_sl ([.ref (ad 5 0), .int x1, .int x2]) ++ List.replicate (3 - (lg_sl ([.ref (ad 5 0), .int x1, .int x2])).length) Slot.unset).toArray = ls at hl ⊢
  have hl : lv_has ls 3 [(0, .ref (ad 5 0)), (1, .int x1), (2, .int x2)] := hl
  refine lv_iload_n hx hb dX5_has_0 rfl (lv_at hl 1 rfl) ?_
  refine pc_qcallv (va_runS (As := [.int x1]) (rest := []) ⟨hx, hb, hml, hown, hts⟩ (r_X5_requireCrew l D cA x1 g1 g2) (va_cwS 1 hts gX5_has_X5_requireCrew rfl rfl rfl (by decide +kernel) ⟨Nat.le_of_ble_eq_true rfl, Nat.le_of_ble_eq_true rfl⟩) (pc_preS pcN_ok hX trivial) rfl rfl hl.1 rfl (lv_room (Nat.le_of_ble_eq_true rfl)) dX5_has_1 ⟨Nat.le_of_ble_eq_true rfl, Nat.le_of_ble_eq_true rfl⟩) hW (fun H locs _ hW => ?_)
  refine lv_aload_n hx hb dX5_has_4 rfl (lv_at hl 0 rfl) ?_
  refine lv_iload_n hx hb dX5_has_5 rfl (lv_at hl 2 rfl) ?_
  refine pc_qcallv (va_runV (As := [.int x2]) (rest := []) ⟨hx, hb, hml, hown, hts⟩ (r_X5_requireSheet l D cA NL c v w u ad x2 hM hBd hF h2n h2) (cwV 1 hts gX5_has_X5_requireSheet rfl rfl rfl (by decide +kernel) ⟨Nat.le_of_ble_eq_true rfl, Nat.le_of_ble_eq_true rfl⟩) (pc_preV pcN_ok hX hW.1 hM.1 rfl rfl hW.1) rfl rfl hl.1 rfl (lv_room (Nat.le_of_ble_eq_true rfl)) dX5_has_6 ⟨Nat.le_of_ble_eq_true rfl, Nat.le_of_ble_eq_true rfl⟩) hW (fun H locs _ hW => ?_)
  refine lv_aload_n hx hb dX5_has_9 rfl (lv_at hl 0 rfl) ?_
  refine pc_get (C := RX5) (T := TX5) (N := 13) (ci := 5) hx hb hts (by decide +kernel) hown hX.1 hW.1 5 0 hM.1 rfl rfl 5 (by decide) (hts (.fieldLink RX5 41 "DraftsmanOffice" "crewHas" "[[I") (by decide +kernel)) (fun _ h9 => h9) rfl dX5_has_10 ?_
  refine lv_iload_n hx hb dX5_has_13 rfl (lv_at hl 1 rfl) ?_
  refine pc_aald (r := .ref (ad 57 x1.toNatClampNeg)) hx hb hX.1 hW.1 55 0 2 (hM.2.1 55 (by decide) (by decide)) rfl rfl rfl (fun q => q.elim g1 (fun q => absurd (by have h4 := Int32.lt_iff_toInt_lt.mp g2; obtain ⟨j, hj, rfl⟩ := nI_of g1; rw [nI_clamp hj]; rw [nI_toInt hj] at h4; have h5 : (4 : Int32).toInt = 4 := by decide; omega) (Nat.not_lt.mpr q))) (by rw [sRf_in (by have h4 := Int32.lt_iff_toInt_lt.mp g2; obtain ⟨j, hj, rfl⟩ := nI_of g1; rw [nI_clamp hj]; rw [nI_toInt hj] at h4; have h5 : (4 : Int32).toInt = 4 := by decide; omega)]; rfl) dX5_has_14 ?_
  refine lv_iload_n hx hb dX5_has_15 rfl (lv_at hl 2 rfl) ?_
  refine pc_iald (f := (v 57 x1.toNatClampNeg)) hx hb hX.1 hW.1 57 x1.toNatClampNeg 0 (hM.2.2.1 x1.toNatClampNeg (by have h4 := Int32.lt_iff_toInt_lt.mp g2; obtain ⟨j, hj, rfl⟩ := nI_of g1; rw [nI_clamp hj]; rw [nI_toInt hj] at h4; have h5 : (4 : Int32).toInt = 4 := by decide; omega)) rfl rfl (fun q => q.elim h2n (fun q => absurd (Nat.lt_of_lt_of_le h2 hBd.1) (Nat.not_lt.mpr q))) dX5_has_16 ?_
  exact W.iret (v := (v 57 x1.toNatClampNeg x2.toNatClampNeg)) hx hb hr (fun t ht hW9 => ⟨⟨(v 57 x1.toNatClampNeg x2.toNatClampNeg), (), rfl, rfl, trivial⟩, hW.2.F ht⟩) hW.2.2.2 dX5_has_17

def FL_X5_owes (c : SC) (v : SV) (w : SW)  (x1 : Int32) : Nat → Nat → Int32 → Int32
  | 0, _, s220 => s220
  | k219 + 1, i218, s220 => FL_X5_owes c v w x1 k219 (i218 + 1) (if (F_X5_isIn (v 3 i218 1) x1) = 0 then s220 else (if ((nI (c 5)) - (v 3 i218 0)) ≤ (5 : Int32) then s220 else (s220 + 1)))
def F_X5_owes (c : SC) (v : SV) (w : SW) (x1 : Int32) : Int32 := (FL_X5_owes c v w x1 (c 2) 0 (0 : Int32))

set_option maxHeartbeats 4000000 in
set_option maxRecDepth 100000 in
theorem r_X5_owes (l : Launch) (D : va_G) (cA : Nat → ClassId) (NL : List (Nat × Nat)) (c : SC) (v : SV) (w : SW) (u : Nat → Int32) (ad : Nat → Nat → Nat) (x1 : Int32) (hM : MEM c NL) (hBd : BND c) (hF : WF c v) (g1 : ¬ x1 < 0) (g2 : x1 < 4) : Met l yX5_owes wsX5_owes ({ frames := 1, cells := 0, slots := 0, locals := 21 }) (pcPre D vwCl (tyL cA) [.ref (ad 5 0), .int x1] (fun H => va_P D vwCl (pcW NL ad (ctO cA c v w u ad)) H)) (va_Qi (fun (r : Int32) (_ : Unit) => r = F_X5_owes c v w x1) (fun _ _ => True) (fun _ => False)) 0 0 (fun _ => False) := by
  refine Met.ofW (cc := cX5_owes) (maxL := 5) (ret := (some .int)) (by decide) rfl ?_
  intro p e s m args below meth c0 s₁ B hml hv
  obtain ⟨rfl, hX, hP0⟩ := hv
  have hx := B.exec
  have hb := B.bytes
  have hr := B.returns
  have hts := atoms_spec (ws := wsX5_owes) B.pre
  have hown : s.vm.findClass RX5 = some m.cls := findClass_of_methodNamed B.named
  have hlocks := B.notSynchronized
  have hW : pcQ D vwCl (fun _ => False) s.heap NL ad (ctO cA c v w u ad) s.heap [] := ⟨hP0, va_S.rf⟩
  have hl := lv_entry ([.ref (ad 5 0), .int x1]) (n := 5) (Nat.le_of_ble_eq_true rfl)
  rw [lg_entry_eq]
  generalize (lg_sl ([.ref (ad 5 0), .int x1]) ++ List.replicate (5 - (lg_sl ([.ref (ad 5 0), .int x1])).length) Slot.unset).toArray = ls at hl ⊢
  have hl : lv_has ls 5 [(0, .ref (ad 5 0)), (1, .int x1)] := hl
  refine lv_iload_n hx hb dX5_owes_0 rfl (lv_at hl 1 rfl) ?_
  refine pc_qcallv (va_runS (As := [.int x1]) (rest := []) ⟨hx, hb, hml, hown, hts⟩ (r_X5_requireCrew l D cA x1 g1 g2) (va_cwS 1 hts gX5_owes_X5_requireCrew rfl rfl rfl (by decide +kernel) ⟨Nat.le_of_ble_eq_true rfl, Nat.le_of_ble_eq_true rfl⟩) (pc_preS pcN_ok hX trivial) rfl rfl hl.1 rfl (lv_room (Nat.le_of_ble_eq_true rfl)) dX5_owes_1 ⟨Nat.le_of_ble_eq_true rfl, Nat.le_of_ble_eq_true rfl⟩) hW (fun H locs _ hW => ?_)
  refine lv_iconst (v := 0) hx hb dX5_owes_4 (by decide) ?_
  refine lv_istore_n (lv' := [(2, .int 0), (0, .ref (ad 5 0)), (1, .int x1)]) hx hb dX5_owes_5 rfl hl (by decide) rfl (fun ls hl => ?_)
  refine lv_iconst (v := 0) hx hb dX5_owes_6 (by decide) ?_
  refine lv_istore_n (lv' := [(3, .int 0), (2, .int 0), (0, .ref (ad 5 0)), (1, .int x1)]) hx hb dX5_owes_7 rfl hl (by decide) rfl (fun ls hl => ?_)
  have K221 : ∀ (k219 i218 : Nat) (s220 : Int32) (H : Heap) (locs : List Loc) (ls : Array Slot), i218 + k219 = c 2 → (FL_X5_owes c v w x1 k219 i218 s220) = (FL_X5_owes c v w x1 (c 2) 0 (0 : Int32)) → pcQ D vwCl (fun _ => False) s.heap NL ad (ctO cA c v w u ad) H locs → lv_has ls 5 [(3, .int (nI i218)), (2, .int s220), (0, .ref (ad 5 0)), (1, .int x1)] → W p l e (headSpec wsX5_owes ({ frames := 1, cells := 0, slots := 0, locals := 21 })).room s m ([.ref (ad 5 0), .int x1] : List Value).toArray below meth c0 H locs 0 0 (MQ below (va_Qi (fun (r : Int32) (_ : Unit) => r = F_X5_owes c v w x1) (fun _ _ => True) (fun _ => False)) ([.ref (ad 5 0), .int x1] : List Value).toArray s 0 0 (fun _ => False)) (F0 m 8 ls []) := by
    intro k219
    induction k219 with
    | zero =>
      intro i218 s220 H locs ls hk heF hW hl
      have ei : i218 = c 2 := by omega
      rw [ei] at hl
      obtain rfl : s220 = (FL_X5_owes c v w x1 (c 2) 0 (0 : Int32)) := heF
      refine lv_iload_n hx hb dX5_owes_8 rfl (lv_at hl 0 rfl) ?_
      refine lv_aload_n hx hb dX5_owes_9 rfl (lv_at hl 2 rfl) ?_
      refine pc_get (C := RX5) (T := TX5) (N := 13) (ci := 5) hx hb hts (by decide +kernel) hown hX.1 hW.1 5 0 hM.1 rfl rfl 9 (by decide) (hts (.fieldLink RX5 55 "DraftsmanOffice" "sendingCount" "I") (by decide +kernel)) (fun _ h9 => h9) rfl dX5_owes_10 ?_
      refine lv_icmp_ge (tgt := 59) hx hb dX5_owes_13 (by decide) (fun _ => ?_) (fun c222 => absurd (Int32.le_refl _) c222)
      refine lv_iload_n hx hb dX5_owes_59 rfl (lv_at hl 1 rfl) ?_
      exact W.iret (v := (FL_X5_owes c v w x1 (c 2) 0 (0 : Int32))) hx hb hr (fun t ht hW9 => ⟨⟨(FL_X5_owes c v w x1 (c 2) 0 (0 : Int32)), (), rfl, rfl, trivial⟩, hW.2.F ht⟩) hW.2.2.2 dX5_owes_60
    | succ k219 ihk219 =>
      intro i218 s220 H locs ls hk heF hW hl
      have hlt : i218 < c 2 := by omega
      have hlt9i218 := hlt
      refine lv_iload_n hx hb dX5_owes_8 rfl (lv_at hl 0 rfl) ?_
      refine lv_aload_n hx hb dX5_owes_9 rfl (lv_at hl 2 rfl) ?_
      refine pc_get (C := RX5) (T := TX5) (N := 13) (ci := 5) hx hb hts (by decide +kernel) hown hX.1 hW.1 5 0 hM.1 rfl rfl 9 (by decide) (hts (.fieldLink RX5 55 "DraftsmanOffice" "sendingCount" "I") (by decide +kernel)) (fun _ h9 => h9) rfl dX5_owes_10 ?_
      refine lv_icmp_ge (tgt := 59) hx hb dX5_owes_13 (by decide) (fun c223 => absurd c223 (nI_ge hlt (Nat.lt_of_le_of_lt hBd.2.2.1 (by decide)))) (fun _ => ?_)
      refine lv_aload_n hx hb dX5_owes_16 rfl (lv_at hl 2 rfl) ?_
      refine pc_get (C := RX5) (T := TX5) (N := 13) (ci := 5) hx hb hts (by decide +kernel) hown hX.1 hW.1 5 0 hM.1 rfl rfl 2 (by decide) (hts (.fieldLink RX5 23 "DraftsmanOffice" "sendings" "[LDraftsmanOffice$Sending;") (by decide +kernel)) (fun _ h9 => h9) rfl dX5_owes_17 ?_
      refine lv_iload_n hx hb dX5_owes_20 rfl (lv_at hl 0 rfl) ?_
      refine pc_aald (r := .ref (ad 3 i218)) hx hb hX.1 hW.1 52 0 5 (hM.2.1 52 (by decide) (by decide)) rfl rfl rfl (vp_in_nI (Nat.lt_of_lt_of_le hlt9i218 hBd.2.2.1) (by decide)) (by rw [nI_clamp (Nat.lt_of_lt_of_le (Nat.lt_of_lt_of_le hlt9i218 hBd.2.2.1) (by decide)), sRf_in hlt9i218]; rfl) dX5_owes_21 ?_
      refine lv_astore (lv' := [(4, .ref (ad 3 i218)), (3, .int (nI i218)), (2, .int s220), (0, .ref (ad 5 0)), (1, .int x1)]) hx hb dX5_owes_22 hl (by decide) rfl (fun ls hl => ?_)
      refine lv_aload hx hb dX5_owes_24 (lv_at hl 0 rfl) ?_
      refine pc_getN (C := RX2) (T := TX2) (N := 3) (ci := 2) hx hb hts (by decide +kernel) hown hX.1 hW.1 3 i218 (hM.2.2.2.2.2.1 i218 hlt9i218).1 rfl rfl 2 (by decide) (hX.2.1 (.fieldLinkNest RX5 213 "DraftsmanOffice$Sending" "awaitedBy" "I" R_host) (by decide +kernel)) (fun _ h9 => h9) rfl dX5_owes_26 ?_
      refine lv_iload_n hx hb dX5_owes_29 rfl (lv_at hl 4 rfl) ?_
      refine pc_qcalli (va_runS (As := [.int (v 3 i218 1), .int x1]) (rest := []) ⟨hx, hb, hml, hown, hts⟩ (r_X5_isIn l D cA (v 3 i218 1) x1 ) (va_cwS 2 hts gX5_owes_X5_isIn rfl rfl rfl (by decide +kernel) ⟨Nat.le_of_ble_eq_true rfl, Nat.le_of_ble_eq_true rfl⟩) (pc_preS pcN_ok hX trivial) rfl rfl hl.1 rfl (lv_room (Nat.le_of_ble_eq_true rfl)) dX5_owes_30 ⟨Nat.le_of_ble_eq_true rfl, Nat.le_of_ble_eq_true rfl⟩) hW (fun r224 H locs hwr224 hW => ?_)
      subst hwr224
      refine lv_if_eq (tgt := 53) hx hb dX5_owes_33 (by decide) (fun (c225 : (F_X5_isIn (v 3 i218 1) x1) = 0) => ?_) (fun (c225 : ¬ (F_X5_isIn (v 3 i218 1) x1) = 0) => ?_)
      · refine lv_iinc (v := nI (i218 + 1)) (lv' := [(3, .int (nI (i218 + 1))), (4, .ref (ad 3 i218)), (2, .int s220), (0, .ref (ad 5 0)), (1, .int x1)]) hx hb dX5_owes_53 hl (k := 1) rfl (nI_1 i218) (by decide) rfl (fun ls hl => ?_)
        refine lv_goto (tgt := 8) hx hb dX5_owes_56 (by decide) ?_
        have he9F : (FL_X5_owes c v w x1 k219 (i218 + 1) s220) = (FL_X5_owes c v w x1 (c 2) 0 (0 : Int32)) := by rw [← heF]; show (FL_X5_owes c v w x1 k219 (i218 + 1) s220) = (FL_X5_owes c v w x1 (k219 + 1) i218 s220); simp only [FL_X5_owes, if_pos c225]
        exact ihk219 (i218 + 1)  s220 H locs ls (by omega) he9F hW (lv_sub hl [0, 2, 3, 4] rfl)
      · refine lv_aload_n hx hb dX5_owes_36 rfl (lv_at hl 3 rfl) ?_
        refine pc_get (C := RX5) (T := TX5) (N := 13) (ci := 5) hx hb hts (by decide +kernel) hown hX.1 hW.1 5 0 hM.1 rfl rfl 12 (by decide) (hts (.fieldLink RX5 64 "DraftsmanOffice" "today" "I") (by decide +kernel)) (fun _ h9 => h9) rfl dX5_owes_37 ?_
        refine lv_aload hx hb dX5_owes_40 (lv_at hl 0 rfl) ?_
        refine pc_getN (C := RX2) (T := TX2) (N := 3) (ci := 2) hx hb hts (by decide +kernel) hown hX.1 hW.1 3 i218 (hM.2.2.2.2.2.1 i218 hlt9i218).1 rfl rfl 0 (by decide) (hX.2.1 (.fieldLinkNest RX5 226 "DraftsmanOffice$Sending" "sentOn" "I" R_host) (by decide +kernel)) (fun _ h9 => h9) rfl dX5_owes_42 ?_
        refine lv_isub hx hb dX5_owes_45 ?_
        refine lv_iconst (v := 5) hx hb dX5_owes_46 (by decide) ?_
        refine lv_icmp_le (tgt := 53) hx hb dX5_owes_47 (by decide) (fun (c226 : ((nI (c 5)) - (v 3 i218 0)) ≤ (5 : Int32)) => ?_) (fun (c226 : ¬ ((nI (c 5)) - (v 3 i218 0)) ≤ (5 : Int32)) => ?_)
        · refine lv_iinc (v := nI (i218 + 1)) (lv' := [(3, .int (nI (i218 + 1))), (4, .ref (ad 3 i218)), (2, .int s220), (0, .ref (ad 5 0)), (1, .int x1)]) hx hb dX5_owes_53 hl (k := 1) rfl (nI_1 i218) (by decide) rfl (fun ls hl => ?_)
          refine lv_goto (tgt := 8) hx hb dX5_owes_56 (by decide) ?_
          have he9F : (FL_X5_owes c v w x1 k219 (i218 + 1) s220) = (FL_X5_owes c v w x1 (c 2) 0 (0 : Int32)) := by rw [← heF]; show (FL_X5_owes c v w x1 k219 (i218 + 1) s220) = (FL_X5_owes c v w x1 (k219 + 1) i218 s220); simp only [FL_X5_owes, if_neg c225, if_pos c226]
          exact ihk219 (i218 + 1)  s220 H locs ls (by omega) he9F hW (lv_sub hl [0, 2, 3, 4] rfl)
        · refine lv_iinc (v := (s220 + 1)) (lv' := [(2, .int (s220 + 1)), (4, .ref (ad 3 i218)), (3, .int (nI i218)), (0, .ref (ad 5 0)), (1, .int x1)]) hx hb dX5_owes_50 hl (k := 2) rfl rfl (by decide) rfl (fun ls hl => ?_)
          refine lv_iinc (v := nI (i218 + 1)) (lv' := [(3, .int (nI (i218 + 1))), (2, .int (s220 + 1)), (4, .ref (ad 3 i218)), (0, .ref (ad 5 0)), (1, .int x1)]) hx hb dX5_owes_53 hl (k := 2) rfl (nI_1 i218) (by decide) rfl (fun ls hl => ?_)
          refine lv_goto (tgt := 8) hx hb dX5_owes_56 (by decide) ?_
          have he9F : (FL_X5_owes c v w x1 k219 (i218 + 1) (s220 + 1)) = (FL_X5_owes c v w x1 (c 2) 0 (0 : Int32)) := by rw [← heF]; show (FL_X5_owes c v w x1 k219 (i218 + 1) (s220 + 1)) = (FL_X5_owes c v w x1 (k219 + 1) i218 s220); simp only [FL_X5_owes, if_neg c225, if_neg c226]
          exact ihk219 (i218 + 1)  (s220 + 1) H locs ls (by omega) he9F hW (lv_sub hl [0, 1, 3, 4] rfl)
  exact K221 (c 2) 0  (0 : Int32) _ _ ls (by omega) rfl hW (lv_sub hl [0, 1, 2, 3] rfl)

theorem uV_back {v : SV} {k i f : Nat} {x : Int32} : uV (uV v k i f x) k i f (v k i f) = v := by
  funext a b d
  by_cases h : a = k ∧ d = f ∧ b = i
  · obtain ⟨rfl, rfl, rfl⟩ := h
    simp [uV]
  · simp [uV, h]
theorem ne_m1 {x : Int32} (h : ¬ x < 0) : ¬ x = -1 := fun e => h (e ▸ (by decide))
theorem in6 {x : Int32} (h : ¬ x < 0) (h6 : x.toNatClampNeg < 6) (hl : x + 1 < 6) : ¬ x + 1 < 0 ∧ (x + 1).toNatClampNeg < 6 := by
  obtain ⟨j, hj, rfl⟩ := nI_of h
  rw [nI_clamp hj] at h6
  rw [nI_1] at hl ⊢
  rw [Int32.lt_iff_toInt_lt, nI_toInt (by omega)] at hl
  have h7 : (6 : Int32).toInt = 6 := by decide
  exact ⟨nI_nn (by omega), by rw [nI_clamp (by omega)]; omega⟩
theorem WF_of {c : SC} {v v2 : SV} (h : WF c v) (e : ∀ i, v2 2 i 1 = v 2 i 1 ∧ v2 7 i 0 = v 7 i 0 ∧ v2 1 i 1 = v 1 i 1) : WF c v2 := by
  refine ⟨fun i hi => ?_, fun i hi => ?_, fun i hi => ?_⟩
  · rw [(e i).1]; exact h.1 i hi
  · rw [(e i).2.1]; exact h.2.1 i hi
  · rw [(e i).2.2]; exact h.2.2 i hi

def V_X3_setIssued (c : SC) (v : SV) (w : SW) (i : Nat) (x1 : Int32) : SV := (uV (uV v 1 i 3 x1) 1 i 4 (v 12 i x1.toNatClampNeg))
def W_X3_setIssued (c : SC) (v : SV) (w : SW) (i : Nat) (x1 : Int32) : SW := (uW w 1 i 0 (w 11 i x1.toNatClampNeg))

set_option maxHeartbeats 4000000 in
set_option maxRecDepth 100000 in
theorem m_X3_setIssued (l : Launch) (D : va_G) (cA : Nat → ClassId) (NL : List (Nat × Nat)) (c : SC) (v : SV) (w : SW) (u : Nat → Int32) (ad : Nat → Nat → Nat) (A : Nat → Prop) (i : Nat) (x1 : Int32) (hM : MEM c NL) (hBd : BND c) (hi : i < c 0) (h6n : ¬ x1 < 0) (h6 : x1.toNatClampNeg < 6) : Met l yX3_setIssued wsX3_setIssued ({ frames := 0, cells := 0, slots := 0, locals := 0 }) (pcPre D vwCl (tyL cA) [.ref (ad 1 i), .int x1] (fun H => va_P D vwCl (pcW NL ad (ctO cA c v w u ad)) H ∧ va_D A (pcW NL ad (ctO cA c v w u ad)) ∧ ∀ q, H.size ≤ q → A q)) (va_Qv (fun (_ : Unit) => True) (fun (_ : Unit) t => va_P D vwCl (pcW NL ad (ctO cA c (V_X3_setIssued c v w i x1) (W_X3_setIssued c v w i x1) u ad)) t.heap) A) 0 0 A := by
  refine Met.ofW (cc := cX3_setIssued) (maxL := 2) (ret := none) (by decide) rfl ?_
  intro p e s m args below meth c0 s₁ B hml hv
  obtain ⟨rfl, hX, hP0, hD, hA⟩ := hv
  have hx := B.exec
  have hb := B.bytes
  have hr := B.returns
  have hts := atoms_spec (ws := wsX3_setIssued) B.pre
  have hown : s.vm.findClass RX3 = some m.cls := findClass_of_methodNamed B.named
  have hlocks := B.notSynchronized
  have hW : pcS D vwCl A s.heap NL ad (ctO cA c v w u ad) s.heap [] := ⟨hP0, hD, va_S.rf⟩
  have hl := lv_entry ([.ref (ad 1 i), .int x1]) (n := 2) (Nat.le_of_ble_eq_true rfl)
  rw [lg_entry_eq]
  generalize (lg_sl ([.ref (ad 1 i), .int x1]) ++ List.replicate (2 - (lg_sl ([.ref (ad 1 i), .int x1])).length) Slot.unset).toArray = ls at hl ⊢
  have hl : lv_has ls 2 [(0, .ref (ad 1 i)), (1, .int x1)] := hl
  refine lv_aload_n hx hb dX3_setIssued_0 rfl (lv_at hl 0 rfl) ?_
  refine lv_iload_n hx hb dX3_setIssued_1 rfl (lv_at hl 1 rfl) ?_
  refine pc_put (v := .int x1) (C := RX3) (T := TX3) (N := 10) (ci := 3) (ty := .int) hx hb hts (by decide +kernel) tyX3 tyX3_ok nmX3 hown hX.1 hW 1 i (hM.2.2.2.1 i hi).1 rfl rfl 5 (by decide) (hts (.fieldLink RX3 27 "DraftsmanOffice$Sheet" "issued" "I") (by decide +kernel)) (fun _ h9 => h9) rfl (by decide +kernel) rfl rfl (Nat.le_of_ble_eq_true rfl) dX3_setIssued_2 (fun H locs hW => ?_)
  have hW : pcS D vwCl A s.heap NL ad (ctO cA c (uV v 1 i 3 x1) w u ad) H locs := pcS_eq hW ctO_put_1_5
  refine lv_aload_n hx hb dX3_setIssued_5 rfl (lv_at hl 0 rfl) ?_
  refine lv_iload_n hx hb dX3_setIssued_6 rfl (lv_at hl 1 rfl) ?_
  refine lv_iconst (v := -1) hx hb dX3_setIssued_7 (by decide) ?_
  refine lv_icmp_ne (tgt := 15) hx hb dX3_setIssued_8 (by decide) (fun _ => ?_) (fun c227 => absurd c227 (ne_m1 h6n))
  refine lv_aload_n hx hb dX3_setIssued_15 rfl (lv_at hl 0 rfl) ?_
  refine pc_get (C := RX3) (T := TX3) (N := 10) (ci := 3) hx hb hts (by decide +kernel) hown hX.1 hW.1 1 i (hM.2.2.2.1 i hi).1 rfl rfl 1 (by decide) (hts (.fieldLink RX3 9 "DraftsmanOffice$Sheet" "regions" "[J") (by decide +kernel)) (fun _ h9 => h9) rfl dX3_setIssued_16 ?_
  refine lv_iload_n hx hb dX3_setIssued_19 rfl (lv_at hl 1 rfl) ?_
  refine pc_lald (f := (w 11 i)) hx hb hX.1 hW.1 11 i 1 (hM.2.2.2.1 i hi).2.1 rfl rfl (fun q => q.elim h6n (fun q => absurd h6 (Nat.not_lt.mpr q))) dX3_setIssued_20 ?_
  refine pc_put (v := .long (w 11 i x1.toNatClampNeg)) (C := RX3) (T := TX3) (N := 10) (ci := 3) (ty := .long) hx hb hts (by decide +kernel) tyX3 tyX3_ok nmX3 hown hX.1 hW 1 i (hM.2.2.2.1 i hi).1 rfl rfl 6 (by decide) (hts (.fieldLink RX3 30 "DraftsmanOffice$Sheet" "issuedRegion" "J") (by decide +kernel)) (fun _ h9 => h9) rfl (by decide +kernel) rfl rfl (Nat.le_of_ble_eq_true rfl) dX3_setIssued_21 (fun H locs hW => ?_)
  have hW : pcS D vwCl A s.heap NL ad (ctO cA c (uV v 1 i 3 x1) (uW w 1 i 0 (w 11 i x1.toNatClampNeg)) u ad) H locs := pcS_eq hW ctO_put_1_6
  refine lv_aload_n hx hb dX3_setIssued_24 rfl (lv_at hl 0 rfl) ?_
  refine lv_iload_n hx hb dX3_setIssued_25 rfl (lv_at hl 1 rfl) ?_
  refine lv_iconst (v := -1) hx hb dX3_setIssued_26 (by decide) ?_
  refine lv_icmp_ne (tgt := 34) hx hb dX3_setIssued_27 (by decide) (fun _ => ?_) (fun c228 => absurd c228 (ne_m1 h6n))
  refine lv_aload_n hx hb dX3_setIssued_34 rfl (lv_at hl 0 rfl) ?_
  refine pc_get (C := RX3) (T := TX3) (N := 10) (ci := 3) hx hb hts (by decide +kernel) hown hX.1 hW.1 1 i (hM.2.2.2.1 i hi).1 rfl rfl 2 (by decide) (hts (.fieldLink RX3 15 "DraftsmanOffice$Sheet" "details" "[I") (by decide +kernel)) (fun _ h9 => h9) rfl dX3_setIssued_35 ?_
  refine lv_iload_n hx hb dX3_setIssued_38 rfl (lv_at hl 1 rfl) ?_
  refine pc_iald (f := (v 12 i)) hx hb hX.1 hW.1 12 i 0 (hM.2.2.2.1 i hi).2.2 rfl rfl (fun q => q.elim h6n (fun q => absurd h6 (Nat.not_lt.mpr q))) dX3_setIssued_39 ?_
  refine pc_put (v := .int (v 12 i x1.toNatClampNeg)) (C := RX3) (T := TX3) (N := 10) (ci := 3) (ty := .int) hx hb hts (by decide +kernel) tyX3 tyX3_ok nmX3 hown hX.1 hW 1 i (hM.2.2.2.1 i hi).1 rfl rfl 7 (by decide) (hts (.fieldLink RX3 34 "DraftsmanOffice$Sheet" "issuedDetails" "I") (by decide +kernel)) (fun _ h9 => h9) rfl (by decide +kernel) rfl rfl (Nat.le_of_ble_eq_true rfl) dX3_setIssued_40 (fun H locs hW => ?_)
  have hW : pcS D vwCl A s.heap NL ad (ctO cA c (uV (uV v 1 i 3 x1) 1 i 4 (v 12 i x1.toNatClampNeg)) (uW w 1 i 0 (w 11 i x1.toNatClampNeg)) u ad) H locs := pcS_eq hW ctO_put_1_7
  have e9v : V_X3_setIssued c v w i x1 = (uV (uV v 1 i 3 x1) 1 i 4 (v 12 i x1.toNatClampNeg)) := rfl
  have e9w : W_X3_setIssued c v w i x1 = (uW w 1 i 0 (w 11 i x1.toNatClampNeg)) := rfl
  exact W.vret hx hb hr (fun t ht hW9 => ⟨⟨(), rfl, trivial, (by show va_P D vwCl (pcW NL ad (ctO cA c (V_X3_setIssued c v w i x1) (W_X3_setIssued c v w i x1) u ad)) t.heap; rw [e9v]; rw [e9w]; rw [ht]; exact hW.1)⟩, hW.2.2.F ht⟩) hW.2.2.2.2 dX3_setIssued_43

theorem wf_setIssued {c : SC} {v : SV} {w : SW} {i : Nat} {x1 : Int32} (h : WF c v) : WF c (V_X3_setIssued c v w i x1) := WF_of h (fun j => ⟨rfl, rfl, rfl⟩)

def V_X3_drawLast (c : SC) (v : SV) (w : SW) (i : Nat) (x1 : Int64) (x2 : Int32) : SV := (uV v 12 i ((v 1 i 1).toNatClampNeg) x2)
def W_X3_drawLast (c : SC) (v : SV) (w : SW) (i : Nat) (x1 : Int64) (x2 : Int32) : SW := (uW w 11 i ((v 1 i 1).toNatClampNeg) x1)

set_option maxHeartbeats 4000000 in
set_option maxRecDepth 100000 in
theorem m_X3_drawLast (l : Launch) (D : va_G) (cA : Nat → ClassId) (NL : List (Nat × Nat)) (c : SC) (v : SV) (w : SW) (u : Nat → Int32) (ad : Nat → Nat → Nat) (A : Nat → Prop) (i : Nat) (x1 : Int64) (x2 : Int32) (hM : MEM c NL) (hBd : BND c) (hF : WF c v) (hi : i < c 0) : Met l yX3_drawLast wsX3_drawLast ({ frames := 0, cells := 0, slots := 0, locals := 0 }) (pcPre D vwCl (tyL cA) [.ref (ad 1 i), .long x1, .int x2] (fun H => va_P D vwCl (pcW NL ad (ctO cA c v w u ad)) H ∧ va_D A (pcW NL ad (ctO cA c v w u ad)) ∧ ∀ q, H.size ≤ q → A q)) (va_Qv (fun (_ : Unit) => True) (fun (_ : Unit) t => va_P D vwCl (pcW NL ad (ctO cA c (V_X3_drawLast c v w i x1 x2) (W_X3_drawLast c v w i x1 x2) u ad)) t.heap) A) 0 0 A := by
  refine Met.ofW (cc := cX3_drawLast) (maxL := 4) (ret := none) (by decide) rfl ?_
  intro p e s m args below meth c0 s₁ B hml hv
  obtain ⟨rfl, hX, hP0, hD, hA⟩ := hv
  have hx := B.exec
  have hb := B.bytes
  have hr := B.returns
  have hts := atoms_spec (ws := wsX3_drawLast) B.pre
  have hown : s.vm.findClass RX3 = some m.cls := findClass_of_methodNamed B.named
  have hlocks := B.notSynchronized
  have hW : pcS D vwCl A s.heap NL ad (ctO cA c v w u ad) s.heap [] := ⟨hP0, hD, va_S.rf⟩
  have hl := lv_entry ([.ref (ad 1 i), .long x1, .int x2]) (n := 4) (Nat.le_of_ble_eq_true rfl)
  rw [lg_entry_eq]
  generalize (lg_sl ([.ref (ad 1 i), .long x1, .int x2]) ++ List.replicate (4 - (lg_sl ([.ref (ad 1 i), .long x1, .int x2])).length) Slot.unset).toArray = ls at hl ⊢
  have hl : lv_has ls 4 [(0, .ref (ad 1 i)), (1, .long x1), (3, .int x2)] := hl
  refine lv_aload_n hx hb dX3_drawLast_0 rfl (lv_at hl 0 rfl) ?_
  refine pc_get (C := RX3) (T := TX3) (N := 10) (ci := 3) hx hb hts (by decide +kernel) hown hX.1 hW.1 1 i (hM.2.2.2.1 i hi).1 rfl rfl 1 (by decide) (hts (.fieldLink RX3 9 "DraftsmanOffice$Sheet" "regions" "[J") (by decide +kernel)) (fun _ h9 => h9) rfl dX3_drawLast_1 ?_
  refine lv_aload_n hx hb dX3_drawLast_4 rfl (lv_at hl 0 rfl) ?_
  refine pc_get (C := RX3) (T := TX3) (N := 10) (ci := 3) hx hb hts (by decide +kernel) hown hX.1 hW.1 1 i (hM.2.2.2.1 i hi).1 rfl rfl 3 (by decide) (hts (.fieldLink RX3 19 "DraftsmanOffice$Sheet" "last" "I") (by decide +kernel)) (fun _ h9 => h9) rfl dX3_drawLast_5 ?_
  refine lv_lload_n hx hb dX3_drawLast_8 rfl (lv_at hl 1 rfl) ?_
  refine pc_last (f := (w 11 i)) hx hb hX.1 hW 11 i 1 (hM.2.2.2.1 i hi).2.1 rfl rfl (fun q => q.elim (hF.2.2 i hi).1 (fun q => absurd (hF.2.2 i hi).2 (Nat.not_lt.mpr q))) dX3_drawLast_9 (fun H locs hW => ?_)
  have hW : pcS D vwCl A s.heap NL ad (ctO cA c v (uW w 11 i ((v 1 i 1).toNatClampNeg) x1) u ad) H locs := pcS_eq hW ctO_lst_11
  refine lv_aload_n hx hb dX3_drawLast_10 rfl (lv_at hl 0 rfl) ?_
  refine pc_get (C := RX3) (T := TX3) (N := 10) (ci := 3) hx hb hts (by decide +kernel) hown hX.1 hW.1 1 i (hM.2.2.2.1 i hi).1 rfl rfl 2 (by decide) (hts (.fieldLink RX3 15 "DraftsmanOffice$Sheet" "details" "[I") (by decide +kernel)) (fun _ h9 => h9) rfl dX3_drawLast_11 ?_
  refine lv_aload_n hx hb dX3_drawLast_14 rfl (lv_at hl 0 rfl) ?_
  refine pc_get (C := RX3) (T := TX3) (N := 10) (ci := 3) hx hb hts (by decide +kernel) hown hX.1 hW.1 1 i (hM.2.2.2.1 i hi).1 rfl rfl 3 (by decide) (hts (.fieldLink RX3 19 "DraftsmanOffice$Sheet" "last" "I") (by decide +kernel)) (fun _ h9 => h9) rfl dX3_drawLast_15 ?_
  refine lv_iload_n hx hb dX3_drawLast_18 rfl (lv_at hl 2 rfl) ?_
  refine pc_iast (f := (v 12 i)) hx hb hX.1 hW 12 i 0 (hM.2.2.2.1 i hi).2.2 rfl rfl (fun q => q.elim (hF.2.2 i hi).1 (fun q => absurd (hF.2.2 i hi).2 (Nat.not_lt.mpr q))) dX3_drawLast_19 (fun H locs hW => ?_)
  have hW : pcS D vwCl A s.heap NL ad (ctO cA c (uV v 12 i ((v 1 i 1).toNatClampNeg) x2) (uW w 11 i ((v 1 i 1).toNatClampNeg) x1) u ad) H locs := pcS_eq hW ctO_ist_12
  have e9v : V_X3_drawLast c v w i x1 x2 = (uV v 12 i ((v 1 i 1).toNatClampNeg) x2) := rfl
  have e9w : W_X3_drawLast c v w i x1 x2 = (uW w 11 i ((v 1 i 1).toNatClampNeg) x1) := rfl
  exact W.vret hx hb hr (fun t ht hW9 => ⟨⟨(), rfl, trivial, (by show va_P D vwCl (pcW NL ad (ctO cA c (V_X3_drawLast c v w i x1 x2) (W_X3_drawLast c v w i x1 x2) u ad)) t.heap; rw [e9v]; rw [e9w]; rw [ht]; exact hW.1)⟩, hW.2.2.F ht⟩) hW.2.2.2.2 dX3_drawLast_20

theorem wf_drawLast {c : SC} {v : SV} {w : SW} {i : Nat} {x1 : Int64} {x2 : Int32} (h : WF c v) : WF c (V_X3_drawLast c v w i x1 x2) := WF_of h (fun j => ⟨rfl, rfl, rfl⟩)

def V_X3_beginRevision (c : SC) (v : SV) (w : SW) (i : Nat) : SV := (uV (uV (uV (uV v 12 i (((v 1 i 1) + (1 : Int32)).toNatClampNeg) (v 12 i ((v 1 i 1).toNatClampNeg))) 1 i 1 ((v 1 i 1) + (1 : Int32))) 1 i 2 0) 1 i 5 0)
def W_X3_beginRevision (c : SC) (v : SV) (w : SW) (i : Nat) : SW := (uW w 11 i (((v 1 i 1) + (1 : Int32)).toNatClampNeg) (w 11 i ((v 1 i 1).toNatClampNeg)))

set_option maxHeartbeats 4000000 in
set_option maxRecDepth 100000 in
theorem m_X3_beginRevision (l : Launch) (D : va_G) (cA : Nat → ClassId) (NL : List (Nat × Nat)) (c : SC) (v : SV) (w : SW) (u : Nat → Int32) (ad : Nat → Nat → Nat) (A : Nat → Prop) (i : Nat) (hM : MEM c NL) (hBd : BND c) (hF : WF c v) (hi : i < c 0) (hl : v 1 i 1 + 1 < 6) : Met l yX3_beginRevision wsX3_beginRevision ({ frames := 0, cells := 0, slots := 0, locals := 0 }) (pcPre D vwCl (tyL cA) [.ref (ad 1 i)] (fun H => va_P D vwCl (pcW NL ad (ctO cA c v w u ad)) H ∧ va_D A (pcW NL ad (ctO cA c v w u ad)) ∧ ∀ q, H.size ≤ q → A q)) (va_Qv (fun (_ : Unit) => True) (fun (_ : Unit) t => va_P D vwCl (pcW NL ad (ctO cA c (V_X3_beginRevision c v w i) (W_X3_beginRevision c v w i) u ad)) t.heap) A) 0 0 A := by
  refine Met.ofW (cc := cX3_beginRevision) (maxL := 2) (ret := none) (by decide) rfl ?_
  intro p e s m args below meth c0 s₁ B hml hv
  obtain ⟨rfl, hX, hP0, hD, hA⟩ := hv
  have hx := B.exec
  have hb := B.bytes
  have hr := B.returns
  have hts := atoms_spec (ws := wsX3_beginRevision) B.pre
  have hown : s.vm.findClass RX3 = some m.cls := findClass_of_methodNamed B.named
  have hlocks := B.notSynchronized
  have hW : pcS D vwCl A s.heap NL ad (ctO cA c v w u ad) s.heap [] := ⟨hP0, hD, va_S.rf⟩
  have hl := lv_entry ([.ref (ad 1 i)]) (n := 2) (Nat.le_of_ble_eq_true rfl)
  rw [lg_entry_eq]
  generalize (lg_sl ([.ref (ad 1 i)]) ++ List.replicate (2 - (lg_sl ([.ref (ad 1 i)])).length) Slot.unset).toArray = ls at hl ⊢
  have hl : lv_has ls 2 [(0, .ref (ad 1 i))] := hl
  refine lv_aload_n hx hb dX3_beginRevision_0 rfl (lv_at hl 0 rfl) ?_
  refine pc_get (C := RX3) (T := TX3) (N := 10) (ci := 3) hx hb hts (by decide +kernel) hown hX.1 hW.1 1 i (hM.2.2.2.1 i hi).1 rfl rfl 3 (by decide) (hts (.fieldLink RX3 19 "DraftsmanOffice$Sheet" "last" "I") (by decide +kernel)) (fun _ h9 => h9) rfl dX3_beginRevision_1 ?_
  refine lv_iconst (v := 1) hx hb dX3_beginRevision_4 (by decide) ?_
  refine lv_iadd hx hb dX3_beginRevision_5 ?_
  refine lv_istore_n (lv' := [(1, .int ((v 1 i 1) + (1 : Int32))), (0, .ref (ad 1 i))]) hx hb dX3_beginRevision_6 rfl hl (by decide) rfl (fun ls hl => ?_)
  refine lv_iload_n hx hb dX3_beginRevision_7 rfl (lv_at hl 0 rfl) ?_
  refine lv_bipush (v := 6) hx hb dX3_beginRevision_8 (by decide) ?_
  refine lv_icmp_ge (tgt := 58) hx hb dX3_beginRevision_10 (by decide) (fun c229 => absurd c229 (Int32.not_le.mpr hl)) (fun _ => ?_)
  refine lv_aload_n hx hb dX3_beginRevision_13 rfl (lv_at hl 1 rfl) ?_
  refine pc_get (C := RX3) (T := TX3) (N := 10) (ci := 3) hx hb hts (by decide +kernel) hown hX.1 hW.1 1 i (hM.2.2.2.1 i hi).1 rfl rfl 1 (by decide) (hts (.fieldLink RX3 9 "DraftsmanOffice$Sheet" "regions" "[J") (by decide +kernel)) (fun _ h9 => h9) rfl dX3_beginRevision_14 ?_
  refine lv_iload_n hx hb dX3_beginRevision_17 rfl (lv_at hl 0 rfl) ?_
  refine lv_aload_n hx hb dX3_beginRevision_18 rfl (lv_at hl 1 rfl) ?_
  refine pc_get (C := RX3) (T := TX3) (N := 10) (ci := 3) hx hb hts (by decide +kernel) hown hX.1 hW.1 1 i (hM.2.2.2.1 i hi).1 rfl rfl 1 (by decide) (hts (.fieldLink RX3 9 "DraftsmanOffice$Sheet" "regions" "[J") (by decide +kernel)) (fun _ h9 => h9) rfl dX3_beginRevision_19 ?_
  refine lv_aload_n hx hb dX3_beginRevision_22 rfl (lv_at hl 1 rfl) ?_
  refine pc_get (C := RX3) (T := TX3) (N := 10) (ci := 3) hx hb hts (by decide +kernel) hown hX.1 hW.1 1 i (hM.2.2.2.1 i hi).1 rfl rfl 3 (by decide) (hts (.fieldLink RX3 19 "DraftsmanOffice$Sheet" "last" "I") (by decide +kernel)) (fun _ h9 => h9) rfl dX3_beginRevision_23 ?_
  refine pc_lald (f := (w 11 i)) hx hb hX.1 hW.1 11 i 1 (hM.2.2.2.1 i hi).2.1 rfl rfl (fun q => q.elim (hF.2.2 i hi).1 (fun q => absurd (hF.2.2 i hi).2 (Nat.not_lt.mpr q))) dX3_beginRevision_26 ?_
  refine pc_last (f := (w 11 i)) hx hb hX.1 hW 11 i 1 (hM.2.2.2.1 i hi).2.1 rfl rfl (fun q => q.elim (in6 (hF.2.2 i hi).1 (hF.2.2 i hi).2 hl).1 (fun q => absurd (in6 (hF.2.2 i hi).1 (hF.2.2 i hi).2 hl).2 (Nat.not_lt.mpr q))) dX3_beginRevision_27 (fun H locs hW => ?_)
  have hW : pcS D vwCl A s.heap NL ad (ctO cA c v (uW w 11 i (((v 1 i 1) + (1 : Int32)).toNatClampNeg) (w 11 i ((v 1 i 1).toNatClampNeg))) u ad) H locs := pcS_eq hW ctO_lst_11
  refine lv_aload_n hx hb dX3_beginRevision_28 rfl (lv_at hl 1 rfl) ?_
  refine pc_get (C := RX3) (T := TX3) (N := 10) (ci := 3) hx hb hts (by decide +kernel) hown hX.1 hW.1 1 i (hM.2.2.2.1 i hi).1 rfl rfl 2 (by decide) (hts (.fieldLink RX3 15 "DraftsmanOffice$Sheet" "details" "[I") (by decide +kernel)) (fun _ h9 => h9) rfl dX3_beginRevision_29 ?_
  refine lv_iload_n hx hb dX3_beginRevision_32 rfl (lv_at hl 0 rfl) ?_
  refine lv_aload_n hx hb dX3_beginRevision_33 rfl (lv_at hl 1 rfl) ?_
  refine pc_get (C := RX3) (T := TX3) (N := 10) (ci := 3) hx hb hts (by decide +kernel) hown hX.1 hW.1 1 i (hM.2.2.2.1 i hi).1 rfl rfl 2 (by decide) (hts (.fieldLink RX3 15 "DraftsmanOffice$Sheet" "details" "[I") (by decide +kernel)) (fun _ h9 => h9) rfl dX3_beginRevision_34 ?_
  refine lv_aload_n hx hb dX3_beginRevision_37 rfl (lv_at hl 1 rfl) ?_
  refine pc_get (C := RX3) (T := TX3) (N := 10) (ci := 3) hx hb hts (by decide +kernel) hown hX.1 hW.1 1 i (hM.2.2.2.1 i hi).1 rfl rfl 3 (by decide) (hts (.fieldLink RX3 19 "DraftsmanOffice$Sheet" "last" "I") (by decide +kernel)) (fun _ h9 => h9) rfl dX3_beginRevision_38 ?_
  refine pc_iald (f := (v 12 i)) hx hb hX.1 hW.1 12 i 0 (hM.2.2.2.1 i hi).2.2 rfl rfl (fun q => q.elim (hF.2.2 i hi).1 (fun q => absurd (hF.2.2 i hi).2 (Nat.not_lt.mpr q))) dX3_beginRevision_41 ?_
  refine pc_iast (f := (v 12 i)) hx hb hX.1 hW 12 i 0 (hM.2.2.2.1 i hi).2.2 rfl rfl (fun q => q.elim (in6 (hF.2.2 i hi).1 (hF.2.2 i hi).2 hl).1 (fun q => absurd (in6 (hF.2.2 i hi).1 (hF.2.2 i hi).2 hl).2 (Nat.not_lt.mpr q))) dX3_beginRevision_42 (fun H locs hW => ?_)
  have hW : pcS D vwCl A s.heap NL ad (ctO cA c (uV v 12 i (((v 1 i 1) + (1 : Int32)).toNatClampNeg) (v 12 i ((v 1 i 1).toNatClampNeg))) (uW w 11 i (((v 1 i 1) + (1 : Int32)).toNatClampNeg) (w 11 i ((v 1 i 1).toNatClampNeg))) u ad) H locs := pcS_eq hW ctO_ist_12
  refine lv_aload_n hx hb dX3_beginRevision_43 rfl (lv_at hl 1 rfl) ?_
  refine lv_iload_n hx hb dX3_beginRevision_44 rfl (lv_at hl 0 rfl) ?_
  refine pc_put (v := .int ((v 1 i 1) + (1 : Int32))) (C := RX3) (T := TX3) (N := 10) (ci := 3) (ty := .int) hx hb hts (by decide +kernel) tyX3 tyX3_ok nmX3 hown hX.1 hW 1 i (hM.2.2.2.1 i hi).1 rfl rfl 3 (by decide) (hts (.fieldLink RX3 19 "DraftsmanOffice$Sheet" "last" "I") (by decide +kernel)) (fun _ h9 => h9) rfl (by decide +kernel) rfl rfl (Nat.le_of_ble_eq_true rfl) dX3_beginRevision_45 (fun H locs hW => ?_)
  have hW : pcS D vwCl A s.heap NL ad (ctO cA c (uV (uV v 12 i (((v 1 i 1) + (1 : Int32)).toNatClampNeg) (v 12 i ((v 1 i 1).toNatClampNeg))) 1 i 1 ((v 1 i 1) + (1 : Int32))) (uW w 11 i (((v 1 i 1) + (1 : Int32)).toNatClampNeg) (w 11 i ((v 1 i 1).toNatClampNeg))) u ad) H locs := pcS_eq hW ctO_put_1_3
  refine lv_aload_n hx hb dX3_beginRevision_48 rfl (lv_at hl 1 rfl) ?_
  refine lv_iconst (v := 0) hx hb dX3_beginRevision_49 (by decide) ?_
  refine pc_put (v := .int 0) (C := RX3) (T := TX3) (N := 10) (ci := 3) (ty := .boolean) hx hb hts (by decide +kernel) tyX3 tyX3_ok nmX3 hown hX.1 hW 1 i (hM.2.2.2.1 i hi).1 rfl rfl 4 (by decide) (hts (.fieldLink RX3 23 "DraftsmanOffice$Sheet" "isLastChecked" "Z") (by decide +kernel)) (fun _ h9 => h9) rfl (by decide +kernel) rfl rfl (Nat.le_of_ble_eq_true rfl) dX3_beginRevision_50 (fun H locs hW => ?_)
  have hW : pcS D vwCl A s.heap NL ad (ctO cA c (uV (uV (uV v 12 i (((v 1 i 1) + (1 : Int32)).toNatClampNeg) (v 12 i ((v 1 i 1).toNatClampNeg))) 1 i 1 ((v 1 i 1) + (1 : Int32))) 1 i 2 0) (uW w 11 i (((v 1 i 1) + (1 : Int32)).toNatClampNeg) (w 11 i ((v 1 i 1).toNatClampNeg))) u ad) H locs := pcS_eq hW ctO_put_1_4
  refine lv_aload_n hx hb dX3_beginRevision_53 rfl (lv_at hl 1 rfl) ?_
  refine lv_iconst (v := 0) hx hb dX3_beginRevision_54 (by decide) ?_
  refine pc_put (v := .int 0) (C := RX3) (T := TX3) (N := 10) (ci := 3) (ty := .int) hx hb hts (by decide +kernel) tyX3 tyX3_ok nmX3 hown hX.1 hW 1 i (hM.2.2.2.1 i hi).1 rfl rfl 8 (by decide) (hts (.fieldLink RX3 37 "DraftsmanOffice$Sheet" "marks" "I") (by decide +kernel)) (fun _ h9 => h9) rfl (by decide +kernel) rfl rfl (Nat.le_of_ble_eq_true rfl) dX3_beginRevision_55 (fun H locs hW => ?_)
  have hW : pcS D vwCl A s.heap NL ad (ctO cA c (uV (uV (uV (uV v 12 i (((v 1 i 1) + (1 : Int32)).toNatClampNeg) (v 12 i ((v 1 i 1).toNatClampNeg))) 1 i 1 ((v 1 i 1) + (1 : Int32))) 1 i 2 0) 1 i 5 0) (uW w 11 i (((v 1 i 1) + (1 : Int32)).toNatClampNeg) (w 11 i ((v 1 i 1).toNatClampNeg))) u ad) H locs := pcS_eq hW ctO_put_1_8
  have e9v : V_X3_beginRevision c v w i = (uV (uV (uV (uV v 12 i (((v 1 i 1) + (1 : Int32)).toNatClampNeg) (v 12 i ((v 1 i 1).toNatClampNeg))) 1 i 1 ((v 1 i 1) + (1 : Int32))) 1 i 2 0) 1 i 5 0) := rfl
  have e9w : W_X3_beginRevision c v w i = (uW w 11 i (((v 1 i 1) + (1 : Int32)).toNatClampNeg) (w 11 i ((v 1 i 1).toNatClampNeg))) := rfl
  exact W.vret hx hb hr (fun t ht hW9 => ⟨⟨(), rfl, trivial, (by show va_P D vwCl (pcW NL ad (ctO cA c (V_X3_beginRevision c v w i) (W_X3_beginRevision c v w i) u ad)) t.heap; rw [e9v]; rw [e9w]; rw [ht]; exact hW.1)⟩, hW.2.2.F ht⟩) hW.2.2.2.2 dX3_beginRevision_58

def V_X4_workADay (c : SC) (v : SV) (w : SW) (i : Nat) : SV := (if 0 < ((uV v 7 i 2 ((v 7 i 2) - (1 : Int32))) 7 i 2) then (uV v 7 i 2 ((v 7 i 2) - (1 : Int32))) else (uV (uV v 7 i 2 ((v 7 i 2) - (1 : Int32))) 7 i 3 3))

set_option maxHeartbeats 4000000 in
set_option maxRecDepth 100000 in
theorem m_X4_workADay (l : Launch) (D : va_G) (cA : Nat → ClassId) (NL : List (Nat × Nat)) (c : SC) (v : SV) (w : SW) (u : Nat → Int32) (ad : Nat → Nat → Nat) (A : Nat → Prop) (i : Nat) (hM : MEM c NL) (hBd : BND c) (hi : i < c 4) : Met l yX4_workADay wsX4_workADay ({ frames := 0, cells := 0, slots := 0, locals := 0 }) (pcPre D vwCl (tyL cA) [.ref (ad 7 i)] (fun H => va_P D vwCl (pcW NL ad (ctO cA c v w u ad)) H ∧ va_D A (pcW NL ad (ctO cA c v w u ad)) ∧ ∀ q, H.size ≤ q → A q)) (va_Qv (fun (_ : Unit) => True) (fun (_ : Unit) t => va_P D vwCl (pcW NL ad (ctO cA c (V_X4_workADay c v w i) w u ad)) t.heap) A) 0 0 A := by
  refine Met.ofW (cc := cX4_workADay) (maxL := 1) (ret := none) (by decide) rfl ?_
  intro p e s m args below meth c0 s₁ B hml hv
  obtain ⟨rfl, hX, hP0, hD, hA⟩ := hv
  have hx := B.exec
  have hb := B.bytes
  have hr := B.returns
  have hts := atoms_spec (ws := wsX4_workADay) B.pre
  have hown : s.vm.findClass RX4 = some m.cls := findClass_of_methodNamed B.named
  have hlocks := B.notSynchronized
  have hW : pcS D vwCl A s.heap NL ad (ctO cA c v w u ad) s.heap [] := ⟨hP0, hD, va_S.rf⟩
  have hl := lv_entry ([.ref (ad 7 i)]) (n := 1) (Nat.le_of_ble_eq_true rfl)
  rw [lg_entry_eq]
  generalize (lg_sl ([.ref (ad 7 i)]) ++ List.replicate (1 - (lg_sl ([.ref (ad 7 i)])).length) Slot.unset).toArray = ls at hl ⊢
  have hl : lv_has ls 1 [(0, .ref (ad 7 i))] := hl
  refine lv_aload_n hx hb dX4_workADay_0 rfl (lv_at hl 0 rfl) ?_
  refine lv_dup hx hb dX4_workADay_1 rfl ?_
  refine pc_get (C := RX4) (T := TX4) (N := 6) (ci := 4) hx hb hts (by decide +kernel) hown hX.1 hW.1 7 i (hM.2.2.2.2.2.2.2 i hi) rfl rfl 2 (by decide) (hts (.fieldLink RX4 30 "DraftsmanOffice$WorkPackage" "daysLeft" "I") (by decide +kernel)) (fun _ h9 => h9) rfl dX4_workADay_2 ?_
  refine lv_iconst (v := 1) hx hb dX4_workADay_5 (by decide) ?_
  refine lv_isub hx hb dX4_workADay_6 ?_
  refine pc_put (v := .int ((v 7 i 2) - (1 : Int32))) (C := RX4) (T := TX4) (N := 6) (ci := 4) (ty := .int) hx hb hts (by decide +kernel) tyX4 tyX4_ok nmX4 hown hX.1 hW 7 i (hM.2.2.2.2.2.2.2 i hi) rfl rfl 2 (by decide) (hts (.fieldLink RX4 30 "DraftsmanOffice$WorkPackage" "daysLeft" "I") (by decide +kernel)) (fun _ h9 => h9) rfl (by decide +kernel) rfl rfl (Nat.le_of_ble_eq_true rfl) dX4_workADay_7 (fun H locs hW => ?_)
  have hW : pcS D vwCl A s.heap NL ad (ctO cA c (uV v 7 i 2 ((v 7 i 2) - (1 : Int32))) w u ad) H locs := pcS_eq hW ctO_put_7_2
  refine lv_aload_n hx hb dX4_workADay_10 rfl (lv_at hl 0 rfl) ?_
  refine pc_get (C := RX4) (T := TX4) (N := 6) (ci := 4) hx hb hts (by decide +kernel) hown hX.1 hW.1 7 i (hM.2.2.2.2.2.2.2 i hi) rfl rfl 2 (by decide) (hts (.fieldLink RX4 30 "DraftsmanOffice$WorkPackage" "daysLeft" "I") (by decide +kernel)) (fun _ h9 => h9) rfl dX4_workADay_11 ?_
  refine lv_if_gt (tgt := 22) hx hb dX4_workADay_14 (by decide) (fun (c230 : 0 < ((uV v 7 i 2 ((v 7 i 2) - (1 : Int32))) 7 i 2)) => ?_) (fun (c230 : ¬ 0 < ((uV v 7 i 2 ((v 7 i 2) - (1 : Int32))) 7 i 2)) => ?_)
  · have e9v : V_X4_workADay c v w i = (uV v 7 i 2 ((v 7 i 2) - (1 : Int32))) := (by unfold V_X4_workADay; rw [if_pos c230])
    exact W.vret hx hb hr (fun t ht hW9 => ⟨⟨(), rfl, trivial, (by show va_P D vwCl (pcW NL ad (ctO cA c (V_X4_workADay c v w i) w u ad)) t.heap; rw [e9v]; rw [ht]; exact hW.1)⟩, hW.2.2.F ht⟩) hW.2.2.2.2 dX4_workADay_22
  · refine lv_aload_n hx hb dX4_workADay_17 rfl (lv_at hl 0 rfl) ?_
    refine lv_iconst (v := 3) hx hb dX4_workADay_18 (by decide) ?_
    refine pc_put (v := .int 3) (C := RX4) (T := TX4) (N := 6) (ci := 4) (ty := .int) hx hb hts (by decide +kernel) tyX4 tyX4_ok nmX4 hown hX.1 hW 7 i (hM.2.2.2.2.2.2.2 i hi) rfl rfl 4 (by decide) (hts (.fieldLink RX4 17 "DraftsmanOffice$WorkPackage" "state" "I") (by decide +kernel)) (fun _ h9 => h9) rfl (by decide +kernel) rfl rfl (Nat.le_of_ble_eq_true rfl) dX4_workADay_19 (fun H locs hW => ?_)
    have hW : pcS D vwCl A s.heap NL ad (ctO cA c (uV (uV v 7 i 2 ((v 7 i 2) - (1 : Int32))) 7 i 3 3) w u ad) H locs := pcS_eq hW ctO_put_7_4
    have e9v : V_X4_workADay c v w i = (uV (uV v 7 i 2 ((v 7 i 2) - (1 : Int32))) 7 i 3 3) := (by unfold V_X4_workADay; rw [if_neg c230])
    exact W.vret hx hb hr (fun t ht hW9 => ⟨⟨(), rfl, trivial, (by show va_P D vwCl (pcW NL ad (ctO cA c (V_X4_workADay c v w i) w u ad)) t.heap; rw [e9v]; rw [ht]; exact hW.1)⟩, hW.2.2.F ht⟩) hW.2.2.2.2 dX4_workADay_22

theorem wf_workADay {c : SC} {v : SV} {w : SW} {i : Nat} (h : WF c v) : WF c (V_X4_workADay c v w i) := WF_of h (fun j => by unfold V_X4_workADay; repeat' split
                                                                                                                     all_goals exact ⟨rfl, rfl, rfl⟩)

def VL_X5_stopUnfit (c : SC) (v : SV) (w : SW)   : Nat → Nat → SV → SV
  | 0, _, Vs236 => Vs236
  | k233 + 1, i232, Vs236 => VL_X5_stopUnfit c v w k233 (i232 + 1) (if (F_X5_isIn (F_X5_unfitRunning c v w) (nI i232)) = 0 then Vs236 else (uV (uV Vs236 7 i232 3 2) 7 i232 4 ((Vs236 7 i232 4) + (1 : Int32))))
def F_X5_stopUnfit (c : SC) (v : SV) (w : SW)  : Int32 := (F_J6_bitCount_0f7a4 (F_X5_unfitRunning c v w))
def V_X5_stopUnfit (c : SC) (v : SV) (w : SW)  : SV := (VL_X5_stopUnfit c v w (c 4) 0 v)

set_option maxHeartbeats 4000000 in
set_option maxRecDepth 100000 in
theorem m_X5_stopUnfit (l : Launch) (D : va_G) (cA : Nat → ClassId) (NL : List (Nat × Nat)) (c : SC) (v : SV) (w : SW) (u : Nat → Int32) (ad : Nat → Nat → Nat) (A : Nat → Prop)  (hM : MEM c NL) (hBd : BND c) (hF : WF c v) : Met l yX5_stopUnfit wsX5_stopUnfit ({ frames := 6, cells := 0, slots := 0, locals := 141 }) (pcPre D vwCl (tyL cA) [.ref (ad 5 0)] (fun H => va_P D vwCl (pcW NL ad (ctO cA c v w u ad)) H ∧ va_D A (pcW NL ad (ctO cA c v w u ad)) ∧ ∀ q, H.size ≤ q → A q)) (va_Qi (fun (r : Int32) (_ : Unit) => r = F_X5_stopUnfit c v w) (fun (_ : Unit) t => va_P D vwCl (pcW NL ad (ctO cA c (V_X5_stopUnfit c v w) w u ad)) t.heap) A) 0 0 A := by
  refine Met.ofW (cc := cX5_stopUnfit) (maxL := 3) (ret := (some .int)) (by decide) rfl ?_
  intro p e s m args below meth c0 s₁ B hml hv
  obtain ⟨rfl, hX, hP0, hD, hA⟩ := hv
  have hx := B.exec
  have hb := B.bytes
  have hr := B.returns
  have hts := atoms_spec (ws := wsX5_stopUnfit) B.pre
  have hown : s.vm.findClass RX5 = some m.cls := findClass_of_methodNamed B.named
  have hlocks := B.notSynchronized
  have hW : pcS D vwCl A s.heap NL ad (ctO cA c v w u ad) s.heap [] := ⟨hP0, hD, va_S.rf⟩
  have hl := lv_entry ([.ref (ad 5 0)]) (n := 3) (Nat.le_of_ble_eq_true rfl)
  rw [lg_entry_eq]
  generalize (lg_sl ([.ref (ad 5 0)]) ++ List.replicate (3 - (lg_sl ([.ref (ad 5 0)])).length) Slot.unset).toArray = ls at hl ⊢
  have hl : lv_has ls 3 [(0, .ref (ad 5 0))] := hl
  refine lv_aload_n hx hb dX5_stopUnfit_0 rfl (lv_at hl 0 rfl) ?_
  refine pc_rcalli (va_runV (As := []) (rest := []) ⟨hx, hb, hml, hown, hts⟩ (r_X5_unfitRunning l D cA NL c v w u ad  hM hBd hF ) (cwV 0 hts gX5_stopUnfit_X5_unfitRunning rfl rfl rfl (by decide +kernel) ⟨Nat.le_of_ble_eq_true rfl, Nat.le_of_ble_eq_true rfl⟩) (pc_preV pcN_ok hX hW.1 hM.1 rfl rfl hW.1) rfl rfl hl.1 rfl (lv_room (Nat.le_of_ble_eq_true rfl)) dX5_stopUnfit_1 ⟨Nat.le_of_ble_eq_true rfl, Nat.le_of_ble_eq_true rfl⟩) hW (fun r231 H locs hwr231 hW => ?_)
  subst hwr231
  refine lv_istore_n (lv' := [(1, .int (F_X5_unfitRunning c v w)), (0, .ref (ad 5 0))]) hx hb dX5_stopUnfit_4 rfl hl (by decide) rfl (fun ls hl => ?_)
  refine lv_iconst (v := 0) hx hb dX5_stopUnfit_5 (by decide) ?_
  refine lv_istore_n (lv' := [(2, .int 0), (1, .int (F_X5_unfitRunning c v w)), (0, .ref (ad 5 0))]) hx hb dX5_stopUnfit_6 rfl hl (by decide) rfl (fun ls hl => ?_)
  have K235 : ∀ (k233 i232 : Nat) (Vs236 : SV) (H : Heap) (locs : List Loc) (ls : Array Slot), i232 + k233 = c 4 → (VL_X5_stopUnfit c v w k233 i232 Vs236) = (VL_X5_stopUnfit c v w (c 4) 0 v) → pcS D vwCl A s.heap NL ad (ctO cA c Vs236 w u ad) H locs → lv_has ls 3 [(2, .int (nI i232)), (1, .int (F_X5_unfitRunning c v w)), (0, .ref (ad 5 0))] → W p l e (headSpec wsX5_stopUnfit ({ frames := 6, cells := 0, slots := 0, locals := 141 })).room s m ([.ref (ad 5 0)] : List Value).toArray below meth c0 H locs 0 0 (MQ below (va_Qi (fun (r : Int32) (_ : Unit) => r = F_X5_stopUnfit c v w) (fun (_ : Unit) t => va_P D vwCl (pcW NL ad (ctO cA c (V_X5_stopUnfit c v w) w u ad)) t.heap) A) ([.ref (ad 5 0)] : List Value).toArray s 0 0 A) (F0 m 7 ls []) := by
    intro k233
    induction k233 with
    | zero =>
      intro i232 Vs236 H locs ls hk heV hW hl
      have ei : i232 = c 4 := by omega
      rw [ei] at hl
      obtain rfl : Vs236 = (VL_X5_stopUnfit c v w (c 4) 0 v) := heV
      refine lv_iload_n hx hb dX5_stopUnfit_7 rfl (lv_at hl 0 rfl) ?_
      refine lv_aload_n hx hb dX5_stopUnfit_8 rfl (lv_at hl 2 rfl) ?_
      refine pc_get (C := RX5) (T := TX5) (N := 13) (ci := 5) hx hb hts (by decide +kernel) hown hX.1 hW.1 5 0 hM.1 rfl rfl 11 (by decide) (hts (.fieldLink RX5 61 "DraftsmanOffice" "packageCount" "I") (by decide +kernel)) (fun _ h9 => h9) rfl dX5_stopUnfit_9 ?_
      refine lv_icmp_ge (tgt := 54) hx hb dX5_stopUnfit_12 (by decide) (fun _ => ?_) (fun c237 => absurd (Int32.le_refl _) c237)
      refine lv_iload_n hx hb dX5_stopUnfit_54 rfl (lv_at hl 1 rfl) ?_
      refine pc_rcalli (va_runS (As := [.int (F_X5_unfitRunning c v w)]) (rest := []) ⟨hx, hb, hml, hown, hts⟩ (r_J6_bitCount_0f7a4 l D cA (F_X5_unfitRunning c v w) ) (va_cwS 1 hts gX5_stopUnfit_J6_bitCount_0f7a4 rfl rfl rfl (by decide +kernel) ⟨Nat.le_of_ble_eq_true rfl, Nat.le_of_ble_eq_true rfl⟩) (pc_preS pcN_ok hX trivial) rfl rfl hl.1 rfl (lv_room (Nat.le_of_ble_eq_true rfl)) dX5_stopUnfit_55 ⟨Nat.le_of_ble_eq_true rfl, Nat.le_of_ble_eq_true rfl⟩) hW (fun r238 H locs hwr238 hW => ?_)
      subst hwr238
      have e9v : V_X5_stopUnfit c v w = (VL_X5_stopUnfit c v w (c 4) 0 v) := rfl
      exact W.iret (v := (F_J6_bitCount_0f7a4 (F_X5_unfitRunning c v w))) hx hb hr (fun t ht hW9 => ⟨⟨(F_J6_bitCount_0f7a4 (F_X5_unfitRunning c v w)), (), rfl, rfl, (by show va_P D vwCl (pcW NL ad (ctO cA c (V_X5_stopUnfit c v w) w u ad)) t.heap; rw [e9v]; rw [ht]; exact hW.1)⟩, hW.2.2.F ht⟩) hW.2.2.2.2 dX5_stopUnfit_58
    | succ k233 ihk233 =>
      intro i232 Vs236 H locs ls hk heV hW hl
      have hlt : i232 < c 4 := by omega
      have hlt9i232 := hlt
      refine lv_iload_n hx hb dX5_stopUnfit_7 rfl (lv_at hl 0 rfl) ?_
      refine lv_aload_n hx hb dX5_stopUnfit_8 rfl (lv_at hl 2 rfl) ?_
      refine pc_get (C := RX5) (T := TX5) (N := 13) (ci := 5) hx hb hts (by decide +kernel) hown hX.1 hW.1 5 0 hM.1 rfl rfl 11 (by decide) (hts (.fieldLink RX5 61 "DraftsmanOffice" "packageCount" "I") (by decide +kernel)) (fun _ h9 => h9) rfl dX5_stopUnfit_9 ?_
      refine lv_icmp_ge (tgt := 54) hx hb dX5_stopUnfit_12 (by decide) (fun c239 => absurd c239 (nI_ge hlt (Nat.lt_of_le_of_lt hBd.2.2.2.2 (by decide)))) (fun _ => ?_)
      refine lv_iload_n hx hb dX5_stopUnfit_15 rfl (lv_at hl 1 rfl) ?_
      refine lv_iload_n hx hb dX5_stopUnfit_16 rfl (lv_at hl 0 rfl) ?_
      refine pc_rcalli (va_runS (As := [.int (F_X5_unfitRunning c v w), .int (nI i232)]) (rest := []) ⟨hx, hb, hml, hown, hts⟩ (r_X5_isIn l D cA (F_X5_unfitRunning c v w) (nI i232) ) (va_cwS 2 hts gX5_stopUnfit_X5_isIn rfl rfl rfl (by decide +kernel) ⟨Nat.le_of_ble_eq_true rfl, Nat.le_of_ble_eq_true rfl⟩) (pc_preS pcN_ok hX trivial) rfl rfl hl.1 rfl (lv_room (Nat.le_of_ble_eq_true rfl)) dX5_stopUnfit_17 ⟨Nat.le_of_ble_eq_true rfl, Nat.le_of_ble_eq_true rfl⟩) hW (fun r240 H locs hwr240 hW => ?_)
      subst hwr240
      refine lv_if_eq (tgt := 48) hx hb dX5_stopUnfit_20 (by decide) (fun (c241 : (F_X5_isIn (F_X5_unfitRunning c v w) (nI i232)) = 0) => ?_) (fun (c241 : ¬ (F_X5_isIn (F_X5_unfitRunning c v w) (nI i232)) = 0) => ?_)
      · refine lv_iinc (v := nI (i232 + 1)) (lv' := [(2, .int (nI (i232 + 1))), (1, .int (F_X5_unfitRunning c v w)), (0, .ref (ad 5 0))]) hx hb dX5_stopUnfit_48 hl (k := 0) rfl (nI_1 i232) (by decide) rfl (fun ls hl => ?_)
        refine lv_goto (tgt := 7) hx hb dX5_stopUnfit_51 (by decide) ?_
        have he9V : (VL_X5_stopUnfit c v w k233 (i232 + 1) Vs236) = (VL_X5_stopUnfit c v w (c 4) 0 v) := by rw [← heV]; show (VL_X5_stopUnfit c v w k233 (i232 + 1) Vs236) = (VL_X5_stopUnfit c v w (k233 + 1) i232 Vs236); simp only [VL_X5_stopUnfit, if_pos c241]
        exact ihk233 (i232 + 1) Vs236  H locs ls (by omega) he9V hW (lv_sub hl [0, 1, 2] rfl)
      · refine lv_aload_n hx hb dX5_stopUnfit_23 rfl (lv_at hl 2 rfl) ?_
        refine pc_get (C := RX5) (T := TX5) (N := 13) (ci := 5) hx hb hts (by decide +kernel) hown hX.1 hW.1 5 0 hM.1 rfl rfl 4 (by decide) (hts (.fieldLink RX5 35 "DraftsmanOffice" "packages" "[LDraftsmanOffice$WorkPackage;") (by decide +kernel)) (fun _ h9 => h9) rfl dX5_stopUnfit_24 ?_
        refine lv_iload_n hx hb dX5_stopUnfit_27 rfl (lv_at hl 0 rfl) ?_
        refine pc_aald (r := .ref (ad 7 i232)) hx hb hX.1 hW.1 54 0 7 (hM.2.1 54 (by decide) (by decide)) rfl rfl rfl (vp_in_nI (Nat.lt_of_lt_of_le hlt9i232 hBd.2.2.2.2) (by decide)) (by rw [nI_clamp (Nat.lt_of_lt_of_le (Nat.lt_of_lt_of_le hlt9i232 hBd.2.2.2.2) (by decide)), sRf_in hlt9i232]; rfl) dX5_stopUnfit_28 ?_
        refine lv_iconst (v := 2) hx hb dX5_stopUnfit_29 (by decide) ?_
        refine pc_putN (v := .int 2) (C := RX4) (T := TX4) (N := 6) (ci := 4) (ty := .int) hx hb hts (by decide +kernel) tyX4 tyX4_ok nmX4 hown hX.1 hW 7 i232 (hM.2.2.2.2.2.2.2 i232 hlt9i232) rfl rfl 4 (by decide) (hX.2.1 (.fieldLinkNest RX5 264 "DraftsmanOffice$WorkPackage" "state" "I" R_host) (by decide +kernel)) (fun _ h9 => h9) rfl (by decide +kernel) rfl rfl (Nat.le_of_ble_eq_true rfl) dX5_stopUnfit_30 (fun H locs hW => ?_)
        have hW : pcS D vwCl A s.heap NL ad (ctO cA c (uV Vs236 7 i232 3 2) w u ad) H locs := pcS_eq hW ctO_put_7_4
        refine lv_aload_n hx hb dX5_stopUnfit_33 rfl (lv_at hl 2 rfl) ?_
        refine pc_get (C := RX5) (T := TX5) (N := 13) (ci := 5) hx hb hts (by decide +kernel) hown hX.1 hW.1 5 0 hM.1 rfl rfl 4 (by decide) (hts (.fieldLink RX5 35 "DraftsmanOffice" "packages" "[LDraftsmanOffice$WorkPackage;") (by decide +kernel)) (fun _ h9 => h9) rfl dX5_stopUnfit_34 ?_
        refine lv_iload_n hx hb dX5_stopUnfit_37 rfl (lv_at hl 0 rfl) ?_
        refine pc_aald (r := .ref (ad 7 i232)) hx hb hX.1 hW.1 54 0 7 (hM.2.1 54 (by decide) (by decide)) rfl rfl rfl (vp_in_nI (Nat.lt_of_lt_of_le hlt9i232 hBd.2.2.2.2) (by decide)) (by rw [nI_clamp (Nat.lt_of_lt_of_le (Nat.lt_of_lt_of_le hlt9i232 hBd.2.2.2.2) (by decide)), sRf_in hlt9i232]; rfl) dX5_stopUnfit_38 ?_
        refine lv_dup hx hb dX5_stopUnfit_39 rfl ?_
        refine pc_getN (C := RX4) (T := TX4) (N := 6) (ci := 4) hx hb hts (by decide +kernel) hown hX.1 hW.1 7 i232 (hM.2.2.2.2.2.2.2 i232 hlt9i232) rfl rfl 5 (by decide) (hX.2.1 (.fieldLinkNest RX5 298 "DraftsmanOffice$WorkPackage" "stops" "I" R_host) (by decide +kernel)) (fun _ h9 => h9) rfl dX5_stopUnfit_40 ?_
        refine lv_iconst (v := 1) hx hb dX5_stopUnfit_43 (by decide) ?_
        refine lv_iadd hx hb dX5_stopUnfit_44 ?_
        refine pc_putN (v := .int ((Vs236 7 i232 4) + (1 : Int32))) (C := RX4) (T := TX4) (N := 6) (ci := 4) (ty := .int) hx hb hts (by decide +kernel) tyX4 tyX4_ok nmX4 hown hX.1 hW 7 i232 (hM.2.2.2.2.2.2.2 i232 hlt9i232) rfl rfl 5 (by decide) (hX.2.1 (.fieldLinkNest RX5 298 "DraftsmanOffice$WorkPackage" "stops" "I" R_host) (by decide +kernel)) (fun _ h9 => h9) rfl (by decide +kernel) rfl rfl (Nat.le_of_ble_eq_true rfl) dX5_stopUnfit_45 (fun H locs hW => ?_)
        have hW : pcS D vwCl A s.heap NL ad (ctO cA c (uV (uV Vs236 7 i232 3 2) 7 i232 4 ((Vs236 7 i232 4) + (1 : Int32))) w u ad) H locs := pcS_eq hW ctO_put_7_5
        refine lv_iinc (v := nI (i232 + 1)) (lv' := [(2, .int (nI (i232 + 1))), (1, .int (F_X5_unfitRunning c v w)), (0, .ref (ad 5 0))]) hx hb dX5_stopUnfit_48 hl (k := 0) rfl (nI_1 i232) (by decide) rfl (fun ls hl => ?_)
        refine lv_goto (tgt := 7) hx hb dX5_stopUnfit_51 (by decide) ?_
        have he9V : (VL_X5_stopUnfit c v w k233 (i232 + 1) (uV (uV Vs236 7 i232 3 2) 7 i232 4 ((Vs236 7 i232 4) + (1 : Int32)))) = (VL_X5_stopUnfit c v w (c 4) 0 v) := by rw [← heV]; show (VL_X5_stopUnfit c v w k233 (i232 + 1) (uV (uV Vs236 7 i232 3 2) 7 i232 4 ((Vs236 7 i232 4) + (1 : Int32)))) = (VL_X5_stopUnfit c v w (k233 + 1) i232 Vs236); simp only [VL_X5_stopUnfit, if_neg c241]
        exact ihk233 (i232 + 1) (uV (uV Vs236 7 i232 3 2) 7 i232 4 ((Vs236 7 i232 4) + (1 : Int32)))  H locs ls (by omega) he9V hW (lv_sub hl [0, 1, 2] rfl)
  exact K235 (c 4) 0 v _ _ ls (by omega) rfl hW (lv_sub hl [0, 1, 2] rfl)

theorem wfl_stopUnfit {c : SC} {v : SV} {w : SW}  : ∀ (k i : Nat) (V : SV) (j : Nat), VL_X5_stopUnfit c v w k i V 2 j 1 = V 2 j 1 ∧ VL_X5_stopUnfit c v w k i V 7 j 0 = V 7 j 0 ∧ VL_X5_stopUnfit c v w k i V 1 j 1 = V 1 j 1 := by
  intro k
  induction k with
  | zero => intro i V j; exact ⟨rfl, rfl, rfl⟩
  | succ k ih =>
    intro i V j
    have e : VL_X5_stopUnfit c v w (k + 1) i V = VL_X5_stopUnfit c v w k (i + 1) _ := rfl
    rw [e, (ih (i + 1) _ j).1, (ih (i + 1) _ j).2.1, (ih (i + 1) _ j).2.2]
    repeat' split
    all_goals exact ⟨rfl, rfl, rfl⟩
theorem wf_stopUnfit {c : SC} {v : SV} {w : SW} (h : WF c v) : WF c (V_X5_stopUnfit c v w) := WF_of h (fun j => wfl_stopUnfit (c := c) (v := v) (w := w) _ _ _ j)

def VL_X5_mark (c : SC) (v : SV) (w : SW)  (x1 : Int32) : Nat → Nat → SV → SV
  | 0, _, Vs246 => Vs246
  | k243 + 1, i242, Vs246 => VL_X5_mark c v w x1 k243 (i242 + 1) (if (F_X5_isIn x1 (nI i242)) = 0 then Vs246 else (uV Vs246 1 i242 5 ((Vs246 1 i242 5) + (1 : Int32))))
def V_X5_mark (c : SC) (v : SV) (w : SW) (x1 : Int32) : SV := (VL_X5_mark c v w x1 (c 0) 0 v)

set_option maxHeartbeats 4000000 in
set_option maxRecDepth 100000 in
theorem m_X5_mark (l : Launch) (D : va_G) (cA : Nat → ClassId) (NL : List (Nat × Nat)) (c : SC) (v : SV) (w : SW) (u : Nat → Int32) (ad : Nat → Nat → Nat) (A : Nat → Prop) (x1 : Int32) (hM : MEM c NL) (hBd : BND c) : Met l yX5_mark wsX5_mark ({ frames := 1, cells := 0, slots := 0, locals := 21 }) (pcPre D vwCl (tyL cA) [.ref (ad 5 0), .int x1] (fun H => va_P D vwCl (pcW NL ad (ctO cA c v w u ad)) H ∧ va_D A (pcW NL ad (ctO cA c v w u ad)) ∧ ∀ q, H.size ≤ q → A q)) (va_Qv (fun (_ : Unit) => True) (fun (_ : Unit) t => va_P D vwCl (pcW NL ad (ctO cA c (V_X5_mark c v w x1) w u ad)) t.heap) A) 0 0 A := by
  refine Met.ofW (cc := cX5_mark) (maxL := 3) (ret := none) (by decide) rfl ?_
  intro p e s m args below meth c0 s₁ B hml hv
  obtain ⟨rfl, hX, hP0, hD, hA⟩ := hv
  have hx := B.exec
  have hb := B.bytes
  have hr := B.returns
  have hts := atoms_spec (ws := wsX5_mark) B.pre
  have hown : s.vm.findClass RX5 = some m.cls := findClass_of_methodNamed B.named
  have hlocks := B.notSynchronized
  have hW : pcS D vwCl A s.heap NL ad (ctO cA c v w u ad) s.heap [] := ⟨hP0, hD, va_S.rf⟩
  have hl := lv_entry ([.ref (ad 5 0), .int x1]) (n := 3) (Nat.le_of_ble_eq_true rfl)
  rw [lg_entry_eq]
  generalize (lg_sl ([.ref (ad 5 0), .int x1]) ++ List.replicate (3 - (lg_sl ([.ref (ad 5 0), .int x1])).length) Slot.unset).toArray = ls at hl ⊢
  have hl : lv_has ls 3 [(0, .ref (ad 5 0)), (1, .int x1)] := hl
  refine lv_iconst (v := 0) hx hb dX5_mark_0 (by decide) ?_
  refine lv_istore_n (lv' := [(2, .int 0), (0, .ref (ad 5 0)), (1, .int x1)]) hx hb dX5_mark_1 rfl hl (by decide) rfl (fun ls hl => ?_)
  have K245 : ∀ (k243 i242 : Nat) (Vs246 : SV) (H : Heap) (locs : List Loc) (ls : Array Slot), i242 + k243 = c 0 → (VL_X5_mark c v w x1 k243 i242 Vs246) = (VL_X5_mark c v w x1 (c 0) 0 v) → pcS D vwCl A s.heap NL ad (ctO cA c Vs246 w u ad) H locs → lv_has ls 3 [(2, .int (nI i242)), (0, .ref (ad 5 0)), (1, .int x1)] → W p l e (headSpec wsX5_mark ({ frames := 1, cells := 0, slots := 0, locals := 21 })).room s m ([.ref (ad 5 0), .int x1] : List Value).toArray below meth c0 H locs 0 0 (MQ below (va_Qv (fun (_ : Unit) => True) (fun (_ : Unit) t => va_P D vwCl (pcW NL ad (ctO cA c (V_X5_mark c v w x1) w u ad)) t.heap) A) ([.ref (ad 5 0), .int x1] : List Value).toArray s 0 0 A) (F0 m 2 ls []) := by
    intro k243
    induction k243 with
    | zero =>
      intro i242 Vs246 H locs ls hk heV hW hl
      have ei : i242 = c 0 := by omega
      rw [ei] at hl
      obtain rfl : Vs246 = (VL_X5_mark c v w x1 (c 0) 0 v) := heV
      refine lv_iload_n hx hb dX5_mark_2 rfl (lv_at hl 0 rfl) ?_
      refine lv_aload_n hx hb dX5_mark_3 rfl (lv_at hl 1 rfl) ?_
      refine pc_get (C := RX5) (T := TX5) (N := 13) (ci := 5) hx hb hts (by decide +kernel) hown hX.1 hW.1 5 0 hM.1 rfl rfl 7 (by decide) (hts (.fieldLink RX5 48 "DraftsmanOffice" "sheetCount" "I") (by decide +kernel)) (fun _ h9 => h9) rfl dX5_mark_4 ?_
      refine lv_icmp_ge (tgt := 39) hx hb dX5_mark_7 (by decide) (fun _ => ?_) (fun c247 => absurd (Int32.le_refl _) c247)
      have e9v : V_X5_mark c v w x1 = (VL_X5_mark c v w x1 (c 0) 0 v) := rfl
      exact W.vret hx hb hr (fun t ht hW9 => ⟨⟨(), rfl, trivial, (by show va_P D vwCl (pcW NL ad (ctO cA c (V_X5_mark c v w x1) w u ad)) t.heap; rw [e9v]; rw [ht]; exact hW.1)⟩, hW.2.2.F ht⟩) hW.2.2.2.2 dX5_mark_39
    | succ k243 ihk243 =>
      intro i242 Vs246 H locs ls hk heV hW hl
      have hlt : i242 < c 0 := by omega
      have hlt9i242 := hlt
      refine lv_iload_n hx hb dX5_mark_2 rfl (lv_at hl 0 rfl) ?_
      refine lv_aload_n hx hb dX5_mark_3 rfl (lv_at hl 1 rfl) ?_
      refine pc_get (C := RX5) (T := TX5) (N := 13) (ci := 5) hx hb hts (by decide +kernel) hown hX.1 hW.1 5 0 hM.1 rfl rfl 7 (by decide) (hts (.fieldLink RX5 48 "DraftsmanOffice" "sheetCount" "I") (by decide +kernel)) (fun _ h9 => h9) rfl dX5_mark_4 ?_
      refine lv_icmp_ge (tgt := 39) hx hb dX5_mark_7 (by decide) (fun c248 => absurd c248 (nI_ge hlt (Nat.lt_of_le_of_lt hBd.1 (by decide)))) (fun _ => ?_)
      refine lv_iload_n hx hb dX5_mark_10 rfl (lv_at hl 2 rfl) ?_
      refine lv_iload_n hx hb dX5_mark_11 rfl (lv_at hl 0 rfl) ?_
      refine pc_rcalli (va_runS (As := [.int x1, .int (nI i242)]) (rest := []) ⟨hx, hb, hml, hown, hts⟩ (r_X5_isIn l D cA x1 (nI i242) ) (va_cwS 2 hts gX5_mark_X5_isIn rfl rfl rfl (by decide +kernel) ⟨Nat.le_of_ble_eq_true rfl, Nat.le_of_ble_eq_true rfl⟩) (pc_preS pcN_ok hX trivial) rfl rfl hl.1 rfl (lv_room (Nat.le_of_ble_eq_true rfl)) dX5_mark_12 ⟨Nat.le_of_ble_eq_true rfl, Nat.le_of_ble_eq_true rfl⟩) hW (fun r249 H locs hwr249 hW => ?_)
      subst hwr249
      refine lv_if_eq (tgt := 33) hx hb dX5_mark_15 (by decide) (fun (c250 : (F_X5_isIn x1 (nI i242)) = 0) => ?_) (fun (c250 : ¬ (F_X5_isIn x1 (nI i242)) = 0) => ?_)
      · refine lv_iinc (v := nI (i242 + 1)) (lv' := [(2, .int (nI (i242 + 1))), (0, .ref (ad 5 0)), (1, .int x1)]) hx hb dX5_mark_33 hl (k := 0) rfl (nI_1 i242) (by decide) rfl (fun ls hl => ?_)
        refine lv_goto (tgt := 2) hx hb dX5_mark_36 (by decide) ?_
        have he9V : (VL_X5_mark c v w x1 k243 (i242 + 1) Vs246) = (VL_X5_mark c v w x1 (c 0) 0 v) := by rw [← heV]; show (VL_X5_mark c v w x1 k243 (i242 + 1) Vs246) = (VL_X5_mark c v w x1 (k243 + 1) i242 Vs246); simp only [VL_X5_mark, if_pos c250]
        exact ihk243 (i242 + 1) Vs246  H locs ls (by omega) he9V hW (lv_sub hl [0, 1, 2] rfl)
      · refine lv_aload_n hx hb dX5_mark_18 rfl (lv_at hl 1 rfl) ?_
        refine pc_get (C := RX5) (T := TX5) (N := 13) (ci := 5) hx hb hts (by decide +kernel) hown hX.1 hW.1 5 0 hM.1 rfl rfl 0 (by decide) (hts (.fieldLink RX5 11 "DraftsmanOffice" "sheets" "[LDraftsmanOffice$Sheet;") (by decide +kernel)) (fun _ h9 => h9) rfl dX5_mark_19 ?_
        refine lv_iload_n hx hb dX5_mark_22 rfl (lv_at hl 0 rfl) ?_
        refine pc_aald (r := .ref (ad 1 i242)) hx hb hX.1 hW.1 50 0 3 (hM.2.1 50 (by decide) (by decide)) rfl rfl rfl (vp_in_nI (Nat.lt_of_lt_of_le hlt9i242 hBd.1) (by decide)) (by rw [nI_clamp (Nat.lt_of_lt_of_le (Nat.lt_of_lt_of_le hlt9i242 hBd.1) (by decide)), sRf_in hlt9i242]; rfl) dX5_mark_23 ?_
        refine lv_dup hx hb dX5_mark_24 rfl ?_
        refine pc_getN (C := RX3) (T := TX3) (N := 10) (ci := 3) hx hb hts (by decide +kernel) hown hX.1 hW.1 1 i242 (hM.2.2.2.1 i242 hlt9i242).1 rfl rfl 8 (by decide) (hX.2.1 (.fieldLinkNest RX5 166 "DraftsmanOffice$Sheet" "marks" "I" R_host) (by decide +kernel)) (fun _ h9 => h9) rfl dX5_mark_25 ?_
        refine lv_iconst (v := 1) hx hb dX5_mark_28 (by decide) ?_
        refine lv_iadd hx hb dX5_mark_29 ?_
        refine pc_putN (v := .int ((Vs246 1 i242 5) + (1 : Int32))) (C := RX3) (T := TX3) (N := 10) (ci := 3) (ty := .int) hx hb hts (by decide +kernel) tyX3 tyX3_ok nmX3 hown hX.1 hW 1 i242 (hM.2.2.2.1 i242 hlt9i242).1 rfl rfl 8 (by decide) (hX.2.1 (.fieldLinkNest RX5 166 "DraftsmanOffice$Sheet" "marks" "I" R_host) (by decide +kernel)) (fun _ h9 => h9) rfl (by decide +kernel) rfl rfl (Nat.le_of_ble_eq_true rfl) dX5_mark_30 (fun H locs hW => ?_)
        have hW : pcS D vwCl A s.heap NL ad (ctO cA c (uV Vs246 1 i242 5 ((Vs246 1 i242 5) + (1 : Int32))) w u ad) H locs := pcS_eq hW ctO_put_1_8
        refine lv_iinc (v := nI (i242 + 1)) (lv' := [(2, .int (nI (i242 + 1))), (0, .ref (ad 5 0)), (1, .int x1)]) hx hb dX5_mark_33 hl (k := 0) rfl (nI_1 i242) (by decide) rfl (fun ls hl => ?_)
        refine lv_goto (tgt := 2) hx hb dX5_mark_36 (by decide) ?_
        have he9V : (VL_X5_mark c v w x1 k243 (i242 + 1) (uV Vs246 1 i242 5 ((Vs246 1 i242 5) + (1 : Int32)))) = (VL_X5_mark c v w x1 (c 0) 0 v) := by rw [← heV]; show (VL_X5_mark c v w x1 k243 (i242 + 1) (uV Vs246 1 i242 5 ((Vs246 1 i242 5) + (1 : Int32)))) = (VL_X5_mark c v w x1 (k243 + 1) i242 Vs246); simp only [VL_X5_mark, if_neg c250]
        exact ihk243 (i242 + 1) (uV Vs246 1 i242 5 ((Vs246 1 i242 5) + (1 : Int32)))  H locs ls (by omega) he9V hW (lv_sub hl [0, 1, 2] rfl)
  exact K245 (c 0) 0 v _ _ ls (by omega) rfl hW (lv_sub hl [0, 1, 2] rfl)

theorem wfl_mark {c : SC} {v : SV} {w : SW} {x1 : Int32} : ∀ (k i : Nat) (V : SV) (j : Nat), VL_X5_mark c v w x1 k i V 2 j 1 = V 2 j 1 ∧ VL_X5_mark c v w x1 k i V 7 j 0 = V 7 j 0 ∧ VL_X5_mark c v w x1 k i V 1 j 1 = V 1 j 1 := by
  intro k
  induction k with
  | zero => intro i V j; exact ⟨rfl, rfl, rfl⟩
  | succ k ih =>
    intro i V j
    have e : VL_X5_mark c v w x1 (k + 1) i V = VL_X5_mark c v w x1 k (i + 1) _ := rfl
    rw [e, (ih (i + 1) _ j).1, (ih (i + 1) _ j).2.1, (ih (i + 1) _ j).2.2]
    repeat' split
    all_goals exact ⟨rfl, rfl, rfl⟩
theorem wf_mark {c : SC} {v : SV} {w : SW} {x1 : Int32} (h : WF c v) : WF c (V_X5_mark c v w x1) := WF_of h (fun j => wfl_mark (c := c) (v := v) (w := w) (x1 := x1) _ _ _ j)

def VL_X5_closePromised (c : SC) (v : SV) (w : SW)  (x1 : Int32) : Nat → Nat → SV → SV
  | 0, _, Vs255 => Vs255
  | k252 + 1, i251, Vs255 => VL_X5_closePromised c v w x1 k252 (i251 + 1) (if (Vs255 4 i251 0) = x1 then (if (Vs255 4 i251 1) = (1 : Int32) then (uV Vs255 4 i251 1 2) else Vs255) else Vs255)
def V_X5_closePromised (c : SC) (v : SV) (w : SW) (x1 : Int32) : SV := (VL_X5_closePromised c v w x1 (c 3) 0 v)

set_option maxHeartbeats 4000000 in
set_option maxRecDepth 100000 in
theorem m_X5_closePromised (l : Launch) (D : va_G) (cA : Nat → ClassId) (NL : List (Nat × Nat)) (c : SC) (v : SV) (w : SW) (u : Nat → Int32) (ad : Nat → Nat → Nat) (A : Nat → Prop) (x1 : Int32) (hM : MEM c NL) (hBd : BND c) : Met l yX5_closePromised wsX5_closePromised ({ frames := 0, cells := 0, slots := 0, locals := 0 }) (pcPre D vwCl (tyL cA) [.ref (ad 5 0), .int x1] (fun H => va_P D vwCl (pcW NL ad (ctO cA c v w u ad)) H ∧ va_D A (pcW NL ad (ctO cA c v w u ad)) ∧ ∀ q, H.size ≤ q → A q)) (va_Qv (fun (_ : Unit) => True) (fun (_ : Unit) t => va_P D vwCl (pcW NL ad (ctO cA c (V_X5_closePromised c v w x1) w u ad)) t.heap) A) 0 0 A := by
  refine Met.ofW (cc := cX5_closePromised) (maxL := 3) (ret := none) (by decide) rfl ?_
  intro p e s m args below meth c0 s₁ B hml hv
  obtain ⟨rfl, hX, hP0, hD, hA⟩ := hv
  have hx := B.exec
  have hb := B.bytes
  have hr := B.returns
  have hts := atoms_spec (ws := wsX5_closePromised) B.pre
  have hown : s.vm.findClass RX5 = some m.cls := findClass_of_methodNamed B.named
  have hlocks := B.notSynchronized
  have hW : pcS D vwCl A s.heap NL ad (ctO cA c v w u ad) s.heap [] := ⟨hP0, hD, va_S.rf⟩
  have hl := lv_entry ([.ref (ad 5 0), .int x1]) (n := 3) (Nat.le_of_ble_eq_true rfl)
  rw [lg_entry_eq]
  generalize (lg_sl ([.ref (ad 5 0), .int x1]) ++ List.replicate (3 - (lg_sl ([.ref (ad 5 0), .int x1])).length) Slot.unset).toArray = ls at hl ⊢
  have hl : lv_has ls 3 [(0, .ref (ad 5 0)), (1, .int x1)] := hl
  refine lv_iconst (v := 0) hx hb dX5_closePromised_0 (by decide) ?_
  refine lv_istore_n (lv' := [(2, .int 0), (0, .ref (ad 5 0)), (1, .int x1)]) hx hb dX5_closePromised_1 rfl hl (by decide) rfl (fun ls hl => ?_)
  have K254 : ∀ (k252 i251 : Nat) (Vs255 : SV) (H : Heap) (locs : List Loc) (ls : Array Slot), i251 + k252 = c 3 → (VL_X5_closePromised c v w x1 k252 i251 Vs255) = (VL_X5_closePromised c v w x1 (c 3) 0 v) → pcS D vwCl A s.heap NL ad (ctO cA c Vs255 w u ad) H locs → lv_has ls 3 [(2, .int (nI i251)), (0, .ref (ad 5 0)), (1, .int x1)] → W p l e (headSpec wsX5_closePromised ({ frames := 0, cells := 0, slots := 0, locals := 0 })).room s m ([.ref (ad 5 0), .int x1] : List Value).toArray below meth c0 H locs 0 0 (MQ below (va_Qv (fun (_ : Unit) => True) (fun (_ : Unit) t => va_P D vwCl (pcW NL ad (ctO cA c (V_X5_closePromised c v w x1) w u ad)) t.heap) A) ([.ref (ad 5 0), .int x1] : List Value).toArray s 0 0 A) (F0 m 2 ls []) := by
    intro k252
    induction k252 with
    | zero =>
      intro i251 Vs255 H locs ls hk heV hW hl
      have ei : i251 = c 3 := by omega
      rw [ei] at hl
      obtain rfl : Vs255 = (VL_X5_closePromised c v w x1 (c 3) 0 v) := heV
      refine lv_iload_n hx hb dX5_closePromised_2 rfl (lv_at hl 0 rfl) ?_
      refine lv_aload_n hx hb dX5_closePromised_3 rfl (lv_at hl 1 rfl) ?_
      refine pc_get (C := RX5) (T := TX5) (N := 13) (ci := 5) hx hb hts (by decide +kernel) hown hX.1 hW.1 5 0 hM.1 rfl rfl 10 (by decide) (hts (.fieldLink RX5 58 "DraftsmanOffice" "queryCount" "I") (by decide +kernel)) (fun _ h9 => h9) rfl dX5_closePromised_4 ?_
      refine lv_icmp_ge (tgt := 52) hx hb dX5_closePromised_7 (by decide) (fun _ => ?_) (fun c256 => absurd (Int32.le_refl _) c256)
      have e9v : V_X5_closePromised c v w x1 = (VL_X5_closePromised c v w x1 (c 3) 0 v) := rfl
      exact W.vret hx hb hr (fun t ht hW9 => ⟨⟨(), rfl, trivial, (by show va_P D vwCl (pcW NL ad (ctO cA c (V_X5_closePromised c v w x1) w u ad)) t.heap; rw [e9v]; rw [ht]; exact hW.1)⟩, hW.2.2.F ht⟩) hW.2.2.2.2 dX5_closePromised_52
    | succ k252 ihk252 =>
      intro i251 Vs255 H locs ls hk heV hW hl
      have hlt : i251 < c 3 := by omega
      have hlt9i251 := hlt
      refine lv_iload_n hx hb dX5_closePromised_2 rfl (lv_at hl 0 rfl) ?_
      refine lv_aload_n hx hb dX5_closePromised_3 rfl (lv_at hl 1 rfl) ?_
      refine pc_get (C := RX5) (T := TX5) (N := 13) (ci := 5) hx hb hts (by decide +kernel) hown hX.1 hW.1 5 0 hM.1 rfl rfl 10 (by decide) (hts (.fieldLink RX5 58 "DraftsmanOffice" "queryCount" "I") (by decide +kernel)) (fun _ h9 => h9) rfl dX5_closePromised_4 ?_
      refine lv_icmp_ge (tgt := 52) hx hb dX5_closePromised_7 (by decide) (fun c257 => absurd c257 (nI_ge hlt (Nat.lt_of_le_of_lt hBd.2.2.2.1 (by decide)))) (fun _ => ?_)
      refine lv_aload_n hx hb dX5_closePromised_10 rfl (lv_at hl 1 rfl) ?_
      refine pc_get (C := RX5) (T := TX5) (N := 13) (ci := 5) hx hb hts (by decide +kernel) hown hX.1 hW.1 5 0 hM.1 rfl rfl 3 (by decide) (hts (.fieldLink RX5 29 "DraftsmanOffice" "queries" "[LDraftsmanOffice$Query;") (by decide +kernel)) (fun _ h9 => h9) rfl dX5_closePromised_11 ?_
      refine lv_iload_n hx hb dX5_closePromised_14 rfl (lv_at hl 0 rfl) ?_
      refine pc_aald (r := .ref (ad 4 i251)) hx hb hX.1 hW.1 53 0 6 (hM.2.1 53 (by decide) (by decide)) rfl rfl rfl (vp_in_nI (Nat.lt_of_lt_of_le hlt9i251 hBd.2.2.2.1) (by decide)) (by rw [nI_clamp (Nat.lt_of_lt_of_le (Nat.lt_of_lt_of_le hlt9i251 hBd.2.2.2.1) (by decide)), sRf_in hlt9i251]; rfl) dX5_closePromised_15 ?_
      refine pc_getN (C := RX0) (T := TX0) (N := 3) (ci := 0) hx hb hts (by decide +kernel) hown hX.1 hW.1 4 i251 (hM.2.2.2.2.2.2.1 i251 hlt9i251) rfl rfl 0 (by decide) (hX.2.1 (.fieldLinkNest RX5 406 "DraftsmanOffice$Query" "sheet" "I" R_host) (by decide +kernel)) (fun _ h9 => h9) rfl dX5_closePromised_16 ?_
      refine lv_iload_n hx hb dX5_closePromised_19 rfl (lv_at hl 2 rfl) ?_
      refine lv_icmp_ne (tgt := 46) hx hb dX5_closePromised_20 (by decide) (fun (c258 : ¬ (Vs255 4 i251 0) = x1) => ?_) (fun (c258 : (Vs255 4 i251 0) = x1) => ?_)
      · refine lv_iinc (v := nI (i251 + 1)) (lv' := [(2, .int (nI (i251 + 1))), (0, .ref (ad 5 0)), (1, .int x1)]) hx hb dX5_closePromised_46 hl (k := 0) rfl (nI_1 i251) (by decide) rfl (fun ls hl => ?_)
        refine lv_goto (tgt := 2) hx hb dX5_closePromised_49 (by decide) ?_
        have he9V : (VL_X5_closePromised c v w x1 k252 (i251 + 1) Vs255) = (VL_X5_closePromised c v w x1 (c 3) 0 v) := by rw [← heV]; show (VL_X5_closePromised c v w x1 k252 (i251 + 1) Vs255) = (VL_X5_closePromised c v w x1 (k252 + 1) i251 Vs255); simp only [VL_X5_closePromised, if_neg c258]
        exact ihk252 (i251 + 1) Vs255  H locs ls (by omega) he9V hW (lv_sub hl [0, 1, 2] rfl)
      · refine lv_aload_n hx hb dX5_closePromised_23 rfl (lv_at hl 1 rfl) ?_
        refine pc_get (C := RX5) (T := TX5) (N := 13) (ci := 5) hx hb hts (by decide +kernel) hown hX.1 hW.1 5 0 hM.1 rfl rfl 3 (by decide) (hts (.fieldLink RX5 29 "DraftsmanOffice" "queries" "[LDraftsmanOffice$Query;") (by decide +kernel)) (fun _ h9 => h9) rfl dX5_closePromised_24 ?_
        refine lv_iload_n hx hb dX5_closePromised_27 rfl (lv_at hl 0 rfl) ?_
        refine pc_aald (r := .ref (ad 4 i251)) hx hb hX.1 hW.1 53 0 6 (hM.2.1 53 (by decide) (by decide)) rfl rfl rfl (vp_in_nI (Nat.lt_of_lt_of_le hlt9i251 hBd.2.2.2.1) (by decide)) (by rw [nI_clamp (Nat.lt_of_lt_of_le (Nat.lt_of_lt_of_le hlt9i251 hBd.2.2.2.1) (by decide)), sRf_in hlt9i251]; rfl) dX5_closePromised_28 ?_
        refine pc_getN (C := RX0) (T := TX0) (N := 3) (ci := 0) hx hb hts (by decide +kernel) hown hX.1 hW.1 4 i251 (hM.2.2.2.2.2.2.1 i251 hlt9i251) rfl rfl 2 (by decide) (hX.2.1 (.fieldLinkNest RX5 237 "DraftsmanOffice$Query" "state" "I" R_host) (by decide +kernel)) (fun _ h9 => h9) rfl dX5_closePromised_29 ?_
        refine lv_iconst (v := 1) hx hb dX5_closePromised_32 (by decide) ?_
        refine lv_icmp_ne (tgt := 46) hx hb dX5_closePromised_33 (by decide) (fun (c259 : ¬ (Vs255 4 i251 1) = (1 : Int32)) => ?_) (fun (c259 : (Vs255 4 i251 1) = (1 : Int32)) => ?_)
        · refine lv_iinc (v := nI (i251 + 1)) (lv' := [(2, .int (nI (i251 + 1))), (0, .ref (ad 5 0)), (1, .int x1)]) hx hb dX5_closePromised_46 hl (k := 0) rfl (nI_1 i251) (by decide) rfl (fun ls hl => ?_)
          refine lv_goto (tgt := 2) hx hb dX5_closePromised_49 (by decide) ?_
          have he9V : (VL_X5_closePromised c v w x1 k252 (i251 + 1) Vs255) = (VL_X5_closePromised c v w x1 (c 3) 0 v) := by rw [← heV]; show (VL_X5_closePromised c v w x1 k252 (i251 + 1) Vs255) = (VL_X5_closePromised c v w x1 (k252 + 1) i251 Vs255); simp only [VL_X5_closePromised, if_pos c258, if_neg c259]
          exact ihk252 (i251 + 1) Vs255  H locs ls (by omega) he9V hW (lv_sub hl [0, 1, 2] rfl)
        · refine lv_aload_n hx hb dX5_closePromised_36 rfl (lv_at hl 1 rfl) ?_
          refine pc_get (C := RX5) (T := TX5) (N := 13) (ci := 5) hx hb hts (by decide +kernel) hown hX.1 hW.1 5 0 hM.1 rfl rfl 3 (by decide) (hts (.fieldLink RX5 29 "DraftsmanOffice" "queries" "[LDraftsmanOffice$Query;") (by decide +kernel)) (fun _ h9 => h9) rfl dX5_closePromised_37 ?_
          refine lv_iload_n hx hb dX5_closePromised_40 rfl (lv_at hl 0 rfl) ?_
          refine pc_aald (r := .ref (ad 4 i251)) hx hb hX.1 hW.1 53 0 6 (hM.2.1 53 (by decide) (by decide)) rfl rfl rfl (vp_in_nI (Nat.lt_of_lt_of_le hlt9i251 hBd.2.2.2.1) (by decide)) (by rw [nI_clamp (Nat.lt_of_lt_of_le (Nat.lt_of_lt_of_le hlt9i251 hBd.2.2.2.1) (by decide)), sRf_in hlt9i251]; rfl) dX5_closePromised_41 ?_
          refine lv_iconst (v := 2) hx hb dX5_closePromised_42 (by decide) ?_
          refine pc_putN (v := .int 2) (C := RX0) (T := TX0) (N := 3) (ci := 0) (ty := .int) hx hb hts (by decide +kernel) tyX0 tyX0_ok nmX0 hown hX.1 hW 4 i251 (hM.2.2.2.2.2.2.1 i251 hlt9i251) rfl rfl 2 (by decide) (hX.2.1 (.fieldLinkNest RX5 237 "DraftsmanOffice$Query" "state" "I" R_host) (by decide +kernel)) (fun _ h9 => h9) rfl (by decide +kernel) rfl rfl (Nat.le_of_ble_eq_true rfl) dX5_closePromised_43 (fun H locs hW => ?_)
          have hW : pcS D vwCl A s.heap NL ad (ctO cA c (uV Vs255 4 i251 1 2) w u ad) H locs := pcS_eq hW ctO_put_4_2
          refine lv_iinc (v := nI (i251 + 1)) (lv' := [(2, .int (nI (i251 + 1))), (0, .ref (ad 5 0)), (1, .int x1)]) hx hb dX5_closePromised_46 hl (k := 0) rfl (nI_1 i251) (by decide) rfl (fun ls hl => ?_)
          refine lv_goto (tgt := 2) hx hb dX5_closePromised_49 (by decide) ?_
          have he9V : (VL_X5_closePromised c v w x1 k252 (i251 + 1) (uV Vs255 4 i251 1 2)) = (VL_X5_closePromised c v w x1 (c 3) 0 v) := by rw [← heV]; show (VL_X5_closePromised c v w x1 k252 (i251 + 1) (uV Vs255 4 i251 1 2)) = (VL_X5_closePromised c v w x1 (k252 + 1) i251 Vs255); simp only [VL_X5_closePromised, if_pos c258, if_pos c259]
          exact ihk252 (i251 + 1) (uV Vs255 4 i251 1 2)  H locs ls (by omega) he9V hW (lv_sub hl [0, 1, 2] rfl)
  exact K254 (c 3) 0 v _ _ ls (by omega) rfl hW (lv_sub hl [0, 1, 2] rfl)

theorem wfl_closePromised {c : SC} {v : SV} {w : SW} {x1 : Int32} : ∀ (k i : Nat) (V : SV) (j : Nat), VL_X5_closePromised c v w x1 k i V 2 j 1 = V 2 j 1 ∧ VL_X5_closePromised c v w x1 k i V 7 j 0 = V 7 j 0 ∧ VL_X5_closePromised c v w x1 k i V 1 j 1 = V 1 j 1 := by
  intro k
  induction k with
  | zero => intro i V j; exact ⟨rfl, rfl, rfl⟩
  | succ k ih =>
    intro i V j
    have e : VL_X5_closePromised c v w x1 (k + 1) i V = VL_X5_closePromised c v w x1 k (i + 1) _ := rfl
    rw [e, (ih (i + 1) _ j).1, (ih (i + 1) _ j).2.1, (ih (i + 1) _ j).2.2]
    repeat' split
    all_goals exact ⟨rfl, rfl, rfl⟩
theorem wf_closePromised {c : SC} {v : SV} {w : SW} {x1 : Int32} (h : WF c v) : WF c (V_X5_closePromised c v w x1) := WF_of h (fun j => wfl_closePromised (c := c) (v := v) (w := w) (x1 := x1) _ _ _ j)

def VL_X5_packSheets (c : SC) (v : SV) (w : SW)  (i : Nat) (x1 : Int32) : Nat → Nat → SV → SV
  | 0, _, Vs264 => Vs264
  | k261 + 1, i260, Vs264 => VL_X5_packSheets c v w i x1 k261 (i260 + 1) (if (F_X5_isIn x1 (nI i260)) = 0 then Vs264 else (uV Vs264 13 i i260 (Vs264 1 i260 3)))
def V_X5_packSheets (c : SC) (v : SV) (w : SW) (i : Nat) (x1 : Int32) : SV := (VL_X5_packSheets c v w i x1 (c 0) 0 v)

set_option maxHeartbeats 4000000 in
set_option maxRecDepth 100000 in
theorem m_X5_packSheets (l : Launch) (D : va_G) (cA : Nat → ClassId) (NL : List (Nat × Nat)) (c : SC) (v : SV) (w : SW) (u : Nat → Int32) (ad : Nat → Nat → Nat) (A : Nat → Prop) (i : Nat) (x1 : Int32) (hM : MEM c NL) (hBd : BND c) (hi1 : (3, i) ∈ NL) (hi2 : (13, i) ∈ NL) : Met l yX5_packSheets wsX5_packSheets ({ frames := 1, cells := 0, slots := 0, locals := 21 }) (pcPre D vwCl (tyL cA) [.ref (ad 5 0), .ref (ad 3 i), .int x1] (fun H => va_P D vwCl (pcW NL ad (ctO cA c v w u ad)) H ∧ va_D A (pcW NL ad (ctO cA c v w u ad)) ∧ ∀ q, H.size ≤ q → A q)) (va_Qv (fun (_ : Unit) => True) (fun (_ : Unit) t => va_P D vwCl (pcW NL ad (ctO cA c (V_X5_packSheets c v w i x1) w u ad)) t.heap) A) 0 0 A := by
  refine Met.ofW (cc := cX5_packSheets) (maxL := 4) (ret := none) (by decide) rfl ?_
  intro p e s m args below meth c0 s₁ B hml hv
  obtain ⟨rfl, hX, hP0, hD, hA⟩ := hv
  have hx := B.exec
  have hb := B.bytes
  have hr := B.returns
  have hts := atoms_spec (ws := wsX5_packSheets) B.pre
  have hown : s.vm.findClass RX5 = some m.cls := findClass_of_methodNamed B.named
  have hlocks := B.notSynchronized
  have hW : pcS D vwCl A s.heap NL ad (ctO cA c v w u ad) s.heap [] := ⟨hP0, hD, va_S.rf⟩
  have hl := lv_entry ([.ref (ad 5 0), .ref (ad 3 i), .int x1]) (n := 4) (Nat.le_of_ble_eq_true rfl)
  rw [lg_entry_eq]
  generalize (lg_sl ([.ref (ad 5 0), .ref (ad 3 i), .int x1]) ++ List.replicate (4 - (lg_sl ([.ref (ad 5 0), .ref (ad 3 i), .int x1])).length) Slot.unset).toArray = ls at hl ⊢
  have hl : lv_has ls 4 [(0, .ref (ad 5 0)), (1, .ref (ad 3 i)), (2, .int x1)] := hl
  refine lv_iconst (v := 0) hx hb dX5_packSheets_0 (by decide) ?_
  refine lv_istore_n (lv' := [(3, .int 0), (0, .ref (ad 5 0)), (1, .ref (ad 3 i)), (2, .int x1)]) hx hb dX5_packSheets_1 rfl hl (by decide) rfl (fun ls hl => ?_)
  have K263 : ∀ (k261 i260 : Nat) (Vs264 : SV) (H : Heap) (locs : List Loc) (ls : Array Slot), i260 + k261 = c 0 → (VL_X5_packSheets c v w i x1 k261 i260 Vs264) = (VL_X5_packSheets c v w i x1 (c 0) 0 v) → pcS D vwCl A s.heap NL ad (ctO cA c Vs264 w u ad) H locs → lv_has ls 4 [(3, .int (nI i260)), (0, .ref (ad 5 0)), (1, .ref (ad 3 i)), (2, .int x1)] → W p l e (headSpec wsX5_packSheets ({ frames := 1, cells := 0, slots := 0, locals := 21 })).room s m ([.ref (ad 5 0), .ref (ad 3 i), .int x1] : List Value).toArray below meth c0 H locs 0 0 (MQ below (va_Qv (fun (_ : Unit) => True) (fun (_ : Unit) t => va_P D vwCl (pcW NL ad (ctO cA c (V_X5_packSheets c v w i x1) w u ad)) t.heap) A) ([.ref (ad 5 0), .ref (ad 3 i), .int x1] : List Value).toArray s 0 0 A) (F0 m 2 ls []) := by
    intro k261
    induction k261 with
    | zero =>
      intro i260 Vs264 H locs ls hk heV hW hl
      have ei : i260 = c 0 := by omega
      rw [ei] at hl
      obtain rfl : Vs264 = (VL_X5_packSheets c v w i x1 (c 0) 0 v) := heV
      refine lv_iload_n hx hb dX5_packSheets_2 rfl (lv_at hl 0 rfl) ?_
      refine lv_aload_n hx hb dX5_packSheets_3 rfl (lv_at hl 1 rfl) ?_
      refine pc_get (C := RX5) (T := TX5) (N := 13) (ci := 5) hx hb hts (by decide +kernel) hown hX.1 hW.1 5 0 hM.1 rfl rfl 7 (by decide) (hts (.fieldLink RX5 48 "DraftsmanOffice" "sheetCount" "I") (by decide +kernel)) (fun _ h9 => h9) rfl dX5_packSheets_4 ?_
      refine lv_icmp_ge (tgt := 39) hx hb dX5_packSheets_7 (by decide) (fun _ => ?_) (fun c265 => absurd (Int32.le_refl _) c265)
      have e9v : V_X5_packSheets c v w i x1 = (VL_X5_packSheets c v w i x1 (c 0) 0 v) := rfl
      exact W.vret hx hb hr (fun t ht hW9 => ⟨⟨(), rfl, trivial, (by show va_P D vwCl (pcW NL ad (ctO cA c (V_X5_packSheets c v w i x1) w u ad)) t.heap; rw [e9v]; rw [ht]; exact hW.1)⟩, hW.2.2.F ht⟩) hW.2.2.2.2 dX5_packSheets_39
    | succ k261 ihk261 =>
      intro i260 Vs264 H locs ls hk heV hW hl
      have hlt : i260 < c 0 := by omega
      have hlt9i260 := hlt
      refine lv_iload_n hx hb dX5_packSheets_2 rfl (lv_at hl 0 rfl) ?_
      refine lv_aload_n hx hb dX5_packSheets_3 rfl (lv_at hl 1 rfl) ?_
      refine pc_get (C := RX5) (T := TX5) (N := 13) (ci := 5) hx hb hts (by decide +kernel) hown hX.1 hW.1 5 0 hM.1 rfl rfl 7 (by decide) (hts (.fieldLink RX5 48 "DraftsmanOffice" "sheetCount" "I") (by decide +kernel)) (fun _ h9 => h9) rfl dX5_packSheets_4 ?_
      refine lv_icmp_ge (tgt := 39) hx hb dX5_packSheets_7 (by decide) (fun c266 => absurd c266 (nI_ge hlt (Nat.lt_of_le_of_lt hBd.1 (by decide)))) (fun _ => ?_)
      refine lv_iload_n hx hb dX5_packSheets_10 rfl (lv_at hl 3 rfl) ?_
      refine lv_iload_n hx hb dX5_packSheets_11 rfl (lv_at hl 0 rfl) ?_
      refine pc_rcalli (va_runS (As := [.int x1, .int (nI i260)]) (rest := []) ⟨hx, hb, hml, hown, hts⟩ (r_X5_isIn l D cA x1 (nI i260) ) (va_cwS 2 hts gX5_packSheets_X5_isIn rfl rfl rfl (by decide +kernel) ⟨Nat.le_of_ble_eq_true rfl, Nat.le_of_ble_eq_true rfl⟩) (pc_preS pcN_ok hX trivial) rfl rfl hl.1 rfl (lv_room (Nat.le_of_ble_eq_true rfl)) dX5_packSheets_12 ⟨Nat.le_of_ble_eq_true rfl, Nat.le_of_ble_eq_true rfl⟩) hW (fun r267 H locs hwr267 hW => ?_)
      subst hwr267
      refine lv_if_eq (tgt := 33) hx hb dX5_packSheets_15 (by decide) (fun (c268 : (F_X5_isIn x1 (nI i260)) = 0) => ?_) (fun (c268 : ¬ (F_X5_isIn x1 (nI i260)) = 0) => ?_)
      · refine lv_iinc (v := nI (i260 + 1)) (lv' := [(3, .int (nI (i260 + 1))), (0, .ref (ad 5 0)), (1, .ref (ad 3 i)), (2, .int x1)]) hx hb dX5_packSheets_33 hl (k := 0) rfl (nI_1 i260) (by decide) rfl (fun ls hl => ?_)
        refine lv_goto (tgt := 2) hx hb dX5_packSheets_36 (by decide) ?_
        have he9V : (VL_X5_packSheets c v w i x1 k261 (i260 + 1) Vs264) = (VL_X5_packSheets c v w i x1 (c 0) 0 v) := by rw [← heV]; show (VL_X5_packSheets c v w i x1 k261 (i260 + 1) Vs264) = (VL_X5_packSheets c v w i x1 (k261 + 1) i260 Vs264); simp only [VL_X5_packSheets, if_pos c268]
        exact ihk261 (i260 + 1) Vs264  H locs ls (by omega) he9V hW (lv_sub hl [0, 1, 2, 3] rfl)
      · refine lv_aload_n hx hb dX5_packSheets_18 rfl (lv_at hl 2 rfl) ?_
        refine pc_getN (C := RX2) (T := TX2) (N := 3) (ci := 2) hx hb hts (by decide +kernel) hown hX.1 hW.1 3 i hi1 rfl rfl 1 (by decide) (hX.2.1 (.fieldLinkNest RX5 403 "DraftsmanOffice$Sending" "revisions" "[I" R_host) (by decide +kernel)) (fun _ h9 => h9) rfl dX5_packSheets_19 ?_
        refine lv_iload_n hx hb dX5_packSheets_22 rfl (lv_at hl 0 rfl) ?_
        refine lv_aload_n hx hb dX5_packSheets_23 rfl (lv_at hl 1 rfl) ?_
        refine pc_get (C := RX5) (T := TX5) (N := 13) (ci := 5) hx hb hts (by decide +kernel) hown hX.1 hW.1 5 0 hM.1 rfl rfl 0 (by decide) (hts (.fieldLink RX5 11 "DraftsmanOffice" "sheets" "[LDraftsmanOffice$Sheet;") (by decide +kernel)) (fun _ h9 => h9) rfl dX5_packSheets_24 ?_
        refine lv_iload_n hx hb dX5_packSheets_27 rfl (lv_at hl 0 rfl) ?_
        refine pc_aald (r := .ref (ad 1 i260)) hx hb hX.1 hW.1 50 0 3 (hM.2.1 50 (by decide) (by decide)) rfl rfl rfl (vp_in_nI (Nat.lt_of_lt_of_le hlt9i260 hBd.1) (by decide)) (by rw [nI_clamp (Nat.lt_of_lt_of_le (Nat.lt_of_lt_of_le hlt9i260 hBd.1) (by decide)), sRf_in hlt9i260]; rfl) dX5_packSheets_28 ?_
        refine pc_getN (C := RX3) (T := TX3) (N := 10) (ci := 3) hx hb hts (by decide +kernel) hown hX.1 hW.1 1 i260 (hM.2.2.2.1 i260 hlt9i260).1 rfl rfl 5 (by decide) (hX.2.1 (.fieldLinkNest RX5 156 "DraftsmanOffice$Sheet" "issued" "I" R_host) (by decide +kernel)) (fun _ h9 => h9) rfl dX5_packSheets_29 ?_
        refine pc_iast (f := (Vs264 13 i)) hx hb hX.1 hW 13 i 0 hi2 rfl rfl (vp_in_nI (Nat.lt_of_lt_of_le hlt9i260 hBd.1) (by decide)) dX5_packSheets_32 (fun H locs hW => ?_)
        rw [nI_clamp (Nat.lt_of_lt_of_le (Nat.lt_of_lt_of_le hlt9i260 hBd.1) (by decide))] at hW
        have hW : pcS D vwCl A s.heap NL ad (ctO cA c (uV Vs264 13 i i260 (Vs264 1 i260 3)) w u ad) H locs := pcS_eq hW ctO_ist_13
        refine lv_iinc (v := nI (i260 + 1)) (lv' := [(3, .int (nI (i260 + 1))), (0, .ref (ad 5 0)), (1, .ref (ad 3 i)), (2, .int x1)]) hx hb dX5_packSheets_33 hl (k := 0) rfl (nI_1 i260) (by decide) rfl (fun ls hl => ?_)
        refine lv_goto (tgt := 2) hx hb dX5_packSheets_36 (by decide) ?_
        have he9V : (VL_X5_packSheets c v w i x1 k261 (i260 + 1) (uV Vs264 13 i i260 (Vs264 1 i260 3))) = (VL_X5_packSheets c v w i x1 (c 0) 0 v) := by rw [← heV]; show (VL_X5_packSheets c v w i x1 k261 (i260 + 1) (uV Vs264 13 i i260 (Vs264 1 i260 3))) = (VL_X5_packSheets c v w i x1 (k261 + 1) i260 Vs264); simp only [VL_X5_packSheets, if_neg c268]
        exact ihk261 (i260 + 1) (uV Vs264 13 i i260 (Vs264 1 i260 3))  H locs ls (by omega) he9V hW (lv_sub hl [0, 1, 2, 3] rfl)
  exact K263 (c 0) 0 v _ _ ls (by omega) rfl hW (lv_sub hl [0, 1, 2, 3] rfl)

def VL_X5_takeLater (c : SC) (v : SV) (w : SW)  (i r : Nat) : Nat → Nat → SV → SV
  | 0, _, Vs273 => Vs273
  | k270 + 1, i269, Vs273 => VL_X5_takeLater c v w i r k270 (i269 + 1) (if (Vs273 13 i i269) ≤ (Vs273 57 r i269) then Vs273 else (uV Vs273 57 r i269 (Vs273 13 i i269)))
def FL_X5_takeLater (c : SC) (v : SV) (w : SW)  (i r : Nat) : Nat → Nat → SV → Int32 → Int32
  | 0, _, _, s271 => s271
  | k270 + 1, i269, Vs273, s271 => FL_X5_takeLater c v w i r k270 (i269 + 1) (if (Vs273 13 i i269) ≤ (Vs273 57 r i269) then Vs273 else (uV Vs273 57 r i269 (Vs273 13 i i269))) (if (Vs273 13 i i269) ≤ (Vs273 57 r i269) then s271 else (s271 + 1))
def F_X5_takeLater (c : SC) (v : SV) (w : SW) (i r : Nat) : Int32 := (FL_X5_takeLater c v w i r (10) 0 v (0 : Int32))
def V_X5_takeLater (c : SC) (v : SV) (w : SW) (i r : Nat) : SV := (VL_X5_takeLater c v w i r (10) 0 v)

set_option maxHeartbeats 4000000 in
set_option maxRecDepth 100000 in
theorem m_X5_takeLater (l : Launch) (D : va_G) (cA : Nat → ClassId) (NL : List (Nat × Nat)) (c : SC) (v : SV) (w : SW) (u : Nat → Int32) (ad : Nat → Nat → Nat) (A : Nat → Prop) (i r : Nat) (hM : MEM c NL) (hBd : BND c) (hi : i < c 2) (hr : r < 4) : Met l yX5_takeLater wsX5_takeLater ({ frames := 0, cells := 0, slots := 0, locals := 0 }) (pcPre D vwCl (tyL cA) [.ref (ad 3 i), .ref (ad 57 r)] (fun H => va_P D vwCl (pcW NL ad (ctO cA c v w u ad)) H ∧ va_D A (pcW NL ad (ctO cA c v w u ad)) ∧ ∀ q, H.size ≤ q → A q)) (va_Qi (fun (r : Int32) (_ : Unit) => r = F_X5_takeLater c v w i r) (fun (_ : Unit) t => va_P D vwCl (pcW NL ad (ctO cA c (V_X5_takeLater c v w i r) w u ad)) t.heap) A) 0 0 A := by
  refine Met.ofW (cc := cX5_takeLater) (maxL := 4) (ret := (some .int)) (by decide) rfl ?_
  intro p e s m args below meth c0 s₁ B hml hv
  obtain ⟨rfl, hX, hP0, hD, hA⟩ := hv
  have hx := B.exec
  have hb := B.bytes
  have hr := B.returns
  have hts := atoms_spec (ws := wsX5_takeLater) B.pre
  have hown : s.vm.findClass RX5 = some m.cls := findClass_of_methodNamed B.named
  have hlocks := B.notSynchronized
  have hW : pcS D vwCl A s.heap NL ad (ctO cA c v w u ad) s.heap [] := ⟨hP0, hD, va_S.rf⟩
  have hl := lv_entry ([.ref (ad 3 i), .ref (ad 57 r)]) (n := 4) (Nat.le_of_ble_eq_true rfl)
  rw [lg_entry_eq]
  generalize (lg_sl ([.ref (ad 3 i), .ref (ad 57 r)]) ++ List.replicate (4 - (lg_sl ([.ref (ad 3 i), .ref (ad 57 r)])).length) Slot.unset).toArray = ls at hl ⊢
  have hl : lv_has ls 4 [(0, .ref (ad 3 i)), (1, .ref (ad 57 r))] := hl
  refine lv_iconst (v := 0) hx hb dX5_takeLater_0 (by decide) ?_
  refine lv_istore_n (lv' := [(2, .int 0), (0, .ref (ad 3 i)), (1, .ref (ad 57 r))]) hx hb dX5_takeLater_1 rfl hl (by decide) rfl (fun ls hl => ?_)
  refine lv_iconst (v := 0) hx hb dX5_takeLater_2 (by decide) ?_
  refine lv_istore_n (lv' := [(3, .int 0), (2, .int 0), (0, .ref (ad 3 i)), (1, .ref (ad 57 r))]) hx hb dX5_takeLater_3 rfl hl (by decide) rfl (fun ls hl => ?_)
  have K272 : ∀ (k270 i269 : Nat) (Vs273 : SV) (s271 : Int32) (H : Heap) (locs : List Loc) (ls : Array Slot), i269 + k270 = 10 → (VL_X5_takeLater c v w i r k270 i269 Vs273) = (VL_X5_takeLater c v w i r (10) 0 v) → (FL_X5_takeLater c v w i r k270 i269 Vs273 s271) = (FL_X5_takeLater c v w i r (10) 0 v (0 : Int32)) → pcS D vwCl A s.heap NL ad (ctO cA c Vs273 w u ad) H locs → lv_has ls 4 [(3, .int (nI i269)), (2, .int s271), (0, .ref (ad 3 i)), (1, .ref (ad 57 r))] → W p l e (headSpec wsX5_takeLater ({ frames := 0, cells := 0, slots := 0, locals := 0 })).room s m ([.ref (ad 3 i), .ref (ad 57 r)] : List Value).toArray below meth c0 H locs 0 0 (MQ below (va_Qi (fun (r : Int32) (_ : Unit) => r = F_X5_takeLater c v w i r) (fun (_ : Unit) t => va_P D vwCl (pcW NL ad (ctO cA c (V_X5_takeLater c v w i r) w u ad)) t.heap) A) ([.ref (ad 3 i), .ref (ad 57 r)] : List Value).toArray s 0 0 A) (F0 m 4 ls []) := by
    intro k270
    induction k270 with
    | zero =>
      intro i269 Vs273 s271 H locs ls hk heV heF hW hl
      have ei : i269 = 10 := by omega
      rw [ei] at hl
      obtain rfl : Vs273 = (VL_X5_takeLater c v w i r (10) 0 v) := heV
      obtain rfl : s271 = (FL_X5_takeLater c v w i r (10) 0 v (0 : Int32)) := heF
      refine lv_iload_n hx hb dX5_takeLater_4 rfl (lv_at hl 0 rfl) ?_
      refine lv_bipush (v := 10) hx hb dX5_takeLater_5 (by decide) ?_
      refine lv_icmp_ge (tgt := 40) hx hb dX5_takeLater_7 (by decide) (fun _ => ?_) (fun c274 => absurd (Int32.le_refl _) c274)
      refine lv_iload_n hx hb dX5_takeLater_40 rfl (lv_at hl 1 rfl) ?_
      have e9v : V_X5_takeLater c v w i r = (VL_X5_takeLater c v w i r (10) 0 v) := rfl
      exact W.iret (v := (FL_X5_takeLater c v w i r (10) 0 v (0 : Int32))) hx hb hr (fun t ht hW9 => ⟨⟨(FL_X5_takeLater c v w i r (10) 0 v (0 : Int32)), (), rfl, rfl, (by show va_P D vwCl (pcW NL ad (ctO cA c (V_X5_takeLater c v w i r) w u ad)) t.heap; rw [e9v]; rw [ht]; exact hW.1)⟩, hW.2.2.F ht⟩) hW.2.2.2.2 dX5_takeLater_41
    | succ k270 ihk270 =>
      intro i269 Vs273 s271 H locs ls hk heV heF hW hl
      have hlt : i269 < 10 := by omega
      have hlt9i269 := hlt
      refine lv_iload_n hx hb dX5_takeLater_4 rfl (lv_at hl 0 rfl) ?_
      refine lv_bipush (v := 10) hx hb dX5_takeLater_5 (by decide) ?_
      refine lv_icmp_ge (tgt := 40) hx hb dX5_takeLater_7 (by decide) (fun c275 => absurd c275 (nI_ge hlt (by decide))) (fun _ => ?_)
      refine lv_aload_n hx hb dX5_takeLater_10 rfl (lv_at hl 2 rfl) ?_
      refine pc_getN (C := RX2) (T := TX2) (N := 3) (ci := 2) hx hb hts (by decide +kernel) hown hX.1 hW.1 3 i (hM.2.2.2.2.2.1 i hi).1 rfl rfl 1 (by decide) (hX.2.1 (.fieldLinkNest RX5 403 "DraftsmanOffice$Sending" "revisions" "[I" R_host) (by decide +kernel)) (fun _ h9 => h9) rfl dX5_takeLater_11 ?_
      refine lv_iload_n hx hb dX5_takeLater_14 rfl (lv_at hl 0 rfl) ?_
      refine pc_iald (f := (Vs273 13 i)) hx hb hX.1 hW.1 13 i 0 (hM.2.2.2.2.2.1 i hi).2 rfl rfl (vp_in_nI hlt9i269 (by decide)) dX5_takeLater_15 ?_
      rw [nI_clamp (Nat.lt_of_lt_of_le hlt9i269 (by decide))]
      refine lv_aload_n hx hb dX5_takeLater_16 rfl (lv_at hl 3 rfl) ?_
      refine lv_iload_n hx hb dX5_takeLater_17 rfl (lv_at hl 0 rfl) ?_
      refine pc_iald (f := (Vs273 57 r)) hx hb hX.1 hW.1 57 r 0 (hM.2.2.1 r hr) rfl rfl (vp_in_nI hlt9i269 (by decide)) dX5_takeLater_18 ?_
      rw [nI_clamp (Nat.lt_of_lt_of_le hlt9i269 (by decide))]
      refine lv_icmp_le (tgt := 34) hx hb dX5_takeLater_19 (by decide) (fun (c276 : (Vs273 13 i i269) ≤ (Vs273 57 r i269)) => ?_) (fun (c276 : ¬ (Vs273 13 i i269) ≤ (Vs273 57 r i269)) => ?_)
      · refine lv_iinc (v := nI (i269 + 1)) (lv' := [(3, .int (nI (i269 + 1))), (2, .int s271), (0, .ref (ad 3 i)), (1, .ref (ad 57 r))]) hx hb dX5_takeLater_34 hl (k := 0) rfl (nI_1 i269) (by decide) rfl (fun ls hl => ?_)
        refine lv_goto (tgt := 4) hx hb dX5_takeLater_37 (by decide) ?_
        have he9V : (VL_X5_takeLater c v w i r k270 (i269 + 1) Vs273) = (VL_X5_takeLater c v w i r (10) 0 v) := by rw [← heV]; show (VL_X5_takeLater c v w i r k270 (i269 + 1) Vs273) = (VL_X5_takeLater c v w i r (k270 + 1) i269 Vs273); simp only [VL_X5_takeLater, if_pos c276]
        have he9F : (FL_X5_takeLater c v w i r k270 (i269 + 1) Vs273 s271) = (FL_X5_takeLater c v w i r (10) 0 v (0 : Int32)) := by rw [← heF]; show (FL_X5_takeLater c v w i r k270 (i269 + 1) Vs273 s271) = (FL_X5_takeLater c v w i r (k270 + 1) i269 Vs273 s271); simp only [FL_X5_takeLater, if_pos c276]
        exact ihk270 (i269 + 1) Vs273 s271 H locs ls (by omega) he9V he9F hW (lv_sub hl [0, 1, 2, 3] rfl)
      · refine lv_aload_n hx hb dX5_takeLater_22 rfl (lv_at hl 3 rfl) ?_
        refine lv_iload_n hx hb dX5_takeLater_23 rfl (lv_at hl 0 rfl) ?_
        refine lv_aload_n hx hb dX5_takeLater_24 rfl (lv_at hl 2 rfl) ?_
        refine pc_getN (C := RX2) (T := TX2) (N := 3) (ci := 2) hx hb hts (by decide +kernel) hown hX.1 hW.1 3 i (hM.2.2.2.2.2.1 i hi).1 rfl rfl 1 (by decide) (hX.2.1 (.fieldLinkNest RX5 403 "DraftsmanOffice$Sending" "revisions" "[I" R_host) (by decide +kernel)) (fun _ h9 => h9) rfl dX5_takeLater_25 ?_
        refine lv_iload_n hx hb dX5_takeLater_28 rfl (lv_at hl 0 rfl) ?_
        refine pc_iald (f := (Vs273 13 i)) hx hb hX.1 hW.1 13 i 0 (hM.2.2.2.2.2.1 i hi).2 rfl rfl (vp_in_nI hlt9i269 (by decide)) dX5_takeLater_29 ?_
        rw [nI_clamp (Nat.lt_of_lt_of_le hlt9i269 (by decide))]
        refine pc_iast (f := (Vs273 57 r)) hx hb hX.1 hW 57 r 0 (hM.2.2.1 r hr) rfl rfl (vp_in_nI hlt9i269 (by decide)) dX5_takeLater_30 (fun H locs hW => ?_)
        rw [nI_clamp (Nat.lt_of_lt_of_le hlt9i269 (by decide))] at hW
        have hW : pcS D vwCl A s.heap NL ad (ctO cA c (uV Vs273 57 r i269 (Vs273 13 i i269)) w u ad) H locs := pcS_eq hW ctO_ist_57
        refine lv_iinc (v := (s271 + 1)) (lv' := [(2, .int (s271 + 1)), (3, .int (nI i269)), (0, .ref (ad 3 i)), (1, .ref (ad 57 r))]) hx hb dX5_takeLater_31 hl (k := 1) rfl rfl (by decide) rfl (fun ls hl => ?_)
        refine lv_iinc (v := nI (i269 + 1)) (lv' := [(3, .int (nI (i269 + 1))), (2, .int (s271 + 1)), (0, .ref (ad 3 i)), (1, .ref (ad 57 r))]) hx hb dX5_takeLater_34 hl (k := 1) rfl (nI_1 i269) (by decide) rfl (fun ls hl => ?_)
        refine lv_goto (tgt := 4) hx hb dX5_takeLater_37 (by decide) ?_
        have he9V : (VL_X5_takeLater c v w i r k270 (i269 + 1) (uV Vs273 57 r i269 (Vs273 13 i i269))) = (VL_X5_takeLater c v w i r (10) 0 v) := by rw [← heV]; show (VL_X5_takeLater c v w i r k270 (i269 + 1) (uV Vs273 57 r i269 (Vs273 13 i i269))) = (VL_X5_takeLater c v w i r (k270 + 1) i269 Vs273); simp only [VL_X5_takeLater, if_neg c276]
        have he9F : (FL_X5_takeLater c v w i r k270 (i269 + 1) (uV Vs273 57 r i269 (Vs273 13 i i269)) (s271 + 1)) = (FL_X5_takeLater c v w i r (10) 0 v (0 : Int32)) := by rw [← heF]; show (FL_X5_takeLater c v w i r k270 (i269 + 1) (uV Vs273 57 r i269 (Vs273 13 i i269)) (s271 + 1)) = (FL_X5_takeLater c v w i r (k270 + 1) i269 Vs273 s271); simp only [FL_X5_takeLater, if_neg c276]
        exact ihk270 (i269 + 1) (uV Vs273 57 r i269 (Vs273 13 i i269)) (s271 + 1) H locs ls (by omega) he9V he9F hW (lv_sub hl [0, 1, 2, 3] rfl)
  exact K272 (10) 0 v (0 : Int32) _ _ ls (by omega) rfl rfl hW (lv_sub hl [0, 1, 2, 3] rfl)

theorem wfl_takeLater {c : SC} {v : SV} {w : SW} {i r : Nat} : ∀ (k a : Nat) (V : SV) (j : Nat), VL_X5_takeLater c v w i r k a V 2 j 1 = V 2 j 1 ∧ VL_X5_takeLater c v w i r k a V 7 j 0 = V 7 j 0 ∧ VL_X5_takeLater c v w i r k a V 1 j 1 = V 1 j 1 := by
  intro k
  induction k with
  | zero => intro a V j; exact ⟨rfl, rfl, rfl⟩
  | succ k ih =>
    intro a V j
    have e : VL_X5_takeLater c v w i r (k + 1) a V = VL_X5_takeLater c v w i r k (a + 1) _ := rfl
    rw [e, (ih (a + 1) _ j).1, (ih (a + 1) _ j).2.1, (ih (a + 1) _ j).2.2]
    repeat' split
    all_goals exact ⟨rfl, rfl, rfl⟩
theorem wf_takeLater {c : SC} {v : SV} {w : SW} {i r : Nat} (h : WF c v) : WF c (V_X5_takeLater c v w i r) := WF_of h (fun j => wfl_takeLater (c := c) (v := v) (w := w) (i := i) (r := r) _ _ _ j)

def UL_X5_takeLater_row (c : SC) (v : SV) (w : SW)   (i : Nat) : Nat → Nat → (Nat → Int32) → (Nat → Int32)
  | 0, _, Us281 => Us281
  | k278 + 1, i277, Us281 => UL_X5_takeLater_row c v w i k278 (i277 + 1) (if (v 13 i i277) ≤ (Us281 i277) then Us281 else (upd Us281 i277 (v 13 i i277)))
def FL_X5_takeLater_row (c : SC) (v : SV) (w : SW)   (i : Nat) : Nat → Nat → (Nat → Int32) → Int32 → Int32
  | 0, _, _, s279 => s279
  | k278 + 1, i277, Us281, s279 => FL_X5_takeLater_row c v w i k278 (i277 + 1) (if (v 13 i i277) ≤ (Us281 i277) then Us281 else (upd Us281 i277 (v 13 i i277))) (if (v 13 i i277) ≤ (Us281 i277) then s279 else (s279 + 1))
def F_X5_takeLater_row (c : SC) (v : SV) (w : SW) (u : Nat → Int32) (i : Nat) : Int32 := (FL_X5_takeLater_row c v w i (10) 0 u (0 : Int32))
def U_X5_takeLater_row (c : SC) (v : SV) (w : SW) (u : Nat → Int32) (i : Nat) : (Nat → Int32) := (UL_X5_takeLater_row c v w i (10) 0 u)

set_option maxHeartbeats 4000000 in
set_option maxRecDepth 100000 in
theorem m_X5_takeLater_row (l : Launch) (D : va_G) (cA : Nat → ClassId) (NL : List (Nat × Nat)) (c : SC) (v : SV) (w : SW) (u : Nat → Int32) (ad : Nat → Nat → Nat) (A : Nat → Prop) (i : Nat) (hM : MEM c NL) (hBd : BND c) (hi : i < c 2) : Met l yX5_takeLater wsX5_takeLater ({ frames := 0, cells := 0, slots := 0, locals := 0 }) (pcPre D vwCl (tyL cA) [.ref (ad 3 i), .ref (ad 56 0)] (fun H => va_P D vwCl (pcW NL ad (ctO cA c v w u ad)) H ∧ va_D A (pcW NL ad (ctO cA c v w u ad)) ∧ ∀ q, H.size ≤ q → A q)) (va_Qi (fun (r : Int32) (_ : Unit) => r = F_X5_takeLater_row c v w u i) (fun (_ : Unit) t => va_P D vwCl (pcW NL ad (ctO cA c v w (U_X5_takeLater_row c v w u i) ad)) t.heap) A) 0 0 A := by
  refine Met.ofW (cc := cX5_takeLater) (maxL := 4) (ret := (some .int)) (by decide) rfl ?_
  intro p e s m args below meth c0 s₁ B hml hv
  obtain ⟨rfl, hX, hP0, hD, hA⟩ := hv
  have hx := B.exec
  have hb := B.bytes
  have hr := B.returns
  have hts := atoms_spec (ws := wsX5_takeLater) B.pre
  have hown : s.vm.findClass RX5 = some m.cls := findClass_of_methodNamed B.named
  have hlocks := B.notSynchronized
  have hW : pcS D vwCl A s.heap NL ad (ctO cA c v w u ad) s.heap [] := ⟨hP0, hD, va_S.rf⟩
  have hl := lv_entry ([.ref (ad 3 i), .ref (ad 56 0)]) (n := 4) (Nat.le_of_ble_eq_true rfl)
  rw [lg_entry_eq]
  generalize (lg_sl ([.ref (ad 3 i), .ref (ad 56 0)]) ++ List.replicate (4 - (lg_sl ([.ref (ad 3 i), .ref (ad 56 0)])).length) Slot.unset).toArray = ls at hl ⊢
  have hl : lv_has ls 4 [(0, .ref (ad 3 i)), (1, .ref (ad 56 0))] := hl
  refine lv_iconst (v := 0) hx hb dX5_takeLater_0 (by decide) ?_
  refine lv_istore_n (lv' := [(2, .int 0), (0, .ref (ad 3 i)), (1, .ref (ad 56 0))]) hx hb dX5_takeLater_1 rfl hl (by decide) rfl (fun ls hl => ?_)
  refine lv_iconst (v := 0) hx hb dX5_takeLater_2 (by decide) ?_
  refine lv_istore_n (lv' := [(3, .int 0), (2, .int 0), (0, .ref (ad 3 i)), (1, .ref (ad 56 0))]) hx hb dX5_takeLater_3 rfl hl (by decide) rfl (fun ls hl => ?_)
  have K280 : ∀ (k278 i277 : Nat) (Us281 : (Nat → Int32)) (s279 : Int32) (H : Heap) (locs : List Loc) (ls : Array Slot), i277 + k278 = 10 → (UL_X5_takeLater_row c v w i k278 i277 Us281) = (UL_X5_takeLater_row c v w i (10) 0 u) → (FL_X5_takeLater_row c v w i k278 i277 Us281 s279) = (FL_X5_takeLater_row c v w i (10) 0 u (0 : Int32)) → pcS D vwCl A s.heap NL ad (ctO cA c v w Us281 ad) H locs → lv_has ls 4 [(3, .int (nI i277)), (2, .int s279), (0, .ref (ad 3 i)), (1, .ref (ad 56 0))] → W p l e (headSpec wsX5_takeLater ({ frames := 0, cells := 0, slots := 0, locals := 0 })).room s m ([.ref (ad 3 i), .ref (ad 56 0)] : List Value).toArray below meth c0 H locs 0 0 (MQ below (va_Qi (fun (r : Int32) (_ : Unit) => r = F_X5_takeLater_row c v w u i) (fun (_ : Unit) t => va_P D vwCl (pcW NL ad (ctO cA c v w (U_X5_takeLater_row c v w u i) ad)) t.heap) A) ([.ref (ad 3 i), .ref (ad 56 0)] : List Value).toArray s 0 0 A) (F0 m 4 ls []) := by
    intro k278
    induction k278 with
    | zero =>
      intro i277 Us281 s279 H locs ls hk heU heF hW hl
      have ei : i277 = 10 := by omega
      rw [ei] at hl
      obtain rfl : Us281 = (UL_X5_takeLater_row c v w i (10) 0 u) := heU
      obtain rfl : s279 = (FL_X5_takeLater_row c v w i (10) 0 u (0 : Int32)) := heF
      refine lv_iload_n hx hb dX5_takeLater_4 rfl (lv_at hl 0 rfl) ?_
      refine lv_bipush (v := 10) hx hb dX5_takeLater_5 (by decide) ?_
      refine lv_icmp_ge (tgt := 40) hx hb dX5_takeLater_7 (by decide) (fun _ => ?_) (fun c282 => absurd (Int32.le_refl _) c282)
      refine lv_iload_n hx hb dX5_takeLater_40 rfl (lv_at hl 1 rfl) ?_
      have e9u : U_X5_takeLater_row c v w u i = (UL_X5_takeLater_row c v w i (10) 0 u) := rfl
      exact W.iret (v := (FL_X5_takeLater_row c v w i (10) 0 u (0 : Int32))) hx hb hr (fun t ht hW9 => ⟨⟨(FL_X5_takeLater_row c v w i (10) 0 u (0 : Int32)), (), rfl, rfl, (by show va_P D vwCl (pcW NL ad (ctO cA c v w (U_X5_takeLater_row c v w u i) ad)) t.heap; rw [e9u]; rw [ht]; exact hW.1)⟩, hW.2.2.F ht⟩) hW.2.2.2.2 dX5_takeLater_41
    | succ k278 ihk278 =>
      intro i277 Us281 s279 H locs ls hk heU heF hW hl
      have hlt : i277 < 10 := by omega
      have hlt9i277 := hlt
      refine lv_iload_n hx hb dX5_takeLater_4 rfl (lv_at hl 0 rfl) ?_
      refine lv_bipush (v := 10) hx hb dX5_takeLater_5 (by decide) ?_
      refine lv_icmp_ge (tgt := 40) hx hb dX5_takeLater_7 (by decide) (fun c283 => absurd c283 (nI_ge hlt (by decide))) (fun _ => ?_)
      refine lv_aload_n hx hb dX5_takeLater_10 rfl (lv_at hl 2 rfl) ?_
      refine pc_getN (C := RX2) (T := TX2) (N := 3) (ci := 2) hx hb hts (by decide +kernel) hown hX.1 hW.1 3 i (hM.2.2.2.2.2.1 i hi).1 rfl rfl 1 (by decide) (hX.2.1 (.fieldLinkNest RX5 403 "DraftsmanOffice$Sending" "revisions" "[I" R_host) (by decide +kernel)) (fun _ h9 => h9) rfl dX5_takeLater_11 ?_
      refine lv_iload_n hx hb dX5_takeLater_14 rfl (lv_at hl 0 rfl) ?_
      refine pc_iald (f := (v 13 i)) hx hb hX.1 hW.1 13 i 0 (hM.2.2.2.2.2.1 i hi).2 rfl rfl (vp_in_nI hlt9i277 (by decide)) dX5_takeLater_15 ?_
      rw [nI_clamp (Nat.lt_of_lt_of_le hlt9i277 (by decide))]
      refine lv_aload_n hx hb dX5_takeLater_16 rfl (lv_at hl 3 rfl) ?_
      refine lv_iload_n hx hb dX5_takeLater_17 rfl (lv_at hl 0 rfl) ?_
      refine pc_iald (f := Us281) hx hb hX.1 hW.1 56 0 0 (hM.2.1 56 (by decide) (by decide)) rfl rfl (vp_in_nI hlt9i277 (by decide)) dX5_takeLater_18 ?_
      rw [nI_clamp (Nat.lt_of_lt_of_le hlt9i277 (by decide))]
      refine lv_icmp_le (tgt := 34) hx hb dX5_takeLater_19 (by decide) (fun (c284 : (v 13 i i277) ≤ (Us281 i277)) => ?_) (fun (c284 : ¬ (v 13 i i277) ≤ (Us281 i277)) => ?_)
      · refine lv_iinc (v := nI (i277 + 1)) (lv' := [(3, .int (nI (i277 + 1))), (2, .int s279), (0, .ref (ad 3 i)), (1, .ref (ad 56 0))]) hx hb dX5_takeLater_34 hl (k := 0) rfl (nI_1 i277) (by decide) rfl (fun ls hl => ?_)
        refine lv_goto (tgt := 4) hx hb dX5_takeLater_37 (by decide) ?_
        have he9U : (UL_X5_takeLater_row c v w i k278 (i277 + 1) Us281) = (UL_X5_takeLater_row c v w i (10) 0 u) := by rw [← heU]; show (UL_X5_takeLater_row c v w i k278 (i277 + 1) Us281) = (UL_X5_takeLater_row c v w i (k278 + 1) i277 Us281); simp only [UL_X5_takeLater_row, if_pos c284]
        have he9F : (FL_X5_takeLater_row c v w i k278 (i277 + 1) Us281 s279) = (FL_X5_takeLater_row c v w i (10) 0 u (0 : Int32)) := by rw [← heF]; show (FL_X5_takeLater_row c v w i k278 (i277 + 1) Us281 s279) = (FL_X5_takeLater_row c v w i (k278 + 1) i277 Us281 s279); simp only [FL_X5_takeLater_row, if_pos c284]
        exact ihk278 (i277 + 1) Us281 s279 H locs ls (by omega) he9U he9F hW (lv_sub hl [0, 1, 2, 3] rfl)
      · refine lv_aload_n hx hb dX5_takeLater_22 rfl (lv_at hl 3 rfl) ?_
        refine lv_iload_n hx hb dX5_takeLater_23 rfl (lv_at hl 0 rfl) ?_
        refine lv_aload_n hx hb dX5_takeLater_24 rfl (lv_at hl 2 rfl) ?_
        refine pc_getN (C := RX2) (T := TX2) (N := 3) (ci := 2) hx hb hts (by decide +kernel) hown hX.1 hW.1 3 i (hM.2.2.2.2.2.1 i hi).1 rfl rfl 1 (by decide) (hX.2.1 (.fieldLinkNest RX5 403 "DraftsmanOffice$Sending" "revisions" "[I" R_host) (by decide +kernel)) (fun _ h9 => h9) rfl dX5_takeLater_25 ?_
        refine lv_iload_n hx hb dX5_takeLater_28 rfl (lv_at hl 0 rfl) ?_
        refine pc_iald (f := (v 13 i)) hx hb hX.1 hW.1 13 i 0 (hM.2.2.2.2.2.1 i hi).2 rfl rfl (vp_in_nI hlt9i277 (by decide)) dX5_takeLater_29 ?_
        rw [nI_clamp (Nat.lt_of_lt_of_le hlt9i277 (by decide))]
        refine pc_iast (f := Us281) hx hb hX.1 hW 56 0 0 (hM.2.1 56 (by decide) (by decide)) rfl rfl (vp_in_nI hlt9i277 (by decide)) dX5_takeLater_30 (fun H locs hW => ?_)
        rw [nI_clamp (Nat.lt_of_lt_of_le hlt9i277 (by decide))] at hW
        have hW : pcS D vwCl A s.heap NL ad (ctO cA c v w (upd Us281 i277 (v 13 i i277)) ad) H locs := pcS_eq hW ctO_row
        refine lv_iinc (v := (s279 + 1)) (lv' := [(2, .int (s279 + 1)), (3, .int (nI i277)), (0, .ref (ad 3 i)), (1, .ref (ad 56 0))]) hx hb dX5_takeLater_31 hl (k := 1) rfl rfl (by decide) rfl (fun ls hl => ?_)
        refine lv_iinc (v := nI (i277 + 1)) (lv' := [(3, .int (nI (i277 + 1))), (2, .int (s279 + 1)), (0, .ref (ad 3 i)), (1, .ref (ad 56 0))]) hx hb dX5_takeLater_34 hl (k := 1) rfl (nI_1 i277) (by decide) rfl (fun ls hl => ?_)
        refine lv_goto (tgt := 4) hx hb dX5_takeLater_37 (by decide) ?_
        have he9U : (UL_X5_takeLater_row c v w i k278 (i277 + 1) (upd Us281 i277 (v 13 i i277))) = (UL_X5_takeLater_row c v w i (10) 0 u) := by rw [← heU]; show (UL_X5_takeLater_row c v w i k278 (i277 + 1) (upd Us281 i277 (v 13 i i277))) = (UL_X5_takeLater_row c v w i (k278 + 1) i277 Us281); simp only [UL_X5_takeLater_row, if_neg c284]
        have he9F : (FL_X5_takeLater_row c v w i k278 (i277 + 1) (upd Us281 i277 (v 13 i i277)) (s279 + 1)) = (FL_X5_takeLater_row c v w i (10) 0 u (0 : Int32)) := by rw [← heF]; show (FL_X5_takeLater_row c v w i k278 (i277 + 1) (upd Us281 i277 (v 13 i i277)) (s279 + 1)) = (FL_X5_takeLater_row c v w i (k278 + 1) i277 Us281 s279); simp only [FL_X5_takeLater_row, if_neg c284]
        exact ihk278 (i277 + 1) (upd Us281 i277 (v 13 i i277)) (s279 + 1) H locs ls (by omega) he9U he9F hW (lv_sub hl [0, 1, 2, 3] rfl)
  exact K280 (10) 0 u (0 : Int32) _ _ ls (by omega) rfl rfl hW (lv_sub hl [0, 1, 2, 3] rfl)

def F_X5_check (c : SC) (v : SV) (w : SW) (x1 : Int32) : Int32 := (F_X5_brokenFrom c (uV v 1 x1.toNatClampNeg 2 1) w x1)
def V_X5_check (c : SC) (v : SV) (w : SW) (x1 : Int32) : SV := (uV v 1 x1.toNatClampNeg 2 1)

set_option maxHeartbeats 4000000 in
set_option maxRecDepth 100000 in
theorem m_X5_check (l : Launch) (D : va_G) (cA : Nat → ClassId) (NL : List (Nat × Nat)) (c : SC) (v : SV) (w : SW) (u : Nat → Int32) (ad : Nat → Nat → Nat) (A : Nat → Prop) (x1 : Int32) (hM : MEM c NL) (hBd : BND c) (hF : WF c v) (h1n : ¬ x1 < 0) (h1 : x1.toNatClampNeg < c 0) (hs : F_X3_lastStatus c v w x1.toNatClampNeg = 0) : Met l yX5_check wsX5_check ({ frames := 3, cells := 0, slots := 0, locals := 65 }) (pcPre D vwCl (tyL cA) [.ref (ad 5 0), .int x1] (fun H => va_P D vwCl (pcW NL ad (ctO cA c v w u ad)) H ∧ va_D A (pcW NL ad (ctO cA c v w u ad)) ∧ ∀ q, H.size ≤ q → A q)) (va_Qi (fun (r : Int32) (_ : Unit) => r = F_X5_check c v w x1) (fun (_ : Unit) t => va_P D vwCl (pcW NL ad (ctO cA c (V_X5_check c v w x1) w u ad)) t.heap) A) 0 0 A := by
  refine Met.ofW (cc := cX5_check) (maxL := 3) (ret := (some .int)) (by decide) rfl ?_
  intro p e s m args below meth c0 s₁ B hml hv
  obtain ⟨rfl, hX, hP0, hD, hA⟩ := hv
  have hx := B.exec
  have hb := B.bytes
  have hr := B.returns
  have hts := atoms_spec (ws := wsX5_check) B.pre
  have hown : s.vm.findClass RX5 = some m.cls := findClass_of_methodNamed B.named
  have hlocks := B.notSynchronized
  have hW : pcS D vwCl A s.heap NL ad (ctO cA c v w u ad) s.heap [] := ⟨hP0, hD, va_S.rf⟩
  have hl := lv_entry ([.ref (ad 5 0), .int x1]) (n := 3) (Nat.le_of_ble_eq_true rfl)
  rw [lg_entry_eq]
  generalize (lg_sl ([.ref (ad 5 0), .int x1]) ++ List.replicate (3 - (lg_sl ([.ref (ad 5 0), .int x1])).length) Slot.unset).toArray = ls at hl ⊢
  have hl : lv_has ls 3 [(0, .ref (ad 5 0)), (1, .int x1)] := hl
  refine lv_aload_n hx hb dX5_check_0 rfl (lv_at hl 0 rfl) ?_
  refine lv_iload_n hx hb dX5_check_1 rfl (lv_at hl 1 rfl) ?_
  refine pc_rcallv (va_runV (As := [.int x1]) (rest := []) ⟨hx, hb, hml, hown, hts⟩ (r_X5_requireSheet l D cA NL c v w u ad x1 hM hBd hF h1n h1) (cwV 1 hts gX5_check_X5_requireSheet rfl rfl rfl (by decide +kernel) ⟨Nat.le_of_ble_eq_true rfl, Nat.le_of_ble_eq_true rfl⟩) (pc_preV pcN_ok hX hW.1 hM.1 rfl rfl hW.1) rfl rfl hl.1 rfl (lv_room (Nat.le_of_ble_eq_true rfl)) dX5_check_2 ⟨Nat.le_of_ble_eq_true rfl, Nat.le_of_ble_eq_true rfl⟩) hW (fun H locs _ hW => ?_)
  refine lv_aload_n hx hb dX5_check_5 rfl (lv_at hl 0 rfl) ?_
  refine pc_get (C := RX5) (T := TX5) (N := 13) (ci := 5) hx hb hts (by decide +kernel) hown hX.1 hW.1 5 0 hM.1 rfl rfl 0 (by decide) (hts (.fieldLink RX5 11 "DraftsmanOffice" "sheets" "[LDraftsmanOffice$Sheet;") (by decide +kernel)) (fun _ h9 => h9) rfl dX5_check_6 ?_
  refine lv_iload_n hx hb dX5_check_9 rfl (lv_at hl 1 rfl) ?_
  refine pc_aald (r := .ref (ad 1 x1.toNatClampNeg)) hx hb hX.1 hW.1 50 0 3 (hM.2.1 50 (by decide) (by decide)) rfl rfl rfl (fun q => q.elim h1n (fun q => absurd (Nat.lt_of_lt_of_le h1 hBd.1) (Nat.not_lt.mpr q))) (by rw [sRf_in h1]; rfl) dX5_check_10 ?_
  refine lv_astore_n (lv' := [(2, .ref (ad 1 x1.toNatClampNeg)), (0, .ref (ad 5 0)), (1, .int x1)]) hx hb dX5_check_11 rfl hl (by decide) rfl (fun ls hl => ?_)
  refine lv_aload_n hx hb dX5_check_12 rfl (lv_at hl 0 rfl) ?_
  refine pc_rcalli (va_runVN (As := []) (rest := []) ⟨hx, hb, hml, hown, hts⟩ (r_X3_lastStatus l D cA NL c v w u ad x1.toNatClampNeg hM hBd h1) ⟨va_cnB 0 hts gX5_check_X3_lastStatus_n97 rfl rfl rfl (hX.2.1 (.methodLinkNest RX5 97 yX3_lastStatus R_host) (by decide +kernel)) (hts (.initialized RX3) (by decide +kernel)) (by decide +kernel) ⟨Nat.le_of_ble_eq_true rfl, Nat.le_of_ble_eq_true rfl⟩, hts (.instanceMethod yX3_lastStatus) (by decide +kernel), hts (.selects RX3 yX3_lastStatus yX3_lastStatus) (by decide +kernel)⟩ (pc_preV pcN_ok hX hW.1 (hM.2.2.2.1 x1.toNatClampNeg h1).1 rfl rfl hW.1) rfl rfl hl.1 rfl (lv_room (Nat.le_of_ble_eq_true rfl)) dX5_check_13 ⟨Nat.le_of_ble_eq_true rfl, Nat.le_of_ble_eq_true rfl⟩) hW (fun r286 H locs hwr286 hW => ?_)
  subst hwr286
  refine lv_if_eq (tgt := 29) hx hb dX5_check_16 (by decide) (fun _ => ?_) (fun c287 => absurd hs c287)
  refine lv_aload_n hx hb dX5_check_29 rfl (lv_at hl 0 rfl) ?_
  refine lv_iconst (v := 1) hx hb dX5_check_30 (by decide) ?_
  refine pc_putN (v := .int 1) (C := RX3) (T := TX3) (N := 10) (ci := 3) (ty := .boolean) hx hb hts (by decide +kernel) tyX3 tyX3_ok nmX3 hown hX.1 hW 1 x1.toNatClampNeg (hM.2.2.2.1 x1.toNatClampNeg h1).1 rfl rfl 4 (by decide) (hX.2.1 (.fieldLinkNest RX5 123 "DraftsmanOffice$Sheet" "isLastChecked" "Z" R_host) (by decide +kernel)) (fun _ h9 => h9) rfl (by decide +kernel) rfl rfl (Nat.le_of_ble_eq_true rfl) dX5_check_31 (fun H locs hW => ?_)
  have hW : pcS D vwCl A s.heap NL ad (ctO cA c (uV v 1 x1.toNatClampNeg 2 1) w u ad) H locs := pcS_eq hW ctO_put_1_4
  refine lv_aload_n hx hb dX5_check_34 rfl (lv_at hl 1 rfl) ?_
  refine lv_iload_n hx hb dX5_check_35 rfl (lv_at hl 2 rfl) ?_
  refine pc_rcalli (va_runV (As := [.int x1]) (rest := []) ⟨hx, hb, hml, hown, hts⟩ (r_X5_brokenFrom l D cA NL c (uV v 1 x1.toNatClampNeg 2 1) w u ad x1 hM hBd hF ) (cwV 1 hts gX5_check_X5_brokenFrom rfl rfl rfl (by decide +kernel) ⟨Nat.le_of_ble_eq_true rfl, Nat.le_of_ble_eq_true rfl⟩) (pc_preV pcN_ok hX hW.1 hM.1 rfl rfl hW.1) rfl rfl hl.1 rfl (lv_room (Nat.le_of_ble_eq_true rfl)) dX5_check_36 ⟨Nat.le_of_ble_eq_true rfl, Nat.le_of_ble_eq_true rfl⟩) hW (fun r288 H locs hwr288 hW => ?_)
  subst hwr288
  have e9v : V_X5_check c v w x1 = (uV v 1 x1.toNatClampNeg 2 1) := rfl
  exact W.iret (v := (F_X5_brokenFrom c (uV v 1 x1.toNatClampNeg 2 1) w x1)) hx hb hr (fun t ht hW9 => ⟨⟨(F_X5_brokenFrom c (uV v 1 x1.toNatClampNeg 2 1) w x1), (), rfl, rfl, (by show va_P D vwCl (pcW NL ad (ctO cA c (V_X5_check c v w x1) w u ad)) t.heap; rw [e9v]; rw [ht]; exact hW.1)⟩, hW.2.2.F ht⟩) hW.2.2.2.2 dX5_check_39

def F_X5_issue (c : SC) (v : SV) (w : SW) (x1 : Int32) : Int32 := (F_X5_stopUnfit c (V_X5_closePromised c (V_X3_setIssued c v w x1.toNatClampNeg (v 1 x1.toNatClampNeg 1)) (W_X3_setIssued c v w x1.toNatClampNeg (v 1 x1.toNatClampNeg 1)) x1) (W_X3_setIssued c v w x1.toNatClampNeg (v 1 x1.toNatClampNeg 1)))
def V_X5_issue (c : SC) (v : SV) (w : SW) (x1 : Int32) : SV := (V_X5_stopUnfit c (V_X5_closePromised c (V_X3_setIssued c v w x1.toNatClampNeg (v 1 x1.toNatClampNeg 1)) (W_X3_setIssued c v w x1.toNatClampNeg (v 1 x1.toNatClampNeg 1)) x1) (W_X3_setIssued c v w x1.toNatClampNeg (v 1 x1.toNatClampNeg 1)))
def W_X5_issue (c : SC) (v : SV) (w : SW) (x1 : Int32) : SW := (W_X3_setIssued c v w x1.toNatClampNeg (v 1 x1.toNatClampNeg 1))

set_option maxHeartbeats 4000000 in
set_option maxRecDepth 100000 in
theorem m_X5_issue (l : Launch) (D : va_G) (cA : Nat → ClassId) (NL : List (Nat × Nat)) (c : SC) (v : SV) (w : SW) (u : Nat → Int32) (ad : Nat → Nat → Nat) (A : Nat → Prop) (x1 : Int32) (hM : MEM c NL) (hBd : BND c) (hF : WF c v) (h1n : ¬ x1 < 0) (h1 : x1.toNatClampNeg < c 0) (hs : ¬ F_X5_isReadyToIssue c v w x1 = 0) : Met l yX5_issue wsX5_issue ({ frames := 7, cells := 0, slots := 0, locals := 163 }) (pcPre D vwCl (tyL cA) [.ref (ad 5 0), .int x1] (fun H => va_P D vwCl (pcW NL ad (ctO cA c v w u ad)) H ∧ va_D A (pcW NL ad (ctO cA c v w u ad)) ∧ ∀ q, H.size ≤ q → A q)) (va_Qi (fun (r : Int32) (_ : Unit) => r = F_X5_issue c v w x1) (fun (_ : Unit) t => va_P D vwCl (pcW NL ad (ctO cA c (V_X5_issue c v w x1) (W_X5_issue c v w x1) u ad)) t.heap) A) 0 0 A := by
  refine Met.ofW (cc := cX5_issue) (maxL := 3) (ret := (some .int)) (by decide) rfl ?_
  intro p e s m args below meth c0 s₁ B hml hv
  obtain ⟨rfl, hX, hP0, hD, hA⟩ := hv
  have hx := B.exec
  have hb := B.bytes
  have hr := B.returns
  have hts := atoms_spec (ws := wsX5_issue) B.pre
  have hown : s.vm.findClass RX5 = some m.cls := findClass_of_methodNamed B.named
  have hlocks := B.notSynchronized
  have hW : pcS D vwCl A s.heap NL ad (ctO cA c v w u ad) s.heap [] := ⟨hP0, hD, va_S.rf⟩
  have hl := lv_entry ([.ref (ad 5 0), .int x1]) (n := 3) (Nat.le_of_ble_eq_true rfl)
  rw [lg_entry_eq]
  generalize (lg_sl ([.ref (ad 5 0), .int x1]) ++ List.replicate (3 - (lg_sl ([.ref (ad 5 0), .int x1])).length) Slot.unset).toArray = ls at hl ⊢
  have hl : lv_has ls 3 [(0, .ref (ad 5 0)), (1, .int x1)] := hl
  refine lv_aload_n hx hb dX5_issue_0 rfl (lv_at hl 0 rfl) ?_
  refine lv_iload_n hx hb dX5_issue_1 rfl (lv_at hl 1 rfl) ?_
  refine pc_rcallv (va_runV (As := [.int x1]) (rest := []) ⟨hx, hb, hml, hown, hts⟩ (r_X5_requireSheet l D cA NL c v w u ad x1 hM hBd hF h1n h1) (cwV 1 hts gX5_issue_X5_requireSheet rfl rfl rfl (by decide +kernel) ⟨Nat.le_of_ble_eq_true rfl, Nat.le_of_ble_eq_true rfl⟩) (pc_preV pcN_ok hX hW.1 hM.1 rfl rfl hW.1) rfl rfl hl.1 rfl (lv_room (Nat.le_of_ble_eq_true rfl)) dX5_issue_2 ⟨Nat.le_of_ble_eq_true rfl, Nat.le_of_ble_eq_true rfl⟩) hW (fun H locs _ hW => ?_)
  refine lv_aload_n hx hb dX5_issue_5 rfl (lv_at hl 0 rfl) ?_
  refine lv_iload_n hx hb dX5_issue_6 rfl (lv_at hl 1 rfl) ?_
  refine pc_rcalli (va_runV (As := [.int x1]) (rest := []) ⟨hx, hb, hml, hown, hts⟩ (r_X5_isReadyToIssue l D cA NL c v w u ad x1 hM hBd hF h1n h1) (cwV 1 hts gX5_issue_X5_isReadyToIssue rfl rfl rfl (by decide +kernel) ⟨Nat.le_of_ble_eq_true rfl, Nat.le_of_ble_eq_true rfl⟩) (pc_preV pcN_ok hX hW.1 hM.1 rfl rfl hW.1) rfl rfl hl.1 rfl (lv_room (Nat.le_of_ble_eq_true rfl)) dX5_issue_7 ⟨Nat.le_of_ble_eq_true rfl, Nat.le_of_ble_eq_true rfl⟩) hW (fun r290 H locs hwr290 hW => ?_)
  subst hwr290
  refine lv_if_ne (tgt := 23) hx hb dX5_issue_10 (by decide) (fun _ => ?_) (fun c291 => absurd c291 hs)
  refine lv_aload_n hx hb dX5_issue_23 rfl (lv_at hl 0 rfl) ?_
  refine pc_get (C := RX5) (T := TX5) (N := 13) (ci := 5) hx hb hts (by decide +kernel) hown hX.1 hW.1 5 0 hM.1 rfl rfl 0 (by decide) (hts (.fieldLink RX5 11 "DraftsmanOffice" "sheets" "[LDraftsmanOffice$Sheet;") (by decide +kernel)) (fun _ h9 => h9) rfl dX5_issue_24 ?_
  refine lv_iload_n hx hb dX5_issue_27 rfl (lv_at hl 1 rfl) ?_
  refine pc_aald (r := .ref (ad 1 x1.toNatClampNeg)) hx hb hX.1 hW.1 50 0 3 (hM.2.1 50 (by decide) (by decide)) rfl rfl rfl (fun q => q.elim h1n (fun q => absurd (Nat.lt_of_lt_of_le h1 hBd.1) (Nat.not_lt.mpr q))) (by rw [sRf_in h1]; rfl) dX5_issue_28 ?_
  refine lv_astore_n (lv' := [(2, .ref (ad 1 x1.toNatClampNeg)), (0, .ref (ad 5 0)), (1, .int x1)]) hx hb dX5_issue_29 rfl hl (by decide) rfl (fun ls hl => ?_)
  refine lv_aload_n hx hb dX5_issue_30 rfl (lv_at hl 0 rfl) ?_
  refine lv_aload_n hx hb dX5_issue_31 rfl (lv_at hl 0 rfl) ?_
  refine pc_getN (C := RX3) (T := TX3) (N := 10) (ci := 3) hx hb hts (by decide +kernel) hown hX.1 hW.1 1 x1.toNatClampNeg (hM.2.2.2.1 x1.toNatClampNeg h1).1 rfl rfl 3 (by decide) (hX.2.1 (.fieldLinkNest RX5 115 "DraftsmanOffice$Sheet" "last" "I" R_host) (by decide +kernel)) (fun _ h9 => h9) rfl dX5_issue_32 ?_
  have hD9 := hW.2.1
  refine pc_mcallv (va_runVN (As := [.int (v 1 x1.toNatClampNeg 1)]) (rest := []) ⟨hx, hb, hml, hown, hts⟩ (m_X3_setIssued l D cA NL c v w u ad A x1.toNatClampNeg (v 1 x1.toNatClampNeg 1) hM hBd h1 (hF.2.2 x1.toNatClampNeg h1).1 (hF.2.2 x1.toNatClampNeg h1).2) ⟨va_cnB 1 hts gX5_issue_X3_setIssued_n137 rfl rfl rfl (hX.2.1 (.methodLinkNest RX5 137 yX3_setIssued R_host) (by decide +kernel)) (hts (.initialized RX3) (by decide +kernel)) (by decide +kernel) ⟨Nat.le_of_ble_eq_true rfl, Nat.le_of_ble_eq_true rfl⟩, hts (.instanceMethod yX3_setIssued) (by decide +kernel), hts (.selects RX3 yX3_setIssued yX3_setIssued) (by decide +kernel)⟩ (pc_preV pcN_ok hX hW.1 (hM.2.2.2.1 x1.toNatClampNeg h1).1 rfl rfl ⟨hW.1, hW.2.1, fun q h => hA q (Nat.le_trans hW.2.2.1 h)⟩) rfl rfl hl.1 rfl (lv_room (Nat.le_of_ble_eq_true rfl)) dX5_issue_35 ⟨Nat.le_of_ble_eq_true rfl, Nat.le_of_ble_eq_true rfl⟩) hW.2.2 (fun _ H locs _ hB hS9 => ?_)
  have hW : pcS D vwCl A s.heap NL ad (ctO cA c (V_X3_setIssued c v w x1.toNatClampNeg (v 1 x1.toNatClampNeg 1)) (W_X3_setIssued c v w x1.toNatClampNeg (v 1 x1.toNatClampNeg 1)) u ad) H locs := ⟨hB, pcD_ct hD9, hS9⟩
  refine lv_aload_n hx hb dX5_issue_38 rfl (lv_at hl 1 rfl) ?_
  refine lv_iload_n hx hb dX5_issue_39 rfl (lv_at hl 2 rfl) ?_
  have hD9 := hW.2.1
  refine pc_mcallv (va_runV (As := [.int x1]) (rest := []) ⟨hx, hb, hml, hown, hts⟩ (m_X5_closePromised l D cA NL c (V_X3_setIssued c v w x1.toNatClampNeg (v 1 x1.toNatClampNeg 1)) (W_X3_setIssued c v w x1.toNatClampNeg (v 1 x1.toNatClampNeg 1)) u ad A x1 hM hBd ) (cwV 1 hts gX5_issue_X5_closePromised rfl rfl rfl (by decide +kernel) ⟨Nat.le_of_ble_eq_true rfl, Nat.le_of_ble_eq_true rfl⟩) (pc_preV pcN_ok hX hW.1 hM.1 rfl rfl ⟨hW.1, hW.2.1, fun q h => hA q (Nat.le_trans hW.2.2.1 h)⟩) rfl rfl hl.1 rfl (lv_room (Nat.le_of_ble_eq_true rfl)) dX5_issue_40 ⟨Nat.le_of_ble_eq_true rfl, Nat.le_of_ble_eq_true rfl⟩) hW.2.2 (fun _ H locs _ hB hS9 => ?_)
  have hW : pcS D vwCl A s.heap NL ad (ctO cA c (V_X5_closePromised c (V_X3_setIssued c v w x1.toNatClampNeg (v 1 x1.toNatClampNeg 1)) (W_X3_setIssued c v w x1.toNatClampNeg (v 1 x1.toNatClampNeg 1)) x1) (W_X3_setIssued c v w x1.toNatClampNeg (v 1 x1.toNatClampNeg 1)) u ad) H locs := ⟨hB, pcD_ct hD9, hS9⟩
  refine lv_aload_n hx hb dX5_issue_43 rfl (lv_at hl 1 rfl) ?_
  have hD9 := hW.2.1
  refine pc_mcalli (va_runV (As := []) (rest := []) ⟨hx, hb, hml, hown, hts⟩ (m_X5_stopUnfit l D cA NL c (V_X5_closePromised c (V_X3_setIssued c v w x1.toNatClampNeg (v 1 x1.toNatClampNeg 1)) (W_X3_setIssued c v w x1.toNatClampNeg (v 1 x1.toNatClampNeg 1)) x1) (W_X3_setIssued c v w x1.toNatClampNeg (v 1 x1.toNatClampNeg 1)) u ad A  hM hBd (wf_closePromised (wf_setIssued hF)) ) (cwV 0 hts gX5_issue_X5_stopUnfit rfl rfl rfl (by decide +kernel) ⟨Nat.le_of_ble_eq_true rfl, Nat.le_of_ble_eq_true rfl⟩) (pc_preV pcN_ok hX hW.1 hM.1 rfl rfl ⟨hW.1, hW.2.1, fun q h => hA q (Nat.le_trans hW.2.2.1 h)⟩) rfl rfl hl.1 rfl (lv_room (Nat.le_of_ble_eq_true rfl)) dX5_issue_44 ⟨Nat.le_of_ble_eq_true rfl, Nat.le_of_ble_eq_true rfl⟩) hW.2.2 (fun r294 _ H locs hwr294 hB hS9 => ?_)
  subst hwr294
  have hW : pcS D vwCl A s.heap NL ad (ctO cA c (V_X5_stopUnfit c (V_X5_closePromised c (V_X3_setIssued c v w x1.toNatClampNeg (v 1 x1.toNatClampNeg 1)) (W_X3_setIssued c v w x1.toNatClampNeg (v 1 x1.toNatClampNeg 1)) x1) (W_X3_setIssued c v w x1.toNatClampNeg (v 1 x1.toNatClampNeg 1))) (W_X3_setIssued c v w x1.toNatClampNeg (v 1 x1.toNatClampNeg 1)) u ad) H locs := ⟨hB, pcD_ct hD9, hS9⟩
  have e9v : V_X5_issue c v w x1 = (V_X5_stopUnfit c (V_X5_closePromised c (V_X3_setIssued c v w x1.toNatClampNeg (v 1 x1.toNatClampNeg 1)) (W_X3_setIssued c v w x1.toNatClampNeg (v 1 x1.toNatClampNeg 1)) x1) (W_X3_setIssued c v w x1.toNatClampNeg (v 1 x1.toNatClampNeg 1))) := rfl
  have e9w : W_X5_issue c v w x1 = (W_X3_setIssued c v w x1.toNatClampNeg (v 1 x1.toNatClampNeg 1)) := rfl
  exact W.iret (v := (F_X5_stopUnfit c (V_X5_closePromised c (V_X3_setIssued c v w x1.toNatClampNeg (v 1 x1.toNatClampNeg 1)) (W_X3_setIssued c v w x1.toNatClampNeg (v 1 x1.toNatClampNeg 1)) x1) (W_X3_setIssued c v w x1.toNatClampNeg (v 1 x1.toNatClampNeg 1)))) hx hb hr (fun t ht hW9 => ⟨⟨(F_X5_stopUnfit c (V_X5_closePromised c (V_X3_setIssued c v w x1.toNatClampNeg (v 1 x1.toNatClampNeg 1)) (W_X3_setIssued c v w x1.toNatClampNeg (v 1 x1.toNatClampNeg 1)) x1) (W_X3_setIssued c v w x1.toNatClampNeg (v 1 x1.toNatClampNeg 1))), (), rfl, rfl, (by show va_P D vwCl (pcW NL ad (ctO cA c (V_X5_issue c v w x1) (W_X5_issue c v w x1) u ad)) t.heap; rw [e9v]; rw [e9w]; rw [ht]; exact hW.1)⟩, hW.2.2.F ht⟩) hW.2.2.2.2 dX5_issue_47

def F_X5_revise (c : SC) (v : SV) (w : SW) (x1 : Int32) : Int32 := ((V_X3_beginRevision c v w x1.toNatClampNeg) 1 x1.toNatClampNeg 1)
def V_X5_revise (c : SC) (v : SV) (w : SW) (x1 : Int32) : SV := (V_X3_beginRevision c v w x1.toNatClampNeg)
def W_X5_revise (c : SC) (v : SV) (w : SW) (x1 : Int32) : SW := (W_X3_beginRevision c v w x1.toNatClampNeg)

set_option maxHeartbeats 4000000 in
set_option maxRecDepth 100000 in
theorem m_X5_revise (l : Launch) (D : va_G) (cA : Nat → ClassId) (NL : List (Nat × Nat)) (c : SC) (v : SV) (w : SW) (u : Nat → Int32) (ad : Nat → Nat → Nat) (A : Nat → Prop) (x1 : Int32) (hM : MEM c NL) (hBd : BND c) (hF : WF c v) (h1n : ¬ x1 < 0) (h1 : x1.toNatClampNeg < c 0) (hs : F_X3_lastStatus c v w x1.toNatClampNeg = 2) (hl : v 1 x1.toNatClampNeg 1 + 1 < 6) : Met l yX5_revise wsX5_revise ({ frames := 2, cells := 0, slots := 0, locals := 41 }) (pcPre D vwCl (tyL cA) [.ref (ad 5 0), .int x1] (fun H => va_P D vwCl (pcW NL ad (ctO cA c v w u ad)) H ∧ va_D A (pcW NL ad (ctO cA c v w u ad)) ∧ ∀ q, H.size ≤ q → A q)) (va_Qi (fun (r : Int32) (_ : Unit) => r = F_X5_revise c v w x1) (fun (_ : Unit) t => va_P D vwCl (pcW NL ad (ctO cA c (V_X5_revise c v w x1) (W_X5_revise c v w x1) u ad)) t.heap) A) 0 0 A := by
  refine Met.ofW (cc := cX5_revise) (maxL := 3) (ret := (some .int)) (by decide) rfl ?_
  intro p e s m args below meth c0 s₁ B hml hv
  obtain ⟨rfl, hX, hP0, hD, hA⟩ := hv
  have hx := B.exec
  have hb := B.bytes
  have hr := B.returns
  have hts := atoms_spec (ws := wsX5_revise) B.pre
  have hown : s.vm.findClass RX5 = some m.cls := findClass_of_methodNamed B.named
  have hlocks := B.notSynchronized
  have hW : pcS D vwCl A s.heap NL ad (ctO cA c v w u ad) s.heap [] := ⟨hP0, hD, va_S.rf⟩
  have hl := lv_entry ([.ref (ad 5 0), .int x1]) (n := 3) (Nat.le_of_ble_eq_true rfl)
  rw [lg_entry_eq]
  generalize (lg_sl ([.ref (ad 5 0), .int x1]) ++ List.replicate (3 - (lg_sl ([.ref (ad 5 0), .int x1])).length) Slot.unset).toArray = ls at hl ⊢
  have hl : lv_has ls 3 [(0, .ref (ad 5 0)), (1, .int x1)] := hl
  refine lv_aload_n hx hb dX5_revise_0 rfl (lv_at hl 0 rfl) ?_
  refine lv_iload_n hx hb dX5_revise_1 rfl (lv_at hl 1 rfl) ?_
  refine pc_rcallv (va_runV (As := [.int x1]) (rest := []) ⟨hx, hb, hml, hown, hts⟩ (r_X5_requireSheet l D cA NL c v w u ad x1 hM hBd hF h1n h1) (cwV 1 hts gX5_revise_X5_requireSheet rfl rfl rfl (by decide +kernel) ⟨Nat.le_of_ble_eq_true rfl, Nat.le_of_ble_eq_true rfl⟩) (pc_preV pcN_ok hX hW.1 hM.1 rfl rfl hW.1) rfl rfl hl.1 rfl (lv_room (Nat.le_of_ble_eq_true rfl)) dX5_revise_2 ⟨Nat.le_of_ble_eq_true rfl, Nat.le_of_ble_eq_true rfl⟩) hW (fun H locs _ hW => ?_)
  refine lv_aload_n hx hb dX5_revise_5 rfl (lv_at hl 0 rfl) ?_
  refine pc_get (C := RX5) (T := TX5) (N := 13) (ci := 5) hx hb hts (by decide +kernel) hown hX.1 hW.1 5 0 hM.1 rfl rfl 0 (by decide) (hts (.fieldLink RX5 11 "DraftsmanOffice" "sheets" "[LDraftsmanOffice$Sheet;") (by decide +kernel)) (fun _ h9 => h9) rfl dX5_revise_6 ?_
  refine lv_iload_n hx hb dX5_revise_9 rfl (lv_at hl 1 rfl) ?_
  refine pc_aald (r := .ref (ad 1 x1.toNatClampNeg)) hx hb hX.1 hW.1 50 0 3 (hM.2.1 50 (by decide) (by decide)) rfl rfl rfl (fun q => q.elim h1n (fun q => absurd (Nat.lt_of_lt_of_le h1 hBd.1) (Nat.not_lt.mpr q))) (by rw [sRf_in h1]; rfl) dX5_revise_10 ?_
  refine lv_astore_n (lv' := [(2, .ref (ad 1 x1.toNatClampNeg)), (0, .ref (ad 5 0)), (1, .int x1)]) hx hb dX5_revise_11 rfl hl (by decide) rfl (fun ls hl => ?_)
  refine lv_aload_n hx hb dX5_revise_12 rfl (lv_at hl 0 rfl) ?_
  refine pc_rcalli (va_runVN (As := []) (rest := []) ⟨hx, hb, hml, hown, hts⟩ (r_X3_lastStatus l D cA NL c v w u ad x1.toNatClampNeg hM hBd h1) ⟨va_cnB 0 hts gX5_revise_X3_lastStatus_n97 rfl rfl rfl (hX.2.1 (.methodLinkNest RX5 97 yX3_lastStatus R_host) (by decide +kernel)) (hts (.initialized RX3) (by decide +kernel)) (by decide +kernel) ⟨Nat.le_of_ble_eq_true rfl, Nat.le_of_ble_eq_true rfl⟩, hts (.instanceMethod yX3_lastStatus) (by decide +kernel), hts (.selects RX3 yX3_lastStatus yX3_lastStatus) (by decide +kernel)⟩ (pc_preV pcN_ok hX hW.1 (hM.2.2.2.1 x1.toNatClampNeg h1).1 rfl rfl hW.1) rfl rfl hl.1 rfl (lv_room (Nat.le_of_ble_eq_true rfl)) dX5_revise_13 ⟨Nat.le_of_ble_eq_true rfl, Nat.le_of_ble_eq_true rfl⟩) hW (fun r296 H locs hwr296 hW => ?_)
  subst hwr296
  refine lv_iconst (v := 2) hx hb dX5_revise_16 (by decide) ?_
  refine lv_icmp_ne (tgt := 31) hx hb dX5_revise_17 (by decide) (fun c297 => absurd c297 (fun q => q hs)) (fun _ => ?_)
  refine lv_aload_n hx hb dX5_revise_20 rfl (lv_at hl 0 rfl) ?_
  refine pc_getN (C := RX3) (T := TX3) (N := 10) (ci := 3) hx hb hts (by decide +kernel) hown hX.1 hW.1 1 x1.toNatClampNeg (hM.2.2.2.1 x1.toNatClampNeg h1).1 rfl rfl 3 (by decide) (hX.2.1 (.fieldLinkNest RX5 115 "DraftsmanOffice$Sheet" "last" "I" R_host) (by decide +kernel)) (fun _ h9 => h9) rfl dX5_revise_21 ?_
  refine lv_iconst (v := 1) hx hb dX5_revise_24 (by decide) ?_
  refine lv_iadd hx hb dX5_revise_25 ?_
  refine lv_bipush (v := 6) hx hb dX5_revise_26 (by decide) ?_
  refine lv_icmp_lt (tgt := 41) hx hb dX5_revise_28 (by decide) (fun _ => ?_) (fun c298 => absurd hl c298)
  refine lv_aload_n hx hb dX5_revise_41 rfl (lv_at hl 0 rfl) ?_
  have hD9 := hW.2.1
  refine pc_mcallv (va_runVN (As := []) (rest := []) ⟨hx, hb, hml, hown, hts⟩ (m_X3_beginRevision l D cA NL c v w u ad A x1.toNatClampNeg hM hBd hF h1 hl) ⟨va_cnB 0 hts gX5_revise_X3_beginRevision_n120 rfl rfl rfl (hX.2.1 (.methodLinkNest RX5 120 yX3_beginRevision R_host) (by decide +kernel)) (hts (.initialized RX3) (by decide +kernel)) (by decide +kernel) ⟨Nat.le_of_ble_eq_true rfl, Nat.le_of_ble_eq_true rfl⟩, hts (.instanceMethod yX3_beginRevision) (by decide +kernel), hts (.selects RX3 yX3_beginRevision yX3_beginRevision) (by decide +kernel)⟩ (pc_preV pcN_ok hX hW.1 (hM.2.2.2.1 x1.toNatClampNeg h1).1 rfl rfl ⟨hW.1, hW.2.1, fun q h => hA q (Nat.le_trans hW.2.2.1 h)⟩) rfl rfl hl.1 rfl (lv_room (Nat.le_of_ble_eq_true rfl)) dX5_revise_42 ⟨Nat.le_of_ble_eq_true rfl, Nat.le_of_ble_eq_true rfl⟩) hW.2.2 (fun _ H locs _ hB hS9 => ?_)
  have hW : pcS D vwCl A s.heap NL ad (ctO cA c (V_X3_beginRevision c v w x1.toNatClampNeg) (W_X3_beginRevision c v w x1.toNatClampNeg) u ad) H locs := ⟨hB, pcD_ct hD9, hS9⟩
  refine lv_aload_n hx hb dX5_revise_45 rfl (lv_at hl 0 rfl) ?_
  refine pc_getN (C := RX3) (T := TX3) (N := 10) (ci := 3) hx hb hts (by decide +kernel) hown hX.1 hW.1 1 x1.toNatClampNeg (hM.2.2.2.1 x1.toNatClampNeg h1).1 rfl rfl 3 (by decide) (hX.2.1 (.fieldLinkNest RX5 115 "DraftsmanOffice$Sheet" "last" "I" R_host) (by decide +kernel)) (fun _ h9 => h9) rfl dX5_revise_46 ?_
  have e9v : V_X5_revise c v w x1 = (V_X3_beginRevision c v w x1.toNatClampNeg) := rfl
  have e9w : W_X5_revise c v w x1 = (W_X3_beginRevision c v w x1.toNatClampNeg) := rfl
  exact W.iret (v := ((V_X3_beginRevision c v w x1.toNatClampNeg) 1 x1.toNatClampNeg 1)) hx hb hr (fun t ht hW9 => ⟨⟨((V_X3_beginRevision c v w x1.toNatClampNeg) 1 x1.toNatClampNeg 1), (), rfl, rfl, (by show va_P D vwCl (pcW NL ad (ctO cA c (V_X5_revise c v w x1) (W_X5_revise c v w x1) u ad)) t.heap; rw [e9v]; rw [e9w]; rw [ht]; exact hW.1)⟩, hW.2.2.F ht⟩) hW.2.2.2.2 dX5_revise_49

def F_X5_receive (c : SC) (v : SV) (w : SW) (x1 x2 : Int32) : Int32 := (F_X5_takeLater c (uV v 3 x1.toNatClampNeg 1 ((v 3 x1.toNatClampNeg 1) &&& (((1 : Int32) <<< (x2 &&& 31)) ^^^ (-1 : Int32)))) w x1.toNatClampNeg x2.toNatClampNeg)
def V_X5_receive (c : SC) (v : SV) (w : SW) (x1 x2 : Int32) : SV := (V_X5_takeLater c (uV v 3 x1.toNatClampNeg 1 ((v 3 x1.toNatClampNeg 1) &&& (((1 : Int32) <<< (x2 &&& 31)) ^^^ (-1 : Int32)))) w x1.toNatClampNeg x2.toNatClampNeg)

set_option maxHeartbeats 4000000 in
set_option maxRecDepth 100000 in
theorem m_X5_receive (l : Launch) (D : va_G) (cA : Nat → ClassId) (NL : List (Nat × Nat)) (c : SC) (v : SV) (w : SW) (u : Nat → Int32) (ad : Nat → Nat → Nat) (A : Nat → Prop) (x1 x2 : Int32) (hM : MEM c NL) (hBd : BND c) (hF : WF c v) (h1n : ¬ x1 < 0) (h1 : x1.toNatClampNeg < c 2) (g1 : ¬ x2 < 0) (g2 : x2 < 4) (hs : ¬ F_X5_isIn (v 3 x1.toNatClampNeg 1) x2 = 0) : Met l yX5_receive wsX5_receive ({ frames := 1, cells := 0, slots := 0, locals := 23 }) (pcPre D vwCl (tyL cA) [.ref (ad 5 0), .int x1, .int x2] (fun H => va_P D vwCl (pcW NL ad (ctO cA c v w u ad)) H ∧ va_D A (pcW NL ad (ctO cA c v w u ad)) ∧ ∀ q, H.size ≤ q → A q)) (va_Qi (fun (r : Int32) (_ : Unit) => r = F_X5_receive c v w x1 x2) (fun (_ : Unit) t => va_P D vwCl (pcW NL ad (ctO cA c (V_X5_receive c v w x1 x2) w u ad)) t.heap) A) 0 0 A := by
  refine Met.ofW (cc := cX5_receive) (maxL := 4) (ret := (some .int)) (by decide) rfl ?_
  intro p e s m args below meth c0 s₁ B hml hv
  obtain ⟨rfl, hX, hP0, hD, hA⟩ := hv
  have hx := B.exec
  have hb := B.bytes
  have hr := B.returns
  have hts := atoms_spec (ws := wsX5_receive) B.pre
  have hown : s.vm.findClass RX5 = some m.cls := findClass_of_methodNamed B.named
  have hlocks := B.notSynchronized
  have hW : pcS D vwCl A s.heap NL ad (ctO cA c v w u ad) s.heap [] := ⟨hP0, hD, va_S.rf⟩
  have hl := lv_entry ([.ref (ad 5 0), .int x1, .int x2]) (n := 4) (Nat.le_of_ble_eq_true rfl)
  rw [lg_entry_eq]
  generalize (lg_sl ([.ref (ad 5 0), .int x1, .int x2]) ++ List.replicate (4 - (lg_sl ([.ref (ad 5 0), .int x1, .int x2])).length) Slot.unset).toArray = ls at hl ⊢
  have hl : lv_has ls 4 [(0, .ref (ad 5 0)), (1, .int x1), (2, .int x2)] := hl
  refine lv_iload_n hx hb dX5_receive_0 rfl (lv_at hl 1 rfl) ?_
  refine lv_if_lt (tgt := 12) hx hb dX5_receive_1 (by decide) (fun c300 => absurd c300 h1n) (fun _ => ?_)
  refine lv_iload_n hx hb dX5_receive_4 rfl (lv_at hl 1 rfl) ?_
  refine lv_aload_n hx hb dX5_receive_5 rfl (lv_at hl 0 rfl) ?_
  refine pc_get (C := RX5) (T := TX5) (N := 13) (ci := 5) hx hb hts (by decide +kernel) hown hX.1 hW.1 5 0 hM.1 rfl rfl 9 (by decide) (hts (.fieldLink RX5 55 "DraftsmanOffice" "sendingCount" "I") (by decide +kernel)) (fun _ h9 => h9) rfl dX5_receive_6 ?_
  refine lv_icmp_lt (tgt := 22) hx hb dX5_receive_9 (by decide) (fun _ => ?_) (fun c301 => absurd (lt_nI h1n h1 (Nat.lt_of_le_of_lt hBd.2.2.1 (by decide))) c301)
  refine lv_iload_n hx hb dX5_receive_22 rfl (lv_at hl 2 rfl) ?_
  refine pc_rcallv (va_runS (As := [.int x2]) (rest := []) ⟨hx, hb, hml, hown, hts⟩ (r_X5_requireCrew l D cA x2 g1 g2) (va_cwS 1 hts gX5_receive_X5_requireCrew rfl rfl rfl (by decide +kernel) ⟨Nat.le_of_ble_eq_true rfl, Nat.le_of_ble_eq_true rfl⟩) (pc_preS pcN_ok hX trivial) rfl rfl hl.1 rfl (lv_room (Nat.le_of_ble_eq_true rfl)) dX5_receive_23 ⟨Nat.le_of_ble_eq_true rfl, Nat.le_of_ble_eq_true rfl⟩) hW (fun H locs _ hW => ?_)
  refine lv_aload_n hx hb dX5_receive_26 rfl (lv_at hl 0 rfl) ?_
  refine pc_get (C := RX5) (T := TX5) (N := 13) (ci := 5) hx hb hts (by decide +kernel) hown hX.1 hW.1 5 0 hM.1 rfl rfl 2 (by decide) (hts (.fieldLink RX5 23 "DraftsmanOffice" "sendings" "[LDraftsmanOffice$Sending;") (by decide +kernel)) (fun _ h9 => h9) rfl dX5_receive_27 ?_
  refine lv_iload_n hx hb dX5_receive_30 rfl (lv_at hl 1 rfl) ?_
  refine pc_aald (r := .ref (ad 3 x1.toNatClampNeg)) hx hb hX.1 hW.1 52 0 5 (hM.2.1 52 (by decide) (by decide)) rfl rfl rfl (fun q => q.elim h1n (fun q => absurd (Nat.lt_of_lt_of_le h1 hBd.2.2.1) (Nat.not_lt.mpr q))) (by rw [sRf_in h1]; rfl) dX5_receive_31 ?_
  refine lv_astore_n (lv' := [(3, .ref (ad 3 x1.toNatClampNeg)), (0, .ref (ad 5 0)), (1, .int x1), (2, .int x2)]) hx hb dX5_receive_32 rfl hl (by decide) rfl (fun ls hl => ?_)
  refine lv_aload_n hx hb dX5_receive_33 rfl (lv_at hl 0 rfl) ?_
  refine pc_getN (C := RX2) (T := TX2) (N := 3) (ci := 2) hx hb hts (by decide +kernel) hown hX.1 hW.1 3 x1.toNatClampNeg (hM.2.2.2.2.2.1 x1.toNatClampNeg h1).1 rfl rfl 2 (by decide) (hX.2.1 (.fieldLinkNest RX5 213 "DraftsmanOffice$Sending" "awaitedBy" "I" R_host) (by decide +kernel)) (fun _ h9 => h9) rfl dX5_receive_34 ?_
  refine lv_iload_n hx hb dX5_receive_37 rfl (lv_at hl 3 rfl) ?_
  refine pc_rcalli (va_runS (As := [.int (v 3 x1.toNatClampNeg 1), .int x2]) (rest := []) ⟨hx, hb, hml, hown, hts⟩ (r_X5_isIn l D cA (v 3 x1.toNatClampNeg 1) x2 ) (va_cwS 2 hts gX5_receive_X5_isIn rfl rfl rfl (by decide +kernel) ⟨Nat.le_of_ble_eq_true rfl, Nat.le_of_ble_eq_true rfl⟩) (pc_preS pcN_ok hX trivial) rfl rfl hl.1 rfl (lv_room (Nat.le_of_ble_eq_true rfl)) dX5_receive_38 ⟨Nat.le_of_ble_eq_true rfl, Nat.le_of_ble_eq_true rfl⟩) hW (fun r303 H locs hwr303 hW => ?_)
  subst hwr303
  refine lv_if_ne (tgt := 54) hx hb dX5_receive_41 (by decide) (fun _ => ?_) (fun c304 => absurd c304 hs)
  refine lv_aload_n hx hb dX5_receive_54 rfl (lv_at hl 0 rfl) ?_
  refine lv_dup hx hb dX5_receive_55 rfl ?_
  refine pc_getN (C := RX2) (T := TX2) (N := 3) (ci := 2) hx hb hts (by decide +kernel) hown hX.1 hW.1 3 x1.toNatClampNeg (hM.2.2.2.2.2.1 x1.toNatClampNeg h1).1 rfl rfl 2 (by decide) (hX.2.1 (.fieldLinkNest RX5 213 "DraftsmanOffice$Sending" "awaitedBy" "I" R_host) (by decide +kernel)) (fun _ h9 => h9) rfl dX5_receive_56 ?_
  refine lv_iconst (v := 1) hx hb dX5_receive_59 (by decide) ?_
  refine lv_iload_n hx hb dX5_receive_60 rfl (lv_at hl 3 rfl) ?_
  refine lv_ishl hx hb dX5_receive_61 ?_
  refine lv_iconst (v := -1) hx hb dX5_receive_62 (by decide) ?_
  refine lv_ixor hx hb dX5_receive_63 ?_
  refine lv_iand hx hb dX5_receive_64 ?_
  refine pc_putN (v := .int ((v 3 x1.toNatClampNeg 1) &&& (((1 : Int32) <<< (x2 &&& 31)) ^^^ (-1 : Int32)))) (C := RX2) (T := TX2) (N := 3) (ci := 2) (ty := .int) hx hb hts (by decide +kernel) tyX2 tyX2_ok nmX2 hown hX.1 hW 3 x1.toNatClampNeg (hM.2.2.2.2.2.1 x1.toNatClampNeg h1).1 rfl rfl 2 (by decide) (hX.2.1 (.fieldLinkNest RX5 213 "DraftsmanOffice$Sending" "awaitedBy" "I" R_host) (by decide +kernel)) (fun _ h9 => h9) rfl (by decide +kernel) rfl rfl (Nat.le_of_ble_eq_true rfl) dX5_receive_65 (fun H locs hW => ?_)
  have hW : pcS D vwCl A s.heap NL ad (ctO cA c (uV v 3 x1.toNatClampNeg 1 ((v 3 x1.toNatClampNeg 1) &&& (((1 : Int32) <<< (x2 &&& 31)) ^^^ (-1 : Int32)))) w u ad) H locs := pcS_eq hW ctO_put_3_2
  refine lv_aload_n hx hb dX5_receive_68 rfl (lv_at hl 0 rfl) ?_
  refine lv_aload_n hx hb dX5_receive_69 rfl (lv_at hl 1 rfl) ?_
  refine pc_get (C := RX5) (T := TX5) (N := 13) (ci := 5) hx hb hts (by decide +kernel) hown hX.1 hW.1 5 0 hM.1 rfl rfl 5 (by decide) (hts (.fieldLink RX5 41 "DraftsmanOffice" "crewHas" "[[I") (by decide +kernel)) (fun _ h9 => h9) rfl dX5_receive_70 ?_
  refine lv_iload_n hx hb dX5_receive_73 rfl (lv_at hl 3 rfl) ?_
  refine pc_aald (r := .ref (ad 57 x2.toNatClampNeg)) hx hb hX.1 hW.1 55 0 2 (hM.2.1 55 (by decide) (by decide)) rfl rfl rfl (fun q => q.elim g1 (fun q => absurd (by have h4 := Int32.lt_iff_toInt_lt.mp g2; obtain ⟨j, hj, rfl⟩ := nI_of g1; rw [nI_clamp hj]; rw [nI_toInt hj] at h4; have h5 : (4 : Int32).toInt = 4 := by decide; omega) (Nat.not_lt.mpr q))) (by rw [sRf_in (by have h4 := Int32.lt_iff_toInt_lt.mp g2; obtain ⟨j, hj, rfl⟩ := nI_of g1; rw [nI_clamp hj]; rw [nI_toInt hj] at h4; have h5 : (4 : Int32).toInt = 4 := by decide; omega)]; rfl) dX5_receive_74 ?_
  have hD9 := hW.2.1
  refine pc_mcalli (va_runS (As := [.ref (ad 3 x1.toNatClampNeg), .ref (ad 57 x2.toNatClampNeg)]) (rest := []) ⟨hx, hb, hml, hown, hts⟩ (m_X5_takeLater l D cA NL c (uV v 3 x1.toNatClampNeg 1 ((v 3 x1.toNatClampNeg 1) &&& (((1 : Int32) <<< (x2 &&& 31)) ^^^ (-1 : Int32)))) w u ad A x1.toNatClampNeg x2.toNatClampNeg hM hBd h1 (by have h4 := Int32.lt_iff_toInt_lt.mp g2; obtain ⟨j, hj, rfl⟩ := nI_of g1; rw [nI_clamp hj]; rw [nI_toInt hj] at h4; have h5 : (4 : Int32).toInt = 4 := by decide; omega)) (va_cwS 2 hts gX5_receive_X5_takeLater rfl rfl rfl (by decide +kernel) ⟨Nat.le_of_ble_eq_true rfl, Nat.le_of_ble_eq_true rfl⟩) (pc_preS pcN_ok hX ⟨hW.1, hW.2.1, fun q h => hA q (Nat.le_trans hW.2.2.1 h)⟩) rfl rfl hl.1 rfl (lv_room (Nat.le_of_ble_eq_true rfl)) dX5_receive_75 ⟨Nat.le_of_ble_eq_true rfl, Nat.le_of_ble_eq_true rfl⟩) hW.2.2 (fun r305 _ H locs hwr305 hB hS9 => ?_)
  subst hwr305
  have hW : pcS D vwCl A s.heap NL ad (ctO cA c (V_X5_takeLater c (uV v 3 x1.toNatClampNeg 1 ((v 3 x1.toNatClampNeg 1) &&& (((1 : Int32) <<< (x2 &&& 31)) ^^^ (-1 : Int32)))) w x1.toNatClampNeg x2.toNatClampNeg) w u ad) H locs := ⟨hB, pcD_ct hD9, hS9⟩
  have e9v : V_X5_receive c v w x1 x2 = (V_X5_takeLater c (uV v 3 x1.toNatClampNeg 1 ((v 3 x1.toNatClampNeg 1) &&& (((1 : Int32) <<< (x2 &&& 31)) ^^^ (-1 : Int32)))) w x1.toNatClampNeg x2.toNatClampNeg) := rfl
  exact W.iret (v := (F_X5_takeLater c (uV v 3 x1.toNatClampNeg 1 ((v 3 x1.toNatClampNeg 1) &&& (((1 : Int32) <<< (x2 &&& 31)) ^^^ (-1 : Int32)))) w x1.toNatClampNeg x2.toNatClampNeg)) hx hb hr (fun t ht hW9 => ⟨⟨(F_X5_takeLater c (uV v 3 x1.toNatClampNeg 1 ((v 3 x1.toNatClampNeg 1) &&& (((1 : Int32) <<< (x2 &&& 31)) ^^^ (-1 : Int32)))) w x1.toNatClampNeg x2.toNatClampNeg), (), rfl, rfl, (by show va_P D vwCl (pcW NL ad (ctO cA c (V_X5_receive c v w x1 x2) w u ad)) t.heap; rw [e9v]; rw [ht]; exact hW.1)⟩, hW.2.2.F ht⟩) hW.2.2.2.2 dX5_receive_78

def F_X5_place (c : SC) (v : SV) (w : SW) (x1 x2 x3 x4 x5 : Int32) : Int32 := (F_X5_fieldsOf ((uW w 7 x1.toNatClampNeg 0 (F_X5_regionOf x2 x3 x4 x5)) 7 x1.toNatClampNeg 0))
def V_X5_place (c : SC) (v : SV) (w : SW) (x1 x2 x3 x4 x5 : Int32) : SV := (V_X5_stopUnfit c v (uW w 7 x1.toNatClampNeg 0 (F_X5_regionOf x2 x3 x4 x5)))
def W_X5_place (c : SC) (v : SV) (w : SW) (x1 x2 x3 x4 x5 : Int32) : SW := (uW w 7 x1.toNatClampNeg 0 (F_X5_regionOf x2 x3 x4 x5))

set_option maxHeartbeats 4000000 in
set_option maxRecDepth 100000 in
theorem m_X5_place (l : Launch) (D : va_G) (cA : Nat → ClassId) (NL : List (Nat × Nat)) (c : SC) (v : SV) (w : SW) (u : Nat → Int32) (ad : Nat → Nat → Nat) (A : Nat → Prop) (x1 x2 x3 x4 x5 : Int32) (hM : MEM c NL) (hBd : BND c) (hF : WF c v) (h1n : ¬ x1 < 0) (h1 : x1.toNatClampNeg < c 4) (g1 : ¬ x2 < 0) (g2 : ¬ x4 < x2) (g3 : ¬ 20 ≤ x4) (g4 : ¬ x3 < 0) (g5 : ¬ x5 < x3) (g6 : x5 < 20) (hs : ¬ v 7 x1.toNatClampNeg 3 = 3) : Met l yX5_place wsX5_place ({ frames := 7, cells := 0, slots := 0, locals := 163 }) (pcPre D vwCl (tyL cA) [.ref (ad 5 0), .int x1, .int x2, .int x3, .int x4, .int x5] (fun H => va_P D vwCl (pcW NL ad (ctO cA c v w u ad)) H ∧ va_D A (pcW NL ad (ctO cA c v w u ad)) ∧ ∀ q, H.size ≤ q → A q)) (va_Qi (fun (r : Int32) (_ : Unit) => r = F_X5_place c v w x1 x2 x3 x4 x5) (fun (_ : Unit) t => va_P D vwCl (pcW NL ad (ctO cA c (V_X5_place c v w x1 x2 x3 x4 x5) (W_X5_place c v w x1 x2 x3 x4 x5) u ad)) t.heap) A) 0 0 A := by
  refine Met.ofW (cc := cX5_place) (maxL := 7) (ret := (some .int)) (by decide) rfl ?_
  intro p e s m args below meth c0 s₁ B hml hv
  obtain ⟨rfl, hX, hP0, hD, hA⟩ := hv
  have hx := B.exec
  have hb := B.bytes
  have hr := B.returns
  have hts := atoms_spec (ws := wsX5_place) B.pre
  have hown : s.vm.findClass RX5 = some m.cls := findClass_of_methodNamed B.named
  have hlocks := B.notSynchronized
  have hW : pcS D vwCl A s.heap NL ad (ctO cA c v w u ad) s.heap [] := ⟨hP0, hD, va_S.rf⟩
  have hl := lv_entry ([.ref (ad 5 0), .int x1, .int x2, .int x3, .int x4, .int x5]) (n := 7) (Nat.le_of_ble_eq_true rfl)
  rw [lg_entry_eq]
  generalize (lg_sl ([.ref (ad 5 0), .int x1, .int x2, .int x3, .int x4, .int x5]) ++ List.replicate (7 - (lg_sl ([.ref (ad 5 0), .int x1, .int x2, .int x3, .int x4, .int x5])).length) Slot.unset).toArray = ls at hl ⊢
  have hl : lv_has ls 7 [(0, .ref (ad 5 0)), (1, .int x1), (2, .int x2), (3, .int x3), (4, .int x4), (5, .int x5)] := hl
  refine lv_aload_n hx hb dX5_place_0 rfl (lv_at hl 0 rfl) ?_
  refine lv_iload_n hx hb dX5_place_1 rfl (lv_at hl 1 rfl) ?_
  refine pc_rcallv (va_runV (As := [.int x1]) (rest := []) ⟨hx, hb, hml, hown, hts⟩ (r_X5_requirePackage l D cA NL c v w u ad x1 hM hBd hF h1n h1) (cwV 1 hts gX5_place_X5_requirePackage rfl rfl rfl (by decide +kernel) ⟨Nat.le_of_ble_eq_true rfl, Nat.le_of_ble_eq_true rfl⟩) (pc_preV pcN_ok hX hW.1 hM.1 rfl rfl hW.1) rfl rfl hl.1 rfl (lv_room (Nat.le_of_ble_eq_true rfl)) dX5_place_2 ⟨Nat.le_of_ble_eq_true rfl, Nat.le_of_ble_eq_true rfl⟩) hW (fun H locs _ hW => ?_)
  refine lv_iload_n hx hb dX5_place_5 rfl (lv_at hl 2 rfl) ?_
  refine lv_iload_n hx hb dX5_place_6 rfl (lv_at hl 3 rfl) ?_
  refine lv_iload hx hb dX5_place_7 (lv_at hl 4 rfl) ?_
  refine lv_iload hx hb dX5_place_9 (lv_at hl 5 rfl) ?_
  refine pc_rcallv (va_runS (As := [.int x2, .int x3, .int x4, .int x5]) (rest := []) ⟨hx, hb, hml, hown, hts⟩ (r_X5_requireRegion l D cA x2 x3 x4 x5 g1 g2 g3 g4 g5 g6) (va_cwS 4 hts gX5_place_X5_requireRegion rfl rfl rfl (by decide +kernel) ⟨Nat.le_of_ble_eq_true rfl, Nat.le_of_ble_eq_true rfl⟩) (pc_preS pcN_ok hX trivial) rfl rfl hl.1 rfl (lv_room (Nat.le_of_ble_eq_true rfl)) dX5_place_11 ⟨Nat.le_of_ble_eq_true rfl, Nat.le_of_ble_eq_true rfl⟩) hW (fun H locs _ hW => ?_)
  refine lv_aload_n hx hb dX5_place_14 rfl (lv_at hl 0 rfl) ?_
  refine pc_get (C := RX5) (T := TX5) (N := 13) (ci := 5) hx hb hts (by decide +kernel) hown hX.1 hW.1 5 0 hM.1 rfl rfl 4 (by decide) (hts (.fieldLink RX5 35 "DraftsmanOffice" "packages" "[LDraftsmanOffice$WorkPackage;") (by decide +kernel)) (fun _ h9 => h9) rfl dX5_place_15 ?_
  refine lv_iload_n hx hb dX5_place_18 rfl (lv_at hl 1 rfl) ?_
  refine pc_aald (r := .ref (ad 7 x1.toNatClampNeg)) hx hb hX.1 hW.1 54 0 7 (hM.2.1 54 (by decide) (by decide)) rfl rfl rfl (fun q => q.elim h1n (fun q => absurd (Nat.lt_of_lt_of_le h1 hBd.2.2.2.2) (Nat.not_lt.mpr q))) (by rw [sRf_in h1]; rfl) dX5_place_19 ?_
  refine lv_astore (lv' := [(6, .ref (ad 7 x1.toNatClampNeg)), (0, .ref (ad 5 0)), (1, .int x1), (2, .int x2), (3, .int x3), (4, .int x4), (5, .int x5)]) hx hb dX5_place_20 hl (by decide) rfl (fun ls hl => ?_)
  refine lv_aload hx hb dX5_place_22 (lv_at hl 0 rfl) ?_
  refine pc_getN (C := RX4) (T := TX4) (N := 6) (ci := 4) hx hb hts (by decide +kernel) hown hX.1 hW.1 7 x1.toNatClampNeg (hM.2.2.2.2.2.2.2 x1.toNatClampNeg h1) rfl rfl 4 (by decide) (hX.2.1 (.fieldLinkNest RX5 264 "DraftsmanOffice$WorkPackage" "state" "I" R_host) (by decide +kernel)) (fun _ h9 => h9) rfl dX5_place_24 ?_
  refine lv_iconst (v := 3) hx hb dX5_place_27 (by decide) ?_
  refine lv_icmp_ne (tgt := 42) hx hb dX5_place_28 (by decide) (fun _ => ?_) (fun c308 => absurd c308 hs)
  refine lv_aload hx hb dX5_place_42 (lv_at hl 0 rfl) ?_
  refine lv_iload_n hx hb dX5_place_44 rfl (lv_at hl 3 rfl) ?_
  refine lv_iload_n hx hb dX5_place_45 rfl (lv_at hl 4 rfl) ?_
  refine lv_iload hx hb dX5_place_46 (lv_at hl 5 rfl) ?_
  refine lv_iload hx hb dX5_place_48 (lv_at hl 6 rfl) ?_
  refine pc_rcalll (va_runS (As := [.int x2, .int x3, .int x4, .int x5]) (rest := [.ref (ad 7 x1.toNatClampNeg)]) ⟨hx, hb, hml, hown, hts⟩ (r_X5_regionOf l D cA x2 x3 x4 x5 ) (va_cwS 4 hts gX5_place_X5_regionOf rfl rfl rfl (by decide +kernel) ⟨Nat.le_of_ble_eq_true rfl, Nat.le_of_ble_eq_true rfl⟩) (pc_preS pcN_ok hX trivial) rfl rfl hl.1 rfl (lv_room (Nat.le_of_ble_eq_true rfl)) dX5_place_50 ⟨Nat.le_of_ble_eq_true rfl, Nat.le_of_ble_eq_true rfl⟩) hW (fun r309 H locs hwr309 hW => ?_)
  subst hwr309
  refine pc_putN (v := .long (F_X5_regionOf x2 x3 x4 x5)) (C := RX4) (T := TX4) (N := 6) (ci := 4) (ty := .long) hx hb hts (by decide +kernel) tyX4 tyX4_ok nmX4 hown hX.1 hW 7 x1.toNatClampNeg (hM.2.2.2.2.2.2.2 x1.toNatClampNeg h1) rfl rfl 3 (by decide) (hX.2.1 (.fieldLinkNest RX5 267 "DraftsmanOffice$WorkPackage" "region" "J" R_host) (by decide +kernel)) (fun _ h9 => h9) rfl (by decide +kernel) rfl rfl (Nat.le_of_ble_eq_true rfl) dX5_place_53 (fun H locs hW => ?_)
  have hW : pcS D vwCl A s.heap NL ad (ctO cA c v (uW w 7 x1.toNatClampNeg 0 (F_X5_regionOf x2 x3 x4 x5)) u ad) H locs := pcS_eq hW ctO_put_7_3
  refine lv_aload_n hx hb dX5_place_56 rfl (lv_at hl 1 rfl) ?_
  have hD9 := hW.2.1
  refine pc_mcalli (va_runV (As := []) (rest := []) ⟨hx, hb, hml, hown, hts⟩ (m_X5_stopUnfit l D cA NL c v (uW w 7 x1.toNatClampNeg 0 (F_X5_regionOf x2 x3 x4 x5)) u ad A  hM hBd hF ) (cwV 0 hts gX5_place_X5_stopUnfit rfl rfl rfl (by decide +kernel) ⟨Nat.le_of_ble_eq_true rfl, Nat.le_of_ble_eq_true rfl⟩) (pc_preV pcN_ok hX hW.1 hM.1 rfl rfl ⟨hW.1, hW.2.1, fun q h => hA q (Nat.le_trans hW.2.2.1 h)⟩) rfl rfl hl.1 rfl (lv_room (Nat.le_of_ble_eq_true rfl)) dX5_place_57 ⟨Nat.le_of_ble_eq_true rfl, Nat.le_of_ble_eq_true rfl⟩) hW.2.2 (fun r310 _ H locs hwr310 hB hS9 => ?_)
  subst hwr310
  have hW : pcS D vwCl A s.heap NL ad (ctO cA c (V_X5_stopUnfit c v (uW w 7 x1.toNatClampNeg 0 (F_X5_regionOf x2 x3 x4 x5))) (uW w 7 x1.toNatClampNeg 0 (F_X5_regionOf x2 x3 x4 x5)) u ad) H locs := ⟨hB, pcD_ct hD9, hS9⟩
  refine lv_pop hx hb dX5_place_60 rfl ?_
  refine lv_aload hx hb dX5_place_61 (lv_at hl 0 rfl) ?_
  refine pc_getN (C := RX4) (T := TX4) (N := 6) (ci := 4) hx hb hts (by decide +kernel) hown hX.1 hW.1 7 x1.toNatClampNeg (hM.2.2.2.2.2.2.2 x1.toNatClampNeg h1) rfl rfl 3 (by decide) (hX.2.1 (.fieldLinkNest RX5 267 "DraftsmanOffice$WorkPackage" "region" "J" R_host) (by decide +kernel)) (fun _ h9 => h9) rfl dX5_place_63 ?_
  refine pc_rcalli (va_runS (As := [.long ((uW w 7 x1.toNatClampNeg 0 (F_X5_regionOf x2 x3 x4 x5)) 7 x1.toNatClampNeg 0)]) (rest := []) ⟨hx, hb, hml, hown, hts⟩ (r_X5_fieldsOf l D cA ((uW w 7 x1.toNatClampNeg 0 (F_X5_regionOf x2 x3 x4 x5)) 7 x1.toNatClampNeg 0) ) (va_cwS 1 hts gX5_place_X5_fieldsOf rfl rfl rfl (by decide +kernel) ⟨Nat.le_of_ble_eq_true rfl, Nat.le_of_ble_eq_true rfl⟩) (pc_preS pcN_ok hX trivial) rfl rfl hl.1 rfl (lv_room (Nat.le_of_ble_eq_true rfl)) dX5_place_66 ⟨Nat.le_of_ble_eq_true rfl, Nat.le_of_ble_eq_true rfl⟩) hW (fun r311 H locs hwr311 hW => ?_)
  subst hwr311
  have e9v : V_X5_place c v w x1 x2 x3 x4 x5 = (V_X5_stopUnfit c v (uW w 7 x1.toNatClampNeg 0 (F_X5_regionOf x2 x3 x4 x5))) := rfl
  have e9w : W_X5_place c v w x1 x2 x3 x4 x5 = (uW w 7 x1.toNatClampNeg 0 (F_X5_regionOf x2 x3 x4 x5)) := rfl
  exact W.iret (v := (F_X5_fieldsOf ((uW w 7 x1.toNatClampNeg 0 (F_X5_regionOf x2 x3 x4 x5)) 7 x1.toNatClampNeg 0))) hx hb hr (fun t ht hW9 => ⟨⟨(F_X5_fieldsOf ((uW w 7 x1.toNatClampNeg 0 (F_X5_regionOf x2 x3 x4 x5)) 7 x1.toNatClampNeg 0)), (), rfl, rfl, (by show va_P D vwCl (pcW NL ad (ctO cA c (V_X5_place c v w x1 x2 x3 x4 x5) (W_X5_place c v w x1 x2 x3 x4 x5) u ad)) t.heap; rw [e9v]; rw [e9w]; rw [ht]; exact hW.1)⟩, hW.2.2.F ht⟩) hW.2.2.2.2 dX5_place_69

def F_X5_start (c : SC) (v : SV) (w : SW) (x1 : Int32) : Int32 := (v 7 x1.toNatClampNeg 2)
def V_X5_start (c : SC) (v : SV) (w : SW) (x1 : Int32) : SV := (uV v 7 x1.toNatClampNeg 3 1)

set_option maxHeartbeats 4000000 in
set_option maxRecDepth 100000 in
theorem m_X5_start (l : Launch) (D : va_G) (cA : Nat → ClassId) (NL : List (Nat × Nat)) (c : SC) (v : SV) (w : SW) (u : Nat → Int32) (ad : Nat → Nat → Nat) (A : Nat → Prop) (x1 : Int32) (hM : MEM c NL) (hBd : BND c) (hF : WF c v) (h1n : ¬ x1 < 0) (h1 : x1.toNatClampNeg < c 4) (hs : ¬ F_X4_isAtRest c v w x1.toNatClampNeg = 0) (hu : F_X5_firstUnfit c v w x1.toNatClampNeg (v 57 (v 7 x1.toNatClampNeg 0).toNatClampNeg) = -1) : Met l yX5_start wsX5_start ({ frames := 5, cells := 0, slots := 0, locals := 118 }) (pcPre D vwCl (tyL cA) [.ref (ad 5 0), .int x1] (fun H => va_P D vwCl (pcW NL ad (ctO cA c v w u ad)) H ∧ va_D A (pcW NL ad (ctO cA c v w u ad)) ∧ ∀ q, H.size ≤ q → A q)) (va_Qi (fun (r : Int32) (_ : Unit) => r = F_X5_start c v w x1) (fun (_ : Unit) t => va_P D vwCl (pcW NL ad (ctO cA c (V_X5_start c v w x1) w u ad)) t.heap) A) 0 0 A := by
  refine Met.ofW (cc := cX5_start) (maxL := 3) (ret := (some .int)) (by decide) rfl ?_
  intro p e s m args below meth c0 s₁ B hml hv
  obtain ⟨rfl, hX, hP0, hD, hA⟩ := hv
  have hx := B.exec
  have hb := B.bytes
  have hr := B.returns
  have hts := atoms_spec (ws := wsX5_start) B.pre
  have hown : s.vm.findClass RX5 = some m.cls := findClass_of_methodNamed B.named
  have hlocks := B.notSynchronized
  have hW : pcS D vwCl A s.heap NL ad (ctO cA c v w u ad) s.heap [] := ⟨hP0, hD, va_S.rf⟩
  have hl := lv_entry ([.ref (ad 5 0), .int x1]) (n := 3) (Nat.le_of_ble_eq_true rfl)
  rw [lg_entry_eq]
  generalize (lg_sl ([.ref (ad 5 0), .int x1]) ++ List.replicate (3 - (lg_sl ([.ref (ad 5 0), .int x1])).length) Slot.unset).toArray = ls at hl ⊢
  have hl : lv_has ls 3 [(0, .ref (ad 5 0)), (1, .int x1)] := hl
  refine lv_aload_n hx hb dX5_start_0 rfl (lv_at hl 0 rfl) ?_
  refine lv_iload_n hx hb dX5_start_1 rfl (lv_at hl 1 rfl) ?_
  refine pc_rcallv (va_runV (As := [.int x1]) (rest := []) ⟨hx, hb, hml, hown, hts⟩ (r_X5_requirePackage l D cA NL c v w u ad x1 hM hBd hF h1n h1) (cwV 1 hts gX5_start_X5_requirePackage rfl rfl rfl (by decide +kernel) ⟨Nat.le_of_ble_eq_true rfl, Nat.le_of_ble_eq_true rfl⟩) (pc_preV pcN_ok hX hW.1 hM.1 rfl rfl hW.1) rfl rfl hl.1 rfl (lv_room (Nat.le_of_ble_eq_true rfl)) dX5_start_2 ⟨Nat.le_of_ble_eq_true rfl, Nat.le_of_ble_eq_true rfl⟩) hW (fun H locs _ hW => ?_)
  refine lv_aload_n hx hb dX5_start_5 rfl (lv_at hl 0 rfl) ?_
  refine pc_get (C := RX5) (T := TX5) (N := 13) (ci := 5) hx hb hts (by decide +kernel) hown hX.1 hW.1 5 0 hM.1 rfl rfl 4 (by decide) (hts (.fieldLink RX5 35 "DraftsmanOffice" "packages" "[LDraftsmanOffice$WorkPackage;") (by decide +kernel)) (fun _ h9 => h9) rfl dX5_start_6 ?_
  refine lv_iload_n hx hb dX5_start_9 rfl (lv_at hl 1 rfl) ?_
  refine pc_aald (r := .ref (ad 7 x1.toNatClampNeg)) hx hb hX.1 hW.1 54 0 7 (hM.2.1 54 (by decide) (by decide)) rfl rfl rfl (fun q => q.elim h1n (fun q => absurd (Nat.lt_of_lt_of_le h1 hBd.2.2.2.2) (Nat.not_lt.mpr q))) (by rw [sRf_in h1]; rfl) dX5_start_10 ?_
  refine lv_astore_n (lv' := [(2, .ref (ad 7 x1.toNatClampNeg)), (0, .ref (ad 5 0)), (1, .int x1)]) hx hb dX5_start_11 rfl hl (by decide) rfl (fun ls hl => ?_)
  refine lv_aload_n hx hb dX5_start_12 rfl (lv_at hl 0 rfl) ?_
  refine pc_rcalli (va_runVN (As := []) (rest := []) ⟨hx, hb, hml, hown, hts⟩ (r_X4_isAtRest l D cA NL c v w u ad x1.toNatClampNeg hM hBd h1) ⟨va_cnB 0 hts gX5_start_X4_isAtRest_n270 rfl rfl rfl (hX.2.1 (.methodLinkNest RX5 270 yX4_isAtRest R_host) (by decide +kernel)) (hts (.initialized RX4) (by decide +kernel)) (by decide +kernel) ⟨Nat.le_of_ble_eq_true rfl, Nat.le_of_ble_eq_true rfl⟩, hts (.instanceMethod yX4_isAtRest) (by decide +kernel), hts (.selects RX4 yX4_isAtRest yX4_isAtRest) (by decide +kernel)⟩ (pc_preV pcN_ok hX hW.1 (hM.2.2.2.2.2.2.2 x1.toNatClampNeg h1) rfl rfl hW.1) rfl rfl hl.1 rfl (lv_room (Nat.le_of_ble_eq_true rfl)) dX5_start_13 ⟨Nat.le_of_ble_eq_true rfl, Nat.le_of_ble_eq_true rfl⟩) hW (fun r313 H locs hwr313 hW => ?_)
  subst hwr313
  refine lv_if_eq (tgt := 37) hx hb dX5_start_16 (by decide) (fun c314 => absurd c314 hs) (fun _ => ?_)
  refine lv_aload_n hx hb dX5_start_19 rfl (lv_at hl 1 rfl) ?_
  refine lv_aload_n hx hb dX5_start_20 rfl (lv_at hl 0 rfl) ?_
  refine lv_aload_n hx hb dX5_start_21 rfl (lv_at hl 1 rfl) ?_
  refine pc_get (C := RX5) (T := TX5) (N := 13) (ci := 5) hx hb hts (by decide +kernel) hown hX.1 hW.1 5 0 hM.1 rfl rfl 5 (by decide) (hts (.fieldLink RX5 41 "DraftsmanOffice" "crewHas" "[[I") (by decide +kernel)) (fun _ h9 => h9) rfl dX5_start_22 ?_
  refine lv_aload_n hx hb dX5_start_25 rfl (lv_at hl 0 rfl) ?_
  refine pc_getN (C := RX4) (T := TX4) (N := 6) (ci := 4) hx hb hts (by decide +kernel) hown hX.1 hW.1 7 x1.toNatClampNeg (hM.2.2.2.2.2.2.2 x1.toNatClampNeg h1) rfl rfl 0 (by decide) (hX.2.1 (.fieldLinkNest RX5 274 "DraftsmanOffice$WorkPackage" "crew" "I" R_host) (by decide +kernel)) (fun _ h9 => h9) rfl dX5_start_26 ?_
  refine pc_aald (r := .ref (ad 57 ((v 7 x1.toNatClampNeg 0).toNatClampNeg))) hx hb hX.1 hW.1 55 0 2 (hM.2.1 55 (by decide) (by decide)) rfl rfl rfl (fun q => q.elim (hF.2.1 x1.toNatClampNeg h1).1 (fun q => absurd (hF.2.1 x1.toNatClampNeg h1).2 (Nat.not_lt.mpr q))) (by rw [sRf_in (hF.2.1 x1.toNatClampNeg h1).2]; rfl) dX5_start_29 ?_
  refine pc_rcalli (va_runV (As := [.ref (ad 7 x1.toNatClampNeg), .ref (ad 57 ((v 7 x1.toNatClampNeg 0).toNatClampNeg))]) (rest := []) ⟨hx, hb, hml, hown, hts⟩ (r_X5_firstUnfit l D cA NL c v w u ad x1.toNatClampNeg 57 ((v 7 x1.toNatClampNeg 0).toNatClampNeg) (v 57 ((v 7 x1.toNatClampNeg 0).toNatClampNeg)) hM hBd hF h1 (hM.2.2.1 ((v 7 x1.toNatClampNeg 0).toNatClampNeg) (hF.2.1 x1.toNatClampNeg h1).2) rfl) (cwV 2 hts gX5_start_X5_firstUnfit rfl rfl rfl (by decide +kernel) ⟨Nat.le_of_ble_eq_true rfl, Nat.le_of_ble_eq_true rfl⟩) (pc_preV pcN_ok hX hW.1 hM.1 rfl rfl hW.1) rfl rfl hl.1 rfl (lv_room (Nat.le_of_ble_eq_true rfl)) dX5_start_30 ⟨Nat.le_of_ble_eq_true rfl, Nat.le_of_ble_eq_true rfl⟩) hW (fun r315 H locs hwr315 hW => ?_)
  subst hwr315
  refine lv_iconst (v := -1) hx hb dX5_start_33 (by decide) ?_
  refine lv_icmp_eq (tgt := 48) hx hb dX5_start_34 (by decide) (fun _ => ?_) (fun c316 => absurd hu c316)
  refine lv_aload_n hx hb dX5_start_48 rfl (lv_at hl 0 rfl) ?_
  refine lv_iconst (v := 1) hx hb dX5_start_49 (by decide) ?_
  refine pc_putN (v := .int 1) (C := RX4) (T := TX4) (N := 6) (ci := 4) (ty := .int) hx hb hts (by decide +kernel) tyX4 tyX4_ok nmX4 hown hX.1 hW 7 x1.toNatClampNeg (hM.2.2.2.2.2.2.2 x1.toNatClampNeg h1) rfl rfl 4 (by decide) (hX.2.1 (.fieldLinkNest RX5 264 "DraftsmanOffice$WorkPackage" "state" "I" R_host) (by decide +kernel)) (fun _ h9 => h9) rfl (by decide +kernel) rfl rfl (Nat.le_of_ble_eq_true rfl) dX5_start_50 (fun H locs hW => ?_)
  have hW : pcS D vwCl A s.heap NL ad (ctO cA c (uV v 7 x1.toNatClampNeg 3 1) w u ad) H locs := pcS_eq hW ctO_put_7_4
  refine lv_aload_n hx hb dX5_start_53 rfl (lv_at hl 0 rfl) ?_
  refine pc_getN (C := RX4) (T := TX4) (N := 6) (ci := 4) hx hb hts (by decide +kernel) hown hX.1 hW.1 7 x1.toNatClampNeg (hM.2.2.2.2.2.2.2 x1.toNatClampNeg h1) rfl rfl 2 (by decide) (hX.2.1 (.fieldLinkNest RX5 283 "DraftsmanOffice$WorkPackage" "daysLeft" "I" R_host) (by decide +kernel)) (fun _ h9 => h9) rfl dX5_start_54 ?_
  have e9v : V_X5_start c v w x1 = (uV v 7 x1.toNatClampNeg 3 1) := rfl
  exact W.iret (v := (v 7 x1.toNatClampNeg 2)) hx hb hr (fun t ht hW9 => ⟨⟨(v 7 x1.toNatClampNeg 2), (), rfl, rfl, (by show va_P D vwCl (pcW NL ad (ctO cA c (V_X5_start c v w x1) w u ad)) t.heap; rw [e9v]; rw [ht]; exact hW.1)⟩, hW.2.2.F ht⟩) hW.2.2.2.2 dX5_start_57

def F_X5_draw (c : SC) (v : SV) (w : SW) (x1 x2 x3 x4 x5 x6 : Int32) : Int32 := (F_X5_fieldsOf (F_X5_regionOf x2 x3 x4 x5))
def V_X5_draw (c : SC) (v : SV) (w : SW) (x1 x2 x3 x4 x5 x6 : Int32) : SV := (V_X3_drawLast c v w x1.toNatClampNeg (F_X5_regionOf x2 x3 x4 x5) x6)
def W_X5_draw (c : SC) (v : SV) (w : SW) (x1 x2 x3 x4 x5 x6 : Int32) : SW := (W_X3_drawLast c v w x1.toNatClampNeg (F_X5_regionOf x2 x3 x4 x5) x6)

set_option maxHeartbeats 4000000 in
set_option maxRecDepth 100000 in
theorem m_X5_draw (l : Launch) (D : va_G) (cA : Nat → ClassId) (NL : List (Nat × Nat)) (c : SC) (v : SV) (w : SW) (u : Nat → Int32) (ad : Nat → Nat → Nat) (A : Nat → Prop) (x1 x2 x3 x4 x5 x6 : Int32) (hM : MEM c NL) (hBd : BND c) (hF : WF c v) (h1n : ¬ x1 < 0) (h1 : x1.toNatClampNeg < c 0) (g1 : ¬ x2 < 0) (g2 : ¬ x4 < x2) (g3 : ¬ 20 ≤ x4) (g4 : ¬ x3 < 0) (g5 : ¬ x5 < x3) (g6 : x5 < 20) (g7 : ¬ x6 < 0) (g8 : x6 ≤ 255) (hs : F_X3_lastStatus c v w x1.toNatClampNeg = 0) : Met l yX5_draw wsX5_draw ({ frames := 2, cells := 0, slots := 0, locals := 44 }) (pcPre D vwCl (tyL cA) [.ref (ad 5 0), .int x1, .int x2, .int x3, .int x4, .int x5, .int x6] (fun H => va_P D vwCl (pcW NL ad (ctO cA c v w u ad)) H ∧ va_D A (pcW NL ad (ctO cA c v w u ad)) ∧ ∀ q, H.size ≤ q → A q)) (va_Qi (fun (r : Int32) (_ : Unit) => r = F_X5_draw c v w x1 x2 x3 x4 x5 x6) (fun (_ : Unit) t => va_P D vwCl (pcW NL ad (ctO cA c (V_X5_draw c v w x1 x2 x3 x4 x5 x6) (W_X5_draw c v w x1 x2 x3 x4 x5 x6) u ad)) t.heap) A) 0 0 A := by
  refine Met.ofW (cc := cX5_draw) (maxL := 10) (ret := (some .int)) (by decide) rfl ?_
  intro p e s m args below meth c0 s₁ B hml hv
  obtain ⟨rfl, hX, hP0, hD, hA⟩ := hv
  have hx := B.exec
  have hb := B.bytes
  have hr := B.returns
  have hts := atoms_spec (ws := wsX5_draw) B.pre
  have hown : s.vm.findClass RX5 = some m.cls := findClass_of_methodNamed B.named
  have hlocks := B.notSynchronized
  have hW : pcS D vwCl A s.heap NL ad (ctO cA c v w u ad) s.heap [] := ⟨hP0, hD, va_S.rf⟩
  have hl := lv_entry ([.ref (ad 5 0), .int x1, .int x2, .int x3, .int x4, .int x5, .int x6]) (n := 10) (Nat.le_of_ble_eq_true rfl)
  rw [lg_entry_eq]
  generalize (lg_sl ([.ref (ad 5 0), .int x1, .int x2, .int x3, .int x4, .int x5, .int x6]) ++ List.replicate (10 - (lg_sl ([.ref (ad 5 0), .int x1, .int x2, .int x3, .int x4, .int x5, .int x6])).length) Slot.unset).toArray = ls at hl ⊢
  have hl : lv_has ls 10 [(0, .ref (ad 5 0)), (1, .int x1), (2, .int x2), (3, .int x3), (4, .int x4), (5, .int x5), (6, .int x6)] := hl
  refine lv_aload_n hx hb dX5_draw_0 rfl (lv_at hl 0 rfl) ?_
  refine lv_iload_n hx hb dX5_draw_1 rfl (lv_at hl 1 rfl) ?_
  refine pc_rcallv (va_runV (As := [.int x1]) (rest := []) ⟨hx, hb, hml, hown, hts⟩ (r_X5_requireSheet l D cA NL c v w u ad x1 hM hBd hF h1n h1) (cwV 1 hts gX5_draw_X5_requireSheet rfl rfl rfl (by decide +kernel) ⟨Nat.le_of_ble_eq_true rfl, Nat.le_of_ble_eq_true rfl⟩) (pc_preV pcN_ok hX hW.1 hM.1 rfl rfl hW.1) rfl rfl hl.1 rfl (lv_room (Nat.le_of_ble_eq_true rfl)) dX5_draw_2 ⟨Nat.le_of_ble_eq_true rfl, Nat.le_of_ble_eq_true rfl⟩) hW (fun H locs _ hW => ?_)
  refine lv_iload_n hx hb dX5_draw_5 rfl (lv_at hl 2 rfl) ?_
  refine lv_iload_n hx hb dX5_draw_6 rfl (lv_at hl 3 rfl) ?_
  refine lv_iload hx hb dX5_draw_7 (lv_at hl 4 rfl) ?_
  refine lv_iload hx hb dX5_draw_9 (lv_at hl 5 rfl) ?_
  refine pc_rcallv (va_runS (As := [.int x2, .int x3, .int x4, .int x5]) (rest := []) ⟨hx, hb, hml, hown, hts⟩ (r_X5_requireRegion l D cA x2 x3 x4 x5 g1 g2 g3 g4 g5 g6) (va_cwS 4 hts gX5_draw_X5_requireRegion rfl rfl rfl (by decide +kernel) ⟨Nat.le_of_ble_eq_true rfl, Nat.le_of_ble_eq_true rfl⟩) (pc_preS pcN_ok hX trivial) rfl rfl hl.1 rfl (lv_room (Nat.le_of_ble_eq_true rfl)) dX5_draw_11 ⟨Nat.le_of_ble_eq_true rfl, Nat.le_of_ble_eq_true rfl⟩) hW (fun H locs _ hW => ?_)
  refine lv_iload hx hb dX5_draw_14 (lv_at hl 6 rfl) ?_
  refine lv_if_lt (tgt := 27) hx hb dX5_draw_16 (by decide) (fun c319 => absurd c319 g7) (fun _ => ?_)
  refine lv_iload hx hb dX5_draw_19 (lv_at hl 6 rfl) ?_
  refine lv_sipush (v := 255) hx hb dX5_draw_21 (by decide) ?_
  refine lv_icmp_le (tgt := 37) hx hb dX5_draw_24 (by decide) (fun _ => ?_) (fun c320 => absurd g8 c320)
  refine lv_aload_n hx hb dX5_draw_37 rfl (lv_at hl 0 rfl) ?_
  refine pc_get (C := RX5) (T := TX5) (N := 13) (ci := 5) hx hb hts (by decide +kernel) hown hX.1 hW.1 5 0 hM.1 rfl rfl 0 (by decide) (hts (.fieldLink RX5 11 "DraftsmanOffice" "sheets" "[LDraftsmanOffice$Sheet;") (by decide +kernel)) (fun _ h9 => h9) rfl dX5_draw_38 ?_
  refine lv_iload_n hx hb dX5_draw_41 rfl (lv_at hl 1 rfl) ?_
  refine pc_aald (r := .ref (ad 1 x1.toNatClampNeg)) hx hb hX.1 hW.1 50 0 3 (hM.2.1 50 (by decide) (by decide)) rfl rfl rfl (fun q => q.elim h1n (fun q => absurd (Nat.lt_of_lt_of_le h1 hBd.1) (Nat.not_lt.mpr q))) (by rw [sRf_in h1]; rfl) dX5_draw_42 ?_
  refine lv_astore (lv' := [(7, .ref (ad 1 x1.toNatClampNeg)), (0, .ref (ad 5 0)), (1, .int x1), (2, .int x2), (3, .int x3), (4, .int x4), (5, .int x5), (6, .int x6)]) hx hb dX5_draw_43 hl (by decide) rfl (fun ls hl => ?_)
  refine lv_aload hx hb dX5_draw_45 (lv_at hl 0 rfl) ?_
  refine pc_rcalli (va_runVN (As := []) (rest := []) ⟨hx, hb, hml, hown, hts⟩ (r_X3_lastStatus l D cA NL c v w u ad x1.toNatClampNeg hM hBd h1) ⟨va_cnB 0 hts gX5_draw_X3_lastStatus_n97 rfl rfl rfl (hX.2.1 (.methodLinkNest RX5 97 yX3_lastStatus R_host) (by decide +kernel)) (hts (.initialized RX3) (by decide +kernel)) (by decide +kernel) ⟨Nat.le_of_ble_eq_true rfl, Nat.le_of_ble_eq_true rfl⟩, hts (.instanceMethod yX3_lastStatus) (by decide +kernel), hts (.selects RX3 yX3_lastStatus yX3_lastStatus) (by decide +kernel)⟩ (pc_preV pcN_ok hX hW.1 (hM.2.2.2.1 x1.toNatClampNeg h1).1 rfl rfl hW.1) rfl rfl hl.1 rfl (lv_room (Nat.le_of_ble_eq_true rfl)) dX5_draw_47 ⟨Nat.le_of_ble_eq_true rfl, Nat.le_of_ble_eq_true rfl⟩) hW (fun r321 H locs hwr321 hW => ?_)
  subst hwr321
  refine lv_if_eq (tgt := 63) hx hb dX5_draw_50 (by decide) (fun _ => ?_) (fun c322 => absurd hs c322)
  refine lv_iload_n hx hb dX5_draw_63 rfl (lv_at hl 3 rfl) ?_
  refine lv_iload_n hx hb dX5_draw_64 rfl (lv_at hl 4 rfl) ?_
  refine lv_iload hx hb dX5_draw_65 (lv_at hl 5 rfl) ?_
  refine lv_iload hx hb dX5_draw_67 (lv_at hl 6 rfl) ?_
  refine pc_rcalll (va_runS (As := [.int x2, .int x3, .int x4, .int x5]) (rest := []) ⟨hx, hb, hml, hown, hts⟩ (r_X5_regionOf l D cA x2 x3 x4 x5 ) (va_cwS 4 hts gX5_draw_X5_regionOf rfl rfl rfl (by decide +kernel) ⟨Nat.le_of_ble_eq_true rfl, Nat.le_of_ble_eq_true rfl⟩) (pc_preS pcN_ok hX trivial) rfl rfl hl.1 rfl (lv_room (Nat.le_of_ble_eq_true rfl)) dX5_draw_69 ⟨Nat.le_of_ble_eq_true rfl, Nat.le_of_ble_eq_true rfl⟩) hW (fun r323 H locs hwr323 hW => ?_)
  subst hwr323
  refine lv_lstore (lv' := [(8, .long (F_X5_regionOf x2 x3 x4 x5)), (7, .ref (ad 1 x1.toNatClampNeg)), (0, .ref (ad 5 0)), (1, .int x1), (2, .int x2), (3, .int x3), (4, .int x4), (5, .int x5), (6, .int x6)]) hx hb dX5_draw_72 hl (by decide) rfl (fun ls hl => ?_)
  refine lv_aload hx hb dX5_draw_74 (lv_at hl 1 rfl) ?_
  refine lv_lload hx hb dX5_draw_76 (lv_at hl 0 rfl) ?_
  refine lv_iload hx hb dX5_draw_78 (lv_at hl 8 rfl) ?_
  have hD9 := hW.2.1
  refine pc_mcallv (va_runVN (As := [.long (F_X5_regionOf x2 x3 x4 x5), .int x6]) (rest := []) ⟨hx, hb, hml, hown, hts⟩ (m_X3_drawLast l D cA NL c v w u ad A x1.toNatClampNeg (F_X5_regionOf x2 x3 x4 x5) x6 hM hBd hF h1) ⟨va_cnB 2 hts gX5_draw_X3_drawLast_n107 rfl rfl rfl (hX.2.1 (.methodLinkNest RX5 107 yX3_drawLast R_host) (by decide +kernel)) (hts (.initialized RX3) (by decide +kernel)) (by decide +kernel) ⟨Nat.le_of_ble_eq_true rfl, Nat.le_of_ble_eq_true rfl⟩, hts (.instanceMethod yX3_drawLast) (by decide +kernel), hts (.selects RX3 yX3_drawLast yX3_drawLast) (by decide +kernel)⟩ (pc_preV pcN_ok hX hW.1 (hM.2.2.2.1 x1.toNatClampNeg h1).1 rfl rfl ⟨hW.1, hW.2.1, fun q h => hA q (Nat.le_trans hW.2.2.1 h)⟩) rfl rfl hl.1 rfl (lv_room (Nat.le_of_ble_eq_true rfl)) dX5_draw_80 ⟨Nat.le_of_ble_eq_true rfl, Nat.le_of_ble_eq_true rfl⟩) hW.2.2 (fun _ H locs _ hB hS9 => ?_)
  have hW : pcS D vwCl A s.heap NL ad (ctO cA c (V_X3_drawLast c v w x1.toNatClampNeg (F_X5_regionOf x2 x3 x4 x5) x6) (W_X3_drawLast c v w x1.toNatClampNeg (F_X5_regionOf x2 x3 x4 x5) x6) u ad) H locs := ⟨hB, pcD_ct hD9, hS9⟩
  refine lv_lload hx hb dX5_draw_83 (lv_at hl 0 rfl) ?_
  refine pc_rcalli (va_runS (As := [.long (F_X5_regionOf x2 x3 x4 x5)]) (rest := []) ⟨hx, hb, hml, hown, hts⟩ (r_X5_fieldsOf l D cA (F_X5_regionOf x2 x3 x4 x5) ) (va_cwS 1 hts gX5_draw_X5_fieldsOf rfl rfl rfl (by decide +kernel) ⟨Nat.le_of_ble_eq_true rfl, Nat.le_of_ble_eq_true rfl⟩) (pc_preS pcN_ok hX trivial) rfl rfl hl.1 rfl (lv_room (Nat.le_of_ble_eq_true rfl)) dX5_draw_85 ⟨Nat.le_of_ble_eq_true rfl, Nat.le_of_ble_eq_true rfl⟩) hW (fun r325 H locs hwr325 hW => ?_)
  subst hwr325
  have e9v : V_X5_draw c v w x1 x2 x3 x4 x5 x6 = (V_X3_drawLast c v w x1.toNatClampNeg (F_X5_regionOf x2 x3 x4 x5) x6) := rfl
  have e9w : W_X5_draw c v w x1 x2 x3 x4 x5 x6 = (W_X3_drawLast c v w x1.toNatClampNeg (F_X5_regionOf x2 x3 x4 x5) x6) := rfl
  exact W.iret (v := (F_X5_fieldsOf (F_X5_regionOf x2 x3 x4 x5))) hx hb hr (fun t ht hW9 => ⟨⟨(F_X5_fieldsOf (F_X5_regionOf x2 x3 x4 x5)), (), rfl, rfl, (by show va_P D vwCl (pcW NL ad (ctO cA c (V_X5_draw c v w x1 x2 x3 x4 x5 x6) (W_X5_draw c v w x1 x2 x3 x4 x5 x6) u ad)) t.heap; rw [e9v]; rw [e9w]; rw [ht]; exact hW.1)⟩, hW.2.2.F ht⟩) hW.2.2.2.2 dX5_draw_88

theorem wfe_workADay {c : SC} {v : SV} {w : SW} {i : Nat} (j : Nat) : V_X4_workADay c v w i 2 j 1 = v 2 j 1 ∧ V_X4_workADay c v w i 7 j 0 = v 7 j 0 ∧ V_X4_workADay c v w i 1 j 1 = v 1 j 1 := by
  unfold V_X4_workADay
  repeat' split
  all_goals exact ⟨rfl, rfl, rfl⟩

def VL_X5_day (c : SC) (v : SV) (w : SW)   : Nat → Nat → SV → SV
  | 0, _, Vs330 => Vs330
  | k327 + 1, i326, Vs330 => VL_X5_day c v w k327 (i326 + 1) (if (Vs330 7 i326 3) = (1 : Int32) then (if ((V_X4_workADay (uC c 5 ((c 5) + 1)) Vs330 w i326) 7 i326 3) = (3 : Int32) then (V_X5_mark (uC c 5 ((c 5) + 1)) (V_X4_workADay (uC c 5 ((c 5) + 1)) Vs330 w i326) w ((V_X4_workADay (uC c 5 ((c 5) + 1)) Vs330 w i326) 7 i326 1)) else (V_X4_workADay (uC c 5 ((c 5) + 1)) Vs330 w i326)) else Vs330)
def FL_X5_day (c : SC) (v : SV) (w : SW)   : Nat → Nat → SV → Int32 → Int32
  | 0, _, _, s328 => s328
  | k327 + 1, i326, Vs330, s328 => FL_X5_day c v w k327 (i326 + 1) (if (Vs330 7 i326 3) = (1 : Int32) then (if ((V_X4_workADay (uC c 5 ((c 5) + 1)) Vs330 w i326) 7 i326 3) = (3 : Int32) then (V_X5_mark (uC c 5 ((c 5) + 1)) (V_X4_workADay (uC c 5 ((c 5) + 1)) Vs330 w i326) w ((V_X4_workADay (uC c 5 ((c 5) + 1)) Vs330 w i326) 7 i326 1)) else (V_X4_workADay (uC c 5 ((c 5) + 1)) Vs330 w i326)) else Vs330) (if (Vs330 7 i326 3) = (1 : Int32) then (if ((V_X4_workADay (uC c 5 ((c 5) + 1)) Vs330 w i326) 7 i326 3) = (3 : Int32) then (s328 + 1) else s328) else s328)
def F_X5_day (c : SC) (v : SV) (w : SW)  : Int32 := (FL_X5_day c v w (c 4) 0 v (0 : Int32))
def V_X5_day (c : SC) (v : SV) (w : SW)  : SV := (V_X5_stopUnfit (uC c 5 ((c 5) + 1)) (VL_X5_day c v w (c 4) 0 v) w)

theorem wfl_day {c : SC} {v : SV} {w : SW}  : ∀ (k i : Nat) (V : SV) (j : Nat), VL_X5_day c v w k i V 2 j 1 = V 2 j 1 ∧ VL_X5_day c v w k i V 7 j 0 = V 7 j 0 ∧ VL_X5_day c v w k i V 1 j 1 = V 1 j 1 := by
  intro k
  induction k with
  | zero => intro i V j; exact ⟨rfl, rfl, rfl⟩
  | succ k ih =>
    intro i V j
    have e : VL_X5_day c v w (k + 1) i V = VL_X5_day c v w k (i + 1) _ := rfl
    rw [e, (ih (i + 1) _ j).1, (ih (i + 1) _ j).2.1, (ih (i + 1) _ j).2.2]
    repeat' split
    all_goals first | exact ⟨rfl, rfl, rfl⟩ | skip
    all_goals (have e1 := wfe_workADay (c := uC c 5 (c 5 + 1)) (v := V) (w := w) (i := i) j; first | exact e1 | (have e2 := wfl_mark (c := uC c 5 (c 5 + 1)) (v := V_X4_workADay (uC c 5 (c 5 + 1)) V w i) (w := w) (x1 := (V_X4_workADay (uC c 5 (c 5 + 1)) V w i) 7 i 1) (c 0) 0 (V_X4_workADay (uC c 5 (c 5 + 1)) V w i) j; exact ⟨e2.1.trans e1.1, e2.2.1.trans e1.2.1, e2.2.2.trans e1.2.2⟩))
theorem wf_day {c : SC} {v : SV} {w : SW} (h : WF c v) : WF c (VL_X5_day c v w (c 4) 0 v) := WF_of h (fun j => wfl_day (c := c) (v := v) (w := w) _ _ _ j)
set_option maxHeartbeats 4000000 in
set_option maxRecDepth 100000 in
theorem m_X5_day (l : Launch) (D : va_G) (cA : Nat → ClassId) (NL : List (Nat × Nat)) (c : SC) (v : SV) (w : SW) (u : Nat → Int32) (ad : Nat → Nat → Nat) (A : Nat → Prop)  (hM : MEM c NL) (hBd : BND c) (hF : WF c v) : Met l yX5_day wsX5_day ({ frames := 7, cells := 0, slots := 0, locals := 163 }) (pcPre D vwCl (tyL cA) [.ref (ad 5 0)] (fun H => va_P D vwCl (pcW NL ad (ctO cA c v w u ad)) H ∧ va_D A (pcW NL ad (ctO cA c v w u ad)) ∧ ∀ q, H.size ≤ q → A q)) (va_Qi (fun (r : Int32) (_ : Unit) => r = F_X5_day c v w) (fun (_ : Unit) t => va_P D vwCl (pcW NL ad (ctO cA (uC c 5 (c 5 + 1)) (V_X5_day c v w) w u ad)) t.heap) A) 0 0 A := by
  refine Met.ofW (cc := cX5_day) (maxL := 4) (ret := (some .int)) (by decide) rfl ?_
  intro p e s m args below meth c0 s₁ B hml hv
  obtain ⟨rfl, hX, hP0, hD, hA⟩ := hv
  have hx := B.exec
  have hb := B.bytes
  have hr := B.returns
  have hts := atoms_spec (ws := wsX5_day) B.pre
  have hown : s.vm.findClass RX5 = some m.cls := findClass_of_methodNamed B.named
  have hlocks := B.notSynchronized
  have hW : pcS D vwCl A s.heap NL ad (ctO cA c v w u ad) s.heap [] := ⟨hP0, hD, va_S.rf⟩
  have hl := lv_entry ([.ref (ad 5 0)]) (n := 4) (Nat.le_of_ble_eq_true rfl)
  rw [lg_entry_eq]
  generalize (lg_sl ([.ref (ad 5 0)]) ++ List.replicate (4 - (lg_sl ([.ref (ad 5 0)])).length) Slot.unset).toArray = ls at hl ⊢
  have hl : lv_has ls 4 [(0, .ref (ad 5 0))] := hl
  refine lv_aload_n hx hb dX5_day_0 rfl (lv_at hl 0 rfl) ?_
  refine lv_dup hx hb dX5_day_1 rfl ?_
  refine pc_get (C := RX5) (T := TX5) (N := 13) (ci := 5) hx hb hts (by decide +kernel) hown hX.1 hW.1 5 0 hM.1 rfl rfl 12 (by decide) (hts (.fieldLink RX5 64 "DraftsmanOffice" "today" "I") (by decide +kernel)) (fun _ h9 => h9) rfl dX5_day_2 ?_
  refine lv_iconst (v := 1) hx hb dX5_day_5 (by decide) ?_
  refine lv_iadd hx hb dX5_day_6 ?_
  rw [nI_1]
  refine pc_put (v := .int (nI ((c 5) + 1))) (C := RX5) (T := TX5) (N := 13) (ci := 5) (ty := .int) hx hb hts (by decide +kernel) tyX5 tyX5_ok nmX5 hown hX.1 hW 5 0 hM.1 rfl rfl 12 (by decide) (hts (.fieldLink RX5 64 "DraftsmanOffice" "today" "I") (by decide +kernel)) (fun _ h9 => h9) rfl (by decide +kernel) rfl rfl (Nat.le_of_ble_eq_true rfl) dX5_day_7 (fun H locs hW => ?_)
  have hW : pcS D vwCl A s.heap NL ad (ctO cA (uC c 5 ((c 5) + 1)) v w u ad) H locs := pcS_eq hW ctO_day
  refine lv_iconst (v := 0) hx hb dX5_day_10 (by decide) ?_
  refine lv_istore_n (lv' := [(1, .int 0), (0, .ref (ad 5 0))]) hx hb dX5_day_11 rfl hl (by decide) rfl (fun ls hl => ?_)
  refine lv_iconst (v := 0) hx hb dX5_day_12 (by decide) ?_
  refine lv_istore_n (lv' := [(2, .int 0), (1, .int 0), (0, .ref (ad 5 0))]) hx hb dX5_day_13 rfl hl (by decide) rfl (fun ls hl => ?_)
  have K329 : ∀ (k327 i326 : Nat) (Vs330 : SV) (s328 : Int32) (H : Heap) (locs : List Loc) (ls : Array Slot), i326 + k327 = c 4 → (VL_X5_day c v w k327 i326 Vs330) = (VL_X5_day c v w (c 4) 0 v) → (FL_X5_day c v w k327 i326 Vs330 s328) = (FL_X5_day c v w (c 4) 0 v (0 : Int32)) → pcS D vwCl A s.heap NL ad (ctO cA (uC c 5 ((c 5) + 1)) Vs330 w u ad) H locs → lv_has ls 4 [(2, .int (nI i326)), (1, .int s328), (0, .ref (ad 5 0))] → W p l e (headSpec wsX5_day ({ frames := 7, cells := 0, slots := 0, locals := 163 })).room s m ([.ref (ad 5 0)] : List Value).toArray below meth c0 H locs 0 0 (MQ below (va_Qi (fun (r : Int32) (_ : Unit) => r = F_X5_day c v w) (fun (_ : Unit) t => va_P D vwCl (pcW NL ad (ctO cA (uC c 5 (c 5 + 1)) (V_X5_day c v w) w u ad)) t.heap) A) ([.ref (ad 5 0)] : List Value).toArray s 0 0 A) (F0 m 14 ls []) := by
    intro k327
    induction k327 with
    | zero =>
      intro i326 Vs330 s328 H locs ls hk heV heF hW hl
      have ei : i326 = c 4 := by omega
      rw [ei] at hl
      obtain rfl : Vs330 = (VL_X5_day c v w (c 4) 0 v) := heV
      obtain rfl : s328 = (FL_X5_day c v w (c 4) 0 v (0 : Int32)) := heF
      refine lv_iload_n hx hb dX5_day_14 rfl (lv_at hl 0 rfl) ?_
      refine lv_aload_n hx hb dX5_day_15 rfl (lv_at hl 2 rfl) ?_
      refine pc_get (C := RX5) (T := TX5) (N := 13) (ci := 5) hx hb hts (by decide +kernel) hown hX.1 hW.1 5 0 hM.1 rfl rfl 11 (by decide) (hts (.fieldLink RX5 61 "DraftsmanOffice" "packageCount" "I") (by decide +kernel)) (fun _ h9 => h9) rfl dX5_day_16 ?_
      refine lv_icmp_ge (tgt := 69) hx hb dX5_day_19 (by decide) (fun _ => ?_) (fun c331 => absurd (Int32.le_refl _) c331)
      refine lv_aload_n hx hb dX5_day_69 rfl (lv_at hl 2 rfl) ?_
      have hD9 := hW.2.1
      refine pc_mcalli (va_runV (As := []) (rest := []) ⟨hx, hb, hml, hown, hts⟩ (m_X5_stopUnfit l D cA NL (uC c 5 ((c 5) + 1)) (VL_X5_day c v w (c 4) 0 v) w u ad A  hM hBd (wf_day hF) ) (cwV 0 hts gX5_day_X5_stopUnfit rfl rfl rfl (by decide +kernel) ⟨Nat.le_of_ble_eq_true rfl, Nat.le_of_ble_eq_true rfl⟩) (pc_preV pcN_ok hX hW.1 hM.1 rfl rfl ⟨hW.1, hW.2.1, fun q h => hA q (Nat.le_trans hW.2.2.1 h)⟩) rfl rfl hl.1 rfl (lv_room (Nat.le_of_ble_eq_true rfl)) dX5_day_70 ⟨Nat.le_of_ble_eq_true rfl, Nat.le_of_ble_eq_true rfl⟩) hW.2.2 (fun r332 _ H locs hwr332 hB hS9 => ?_)
      subst hwr332
      have hW : pcS D vwCl A s.heap NL ad (ctO cA (uC c 5 ((c 5) + 1)) (V_X5_stopUnfit (uC c 5 ((c 5) + 1)) (VL_X5_day c v w (c 4) 0 v) w) w u ad) H locs := ⟨hB, pcD_ct hD9, hS9⟩
      refine lv_pop hx hb dX5_day_73 rfl ?_
      refine lv_iload_n hx hb dX5_day_74 rfl (lv_at hl 1 rfl) ?_
      have e9v : V_X5_day c v w = (V_X5_stopUnfit (uC c 5 ((c 5) + 1)) (VL_X5_day c v w (c 4) 0 v) w) := rfl
      exact W.iret (v := (FL_X5_day c v w (c 4) 0 v (0 : Int32))) hx hb hr (fun t ht hW9 => ⟨⟨(FL_X5_day c v w (c 4) 0 v (0 : Int32)), (), rfl, rfl, (by show va_P D vwCl (pcW NL ad (ctO cA (uC c 5 (c 5 + 1)) (V_X5_day c v w) w u ad)) t.heap; rw [e9v]; rw [ht]; exact hW.1)⟩, hW.2.2.F ht⟩) hW.2.2.2.2 dX5_day_75
    | succ k327 ihk327 =>
      intro i326 Vs330 s328 H locs ls hk heV heF hW hl
      have hlt : i326 < c 4 := by omega
      have hlt9i326 := hlt
      refine lv_iload_n hx hb dX5_day_14 rfl (lv_at hl 0 rfl) ?_
      refine lv_aload_n hx hb dX5_day_15 rfl (lv_at hl 2 rfl) ?_
      refine pc_get (C := RX5) (T := TX5) (N := 13) (ci := 5) hx hb hts (by decide +kernel) hown hX.1 hW.1 5 0 hM.1 rfl rfl 11 (by decide) (hts (.fieldLink RX5 61 "DraftsmanOffice" "packageCount" "I") (by decide +kernel)) (fun _ h9 => h9) rfl dX5_day_16 ?_
      refine lv_icmp_ge (tgt := 69) hx hb dX5_day_19 (by decide) (fun c333 => absurd c333 (nI_ge hlt (Nat.lt_of_le_of_lt hBd.2.2.2.2 (by decide)))) (fun _ => ?_)
      refine lv_aload_n hx hb dX5_day_22 rfl (lv_at hl 2 rfl) ?_
      refine pc_get (C := RX5) (T := TX5) (N := 13) (ci := 5) hx hb hts (by decide +kernel) hown hX.1 hW.1 5 0 hM.1 rfl rfl 4 (by decide) (hts (.fieldLink RX5 35 "DraftsmanOffice" "packages" "[LDraftsmanOffice$WorkPackage;") (by decide +kernel)) (fun _ h9 => h9) rfl dX5_day_23 ?_
      refine lv_iload_n hx hb dX5_day_26 rfl (lv_at hl 0 rfl) ?_
      refine pc_aald (r := .ref (ad 7 i326)) hx hb hX.1 hW.1 54 0 7 (hM.2.1 54 (by decide) (by decide)) rfl rfl rfl (vp_in_nI (Nat.lt_of_lt_of_le hlt9i326 hBd.2.2.2.2) (by decide)) (by rw [nI_clamp (Nat.lt_of_lt_of_le (Nat.lt_of_lt_of_le hlt9i326 hBd.2.2.2.2) (by decide)), sRf_in hlt9i326]; rfl) dX5_day_27 ?_
      refine lv_astore_n (lv' := [(3, .ref (ad 7 i326)), (2, .int (nI i326)), (1, .int s328), (0, .ref (ad 5 0))]) hx hb dX5_day_28 rfl hl (by decide) rfl (fun ls hl => ?_)
      refine lv_aload_n hx hb dX5_day_29 rfl (lv_at hl 0 rfl) ?_
      refine pc_getN (C := RX4) (T := TX4) (N := 6) (ci := 4) hx hb hts (by decide +kernel) hown hX.1 hW.1 7 i326 (hM.2.2.2.2.2.2.2 i326 hlt9i326) rfl rfl 4 (by decide) (hX.2.1 (.fieldLinkNest RX5 264 "DraftsmanOffice$WorkPackage" "state" "I" R_host) (by decide +kernel)) (fun _ h9 => h9) rfl dX5_day_30 ?_
      refine lv_iconst (v := 1) hx hb dX5_day_33 (by decide) ?_
      refine lv_icmp_eq (tgt := 40) hx hb dX5_day_34 (by decide) (fun (c334 : (Vs330 7 i326 3) = (1 : Int32)) => ?_) (fun (c334 : ¬ (Vs330 7 i326 3) = (1 : Int32)) => ?_)
      · refine lv_aload_n hx hb dX5_day_40 rfl (lv_at hl 0 rfl) ?_
        have hD9 := hW.2.1
        refine pc_mcallv (va_runVN (As := []) (rest := []) ⟨hx, hb, hml, hown, hts⟩ (m_X4_workADay l D cA NL (uC c 5 ((c 5) + 1)) Vs330 w u ad A i326 hM hBd hlt9i326) ⟨va_cnB 0 hts gX5_day_X4_workADay_n286 rfl rfl rfl (hX.2.1 (.methodLinkNest RX5 286 yX4_workADay R_host) (by decide +kernel)) (hts (.initialized RX4) (by decide +kernel)) (by decide +kernel) ⟨Nat.le_of_ble_eq_true rfl, Nat.le_of_ble_eq_true rfl⟩, hts (.instanceMethod yX4_workADay) (by decide +kernel), hts (.selects RX4 yX4_workADay yX4_workADay) (by decide +kernel)⟩ (pc_preV pcN_ok hX hW.1 (hM.2.2.2.2.2.2.2 i326 hlt9i326) rfl rfl ⟨hW.1, hW.2.1, fun q h => hA q (Nat.le_trans hW.2.2.1 h)⟩) rfl rfl hl.1 rfl (lv_room (Nat.le_of_ble_eq_true rfl)) dX5_day_41 ⟨Nat.le_of_ble_eq_true rfl, Nat.le_of_ble_eq_true rfl⟩) hW.2.2 (fun _ H locs _ hB hS9 => ?_)
        have hW : pcS D vwCl A s.heap NL ad (ctO cA (uC c 5 ((c 5) + 1)) (V_X4_workADay (uC c 5 ((c 5) + 1)) Vs330 w i326) w u ad) H locs := ⟨hB, pcD_ct hD9, hS9⟩
        refine lv_aload_n hx hb dX5_day_44 rfl (lv_at hl 0 rfl) ?_
        refine pc_getN (C := RX4) (T := TX4) (N := 6) (ci := 4) hx hb hts (by decide +kernel) hown hX.1 hW.1 7 i326 (hM.2.2.2.2.2.2.2 i326 hlt9i326) rfl rfl 4 (by decide) (hX.2.1 (.fieldLinkNest RX5 264 "DraftsmanOffice$WorkPackage" "state" "I" R_host) (by decide +kernel)) (fun _ h9 => h9) rfl dX5_day_45 ?_
        refine lv_iconst (v := 3) hx hb dX5_day_48 (by decide) ?_
        refine lv_icmp_ne (tgt := 63) hx hb dX5_day_49 (by decide) (fun (c336 : ¬ ((V_X4_workADay (uC c 5 ((c 5) + 1)) Vs330 w i326) 7 i326 3) = (3 : Int32)) => ?_) (fun (c336 : ((V_X4_workADay (uC c 5 ((c 5) + 1)) Vs330 w i326) 7 i326 3) = (3 : Int32)) => ?_)
        · refine lv_iinc (v := nI (i326 + 1)) (lv' := [(2, .int (nI (i326 + 1))), (3, .ref (ad 7 i326)), (1, .int s328), (0, .ref (ad 5 0))]) hx hb dX5_day_63 hl (k := 1) rfl (nI_1 i326) (by decide) rfl (fun ls hl => ?_)
          refine lv_goto (tgt := 14) hx hb dX5_day_66 (by decide) ?_
          have he9V : (VL_X5_day c v w k327 (i326 + 1) (V_X4_workADay (uC c 5 ((c 5) + 1)) Vs330 w i326)) = (VL_X5_day c v w (c 4) 0 v) := by rw [← heV]; show (VL_X5_day c v w k327 (i326 + 1) (V_X4_workADay (uC c 5 ((c 5) + 1)) Vs330 w i326)) = (VL_X5_day c v w (k327 + 1) i326 Vs330); simp only [VL_X5_day, if_pos c334, if_neg c336]
          have he9F : (FL_X5_day c v w k327 (i326 + 1) (V_X4_workADay (uC c 5 ((c 5) + 1)) Vs330 w i326) s328) = (FL_X5_day c v w (c 4) 0 v (0 : Int32)) := by rw [← heF]; show (FL_X5_day c v w k327 (i326 + 1) (V_X4_workADay (uC c 5 ((c 5) + 1)) Vs330 w i326) s328) = (FL_X5_day c v w (k327 + 1) i326 Vs330 s328); simp only [FL_X5_day, if_pos c334, if_neg c336]
          exact ihk327 (i326 + 1) (V_X4_workADay (uC c 5 ((c 5) + 1)) Vs330 w i326) s328 H locs ls (by omega) he9V he9F hW (lv_sub hl [0, 2, 3] rfl)
        · refine lv_iinc (v := (s328 + 1)) (lv' := [(1, .int (s328 + 1)), (3, .ref (ad 7 i326)), (2, .int (nI i326)), (0, .ref (ad 5 0))]) hx hb dX5_day_52 hl (k := 2) rfl rfl (by decide) rfl (fun ls hl => ?_)
          refine lv_aload_n hx hb dX5_day_55 rfl (lv_at hl 3 rfl) ?_
          refine lv_aload_n hx hb dX5_day_56 rfl (lv_at hl 1 rfl) ?_
          refine pc_getN (C := RX4) (T := TX4) (N := 6) (ci := 4) hx hb hts (by decide +kernel) hown hX.1 hW.1 7 i326 (hM.2.2.2.2.2.2.2 i326 hlt9i326) rfl rfl 1 (by decide) (hX.2.1 (.fieldLinkNest RX5 289 "DraftsmanOffice$WorkPackage" "sheets" "I" R_host) (by decide +kernel)) (fun _ h9 => h9) rfl dX5_day_57 ?_
          have hD9 := hW.2.1
          refine pc_mcallv (va_runV (As := [.int ((V_X4_workADay (uC c 5 ((c 5) + 1)) Vs330 w i326) 7 i326 1)]) (rest := []) ⟨hx, hb, hml, hown, hts⟩ (m_X5_mark l D cA NL (uC c 5 ((c 5) + 1)) (V_X4_workADay (uC c 5 ((c 5) + 1)) Vs330 w i326) w u ad A ((V_X4_workADay (uC c 5 ((c 5) + 1)) Vs330 w i326) 7 i326 1) hM hBd ) (cwV 1 hts gX5_day_X5_mark rfl rfl rfl (by decide +kernel) ⟨Nat.le_of_ble_eq_true rfl, Nat.le_of_ble_eq_true rfl⟩) (pc_preV pcN_ok hX hW.1 hM.1 rfl rfl ⟨hW.1, hW.2.1, fun q h => hA q (Nat.le_trans hW.2.2.1 h)⟩) rfl rfl hl.1 rfl (lv_room (Nat.le_of_ble_eq_true rfl)) dX5_day_60 ⟨Nat.le_of_ble_eq_true rfl, Nat.le_of_ble_eq_true rfl⟩) hW.2.2 (fun _ H locs _ hB hS9 => ?_)
          have hW : pcS D vwCl A s.heap NL ad (ctO cA (uC c 5 ((c 5) + 1)) (V_X5_mark (uC c 5 ((c 5) + 1)) (V_X4_workADay (uC c 5 ((c 5) + 1)) Vs330 w i326) w ((V_X4_workADay (uC c 5 ((c 5) + 1)) Vs330 w i326) 7 i326 1)) w u ad) H locs := ⟨hB, pcD_ct hD9, hS9⟩
          refine lv_iinc (v := nI (i326 + 1)) (lv' := [(2, .int (nI (i326 + 1))), (1, .int (s328 + 1)), (3, .ref (ad 7 i326)), (0, .ref (ad 5 0))]) hx hb dX5_day_63 hl (k := 2) rfl (nI_1 i326) (by decide) rfl (fun ls hl => ?_)
          refine lv_goto (tgt := 14) hx hb dX5_day_66 (by decide) ?_
          have he9V : (VL_X5_day c v w k327 (i326 + 1) (V_X5_mark (uC c 5 ((c 5) + 1)) (V_X4_workADay (uC c 5 ((c 5) + 1)) Vs330 w i326) w ((V_X4_workADay (uC c 5 ((c 5) + 1)) Vs330 w i326) 7 i326 1))) = (VL_X5_day c v w (c 4) 0 v) := by rw [← heV]; show (VL_X5_day c v w k327 (i326 + 1) (V_X5_mark (uC c 5 ((c 5) + 1)) (V_X4_workADay (uC c 5 ((c 5) + 1)) Vs330 w i326) w ((V_X4_workADay (uC c 5 ((c 5) + 1)) Vs330 w i326) 7 i326 1))) = (VL_X5_day c v w (k327 + 1) i326 Vs330); simp only [VL_X5_day, if_pos c334, if_pos c336]
          have he9F : (FL_X5_day c v w k327 (i326 + 1) (V_X5_mark (uC c 5 ((c 5) + 1)) (V_X4_workADay (uC c 5 ((c 5) + 1)) Vs330 w i326) w ((V_X4_workADay (uC c 5 ((c 5) + 1)) Vs330 w i326) 7 i326 1)) (s328 + 1)) = (FL_X5_day c v w (c 4) 0 v (0 : Int32)) := by rw [← heF]; show (FL_X5_day c v w k327 (i326 + 1) (V_X5_mark (uC c 5 ((c 5) + 1)) (V_X4_workADay (uC c 5 ((c 5) + 1)) Vs330 w i326) w ((V_X4_workADay (uC c 5 ((c 5) + 1)) Vs330 w i326) 7 i326 1)) (s328 + 1)) = (FL_X5_day c v w (k327 + 1) i326 Vs330 s328); simp only [FL_X5_day, if_pos c334, if_pos c336]
          exact ihk327 (i326 + 1) (V_X5_mark (uC c 5 ((c 5) + 1)) (V_X4_workADay (uC c 5 ((c 5) + 1)) Vs330 w i326) w ((V_X4_workADay (uC c 5 ((c 5) + 1)) Vs330 w i326) 7 i326 1)) (s328 + 1) H locs ls (by omega) he9V he9F hW (lv_sub hl [0, 1, 3] rfl)
      · refine lv_goto (tgt := 63) hx hb dX5_day_37 (by decide) ?_
        refine lv_iinc (v := nI (i326 + 1)) (lv' := [(2, .int (nI (i326 + 1))), (3, .ref (ad 7 i326)), (1, .int s328), (0, .ref (ad 5 0))]) hx hb dX5_day_63 hl (k := 1) rfl (nI_1 i326) (by decide) rfl (fun ls hl => ?_)
        refine lv_goto (tgt := 14) hx hb dX5_day_66 (by decide) ?_
        have he9V : (VL_X5_day c v w k327 (i326 + 1) Vs330) = (VL_X5_day c v w (c 4) 0 v) := by rw [← heV]; show (VL_X5_day c v w k327 (i326 + 1) Vs330) = (VL_X5_day c v w (k327 + 1) i326 Vs330); simp only [VL_X5_day, if_neg c334]
        have he9F : (FL_X5_day c v w k327 (i326 + 1) Vs330 s328) = (FL_X5_day c v w (c 4) 0 v (0 : Int32)) := by rw [← heF]; show (FL_X5_day c v w k327 (i326 + 1) Vs330 s328) = (FL_X5_day c v w (k327 + 1) i326 Vs330 s328); simp only [FL_X5_day, if_neg c334]
        exact ihk327 (i326 + 1) Vs330 s328 H locs ls (by omega) he9V he9F hW (lv_sub hl [0, 2, 3] rfl)
  exact K329 (c 4) 0 v (0 : Int32) _ _ ls (by omega) rfl rfl hW (lv_sub hl [0, 1, 2] rfl)

/-- the issued revision's region and details are the sheet's own: what is taken back stands as before -/
def RI (c : SC) (v : SV) (w : SW) : Prop := ∀ j, j < c 0 → (¬ v 1 j 3 < 0 ∧ (v 1 j 3).toNatClampNeg < 6) ∧ w 1 j 0 = w 11 j (v 1 j 3).toNatClampNeg ∧ v 1 j 4 = v 12 j (v 1 j 3).toNatClampNeg
theorem setIssued_backV {c : SC} {v : SV} {w w2 : SW} {j : Nat} {x : Int32} (h : v 1 j 4 = v 12 j (v 1 j 3).toNatClampNeg) : V_X3_setIssued c (V_X3_setIssued c v w j x) w2 j (v 1 j 3) = v := by
  funext a b d
  simp only [V_X3_setIssued, uV]
  repeat' split
  all_goals first | rfl | skip
  all_goals simp_all
theorem setIssued_backW {c : SC} {v v2 : SV} {w : SW} {j : Nat} {x : Int32} (h : w 1 j 0 = w 11 j (v 1 j 3).toNatClampNeg) : W_X3_setIssued c v2 (W_X3_setIssued c v w j x) j (v 1 j 3) = w := by
  funext a b d
  simp only [W_X3_setIssued, uW]
  repeat' split
  all_goals first | rfl | skip
  all_goals simp_all

def F_X5_stoppedBy (c : SC) (v : SV) (w : SW) (x1 : Int32) : Int32 := (if (F_X5_isReadyToIssue c v w x1) = 0 then (-1 : Int32) else (F_J6_bitCount_0f7a4 (F_X5_unfitRunning c (V_X3_setIssued c v w x1.toNatClampNeg (v 1 x1.toNatClampNeg 1)) (W_X3_setIssued c v w x1.toNatClampNeg (v 1 x1.toNatClampNeg 1)))))

set_option maxHeartbeats 4000000 in
set_option maxRecDepth 100000 in
theorem m_X5_stoppedBy (l : Launch) (D : va_G) (cA : Nat → ClassId) (NL : List (Nat × Nat)) (c : SC) (v : SV) (w : SW) (u : Nat → Int32) (ad : Nat → Nat → Nat) (A : Nat → Prop) (x1 : Int32) (hM : MEM c NL) (hBd : BND c) (hF : WF c v) (hRI : RI c v w) (h1n : ¬ x1 < 0) (h1 : x1.toNatClampNeg < c 0) : Met l yX5_stoppedBy wsX5_stoppedBy ({ frames := 6, cells := 0, slots := 0, locals := 141 }) (pcPre D vwCl (tyL cA) [.ref (ad 5 0), .int x1] (fun H => va_P D vwCl (pcW NL ad (ctO cA c v w u ad)) H ∧ va_D A (pcW NL ad (ctO cA c v w u ad)) ∧ ∀ q, H.size ≤ q → A q)) (va_Qi (fun (r : Int32) (_ : Unit) => r = F_X5_stoppedBy c v w x1) (fun (_ : Unit) t => va_P D vwCl (pcW NL ad (ctO cA c v w u ad)) t.heap) A) 0 0 A := by
  refine Met.ofW (cc := cX5_stoppedBy) (maxL := 5) (ret := (some .int)) (by decide) rfl ?_
  intro p e s m args below meth c0 s₁ B hml hv
  obtain ⟨rfl, hX, hP0, hD, hA⟩ := hv
  have hx := B.exec
  have hb := B.bytes
  have hr := B.returns
  have hts := atoms_spec (ws := wsX5_stoppedBy) B.pre
  have hown : s.vm.findClass RX5 = some m.cls := findClass_of_methodNamed B.named
  have hlocks := B.notSynchronized
  have hW : pcS D vwCl A s.heap NL ad (ctO cA c v w u ad) s.heap [] := ⟨hP0, hD, va_S.rf⟩
  have hl := lv_entry ([.ref (ad 5 0), .int x1]) (n := 5) (Nat.le_of_ble_eq_true rfl)
  rw [lg_entry_eq]
  generalize (lg_sl ([.ref (ad 5 0), .int x1]) ++ List.replicate (5 - (lg_sl ([.ref (ad 5 0), .int x1])).length) Slot.unset).toArray = ls at hl ⊢
  have hl : lv_has ls 5 [(0, .ref (ad 5 0)), (1, .int x1)] := hl
  refine lv_aload_n hx hb dX5_stoppedBy_0 rfl (lv_at hl 0 rfl) ?_
  refine lv_iload_n hx hb dX5_stoppedBy_1 rfl (lv_at hl 1 rfl) ?_
  refine pc_rcallv (va_runV (As := [.int x1]) (rest := []) ⟨hx, hb, hml, hown, hts⟩ (r_X5_requireSheet l D cA NL c v w u ad x1 hM hBd hF h1n h1) (cwV 1 hts gX5_stoppedBy_X5_requireSheet rfl rfl rfl (by decide +kernel) ⟨Nat.le_of_ble_eq_true rfl, Nat.le_of_ble_eq_true rfl⟩) (pc_preV pcN_ok hX hW.1 hM.1 rfl rfl hW.1) rfl rfl hl.1 rfl (lv_room (Nat.le_of_ble_eq_true rfl)) dX5_stoppedBy_2 ⟨Nat.le_of_ble_eq_true rfl, Nat.le_of_ble_eq_true rfl⟩) hW (fun H locs _ hW => ?_)
  refine lv_aload_n hx hb dX5_stoppedBy_5 rfl (lv_at hl 0 rfl) ?_
  refine lv_iload_n hx hb dX5_stoppedBy_6 rfl (lv_at hl 1 rfl) ?_
  refine pc_rcalli (va_runV (As := [.int x1]) (rest := []) ⟨hx, hb, hml, hown, hts⟩ (r_X5_isReadyToIssue l D cA NL c v w u ad x1 hM hBd hF h1n h1) (cwV 1 hts gX5_stoppedBy_X5_isReadyToIssue rfl rfl rfl (by decide +kernel) ⟨Nat.le_of_ble_eq_true rfl, Nat.le_of_ble_eq_true rfl⟩) (pc_preV pcN_ok hX hW.1 hM.1 rfl rfl hW.1) rfl rfl hl.1 rfl (lv_room (Nat.le_of_ble_eq_true rfl)) dX5_stoppedBy_7 ⟨Nat.le_of_ble_eq_true rfl, Nat.le_of_ble_eq_true rfl⟩) hW (fun r339 H locs hwr339 hW => ?_)
  subst hwr339
  refine lv_if_ne (tgt := 15) hx hb dX5_stoppedBy_10 (by decide) (fun (c340 : ¬ (F_X5_isReadyToIssue c v w x1) = 0) => ?_) (fun (c340 : (F_X5_isReadyToIssue c v w x1) = 0) => ?_)
  · refine lv_aload_n hx hb dX5_stoppedBy_15 rfl (lv_at hl 0 rfl) ?_
    refine pc_get (C := RX5) (T := TX5) (N := 13) (ci := 5) hx hb hts (by decide +kernel) hown hX.1 hW.1 5 0 hM.1 rfl rfl 0 (by decide) (hts (.fieldLink RX5 11 "DraftsmanOffice" "sheets" "[LDraftsmanOffice$Sheet;") (by decide +kernel)) (fun _ h9 => h9) rfl dX5_stoppedBy_16 ?_
    refine lv_iload_n hx hb dX5_stoppedBy_19 rfl (lv_at hl 1 rfl) ?_
    refine pc_aald (r := .ref (ad 1 x1.toNatClampNeg)) hx hb hX.1 hW.1 50 0 3 (hM.2.1 50 (by decide) (by decide)) rfl rfl rfl (fun q => q.elim h1n (fun q => absurd (Nat.lt_of_lt_of_le h1 hBd.1) (Nat.not_lt.mpr q))) (by rw [sRf_in h1]; rfl) dX5_stoppedBy_20 ?_
    refine lv_astore_n (lv' := [(2, .ref (ad 1 x1.toNatClampNeg)), (0, .ref (ad 5 0)), (1, .int x1)]) hx hb dX5_stoppedBy_21 rfl hl (by decide) rfl (fun ls hl => ?_)
    refine lv_aload_n hx hb dX5_stoppedBy_22 rfl (lv_at hl 0 rfl) ?_
    refine pc_getN (C := RX3) (T := TX3) (N := 10) (ci := 3) hx hb hts (by decide +kernel) hown hX.1 hW.1 1 x1.toNatClampNeg (hM.2.2.2.1 x1.toNatClampNeg h1).1 rfl rfl 5 (by decide) (hX.2.1 (.fieldLinkNest RX5 156 "DraftsmanOffice$Sheet" "issued" "I" R_host) (by decide +kernel)) (fun _ h9 => h9) rfl dX5_stoppedBy_23 ?_
    refine lv_istore_n (lv' := [(3, .int (v 1 x1.toNatClampNeg 3)), (2, .ref (ad 1 x1.toNatClampNeg)), (0, .ref (ad 5 0)), (1, .int x1)]) hx hb dX5_stoppedBy_26 rfl hl (by decide) rfl (fun ls hl => ?_)
    refine lv_aload_n hx hb dX5_stoppedBy_27 rfl (lv_at hl 1 rfl) ?_
    refine lv_aload_n hx hb dX5_stoppedBy_28 rfl (lv_at hl 1 rfl) ?_
    refine pc_getN (C := RX3) (T := TX3) (N := 10) (ci := 3) hx hb hts (by decide +kernel) hown hX.1 hW.1 1 x1.toNatClampNeg (hM.2.2.2.1 x1.toNatClampNeg h1).1 rfl rfl 3 (by decide) (hX.2.1 (.fieldLinkNest RX5 115 "DraftsmanOffice$Sheet" "last" "I" R_host) (by decide +kernel)) (fun _ h9 => h9) rfl dX5_stoppedBy_29 ?_
    have hD9 := hW.2.1
    refine pc_mcallv (va_runVN (As := [.int (v 1 x1.toNatClampNeg 1)]) (rest := []) ⟨hx, hb, hml, hown, hts⟩ (m_X3_setIssued l D cA NL c v w u ad A x1.toNatClampNeg (v 1 x1.toNatClampNeg 1) hM hBd h1 (hF.2.2 x1.toNatClampNeg h1).1 (hF.2.2 x1.toNatClampNeg h1).2) ⟨va_cnB 1 hts gX5_stoppedBy_X3_setIssued_n137 rfl rfl rfl (hX.2.1 (.methodLinkNest RX5 137 yX3_setIssued R_host) (by decide +kernel)) (hts (.initialized RX3) (by decide +kernel)) (by decide +kernel) ⟨Nat.le_of_ble_eq_true rfl, Nat.le_of_ble_eq_true rfl⟩, hts (.instanceMethod yX3_setIssued) (by decide +kernel), hts (.selects RX3 yX3_setIssued yX3_setIssued) (by decide +kernel)⟩ (pc_preV pcN_ok hX hW.1 (hM.2.2.2.1 x1.toNatClampNeg h1).1 rfl rfl ⟨hW.1, hW.2.1, fun q h => hA q (Nat.le_trans hW.2.2.1 h)⟩) rfl rfl hl.1 rfl (lv_room (Nat.le_of_ble_eq_true rfl)) dX5_stoppedBy_32 ⟨Nat.le_of_ble_eq_true rfl, Nat.le_of_ble_eq_true rfl⟩) hW.2.2 (fun _ H locs _ hB hS9 => ?_)
    have hW : pcS D vwCl A s.heap NL ad (ctO cA c (V_X3_setIssued c v w x1.toNatClampNeg (v 1 x1.toNatClampNeg 1)) (W_X3_setIssued c v w x1.toNatClampNeg (v 1 x1.toNatClampNeg 1)) u ad) H locs := ⟨hB, pcD_ct hD9, hS9⟩
    refine lv_aload_n hx hb dX5_stoppedBy_35 rfl (lv_at hl 2 rfl) ?_
    refine pc_rcalli (va_runV (As := []) (rest := []) ⟨hx, hb, hml, hown, hts⟩ (r_X5_unfitRunning l D cA NL c (V_X3_setIssued c v w x1.toNatClampNeg (v 1 x1.toNatClampNeg 1)) (W_X3_setIssued c v w x1.toNatClampNeg (v 1 x1.toNatClampNeg 1)) u ad  hM hBd (wf_setIssued hF) ) (cwV 0 hts gX5_stoppedBy_X5_unfitRunning rfl rfl rfl (by decide +kernel) ⟨Nat.le_of_ble_eq_true rfl, Nat.le_of_ble_eq_true rfl⟩) (pc_preV pcN_ok hX hW.1 hM.1 rfl rfl hW.1) rfl rfl hl.1 rfl (lv_room (Nat.le_of_ble_eq_true rfl)) dX5_stoppedBy_36 ⟨Nat.le_of_ble_eq_true rfl, Nat.le_of_ble_eq_true rfl⟩) hW (fun r342 H locs hwr342 hW => ?_)
    subst hwr342
    refine pc_rcalli (va_runS (As := [.int (F_X5_unfitRunning c (V_X3_setIssued c v w x1.toNatClampNeg (v 1 x1.toNatClampNeg 1)) (W_X3_setIssued c v w x1.toNatClampNeg (v 1 x1.toNatClampNeg 1)))]) (rest := []) ⟨hx, hb, hml, hown, hts⟩ (r_J6_bitCount_0f7a4 l D cA (F_X5_unfitRunning c (V_X3_setIssued c v w x1.toNatClampNeg (v 1 x1.toNatClampNeg 1)) (W_X3_setIssued c v w x1.toNatClampNeg (v 1 x1.toNatClampNeg 1))) ) (va_cwS 1 hts gX5_stoppedBy_J6_bitCount_0f7a4 rfl rfl rfl (by decide +kernel) ⟨Nat.le_of_ble_eq_true rfl, Nat.le_of_ble_eq_true rfl⟩) (pc_preS pcN_ok hX trivial) rfl rfl hl.1 rfl (lv_room (Nat.le_of_ble_eq_true rfl)) dX5_stoppedBy_39 ⟨Nat.le_of_ble_eq_true rfl, Nat.le_of_ble_eq_true rfl⟩) hW (fun r343 H locs hwr343 hW => ?_)
    subst hwr343
    refine lv_istore (lv' := [(4, .int (F_J6_bitCount_0f7a4 (F_X5_unfitRunning c (V_X3_setIssued c v w x1.toNatClampNeg (v 1 x1.toNatClampNeg 1)) (W_X3_setIssued c v w x1.toNatClampNeg (v 1 x1.toNatClampNeg 1))))), (3, .int (v 1 x1.toNatClampNeg 3)), (2, .ref (ad 1 x1.toNatClampNeg)), (0, .ref (ad 5 0)), (1, .int x1)]) hx hb dX5_stoppedBy_42 hl (by decide) rfl (fun ls hl => ?_)
    refine lv_aload_n hx hb dX5_stoppedBy_44 rfl (lv_at hl 2 rfl) ?_
    refine lv_iload_n hx hb dX5_stoppedBy_45 rfl (lv_at hl 1 rfl) ?_
    have hD9 := hW.2.1
    refine pc_mcallv (va_runVN (As := [.int (v 1 x1.toNatClampNeg 3)]) (rest := []) ⟨hx, hb, hml, hown, hts⟩ (m_X3_setIssued l D cA NL c (V_X3_setIssued c v w x1.toNatClampNeg (v 1 x1.toNatClampNeg 1)) (W_X3_setIssued c v w x1.toNatClampNeg (v 1 x1.toNatClampNeg 1)) u ad A x1.toNatClampNeg (v 1 x1.toNatClampNeg 3) hM hBd h1 (hRI _ h1).1.1 (hRI _ h1).1.2) ⟨va_cnB 1 hts gX5_stoppedBy_X3_setIssued_n137 rfl rfl rfl (hX.2.1 (.methodLinkNest RX5 137 yX3_setIssued R_host) (by decide +kernel)) (hts (.initialized RX3) (by decide +kernel)) (by decide +kernel) ⟨Nat.le_of_ble_eq_true rfl, Nat.le_of_ble_eq_true rfl⟩, hts (.instanceMethod yX3_setIssued) (by decide +kernel), hts (.selects RX3 yX3_setIssued yX3_setIssued) (by decide +kernel)⟩ (pc_preV pcN_ok hX hW.1 (hM.2.2.2.1 x1.toNatClampNeg h1).1 rfl rfl ⟨hW.1, hW.2.1, fun q h => hA q (Nat.le_trans hW.2.2.1 h)⟩) rfl rfl hl.1 rfl (lv_room (Nat.le_of_ble_eq_true rfl)) dX5_stoppedBy_46 ⟨Nat.le_of_ble_eq_true rfl, Nat.le_of_ble_eq_true rfl⟩) hW.2.2 (fun _ H locs _ hB hS9 => ?_)
    have hW : pcS D vwCl A s.heap NL ad (ctO cA c (V_X3_setIssued c (V_X3_setIssued c v w x1.toNatClampNeg (v 1 x1.toNatClampNeg 1)) (W_X3_setIssued c v w x1.toNatClampNeg (v 1 x1.toNatClampNeg 1)) x1.toNatClampNeg (v 1 x1.toNatClampNeg 3)) (W_X3_setIssued c (V_X3_setIssued c v w x1.toNatClampNeg (v 1 x1.toNatClampNeg 1)) (W_X3_setIssued c v w x1.toNatClampNeg (v 1 x1.toNatClampNeg 1)) x1.toNatClampNeg (v 1 x1.toNatClampNeg 3)) u ad) H locs := ⟨hB, pcD_ct hD9, hS9⟩
    refine lv_iload hx hb dX5_stoppedBy_49 (lv_at hl 0 rfl) ?_
    have hW : pcS D vwCl A s.heap NL ad (ctO cA c v w u ad) H locs := pcS_eq hW (by rw [setIssued_backV (hRI _ h1).2.2, setIssued_backW (hRI _ h1).2.1])
    exact W.iret (v := (F_J6_bitCount_0f7a4 (F_X5_unfitRunning c (V_X3_setIssued c v w x1.toNatClampNeg (v 1 x1.toNatClampNeg 1)) (W_X3_setIssued c v w x1.toNatClampNeg (v 1 x1.toNatClampNeg 1))))) hx hb hr (fun t ht hW9 => ⟨⟨(F_J6_bitCount_0f7a4 (F_X5_unfitRunning c (V_X3_setIssued c v w x1.toNatClampNeg (v 1 x1.toNatClampNeg 1)) (W_X3_setIssued c v w x1.toNatClampNeg (v 1 x1.toNatClampNeg 1)))), (), rfl, (by unfold F_X5_stoppedBy; rw [if_neg c340]), (by show va_P D vwCl (pcW NL ad (ctO cA c v w u ad)) t.heap; rw [ht]; exact hW.1)⟩, hW.2.2.F ht⟩) hW.2.2.2.2 dX5_stoppedBy_51
  · refine lv_iconst (v := -1) hx hb dX5_stoppedBy_13 (by decide) ?_
    exact W.iret (v := (-1)) hx hb hr (fun t ht hW9 => ⟨⟨(-1), (), rfl, (by unfold F_X5_stoppedBy; rw [if_pos c340]), (by show va_P D vwCl (pcW NL ad (ctO cA c v w u ad)) t.heap; rw [ht]; exact hW.1)⟩, hW.2.2.F ht⟩) hW.2.2.2.2 dX5_stoppedBy_14

def F_X5_freedBy (c : SC) (v : SV) (w : SW) (x1 : Int32) : Int32 := ((F_X5_fitStopped c (uV v 4 x1.toNatClampNeg 1 2) w) - (F_X5_fitStopped c v w))

set_option maxHeartbeats 4000000 in
set_option maxRecDepth 100000 in
theorem m_X5_freedBy (l : Launch) (D : va_G) (cA : Nat → ClassId) (NL : List (Nat × Nat)) (c : SC) (v : SV) (w : SW) (u : Nat → Int32) (ad : Nat → Nat → Nat) (A : Nat → Prop) (x1 : Int32) (hM : MEM c NL) (hBd : BND c) (hF : WF c v) (h1n : ¬ x1 < 0) (h1 : x1.toNatClampNeg < c 3) : Met l yX5_freedBy wsX5_freedBy ({ frames := 6, cells := 0, slots := 0, locals := 141 }) (pcPre D vwCl (tyL cA) [.ref (ad 5 0), .int x1] (fun H => va_P D vwCl (pcW NL ad (ctO cA c v w u ad)) H ∧ va_D A (pcW NL ad (ctO cA c v w u ad)) ∧ ∀ q, H.size ≤ q → A q)) (va_Qi (fun (r : Int32) (_ : Unit) => r = F_X5_freedBy c v w x1) (fun (_ : Unit) t => va_P D vwCl (pcW NL ad (ctO cA c v w u ad)) t.heap) A) 0 0 A := by
  refine Met.ofW (cc := cX5_freedBy) (maxL := 6) (ret := (some .int)) (by decide) rfl ?_
  intro p e s m args below meth c0 s₁ B hml hv
  obtain ⟨rfl, hX, hP0, hD, hA⟩ := hv
  have hx := B.exec
  have hb := B.bytes
  have hr := B.returns
  have hts := atoms_spec (ws := wsX5_freedBy) B.pre
  have hown : s.vm.findClass RX5 = some m.cls := findClass_of_methodNamed B.named
  have hlocks := B.notSynchronized
  have hW : pcS D vwCl A s.heap NL ad (ctO cA c v w u ad) s.heap [] := ⟨hP0, hD, va_S.rf⟩
  have hl := lv_entry ([.ref (ad 5 0), .int x1]) (n := 6) (Nat.le_of_ble_eq_true rfl)
  rw [lg_entry_eq]
  generalize (lg_sl ([.ref (ad 5 0), .int x1]) ++ List.replicate (6 - (lg_sl ([.ref (ad 5 0), .int x1])).length) Slot.unset).toArray = ls at hl ⊢
  have hl : lv_has ls 6 [(0, .ref (ad 5 0)), (1, .int x1)] := hl
  refine lv_aload_n hx hb dX5_freedBy_0 rfl (lv_at hl 0 rfl) ?_
  refine lv_iload_n hx hb dX5_freedBy_1 rfl (lv_at hl 1 rfl) ?_
  refine pc_rcallv (va_runV (As := [.int x1]) (rest := []) ⟨hx, hb, hml, hown, hts⟩ (r_X5_requireQuery l D cA NL c v w u ad x1 hM hBd hF h1n h1) (cwV 1 hts gX5_freedBy_X5_requireQuery rfl rfl rfl (by decide +kernel) ⟨Nat.le_of_ble_eq_true rfl, Nat.le_of_ble_eq_true rfl⟩) (pc_preV pcN_ok hX hW.1 hM.1 rfl rfl hW.1) rfl rfl hl.1 rfl (lv_room (Nat.le_of_ble_eq_true rfl)) dX5_freedBy_2 ⟨Nat.le_of_ble_eq_true rfl, Nat.le_of_ble_eq_true rfl⟩) hW (fun H locs _ hW => ?_)
  refine lv_aload_n hx hb dX5_freedBy_5 rfl (lv_at hl 0 rfl) ?_
  refine pc_get (C := RX5) (T := TX5) (N := 13) (ci := 5) hx hb hts (by decide +kernel) hown hX.1 hW.1 5 0 hM.1 rfl rfl 3 (by decide) (hts (.fieldLink RX5 29 "DraftsmanOffice" "queries" "[LDraftsmanOffice$Query;") (by decide +kernel)) (fun _ h9 => h9) rfl dX5_freedBy_6 ?_
  refine lv_iload_n hx hb dX5_freedBy_9 rfl (lv_at hl 1 rfl) ?_
  refine pc_aald (r := .ref (ad 4 x1.toNatClampNeg)) hx hb hX.1 hW.1 53 0 6 (hM.2.1 53 (by decide) (by decide)) rfl rfl rfl (fun q => q.elim h1n (fun q => absurd (Nat.lt_of_lt_of_le h1 hBd.2.2.2.1) (Nat.not_lt.mpr q))) (by rw [sRf_in h1]; rfl) dX5_freedBy_10 ?_
  refine lv_astore_n (lv' := [(2, .ref (ad 4 x1.toNatClampNeg)), (0, .ref (ad 5 0)), (1, .int x1)]) hx hb dX5_freedBy_11 rfl hl (by decide) rfl (fun ls hl => ?_)
  refine lv_aload_n hx hb dX5_freedBy_12 rfl (lv_at hl 0 rfl) ?_
  refine pc_getN (C := RX0) (T := TX0) (N := 3) (ci := 0) hx hb hts (by decide +kernel) hown hX.1 hW.1 4 x1.toNatClampNeg (hM.2.2.2.2.2.2.1 x1.toNatClampNeg h1) rfl rfl 2 (by decide) (hX.2.1 (.fieldLinkNest RX5 237 "DraftsmanOffice$Query" "state" "I" R_host) (by decide +kernel)) (fun _ h9 => h9) rfl dX5_freedBy_13 ?_
  refine lv_istore_n (lv' := [(3, .int (v 4 x1.toNatClampNeg 1)), (2, .ref (ad 4 x1.toNatClampNeg)), (0, .ref (ad 5 0)), (1, .int x1)]) hx hb dX5_freedBy_16 rfl hl (by decide) rfl (fun ls hl => ?_)
  refine lv_aload_n hx hb dX5_freedBy_17 rfl (lv_at hl 2 rfl) ?_
  refine pc_rcalli (va_runV (As := []) (rest := []) ⟨hx, hb, hml, hown, hts⟩ (r_X5_fitStopped l D cA NL c v w u ad  hM hBd hF ) (cwV 0 hts gX5_freedBy_X5_fitStopped rfl rfl rfl (by decide +kernel) ⟨Nat.le_of_ble_eq_true rfl, Nat.le_of_ble_eq_true rfl⟩) (pc_preV pcN_ok hX hW.1 hM.1 rfl rfl hW.1) rfl rfl hl.1 rfl (lv_room (Nat.le_of_ble_eq_true rfl)) dX5_freedBy_18 ⟨Nat.le_of_ble_eq_true rfl, Nat.le_of_ble_eq_true rfl⟩) hW (fun r346 H locs hwr346 hW => ?_)
  subst hwr346
  refine lv_istore (lv' := [(4, .int (F_X5_fitStopped c v w)), (3, .int (v 4 x1.toNatClampNeg 1)), (2, .ref (ad 4 x1.toNatClampNeg)), (0, .ref (ad 5 0)), (1, .int x1)]) hx hb dX5_freedBy_21 hl (by decide) rfl (fun ls hl => ?_)
  refine lv_aload_n hx hb dX5_freedBy_23 rfl (lv_at hl 2 rfl) ?_
  refine lv_iconst (v := 2) hx hb dX5_freedBy_24 (by decide) ?_
  refine pc_putN (v := .int 2) (C := RX0) (T := TX0) (N := 3) (ci := 0) (ty := .int) hx hb hts (by decide +kernel) tyX0 tyX0_ok nmX0 hown hX.1 hW 4 x1.toNatClampNeg (hM.2.2.2.2.2.2.1 x1.toNatClampNeg h1) rfl rfl 2 (by decide) (hX.2.1 (.fieldLinkNest RX5 237 "DraftsmanOffice$Query" "state" "I" R_host) (by decide +kernel)) (fun _ h9 => h9) rfl (by decide +kernel) rfl rfl (Nat.le_of_ble_eq_true rfl) dX5_freedBy_25 (fun H locs hW => ?_)
  have hW : pcS D vwCl A s.heap NL ad (ctO cA c (uV v 4 x1.toNatClampNeg 1 2) w u ad) H locs := pcS_eq hW ctO_put_4_2
  refine lv_aload_n hx hb dX5_freedBy_28 rfl (lv_at hl 3 rfl) ?_
  refine pc_rcalli (va_runV (As := []) (rest := []) ⟨hx, hb, hml, hown, hts⟩ (r_X5_fitStopped l D cA NL c (uV v 4 x1.toNatClampNeg 1 2) w u ad  hM hBd hF ) (cwV 0 hts gX5_freedBy_X5_fitStopped rfl rfl rfl (by decide +kernel) ⟨Nat.le_of_ble_eq_true rfl, Nat.le_of_ble_eq_true rfl⟩) (pc_preV pcN_ok hX hW.1 hM.1 rfl rfl hW.1) rfl rfl hl.1 rfl (lv_room (Nat.le_of_ble_eq_true rfl)) dX5_freedBy_29 ⟨Nat.le_of_ble_eq_true rfl, Nat.le_of_ble_eq_true rfl⟩) hW (fun r347 H locs hwr347 hW => ?_)
  subst hwr347
  refine lv_istore (lv' := [(5, .int (F_X5_fitStopped c (uV v 4 x1.toNatClampNeg 1 2) w)), (4, .int (F_X5_fitStopped c v w)), (3, .int (v 4 x1.toNatClampNeg 1)), (2, .ref (ad 4 x1.toNatClampNeg)), (0, .ref (ad 5 0)), (1, .int x1)]) hx hb dX5_freedBy_32 hl (by decide) rfl (fun ls hl => ?_)
  refine lv_aload_n hx hb dX5_freedBy_34 rfl (lv_at hl 3 rfl) ?_
  refine lv_iload_n hx hb dX5_freedBy_35 rfl (lv_at hl 2 rfl) ?_
  refine pc_putN (v := .int (v 4 x1.toNatClampNeg 1)) (C := RX0) (T := TX0) (N := 3) (ci := 0) (ty := .int) hx hb hts (by decide +kernel) tyX0 tyX0_ok nmX0 hown hX.1 hW 4 x1.toNatClampNeg (hM.2.2.2.2.2.2.1 x1.toNatClampNeg h1) rfl rfl 2 (by decide) (hX.2.1 (.fieldLinkNest RX5 237 "DraftsmanOffice$Query" "state" "I" R_host) (by decide +kernel)) (fun _ h9 => h9) rfl (by decide +kernel) rfl rfl (Nat.le_of_ble_eq_true rfl) dX5_freedBy_36 (fun H locs hW => ?_)
  have hW : pcS D vwCl A s.heap NL ad (ctO cA c (uV (uV v 4 x1.toNatClampNeg 1 2) 4 x1.toNatClampNeg 1 (v 4 x1.toNatClampNeg 1)) w u ad) H locs := pcS_eq hW ctO_put_4_2
  refine lv_iload hx hb dX5_freedBy_39 (lv_at hl 0 rfl) ?_
  refine lv_iload hx hb dX5_freedBy_41 (lv_at hl 1 rfl) ?_
  refine lv_isub hx hb dX5_freedBy_43 ?_
  have hW : pcS D vwCl A s.heap NL ad (ctO cA c v w u ad) H locs := pcS_eq hW (by rw [uV_back])
  exact W.iret (v := ((F_X5_fitStopped c (uV v 4 x1.toNatClampNeg 1 2) w) - (F_X5_fitStopped c v w))) hx hb hr (fun t ht hW9 => ⟨⟨((F_X5_fitStopped c (uV v 4 x1.toNatClampNeg 1 2) w) - (F_X5_fitStopped c v w)), (), rfl, rfl, (by show va_P D vwCl (pcW NL ad (ctO cA c v w u ad)) t.heap; rw [ht]; exact hW.1)⟩, hW.2.2.F ht⟩) hW.2.2.2.2 dX5_freedBy_44

theorem pcS_row {D : va_G} {cl : List vw_C} {A : Nat → Prop} {H0 H : Heap} {locs : List Loc} {NL : List (Nat × Nat)} {cA : Nat → ClassId} {c : SC} {v : SV} {w : SW} {u u2 : Nat → Int32} {ad : Nat → Nat → Nat} (hW : pcS D cl A H0 NL ad (ctO cA c v w u ad) H locs) (h : ∀ j, j < 10 → u j = u2 j) : pcS D cl A H0 NL ad (ctO cA c v w u2 ad) H locs := by
  refine ⟨pcP_of (fun k i hm => ?_), pcD_ct hW.2.1, hW.2.2⟩
  have h1 := pcP_at hW.1 hm
  by_cases e : k = 56 ∧ i = 0
  · obtain ⟨rfl, rfl⟩ := e
    show H[ad 56 0]? = some (arrV (cA 0) 10 (fun j => .int (u2 j)))
    have h2 : H[ad 56 0]? = some (arrV (cA 0) 10 (fun j => .int (u j))) := h1
    rw [h2]
    unfold arrV
    congr 3
    funext j
    exact congrArg Value.int (h j.val j.isLt)
  · have e2 : ctO cA c v w u2 ad k i = ctO cA c v w u ad k i := by
      unfold ctO
      repeat' split
      all_goals first | rfl | (exfalso; apply e; constructor <;> assumption)
    rw [e2]
    exact h1
theorem cpy_row {f g : Nat → Int32} {j : Nat} (h : j < 10) : va_cpy f g (0 : Int32).toNatClampNeg (0 : Int32).toNatClampNeg (10 : Int32).toNatClampNeg j = f j := by
  have e0 : (0 : Int32).toNatClampNeg = 0 := by decide
  have e1 : (10 : Int32).toNatClampNeg = 10 := by decide
  rw [e0, e1]
  unfold va_cpy
  rw [if_pos (by omega)]
  congr 1
  omega
theorem last_exit {x : Int32} (h : ¬ x < 0) (h6 : x.toNatClampNeg < 6) : x < nI (x.toNatClampNeg + 1) := by
  obtain ⟨j, hj, rfl⟩ := nI_of h
  rw [nI_clamp hj] at h6 ⊢
  exact nI_lt (Nat.lt_succ_self j) (by omega)
theorem last_step {x : Int32} {r : Nat} (h : ¬ x < 0) (h6 : x.toNatClampNeg < 6) (hr : r < x.toNatClampNeg + 1) : ¬ x < nI r := by
  obtain ⟨j, hj, rfl⟩ := nI_of h
  rw [nI_clamp hj] at h6 hr
  exact Int32.not_lt.mpr (nI_le (by omega) (by omega))
theorem last_le {x : Int32} {r : Nat} (h : ¬ x < 0) (h6 : x.toNatClampNeg < 6) (hr : r < x.toNatClampNeg + 1) : nI r ≤ x := Int32.not_lt.mp (last_step h h6 hr)

def FL2_X5_freedByAll (c : SC) (v : SV) (w : SW)  (x1 : Int32) : Nat → Nat → Int32 → Int32
  | 0, _, s423 => s423
  | k422 + 1, i421, s423 => FL2_X5_freedByAll c v w x1 k422 (i421 + 1) (if (v 7 i421 0) = x1 then (if (F_X4_isAtRest c v w i421) = 0 then s423 else (if (F_X5_firstUnfit c v w i421 (UL_X5_freedByAll c v w x1 (c 2) 0 (v 57 x1.toNatClampNeg))) = (-1 : Int32) then (s423 + 1) else s423)) else s423)
def UL_X5_freedByAll (c : SC) (v : SV) (w : SW)  (x1 : Int32) : Nat → Nat → (Nat → Int32) → (Nat → Int32)
  | 0, _, Us419 => Us419
  | k416 + 1, i415, Us419 => UL_X5_freedByAll c v w x1 k416 (i415 + 1) (if (F_X5_isIn (v 3 i415 1) x1) = 0 then Us419 else (U_X5_takeLater_row c v w Us419 i415))
def F_X5_freedByAll (c : SC) (v : SV) (w : SW) (x1 : Int32) : Int32 := (FL2_X5_freedByAll c v w x1 (c 4) 0 (0 : Int32))
def U_X5_freedByAll (c : SC) (v : SV) (w : SW) (x1 : Int32) : (Nat → Int32) := (UL_X5_freedByAll c v w x1 (c 2) 0 (v 57 x1.toNatClampNeg))

set_option maxHeartbeats 4000000 in
set_option maxRecDepth 100000 in
theorem m_X5_freedByAll (l : Launch) (D : va_G) (cA : Nat → ClassId) (NL : List (Nat × Nat)) (c : SC) (v : SV) (w : SW) (u : Nat → Int32) (ad : Nat → Nat → Nat) (A : Nat → Prop) (x1 : Int32) (hM : MEM c NL) (hBd : BND c) (hF : WF c v) (g1 : ¬ x1 < 0) (g2 : x1 < 4) : Met l yX5_freedByAll wsX5_freedByAll ({ frames := 5, cells := 0, slots := 0, locals := 118 }) (pcPre D vwCl (tyL cA) [.ref (ad 5 0), .int x1] (fun H => va_P D vwCl (pcW NL ad (ctO cA c v w u ad)) H ∧ va_D A (pcW NL ad (ctO cA c v w u ad)) ∧ ∀ q, H.size ≤ q → A q)) (va_Qi (fun (r : Int32) (_ : Unit) => r = F_X5_freedByAll c v w x1) (fun (_ : Unit) t => va_P D vwCl (pcW NL ad (ctO cA c v w (U_X5_freedByAll c v w x1) ad)) t.heap) A) 0 0 A := by
  refine Met.ofW (cc := cX5_freedByAll) (maxL := 5) (ret := (some .int)) (by decide) rfl ?_
  intro p e s m args below meth c0 s₁ B hml hv
  obtain ⟨rfl, hX, hP0, hD, hA⟩ := hv
  have hx := B.exec
  have hb := B.bytes
  have hr := B.returns
  have hts := atoms_spec (ws := wsX5_freedByAll) B.pre
  have hown : s.vm.findClass RX5 = some m.cls := findClass_of_methodNamed B.named
  have hlocks := B.notSynchronized
  have hW : pcS D vwCl A s.heap NL ad (ctO cA c v w u ad) s.heap [] := ⟨hP0, hD, va_S.rf⟩
  have hl := lv_entry ([.ref (ad 5 0), .int x1]) (n := 5) (Nat.le_of_ble_eq_true rfl)
  rw [lg_entry_eq]
  generalize (lg_sl ([.ref (ad 5 0), .int x1]) ++ List.replicate (5 - (lg_sl ([.ref (ad 5 0), .int x1])).length) Slot.unset).toArray = ls at hl ⊢
  have hl : lv_has ls 5 [(0, .ref (ad 5 0)), (1, .int x1)] := hl
  refine lv_iload_n hx hb dX5_freedByAll_0 rfl (lv_at hl 1 rfl) ?_
  refine pc_rcallv (va_runS (As := [.int x1]) (rest := []) ⟨hx, hb, hml, hown, hts⟩ (r_X5_requireCrew l D cA x1 g1 g2) (va_cwS 1 hts gX5_freedByAll_X5_requireCrew rfl rfl rfl (by decide +kernel) ⟨Nat.le_of_ble_eq_true rfl, Nat.le_of_ble_eq_true rfl⟩) (pc_preS pcN_ok hX trivial) rfl rfl hl.1 rfl (lv_room (Nat.le_of_ble_eq_true rfl)) dX5_freedByAll_1 ⟨Nat.le_of_ble_eq_true rfl, Nat.le_of_ble_eq_true rfl⟩) hW (fun H locs _ hW => ?_)
  refine lv_aload_n hx hb dX5_freedByAll_4 rfl (lv_at hl 0 rfl) ?_
  refine pc_get (C := RX5) (T := TX5) (N := 13) (ci := 5) hx hb hts (by decide +kernel) hown hX.1 hW.1 5 0 hM.1 rfl rfl 5 (by decide) (hts (.fieldLink RX5 41 "DraftsmanOffice" "crewHas" "[[I") (by decide +kernel)) (fun _ h9 => h9) rfl dX5_freedByAll_5 ?_
  refine lv_iload_n hx hb dX5_freedByAll_8 rfl (lv_at hl 1 rfl) ?_
  refine pc_aald (r := .ref (ad 57 x1.toNatClampNeg)) hx hb hX.1 hW.1 55 0 2 (hM.2.1 55 (by decide) (by decide)) rfl rfl rfl (fun q => q.elim g1 (fun q => absurd (by have h4 := Int32.lt_iff_toInt_lt.mp g2; obtain ⟨j, hj, rfl⟩ := nI_of g1; rw [nI_clamp hj]; rw [nI_toInt hj] at h4; have h5 : (4 : Int32).toInt = 4 := by decide; omega) (Nat.not_lt.mpr q))) (by rw [sRf_in (by have h4 := Int32.lt_iff_toInt_lt.mp g2; obtain ⟨j, hj, rfl⟩ := nI_of g1; rw [nI_clamp hj]; rw [nI_toInt hj] at h4; have h5 : (4 : Int32).toInt = 4 := by decide; omega)]; rfl) dX5_freedByAll_9 ?_
  refine lv_iconst (v := 0) hx hb dX5_freedByAll_10 (by decide) ?_
  refine lv_aload_n hx hb dX5_freedByAll_11 rfl (lv_at hl 0 rfl) ?_
  refine pc_get (C := RX5) (T := TX5) (N := 13) (ci := 5) hx hb hts (by decide +kernel) hown hX.1 hW.1 5 0 hM.1 rfl rfl 6 (by decide) (hts (.fieldLink RX5 44 "DraftsmanOffice" "wouldHave" "[I") (by decide +kernel)) (fun _ h9 => h9) rfl dX5_freedByAll_12 ?_
  refine lv_iconst (v := 0) hx hb dX5_freedByAll_15 (by decide) ?_
  refine lv_bipush (v := 10) hx hb dX5_freedByAll_16 (by decide) ?_
  refine pc_copyi (f := (v 57 x1.toNatClampNeg)) (g := u) hx hb (hml.trans hl.1.symm) hown (hts (.methodLink RX5 328 arraycopyName) (by decide +kernel)) (hts (.native arraycopyName) (by decide +kernel)) (hts (.static arraycopyName) (by decide +kernel)) (hts (.initialized "java/lang/System") (by decide +kernel)) hX.1 hW 57 x1.toNatClampNeg 56 0 0 (hM.2.2.1 x1.toNatClampNeg (by have h4 := Int32.lt_iff_toInt_lt.mp g2; obtain ⟨j, hj, rfl⟩ := nI_of g1; rw [nI_clamp hj]; rw [nI_toInt hj] at h4; have h5 : (4 : Int32).toInt = 4 := by decide; omega)) (hM.2.1 56 (by decide) (by decide)) rfl rfl rfl rfl (by decide) (by decide) (by decide) (Nat.le_of_ble_eq_true rfl) (Nat.le_of_ble_eq_true rfl) (fun _ _ => rfl) (Nat.le_of_ble_eq_true rfl) (Nat.le_of_ble_eq_true rfl) dX5_freedByAll_18 (fun H locs hW => ?_)
  have hW : pcS D vwCl A s.heap NL ad (ctO cA c v w (v 57 x1.toNatClampNeg) ad) H locs := pcS_row (pcS_eq hW ctO_row) (fun j hj => cpy_row hj)
  refine lv_iconst (v := 0) hx hb dX5_freedByAll_21 (by decide) ?_
  refine lv_istore_n (lv' := [(2, .int 0), (0, .ref (ad 5 0)), (1, .int x1)]) hx hb dX5_freedByAll_22 rfl hl (by decide) rfl (fun ls hl => ?_)
  have K418 : ∀ (k416 i415 : Nat) (Us419 : (Nat → Int32)) (H : Heap) (locs : List Loc) (ls : Array Slot), i415 + k416 = c 2 → (UL_X5_freedByAll c v w x1 k416 i415 Us419) = (UL_X5_freedByAll c v w x1 (c 2) 0 (v 57 x1.toNatClampNeg)) → pcS D vwCl A s.heap NL ad (ctO cA c v w Us419 ad) H locs → lv_has ls 5 [(2, .int (nI i415)), (0, .ref (ad 5 0)), (1, .int x1)] → W p l e (headSpec wsX5_freedByAll ({ frames := 5, cells := 0, slots := 0, locals := 118 })).room s m ([.ref (ad 5 0), .int x1] : List Value).toArray below meth c0 H locs 0 0 (MQ below (va_Qi (fun (r : Int32) (_ : Unit) => r = F_X5_freedByAll c v w x1) (fun (_ : Unit) t => va_P D vwCl (pcW NL ad (ctO cA c v w (U_X5_freedByAll c v w x1) ad)) t.heap) A) ([.ref (ad 5 0), .int x1] : List Value).toArray s 0 0 A) (F0 m 23 ls []) := by
    intro k416
    induction k416 with
    | zero =>
      intro i415 Us419 H locs ls hk heU hW hl
      have ei : i415 = c 2 := by omega
      rw [ei] at hl
      obtain rfl : Us419 = (UL_X5_freedByAll c v w x1 (c 2) 0 (v 57 x1.toNatClampNeg)) := heU
      refine lv_iload_n hx hb dX5_freedByAll_23 rfl (lv_at hl 0 rfl) ?_
      refine lv_aload_n hx hb dX5_freedByAll_24 rfl (lv_at hl 1 rfl) ?_
      refine pc_get (C := RX5) (T := TX5) (N := 13) (ci := 5) hx hb hts (by decide +kernel) hown hX.1 hW.1 5 0 hM.1 rfl rfl 9 (by decide) (hts (.fieldLink RX5 55 "DraftsmanOffice" "sendingCount" "I") (by decide +kernel)) (fun _ h9 => h9) rfl dX5_freedByAll_25 ?_
      refine lv_icmp_ge (tgt := 67) hx hb dX5_freedByAll_28 (by decide) (fun _ => ?_) (fun c420 => absurd (Int32.le_refl _) c420)
      refine lv_iconst (v := 0) hx hb dX5_freedByAll_67 (by decide) ?_
      refine lv_istore_n (lv' := [(2, .int 0), (0, .ref (ad 5 0)), (1, .int x1)]) hx hb dX5_freedByAll_68 rfl hl (by decide) rfl (fun ls hl => ?_)
      refine lv_iconst (v := 0) hx hb dX5_freedByAll_69 (by decide) ?_
      refine lv_istore_n (lv' := [(3, .int 0), (2, .int 0), (0, .ref (ad 5 0)), (1, .int x1)]) hx hb dX5_freedByAll_70 rfl hl (by decide) rfl (fun ls hl => ?_)
      have K424 : ∀ (k422 i421 : Nat) (s423 : Int32) (H : Heap) (locs : List Loc) (ls : Array Slot), i421 + k422 = c 4 → (FL2_X5_freedByAll c v w x1 k422 i421 s423) = (FL2_X5_freedByAll c v w x1 (c 4) 0 (0 : Int32)) → pcS D vwCl A s.heap NL ad (ctO cA c v w (UL_X5_freedByAll c v w x1 (c 2) 0 (v 57 x1.toNatClampNeg)) ad) H locs → lv_has ls 5 [(3, .int (nI i421)), (2, .int s423), (0, .ref (ad 5 0)), (1, .int x1)] → W p l e (headSpec wsX5_freedByAll ({ frames := 5, cells := 0, slots := 0, locals := 118 })).room s m ([.ref (ad 5 0), .int x1] : List Value).toArray below meth c0 H locs 0 0 (MQ below (va_Qi (fun (r : Int32) (_ : Unit) => r = F_X5_freedByAll c v w x1) (fun (_ : Unit) t => va_P D vwCl (pcW NL ad (ctO cA c v w (U_X5_freedByAll c v w x1) ad)) t.heap) A) ([.ref (ad 5 0), .int x1] : List Value).toArray s 0 0 A) (F0 m 71 ls []) := by
        intro k422
        induction k422 with
        | zero =>
          intro i421 s423 H locs ls hk heF hW hl
          have ei : i421 = c 4 := by omega
          rw [ei] at hl
          obtain rfl : s423 = (FL2_X5_freedByAll c v w x1 (c 4) 0 (0 : Int32)) := heF
          refine lv_iload_n hx hb dX5_freedByAll_71 rfl (lv_at hl 0 rfl) ?_
          refine lv_aload_n hx hb dX5_freedByAll_72 rfl (lv_at hl 2 rfl) ?_
          refine pc_get (C := RX5) (T := TX5) (N := 13) (ci := 5) hx hb hts (by decide +kernel) hown hX.1 hW.1 5 0 hM.1 rfl rfl 11 (by decide) (hts (.fieldLink RX5 61 "DraftsmanOffice" "packageCount" "I") (by decide +kernel)) (fun _ h9 => h9) rfl dX5_freedByAll_73 ?_
          refine lv_icmp_ge (tgt := 127) hx hb dX5_freedByAll_76 (by decide) (fun _ => ?_) (fun c425 => absurd (Int32.le_refl _) c425)
          refine lv_iload_n hx hb dX5_freedByAll_127 rfl (lv_at hl 1 rfl) ?_
          have e9u : U_X5_freedByAll c v w x1 = (UL_X5_freedByAll c v w x1 (c 2) 0 (v 57 x1.toNatClampNeg)) := rfl
          exact W.iret (v := (FL2_X5_freedByAll c v w x1 (c 4) 0 (0 : Int32))) hx hb hr (fun t ht hW9 => ⟨⟨(FL2_X5_freedByAll c v w x1 (c 4) 0 (0 : Int32)), (), rfl, rfl, (by show va_P D vwCl (pcW NL ad (ctO cA c v w (U_X5_freedByAll c v w x1) ad)) t.heap; rw [e9u]; rw [ht]; exact hW.1)⟩, hW.2.2.F ht⟩) hW.2.2.2.2 dX5_freedByAll_128
        | succ k422 ihk422 =>
          intro i421 s423 H locs ls hk heF hW hl
          have hlt : i421 < c 4 := by omega
          have hlt9i421 := hlt
          refine lv_iload_n hx hb dX5_freedByAll_71 rfl (lv_at hl 0 rfl) ?_
          refine lv_aload_n hx hb dX5_freedByAll_72 rfl (lv_at hl 2 rfl) ?_
          refine pc_get (C := RX5) (T := TX5) (N := 13) (ci := 5) hx hb hts (by decide +kernel) hown hX.1 hW.1 5 0 hM.1 rfl rfl 11 (by decide) (hts (.fieldLink RX5 61 "DraftsmanOffice" "packageCount" "I") (by decide +kernel)) (fun _ h9 => h9) rfl dX5_freedByAll_73 ?_
          refine lv_icmp_ge (tgt := 127) hx hb dX5_freedByAll_76 (by decide) (fun c426 => absurd c426 (nI_ge hlt (Nat.lt_of_le_of_lt hBd.2.2.2.2 (by decide)))) (fun _ => ?_)
          refine lv_aload_n hx hb dX5_freedByAll_79 rfl (lv_at hl 2 rfl) ?_
          refine pc_get (C := RX5) (T := TX5) (N := 13) (ci := 5) hx hb hts (by decide +kernel) hown hX.1 hW.1 5 0 hM.1 rfl rfl 4 (by decide) (hts (.fieldLink RX5 35 "DraftsmanOffice" "packages" "[LDraftsmanOffice$WorkPackage;") (by decide +kernel)) (fun _ h9 => h9) rfl dX5_freedByAll_80 ?_
          refine lv_iload_n hx hb dX5_freedByAll_83 rfl (lv_at hl 0 rfl) ?_
          refine pc_aald (r := .ref (ad 7 i421)) hx hb hX.1 hW.1 54 0 7 (hM.2.1 54 (by decide) (by decide)) rfl rfl rfl (vp_in_nI (Nat.lt_of_lt_of_le hlt9i421 hBd.2.2.2.2) (by decide)) (by rw [nI_clamp (Nat.lt_of_lt_of_le (Nat.lt_of_lt_of_le hlt9i421 hBd.2.2.2.2) (by decide)), sRf_in hlt9i421]; rfl) dX5_freedByAll_84 ?_
          refine lv_astore (lv' := [(4, .ref (ad 7 i421)), (3, .int (nI i421)), (2, .int s423), (0, .ref (ad 5 0)), (1, .int x1)]) hx hb dX5_freedByAll_85 hl (by decide) rfl (fun ls hl => ?_)
          refine lv_aload hx hb dX5_freedByAll_87 (lv_at hl 0 rfl) ?_
          refine pc_getN (C := RX4) (T := TX4) (N := 6) (ci := 4) hx hb hts (by decide +kernel) hown hX.1 hW.1 7 i421 (hM.2.2.2.2.2.2.2 i421 hlt9i421) rfl rfl 0 (by decide) (hX.2.1 (.fieldLinkNest RX5 274 "DraftsmanOffice$WorkPackage" "crew" "I" R_host) (by decide +kernel)) (fun _ h9 => h9) rfl dX5_freedByAll_89 ?_
          refine lv_iload_n hx hb dX5_freedByAll_92 rfl (lv_at hl 4 rfl) ?_
          refine lv_icmp_ne (tgt := 121) hx hb dX5_freedByAll_93 (by decide) (fun (c427 : ¬ (v 7 i421 0) = x1) => ?_) (fun (c427 : (v 7 i421 0) = x1) => ?_)
          · refine lv_iinc (v := nI (i421 + 1)) (lv' := [(3, .int (nI (i421 + 1))), (4, .ref (ad 7 i421)), (2, .int s423), (0, .ref (ad 5 0)), (1, .int x1)]) hx hb dX5_freedByAll_121 hl (k := 1) rfl (nI_1 i421) (by decide) rfl (fun ls hl => ?_)
            refine lv_goto (tgt := 71) hx hb dX5_freedByAll_124 (by decide) ?_
            have he9F : (FL2_X5_freedByAll c v w x1 k422 (i421 + 1) s423) = (FL2_X5_freedByAll c v w x1 (c 4) 0 (0 : Int32)) := by rw [← heF]; show (FL2_X5_freedByAll c v w x1 k422 (i421 + 1) s423) = (FL2_X5_freedByAll c v w x1 (k422 + 1) i421 s423); simp only [FL2_X5_freedByAll, if_neg c427]
            exact ihk422 (i421 + 1)  s423 H locs ls (by omega) he9F hW (lv_sub hl [0, 2, 3, 4] rfl)
          · refine lv_aload hx hb dX5_freedByAll_96 (lv_at hl 0 rfl) ?_
            refine pc_rcalli (va_runVN (As := []) (rest := []) ⟨hx, hb, hml, hown, hts⟩ (r_X4_isAtRest l D cA NL c v w (UL_X5_freedByAll c v w x1 (c 2) 0 (v 57 x1.toNatClampNeg)) ad i421 hM hBd hlt9i421) ⟨va_cnB 0 hts gX5_freedByAll_X4_isAtRest_n270 rfl rfl rfl (hX.2.1 (.methodLinkNest RX5 270 yX4_isAtRest R_host) (by decide +kernel)) (hts (.initialized RX4) (by decide +kernel)) (by decide +kernel) ⟨Nat.le_of_ble_eq_true rfl, Nat.le_of_ble_eq_true rfl⟩, hts (.instanceMethod yX4_isAtRest) (by decide +kernel), hts (.selects RX4 yX4_isAtRest yX4_isAtRest) (by decide +kernel)⟩ (pc_preV pcN_ok hX hW.1 (hM.2.2.2.2.2.2.2 i421 hlt9i421) rfl rfl hW.1) rfl rfl hl.1 rfl (lv_room (Nat.le_of_ble_eq_true rfl)) dX5_freedByAll_98 ⟨Nat.le_of_ble_eq_true rfl, Nat.le_of_ble_eq_true rfl⟩) hW (fun r428 H locs hwr428 hW => ?_)
            subst hwr428
            refine lv_if_eq (tgt := 121) hx hb dX5_freedByAll_101 (by decide) (fun (c429 : (F_X4_isAtRest c v w i421) = 0) => ?_) (fun (c429 : ¬ (F_X4_isAtRest c v w i421) = 0) => ?_)
            · refine lv_iinc (v := nI (i421 + 1)) (lv' := [(3, .int (nI (i421 + 1))), (4, .ref (ad 7 i421)), (2, .int s423), (0, .ref (ad 5 0)), (1, .int x1)]) hx hb dX5_freedByAll_121 hl (k := 1) rfl (nI_1 i421) (by decide) rfl (fun ls hl => ?_)
              refine lv_goto (tgt := 71) hx hb dX5_freedByAll_124 (by decide) ?_
              have he9F : (FL2_X5_freedByAll c v w x1 k422 (i421 + 1) s423) = (FL2_X5_freedByAll c v w x1 (c 4) 0 (0 : Int32)) := by rw [← heF]; show (FL2_X5_freedByAll c v w x1 k422 (i421 + 1) s423) = (FL2_X5_freedByAll c v w x1 (k422 + 1) i421 s423); simp only [FL2_X5_freedByAll, if_pos c427, if_pos c429]
              exact ihk422 (i421 + 1)  s423 H locs ls (by omega) he9F hW (lv_sub hl [0, 2, 3, 4] rfl)
            · refine lv_aload_n hx hb dX5_freedByAll_104 rfl (lv_at hl 3 rfl) ?_
              refine lv_aload hx hb dX5_freedByAll_105 (lv_at hl 0 rfl) ?_
              refine lv_aload_n hx hb dX5_freedByAll_107 rfl (lv_at hl 3 rfl) ?_
              refine pc_get (C := RX5) (T := TX5) (N := 13) (ci := 5) hx hb hts (by decide +kernel) hown hX.1 hW.1 5 0 hM.1 rfl rfl 6 (by decide) (hts (.fieldLink RX5 44 "DraftsmanOffice" "wouldHave" "[I") (by decide +kernel)) (fun _ h9 => h9) rfl dX5_freedByAll_108 ?_
              refine pc_rcalli (va_runV (As := [.ref (ad 7 i421), .ref (ad 56 0)]) (rest := []) ⟨hx, hb, hml, hown, hts⟩ (r_X5_firstUnfit l D cA NL c v w (UL_X5_freedByAll c v w x1 (c 2) 0 (v 57 x1.toNatClampNeg)) ad i421 56 0 (UL_X5_freedByAll c v w x1 (c 2) 0 (v 57 x1.toNatClampNeg)) hM hBd hF hlt9i421 (hM.2.1 56 (by decide) (by decide)) rfl) (cwV 2 hts gX5_freedByAll_X5_firstUnfit rfl rfl rfl (by decide +kernel) ⟨Nat.le_of_ble_eq_true rfl, Nat.le_of_ble_eq_true rfl⟩) (pc_preV pcN_ok hX hW.1 hM.1 rfl rfl hW.1) rfl rfl hl.1 rfl (lv_room (Nat.le_of_ble_eq_true rfl)) dX5_freedByAll_111 ⟨Nat.le_of_ble_eq_true rfl, Nat.le_of_ble_eq_true rfl⟩) hW (fun r430 H locs hwr430 hW => ?_)
              subst hwr430
              refine lv_iconst (v := -1) hx hb dX5_freedByAll_114 (by decide) ?_
              refine lv_icmp_ne (tgt := 121) hx hb dX5_freedByAll_115 (by decide) (fun (c431 : ¬ (F_X5_firstUnfit c v w i421 (UL_X5_freedByAll c v w x1 (c 2) 0 (v 57 x1.toNatClampNeg))) = (-1 : Int32)) => ?_) (fun (c431 : (F_X5_firstUnfit c v w i421 (UL_X5_freedByAll c v w x1 (c 2) 0 (v 57 x1.toNatClampNeg))) = (-1 : Int32)) => ?_)
              · refine lv_iinc (v := nI (i421 + 1)) (lv' := [(3, .int (nI (i421 + 1))), (4, .ref (ad 7 i421)), (2, .int s423), (0, .ref (ad 5 0)), (1, .int x1)]) hx hb dX5_freedByAll_121 hl (k := 1) rfl (nI_1 i421) (by decide) rfl (fun ls hl => ?_)
                refine lv_goto (tgt := 71) hx hb dX5_freedByAll_124 (by decide) ?_
                have he9F : (FL2_X5_freedByAll c v w x1 k422 (i421 + 1) s423) = (FL2_X5_freedByAll c v w x1 (c 4) 0 (0 : Int32)) := by rw [← heF]; show (FL2_X5_freedByAll c v w x1 k422 (i421 + 1) s423) = (FL2_X5_freedByAll c v w x1 (k422 + 1) i421 s423); simp only [FL2_X5_freedByAll, if_pos c427, if_neg c429, if_neg c431]
                exact ihk422 (i421 + 1)  s423 H locs ls (by omega) he9F hW (lv_sub hl [0, 2, 3, 4] rfl)
              · refine lv_iinc (v := (s423 + 1)) (lv' := [(2, .int (s423 + 1)), (4, .ref (ad 7 i421)), (3, .int (nI i421)), (0, .ref (ad 5 0)), (1, .int x1)]) hx hb dX5_freedByAll_118 hl (k := 2) rfl rfl (by decide) rfl (fun ls hl => ?_)
                refine lv_iinc (v := nI (i421 + 1)) (lv' := [(3, .int (nI (i421 + 1))), (2, .int (s423 + 1)), (4, .ref (ad 7 i421)), (0, .ref (ad 5 0)), (1, .int x1)]) hx hb dX5_freedByAll_121 hl (k := 2) rfl (nI_1 i421) (by decide) rfl (fun ls hl => ?_)
                refine lv_goto (tgt := 71) hx hb dX5_freedByAll_124 (by decide) ?_
                have he9F : (FL2_X5_freedByAll c v w x1 k422 (i421 + 1) (s423 + 1)) = (FL2_X5_freedByAll c v w x1 (c 4) 0 (0 : Int32)) := by rw [← heF]; show (FL2_X5_freedByAll c v w x1 k422 (i421 + 1) (s423 + 1)) = (FL2_X5_freedByAll c v w x1 (k422 + 1) i421 s423); simp only [FL2_X5_freedByAll, if_pos c427, if_neg c429, if_pos c431]
                exact ihk422 (i421 + 1)  (s423 + 1) H locs ls (by omega) he9F hW (lv_sub hl [0, 1, 3, 4] rfl)
      exact K424 (c 4) 0  (0 : Int32) _ _ ls (by omega) rfl hW (lv_sub hl [0, 1, 2, 3] rfl)
    | succ k416 ihk416 =>
      intro i415 Us419 H locs ls hk heU hW hl
      have hlt : i415 < c 2 := by omega
      have hlt9i415 := hlt
      refine lv_iload_n hx hb dX5_freedByAll_23 rfl (lv_at hl 0 rfl) ?_
      refine lv_aload_n hx hb dX5_freedByAll_24 rfl (lv_at hl 1 rfl) ?_
      refine pc_get (C := RX5) (T := TX5) (N := 13) (ci := 5) hx hb hts (by decide +kernel) hown hX.1 hW.1 5 0 hM.1 rfl rfl 9 (by decide) (hts (.fieldLink RX5 55 "DraftsmanOffice" "sendingCount" "I") (by decide +kernel)) (fun _ h9 => h9) rfl dX5_freedByAll_25 ?_
      refine lv_icmp_ge (tgt := 67) hx hb dX5_freedByAll_28 (by decide) (fun c432 => absurd c432 (nI_ge hlt (Nat.lt_of_le_of_lt hBd.2.2.1 (by decide)))) (fun _ => ?_)
      refine lv_aload_n hx hb dX5_freedByAll_31 rfl (lv_at hl 1 rfl) ?_
      refine pc_get (C := RX5) (T := TX5) (N := 13) (ci := 5) hx hb hts (by decide +kernel) hown hX.1 hW.1 5 0 hM.1 rfl rfl 2 (by decide) (hts (.fieldLink RX5 23 "DraftsmanOffice" "sendings" "[LDraftsmanOffice$Sending;") (by decide +kernel)) (fun _ h9 => h9) rfl dX5_freedByAll_32 ?_
      refine lv_iload_n hx hb dX5_freedByAll_35 rfl (lv_at hl 0 rfl) ?_
      refine pc_aald (r := .ref (ad 3 i415)) hx hb hX.1 hW.1 52 0 5 (hM.2.1 52 (by decide) (by decide)) rfl rfl rfl (vp_in_nI (Nat.lt_of_lt_of_le hlt9i415 hBd.2.2.1) (by decide)) (by rw [nI_clamp (Nat.lt_of_lt_of_le (Nat.lt_of_lt_of_le hlt9i415 hBd.2.2.1) (by decide)), sRf_in hlt9i415]; rfl) dX5_freedByAll_36 ?_
      refine pc_getN (C := RX2) (T := TX2) (N := 3) (ci := 2) hx hb hts (by decide +kernel) hown hX.1 hW.1 3 i415 (hM.2.2.2.2.2.1 i415 hlt9i415).1 rfl rfl 2 (by decide) (hX.2.1 (.fieldLinkNest RX5 213 "DraftsmanOffice$Sending" "awaitedBy" "I" R_host) (by decide +kernel)) (fun _ h9 => h9) rfl dX5_freedByAll_37 ?_
      refine lv_iload_n hx hb dX5_freedByAll_40 rfl (lv_at hl 2 rfl) ?_
      refine pc_rcalli (va_runS (As := [.int (v 3 i415 1), .int x1]) (rest := []) ⟨hx, hb, hml, hown, hts⟩ (r_X5_isIn l D cA (v 3 i415 1) x1 ) (va_cwS 2 hts gX5_freedByAll_X5_isIn rfl rfl rfl (by decide +kernel) ⟨Nat.le_of_ble_eq_true rfl, Nat.le_of_ble_eq_true rfl⟩) (pc_preS pcN_ok hX trivial) rfl rfl hl.1 rfl (lv_room (Nat.le_of_ble_eq_true rfl)) dX5_freedByAll_41 ⟨Nat.le_of_ble_eq_true rfl, Nat.le_of_ble_eq_true rfl⟩) hW (fun r433 H locs hwr433 hW => ?_)
      subst hwr433
      refine lv_if_eq (tgt := 61) hx hb dX5_freedByAll_44 (by decide) (fun (c434 : (F_X5_isIn (v 3 i415 1) x1) = 0) => ?_) (fun (c434 : ¬ (F_X5_isIn (v 3 i415 1) x1) = 0) => ?_)
      · refine lv_iinc (v := nI (i415 + 1)) (lv' := [(2, .int (nI (i415 + 1))), (0, .ref (ad 5 0)), (1, .int x1)]) hx hb dX5_freedByAll_61 hl (k := 0) rfl (nI_1 i415) (by decide) rfl (fun ls hl => ?_)
        refine lv_goto (tgt := 23) hx hb dX5_freedByAll_64 (by decide) ?_
        have he9U : (UL_X5_freedByAll c v w x1 k416 (i415 + 1) Us419) = (UL_X5_freedByAll c v w x1 (c 2) 0 (v 57 x1.toNatClampNeg)) := by rw [← heU]; show (UL_X5_freedByAll c v w x1 k416 (i415 + 1) Us419) = (UL_X5_freedByAll c v w x1 (k416 + 1) i415 Us419); simp only [UL_X5_freedByAll, if_pos c434]
        exact ihk416 (i415 + 1) Us419  H locs ls (by omega) he9U hW (lv_sub hl [0, 1, 2] rfl)
      · refine lv_aload_n hx hb dX5_freedByAll_47 rfl (lv_at hl 1 rfl) ?_
        refine pc_get (C := RX5) (T := TX5) (N := 13) (ci := 5) hx hb hts (by decide +kernel) hown hX.1 hW.1 5 0 hM.1 rfl rfl 2 (by decide) (hts (.fieldLink RX5 23 "DraftsmanOffice" "sendings" "[LDraftsmanOffice$Sending;") (by decide +kernel)) (fun _ h9 => h9) rfl dX5_freedByAll_48 ?_
        refine lv_iload_n hx hb dX5_freedByAll_51 rfl (lv_at hl 0 rfl) ?_
        refine pc_aald (r := .ref (ad 3 i415)) hx hb hX.1 hW.1 52 0 5 (hM.2.1 52 (by decide) (by decide)) rfl rfl rfl (vp_in_nI (Nat.lt_of_lt_of_le hlt9i415 hBd.2.2.1) (by decide)) (by rw [nI_clamp (Nat.lt_of_lt_of_le (Nat.lt_of_lt_of_le hlt9i415 hBd.2.2.1) (by decide)), sRf_in hlt9i415]; rfl) dX5_freedByAll_52 ?_
        refine lv_aload_n hx hb dX5_freedByAll_53 rfl (lv_at hl 1 rfl) ?_
        refine pc_get (C := RX5) (T := TX5) (N := 13) (ci := 5) hx hb hts (by decide +kernel) hown hX.1 hW.1 5 0 hM.1 rfl rfl 6 (by decide) (hts (.fieldLink RX5 44 "DraftsmanOffice" "wouldHave" "[I") (by decide +kernel)) (fun _ h9 => h9) rfl dX5_freedByAll_54 ?_
        have hD9 := hW.2.1
        refine pc_mcalli (va_runS (As := [.ref (ad 3 i415), .ref (ad 56 0)]) (rest := []) ⟨hx, hb, hml, hown, hts⟩ (m_X5_takeLater_row l D cA NL c v w Us419 ad A i415 hM hBd hlt9i415) (va_cwS 2 hts gX5_freedByAll_X5_takeLater rfl rfl rfl (by decide +kernel) ⟨Nat.le_of_ble_eq_true rfl, Nat.le_of_ble_eq_true rfl⟩) (pc_preS pcN_ok hX ⟨hW.1, hW.2.1, fun q h => hA q (Nat.le_trans hW.2.2.1 h)⟩) rfl rfl hl.1 rfl (lv_room (Nat.le_of_ble_eq_true rfl)) dX5_freedByAll_57 ⟨Nat.le_of_ble_eq_true rfl, Nat.le_of_ble_eq_true rfl⟩) hW.2.2 (fun r435 _ H locs hwr435 hB hS9 => ?_)
        subst hwr435
        have hW : pcS D vwCl A s.heap NL ad (ctO cA c v w (U_X5_takeLater_row c v w Us419 i415) ad) H locs := ⟨hB, pcD_ct hD9, hS9⟩
        refine lv_pop hx hb dX5_freedByAll_60 rfl ?_
        refine lv_iinc (v := nI (i415 + 1)) (lv' := [(2, .int (nI (i415 + 1))), (0, .ref (ad 5 0)), (1, .int x1)]) hx hb dX5_freedByAll_61 hl (k := 0) rfl (nI_1 i415) (by decide) rfl (fun ls hl => ?_)
        refine lv_goto (tgt := 23) hx hb dX5_freedByAll_64 (by decide) ?_
        have he9U : (UL_X5_freedByAll c v w x1 k416 (i415 + 1) (U_X5_takeLater_row c v w Us419 i415)) = (UL_X5_freedByAll c v w x1 (c 2) 0 (v 57 x1.toNatClampNeg)) := by rw [← heU]; show (UL_X5_freedByAll c v w x1 k416 (i415 + 1) (U_X5_takeLater_row c v w Us419 i415)) = (UL_X5_freedByAll c v w x1 (k416 + 1) i415 Us419); simp only [UL_X5_freedByAll, if_neg c434]
        exact ihk416 (i415 + 1) (U_X5_takeLater_row c v w Us419 i415)  H locs ls (by omega) he9U hW (lv_sub hl [0, 1, 2] rfl)
  exact K418 (c 2) 0 (v 57 x1.toNatClampNeg) _ _ ls (by omega) rfl hW (lv_sub hl [0, 1, 2] rfl)

def FL3_X5_digest (c : SC) (v : SV) (w : SW)   : Nat → Nat → Int64 → Int64
  | 0, _, s489 => s489
  | k488 + 1, i487, s489 => FL3_X5_digest c v w k488 (i487 + 1) ((((((((((((((s489 * (31 : Int64)) + ((F_X5_ofPack0 c v w (nI i487)).toInt64)) * (31 : Int64)) + ((F_X5_ofPack1 c v w (nI i487)).toInt64)) * (31 : Int64)) + ((F_X5_ofPack2 c v w (nI i487)).toInt64)) * (31 : Int64)) + ((F_X5_ofPack3 c v w (nI i487)).toInt64)) * (31 : Int64)) + ((F_X5_ofPack4 c v w (nI i487)).toInt64)) * (31 : Int64)) + ((F_X5_ofPack5 c v w (nI i487)).toInt64)) * (31 : Int64)) + ((F_X5_ofPack6 c v w (nI i487)).toInt64))
def FL2_X5_digest (c : SC) (v : SV) (w : SW)   : Nat → Nat → Int64 → Int64
  | 0, _, s471 => s471
  | k470 + 1, i469, s471 => FL2_X5_digest c v w k470 (i469 + 1) ((((s471 * (31 : Int64)) + ((F_X5_ofQuery c v w (nI i469)).toInt64)) * (31 : Int64)) + ((F_X5_freedBy c v w (nI i469)).toInt64))
def FL4_X5_digest (c : SC) (v : SV) (w : SW)   (i464 : Nat) : Nat → Nat → Int64 → Int64
  | 0, _, s535 => s535
  | k534 + 1, i533, s535 => FL4_X5_digest c v w i464 k534 (i533 + 1) ((s535 * (31 : Int64)) + ((F_X5_status c v w (nI i464) (nI i533)).toInt64))
def FL_X5_digest (c : SC) (v : SV) (w : SW)   : Nat → Nat → Int64 → Int64
  | 0, _, s466 => s466
  | k465 + 1, i464, s466 => FL_X5_digest c v w k465 (i464 + 1) (((((((((((FL4_X5_digest c v w i464 (((v 1 i464 1).toNatClampNeg + 1)) 0 ((((((((((((((((((((s466 * (31 : Int64)) + ((F_X5_ofSheet0 c v w (nI i464)).toInt64)) * (31 : Int64)) + ((F_X5_ofSheet1 c v w (nI i464)).toInt64)) * (31 : Int64)) + ((F_X5_ofSheet2 c v w (nI i464)).toInt64)) * (31 : Int64)) + ((F_X5_ofSheet3 c v w (nI i464)).toInt64)) * (31 : Int64)) + ((F_X5_ofSheet4 c v w (nI i464)).toInt64)) * (31 : Int64)) + ((F_X5_ofSheet5 c v w (nI i464)).toInt64)) * (31 : Int64)) + ((F_X5_ofSheet6 c v w (nI i464)).toInt64)) * (31 : Int64)) + ((F_X5_ofSheet7 c v w (nI i464)).toInt64)) * (31 : Int64)) + ((F_X5_ofSheet8 c v w (nI i464)).toInt64)) * (31 : Int64)) + ((F_X5_ofSheet9 c v w (nI i464)).toInt64))) * (31 : Int64)) + ((F_X5_has c v w (0 : Int32) (nI i464)).toInt64)) * (31 : Int64)) + ((F_X5_has c v w (1 : Int32) (nI i464)).toInt64)) * (31 : Int64)) + ((F_X5_has c v w (2 : Int32) (nI i464)).toInt64)) * (31 : Int64)) + ((F_X5_has c v w (3 : Int32) (nI i464)).toInt64)) * (31 : Int64)) + ((F_X5_stoppedBy c v w (nI i464)).toInt64))
def F_X5_digest (c : SC) (v : SV) (w : SW)  : Int64 := (FL3_X5_digest c v w (c 4) 0 (((((((((((((((((FL2_X5_digest c v w (c 3) 0 (FL_X5_digest c v w (c 0) 0 ((((((((((((((((((((((((((1801317 : Int64) + ((F_X5_many0 c v w).toInt64)) * (31 : Int64)) + ((F_X5_many1 c v w).toInt64)) * (31 : Int64)) + ((F_X5_many2 c v w).toInt64)) * (31 : Int64)) + ((F_X5_many3 c v w).toInt64)) * (31 : Int64)) + ((F_X5_many4 c v w).toInt64)) * (31 : Int64)) + ((F_X5_many5 c v w).toInt64)) * (31 : Int64)) + ((F_X5_many6 c v w).toInt64)) * (31 : Int64)) + ((F_X5_many7 c v w).toInt64)) * (31 : Int64)) + ((F_X5_many8 c v w).toInt64)) * (31 : Int64)) + ((F_X5_many9 c v w).toInt64)) * (31 : Int64)) + ((F_X5_many10 c v w).toInt64)) * (31 : Int64)) + ((F_X5_many11 c v w).toInt64)) * (31 : Int64)) + ((F_X5_many12 c v w).toInt64)))) * (31 : Int64)) + ((F_X5_owes c v w (0 : Int32)).toInt64)) * (31 : Int64)) + ((F_X5_freedByAll c v w (0 : Int32)).toInt64)) * (31 : Int64)) + ((F_X5_owes c v w (1 : Int32)).toInt64)) * (31 : Int64)) + ((F_X5_freedByAll c v w (1 : Int32)).toInt64)) * (31 : Int64)) + ((F_X5_owes c v w (2 : Int32)).toInt64)) * (31 : Int64)) + ((F_X5_freedByAll c v w (2 : Int32)).toInt64)) * (31 : Int64)) + ((F_X5_owes c v w (3 : Int32)).toInt64)) * (31 : Int64)) + ((F_X5_freedByAll c v w (3 : Int32)).toInt64)))
def U_X5_digest (c : SC) (v : SV) (w : SW)  : (Nat → Int32) := (U_X5_freedByAll c v w (3 : Int32))

set_option maxHeartbeats 4000000 in
set_option maxRecDepth 100000 in
theorem m_X5_digest (l : Launch) (D : va_G) (cA : Nat → ClassId) (NL : List (Nat × Nat)) (c : SC) (v : SV) (w : SW) (u : Nat → Int32) (ad : Nat → Nat → Nat) (A : Nat → Prop)  (hM : MEM c NL) (hBd : BND c) (hF : WF c v) (hRI : RI c v w) : Met l yX5_digest wsX5_digest ({ frames := 7, cells := 0, slots := 0, locals := 166 }) (pcPre D vwCl (tyL cA) [.ref (ad 5 0)] (fun H => va_P D vwCl (pcW NL ad (ctO cA c v w u ad)) H ∧ va_D A (pcW NL ad (ctO cA c v w u ad)) ∧ ∀ q, H.size ≤ q → A q)) (va_Ql (fun (r : Int64) (_ : Unit) => r = F_X5_digest c v w) (fun (_ : Unit) t => va_P D vwCl (pcW NL ad (ctO cA c v w (U_X5_digest c v w) ad)) t.heap) A) 0 0 A := by
  refine Met.ofW (cc := cX5_digest) (maxL := 5) (ret := (some .long)) (by decide) rfl ?_
  intro p e s m args below meth c0 s₁ B hml hv
  obtain ⟨rfl, hX, hP0, hD, hA⟩ := hv
  have hx := B.exec
  have hb := B.bytes
  have hr := B.returns
  have hts := atoms_spec (ws := wsX5_digest) B.pre
  have hown : s.vm.findClass RX5 = some m.cls := findClass_of_methodNamed B.named
  have hlocks := B.notSynchronized
  have hW : pcS D vwCl A s.heap NL ad (ctO cA c v w u ad) s.heap [] := ⟨hP0, hD, va_S.rf⟩
  have hl := lv_entry ([.ref (ad 5 0)]) (n := 5) (Nat.le_of_ble_eq_true rfl)
  rw [lg_entry_eq]
  generalize (lg_sl ([.ref (ad 5 0)]) ++ List.replicate (5 - (lg_sl ([.ref (ad 5 0)])).length) Slot.unset).toArray = ls at hl ⊢
  have hl : lv_has ls 5 [(0, .ref (ad 5 0))] := hl
  refine lv_ldc2 (v := 58107) hx hb hown (hts (.constantLong RX5 334 58107) (by decide +kernel)) dX5_digest_0 ?_
  refine lv_lstore_n (lv' := [(1, .long 58107), (0, .ref (ad 5 0))]) hx hb dX5_digest_3 rfl hl (by decide) rfl (fun ls hl => ?_)
  refine lv_iconst (v := 0) hx hb dX5_digest_4 (by decide) ?_
  refine lv_istore_n (lv' := [(3, .int 0), (1, .long 58107), (0, .ref (ad 5 0))]) hx hb dX5_digest_5 rfl hl (by decide) rfl (fun ls hl => ?_)
  refine lv_iload_n hx hb dX5_digest_6 rfl (lv_at hl 0 rfl) ?_
  refine lv_bipush (v := 12) hx hb dX5_digest_7 (by decide) ?_
  refine lv_icmp_gt (tgt := 31) hx hb dX5_digest_9 (by decide) (fun c436 => absurd c436 (by decide)) (fun _ => ?_)
  refine lv_lload_n hx hb dX5_digest_12 rfl (lv_at hl 1 rfl) ?_
  refine lv_ldc2 (v := 31) hx hb hown (hts (.constantLong RX5 336 31) (by decide +kernel)) dX5_digest_13 ?_
  refine lv_lmul hx hb dX5_digest_16 ?_
  refine lv_topl (fun a437 ea437 => ?_)
  obtain rfl : a437 = 1801317 := ea437.trans (by decide)
  refine lv_aload_n hx hb dX5_digest_17 rfl (lv_at hl 2 rfl) ?_
  refine lv_iload_n hx hb dX5_digest_18 rfl (lv_at hl 0 rfl) ?_
  refine pc_rcalli (va_runV (As := [.int 0]) (rest := [.long 1801317]) ⟨hx, hb, hml, hown, hts⟩ (r_X5_many0 l D cA NL c v w u ad  hM hBd hF ) (cwV 1 hts gX5_digest_X5_many rfl rfl rfl (by decide +kernel) ⟨Nat.le_of_ble_eq_true rfl, Nat.le_of_ble_eq_true rfl⟩) (pc_preV pcN_ok hX hW.1 hM.1 rfl rfl hW.1) rfl rfl hl.1 rfl (lv_room (Nat.le_of_ble_eq_true rfl)) dX5_digest_19 ⟨Nat.le_of_ble_eq_true rfl, Nat.le_of_ble_eq_true rfl⟩) hW (fun r438 H locs hwr438 hW => ?_)
  subst hwr438
  refine lv_i2l (v := (F_X5_many0 c v w).toInt64) hx hb dX5_digest_22 rfl ?_
  refine lv_ladd hx hb dX5_digest_23 ?_
  refine lv_lstore_n (lv' := [(1, .long ((1801317 : Int64) + ((F_X5_many0 c v w).toInt64))), (3, .int 0), (0, .ref (ad 5 0))]) hx hb dX5_digest_24 rfl hl (by decide) rfl (fun ls hl => ?_)
  refine lv_iinc (v := 1) (lv' := [(3, .int 1), (1, .long ((1801317 : Int64) + ((F_X5_many0 c v w).toInt64))), (0, .ref (ad 5 0))]) hx hb dX5_digest_25 hl (k := 1) rfl (by decide) (by decide) rfl (fun ls hl => ?_)
  refine lv_goto (tgt := 6) hx hb dX5_digest_28 (by decide) ?_
  refine lv_iload_n hx hb dX5_digest_6 rfl (lv_at hl 0 rfl) ?_
  refine lv_bipush (v := 12) hx hb dX5_digest_7 (by decide) ?_
  refine lv_icmp_gt (tgt := 31) hx hb dX5_digest_9 (by decide) (fun c439 => absurd c439 (by decide)) (fun _ => ?_)
  refine lv_lload_n hx hb dX5_digest_12 rfl (lv_at hl 1 rfl) ?_
  refine lv_ldc2 (v := 31) hx hb hown (hts (.constantLong RX5 336 31) (by decide +kernel)) dX5_digest_13 ?_
  refine lv_lmul hx hb dX5_digest_16 ?_
  refine lv_aload_n hx hb dX5_digest_17 rfl (lv_at hl 2 rfl) ?_
  refine lv_iload_n hx hb dX5_digest_18 rfl (lv_at hl 0 rfl) ?_
  refine pc_rcalli (va_runV (As := [.int 1]) (rest := [.long (((1801317 : Int64) + ((F_X5_many0 c v w).toInt64)) * (31 : Int64))]) ⟨hx, hb, hml, hown, hts⟩ (r_X5_many1 l D cA NL c v w u ad  hM hBd hF ) (cwV 1 hts gX5_digest_X5_many rfl rfl rfl (by decide +kernel) ⟨Nat.le_of_ble_eq_true rfl, Nat.le_of_ble_eq_true rfl⟩) (pc_preV pcN_ok hX hW.1 hM.1 rfl rfl hW.1) rfl rfl hl.1 rfl (lv_room (Nat.le_of_ble_eq_true rfl)) dX5_digest_19 ⟨Nat.le_of_ble_eq_true rfl, Nat.le_of_ble_eq_true rfl⟩) hW (fun r440 H locs hwr440 hW => ?_)
  subst hwr440
  refine lv_i2l (v := (F_X5_many1 c v w).toInt64) hx hb dX5_digest_22 rfl ?_
  refine lv_ladd hx hb dX5_digest_23 ?_
  refine lv_lstore_n (lv' := [(1, .long ((((1801317 : Int64) + ((F_X5_many0 c v w).toInt64)) * (31 : Int64)) + ((F_X5_many1 c v w).toInt64))), (3, .int 1), (0, .ref (ad 5 0))]) hx hb dX5_digest_24 rfl hl (by decide) rfl (fun ls hl => ?_)
  refine lv_iinc (v := 2) (lv' := [(3, .int 2), (1, .long ((((1801317 : Int64) + ((F_X5_many0 c v w).toInt64)) * (31 : Int64)) + ((F_X5_many1 c v w).toInt64))), (0, .ref (ad 5 0))]) hx hb dX5_digest_25 hl (k := 1) rfl (by decide) (by decide) rfl (fun ls hl => ?_)
  refine lv_goto (tgt := 6) hx hb dX5_digest_28 (by decide) ?_
  refine lv_iload_n hx hb dX5_digest_6 rfl (lv_at hl 0 rfl) ?_
  refine lv_bipush (v := 12) hx hb dX5_digest_7 (by decide) ?_
  refine lv_icmp_gt (tgt := 31) hx hb dX5_digest_9 (by decide) (fun c441 => absurd c441 (by decide)) (fun _ => ?_)
  refine lv_lload_n hx hb dX5_digest_12 rfl (lv_at hl 1 rfl) ?_
  refine lv_ldc2 (v := 31) hx hb hown (hts (.constantLong RX5 336 31) (by decide +kernel)) dX5_digest_13 ?_
  refine lv_lmul hx hb dX5_digest_16 ?_
  refine lv_aload_n hx hb dX5_digest_17 rfl (lv_at hl 2 rfl) ?_
  refine lv_iload_n hx hb dX5_digest_18 rfl (lv_at hl 0 rfl) ?_
  refine pc_rcalli (va_runV (As := [.int 2]) (rest := [.long (((((1801317 : Int64) + ((F_X5_many0 c v w).toInt64)) * (31 : Int64)) + ((F_X5_many1 c v w).toInt64)) * (31 : Int64))]) ⟨hx, hb, hml, hown, hts⟩ (r_X5_many2 l D cA NL c v w u ad  hM hBd hF ) (cwV 1 hts gX5_digest_X5_many rfl rfl rfl (by decide +kernel) ⟨Nat.le_of_ble_eq_true rfl, Nat.le_of_ble_eq_true rfl⟩) (pc_preV pcN_ok hX hW.1 hM.1 rfl rfl hW.1) rfl rfl hl.1 rfl (lv_room (Nat.le_of_ble_eq_true rfl)) dX5_digest_19 ⟨Nat.le_of_ble_eq_true rfl, Nat.le_of_ble_eq_true rfl⟩) hW (fun r442 H locs hwr442 hW => ?_)
  subst hwr442
  refine lv_i2l (v := (F_X5_many2 c v w).toInt64) hx hb dX5_digest_22 rfl ?_
  refine lv_ladd hx hb dX5_digest_23 ?_
  refine lv_lstore_n (lv' := [(1, .long ((((((1801317 : Int64) + ((F_X5_many0 c v w).toInt64)) * (31 : Int64)) + ((F_X5_many1 c v w).toInt64)) * (31 : Int64)) + ((F_X5_many2 c v w).toInt64))), (3, .int 2), (0, .ref (ad 5 0))]) hx hb dX5_digest_24 rfl hl (by decide) rfl (fun ls hl => ?_)
  refine lv_iinc (v := 3) (lv' := [(3, .int 3), (1, .long ((((((1801317 : Int64) + ((F_X5_many0 c v w).toInt64)) * (31 : Int64)) + ((F_X5_many1 c v w).toInt64)) * (31 : Int64)) + ((F_X5_many2 c v w).toInt64))), (0, .ref (ad 5 0))]) hx hb dX5_digest_25 hl (k := 1) rfl (by decide) (by decide) rfl (fun ls hl => ?_)
  refine lv_goto (tgt := 6) hx hb dX5_digest_28 (by decide) ?_
  refine lv_iload_n hx hb dX5_digest_6 rfl (lv_at hl 0 rfl) ?_
  refine lv_bipush (v := 12) hx hb dX5_digest_7 (by decide) ?_
  refine lv_icmp_gt (tgt := 31) hx hb dX5_digest_9 (by decide) (fun c443 => absurd c443 (by decide)) (fun _ => ?_)
  refine lv_lload_n hx hb dX5_digest_12 rfl (lv_at hl 1 rfl) ?_
  refine lv_ldc2 (v := 31) hx hb hown (hts (.constantLong RX5 336 31) (by decide +kernel)) dX5_digest_13 ?_
  refine lv_lmul hx hb dX5_digest_16 ?_
  refine lv_aload_n hx hb dX5_digest_17 rfl (lv_at hl 2 rfl) ?_
  refine lv_iload_n hx hb dX5_digest_18 rfl (lv_at hl 0 rfl) ?_
  refine pc_rcalli (va_runV (As := [.int 3]) (rest := [.long (((((((1801317 : Int64) + ((F_X5_many0 c v w).toInt64)) * (31 : Int64)) + ((F_X5_many1 c v w).toInt64)) * (31 : Int64)) + ((F_X5_many2 c v w).toInt64)) * (31 : Int64))]) ⟨hx, hb, hml, hown, hts⟩ (r_X5_many3 l D cA NL c v w u ad  hM hBd hF ) (cwV 1 hts gX5_digest_X5_many rfl rfl rfl (by decide +kernel) ⟨Nat.le_of_ble_eq_true rfl, Nat.le_of_ble_eq_true rfl⟩) (pc_preV pcN_ok hX hW.1 hM.1 rfl rfl hW.1) rfl rfl hl.1 rfl (lv_room (Nat.le_of_ble_eq_true rfl)) dX5_digest_19 ⟨Nat.le_of_ble_eq_true rfl, Nat.le_of_ble_eq_true rfl⟩) hW (fun r444 H locs hwr444 hW => ?_)
  subst hwr444
  refine lv_i2l (v := (F_X5_many3 c v w).toInt64) hx hb dX5_digest_22 rfl ?_
  refine lv_ladd hx hb dX5_digest_23 ?_
  refine lv_lstore_n (lv' := [(1, .long ((((((((1801317 : Int64) + ((F_X5_many0 c v w).toInt64)) * (31 : Int64)) + ((F_X5_many1 c v w).toInt64)) * (31 : Int64)) + ((F_X5_many2 c v w).toInt64)) * (31 : Int64)) + ((F_X5_many3 c v w).toInt64))), (3, .int 3), (0, .ref (ad 5 0))]) hx hb dX5_digest_24 rfl hl (by decide) rfl (fun ls hl => ?_)
  refine lv_iinc (v := 4) (lv' := [(3, .int 4), (1, .long ((((((((1801317 : Int64) + ((F_X5_many0 c v w).toInt64)) * (31 : Int64)) + ((F_X5_many1 c v w).toInt64)) * (31 : Int64)) + ((F_X5_many2 c v w).toInt64)) * (31 : Int64)) + ((F_X5_many3 c v w).toInt64))), (0, .ref (ad 5 0))]) hx hb dX5_digest_25 hl (k := 1) rfl (by decide) (by decide) rfl (fun ls hl => ?_)
  refine lv_goto (tgt := 6) hx hb dX5_digest_28 (by decide) ?_
  refine lv_iload_n hx hb dX5_digest_6 rfl (lv_at hl 0 rfl) ?_
  refine lv_bipush (v := 12) hx hb dX5_digest_7 (by decide) ?_
  refine lv_icmp_gt (tgt := 31) hx hb dX5_digest_9 (by decide) (fun c445 => absurd c445 (by decide)) (fun _ => ?_)
  refine lv_lload_n hx hb dX5_digest_12 rfl (lv_at hl 1 rfl) ?_
  refine lv_ldc2 (v := 31) hx hb hown (hts (.constantLong RX5 336 31) (by decide +kernel)) dX5_digest_13 ?_
  refine lv_lmul hx hb dX5_digest_16 ?_
  refine lv_aload_n hx hb dX5_digest_17 rfl (lv_at hl 2 rfl) ?_
  refine lv_iload_n hx hb dX5_digest_18 rfl (lv_at hl 0 rfl) ?_
  refine pc_rcalli (va_runV (As := [.int 4]) (rest := [.long (((((((((1801317 : Int64) + ((F_X5_many0 c v w).toInt64)) * (31 : Int64)) + ((F_X5_many1 c v w).toInt64)) * (31 : Int64)) + ((F_X5_many2 c v w).toInt64)) * (31 : Int64)) + ((F_X5_many3 c v w).toInt64)) * (31 : Int64))]) ⟨hx, hb, hml, hown, hts⟩ (r_X5_many4 l D cA NL c v w u ad  hM hBd hF ) (cwV 1 hts gX5_digest_X5_many rfl rfl rfl (by decide +kernel) ⟨Nat.le_of_ble_eq_true rfl, Nat.le_of_ble_eq_true rfl⟩) (pc_preV pcN_ok hX hW.1 hM.1 rfl rfl hW.1) rfl rfl hl.1 rfl (lv_room (Nat.le_of_ble_eq_true rfl)) dX5_digest_19 ⟨Nat.le_of_ble_eq_true rfl, Nat.le_of_ble_eq_true rfl⟩) hW (fun r446 H locs hwr446 hW => ?_)
  subst hwr446
  refine lv_i2l (v := (F_X5_many4 c v w).toInt64) hx hb dX5_digest_22 rfl ?_
  refine lv_ladd hx hb dX5_digest_23 ?_
  refine lv_lstore_n (lv' := [(1, .long ((((((((((1801317 : Int64) + ((F_X5_many0 c v w).toInt64)) * (31 : Int64)) + ((F_X5_many1 c v w).toInt64)) * (31 : Int64)) + ((F_X5_many2 c v w).toInt64)) * (31 : Int64)) + ((F_X5_many3 c v w).toInt64)) * (31 : Int64)) + ((F_X5_many4 c v w).toInt64))), (3, .int 4), (0, .ref (ad 5 0))]) hx hb dX5_digest_24 rfl hl (by decide) rfl (fun ls hl => ?_)
  refine lv_iinc (v := 5) (lv' := [(3, .int 5), (1, .long ((((((((((1801317 : Int64) + ((F_X5_many0 c v w).toInt64)) * (31 : Int64)) + ((F_X5_many1 c v w).toInt64)) * (31 : Int64)) + ((F_X5_many2 c v w).toInt64)) * (31 : Int64)) + ((F_X5_many3 c v w).toInt64)) * (31 : Int64)) + ((F_X5_many4 c v w).toInt64))), (0, .ref (ad 5 0))]) hx hb dX5_digest_25 hl (k := 1) rfl (by decide) (by decide) rfl (fun ls hl => ?_)
  refine lv_goto (tgt := 6) hx hb dX5_digest_28 (by decide) ?_
  refine lv_iload_n hx hb dX5_digest_6 rfl (lv_at hl 0 rfl) ?_
  refine lv_bipush (v := 12) hx hb dX5_digest_7 (by decide) ?_
  refine lv_icmp_gt (tgt := 31) hx hb dX5_digest_9 (by decide) (fun c447 => absurd c447 (by decide)) (fun _ => ?_)
  refine lv_lload_n hx hb dX5_digest_12 rfl (lv_at hl 1 rfl) ?_
  refine lv_ldc2 (v := 31) hx hb hown (hts (.constantLong RX5 336 31) (by decide +kernel)) dX5_digest_13 ?_
  refine lv_lmul hx hb dX5_digest_16 ?_
  refine lv_aload_n hx hb dX5_digest_17 rfl (lv_at hl 2 rfl) ?_
  refine lv_iload_n hx hb dX5_digest_18 rfl (lv_at hl 0 rfl) ?_
  refine pc_rcalli (va_runV (As := [.int 5]) (rest := [.long (((((((((((1801317 : Int64) + ((F_X5_many0 c v w).toInt64)) * (31 : Int64)) + ((F_X5_many1 c v w).toInt64)) * (31 : Int64)) + ((F_X5_many2 c v w).toInt64)) * (31 : Int64)) + ((F_X5_many3 c v w).toInt64)) * (31 : Int64)) + ((F_X5_many4 c v w).toInt64)) * (31 : Int64))]) ⟨hx, hb, hml, hown, hts⟩ (r_X5_many5 l D cA NL c v w u ad  hM hBd hF ) (cwV 1 hts gX5_digest_X5_many rfl rfl rfl (by decide +kernel) ⟨Nat.le_of_ble_eq_true rfl, Nat.le_of_ble_eq_true rfl⟩) (pc_preV pcN_ok hX hW.1 hM.1 rfl rfl hW.1) rfl rfl hl.1 rfl (lv_room (Nat.le_of_ble_eq_true rfl)) dX5_digest_19 ⟨Nat.le_of_ble_eq_true rfl, Nat.le_of_ble_eq_true rfl⟩) hW (fun r448 H locs hwr448 hW => ?_)
  subst hwr448
  refine lv_i2l (v := (F_X5_many5 c v w).toInt64) hx hb dX5_digest_22 rfl ?_
  refine lv_ladd hx hb dX5_digest_23 ?_
  refine lv_lstore_n (lv' := [(1, .long ((((((((((((1801317 : Int64) + ((F_X5_many0 c v w).toInt64)) * (31 : Int64)) + ((F_X5_many1 c v w).toInt64)) * (31 : Int64)) + ((F_X5_many2 c v w).toInt64)) * (31 : Int64)) + ((F_X5_many3 c v w).toInt64)) * (31 : Int64)) + ((F_X5_many4 c v w).toInt64)) * (31 : Int64)) + ((F_X5_many5 c v w).toInt64))), (3, .int 5), (0, .ref (ad 5 0))]) hx hb dX5_digest_24 rfl hl (by decide) rfl (fun ls hl => ?_)
  refine lv_iinc (v := 6) (lv' := [(3, .int 6), (1, .long ((((((((((((1801317 : Int64) + ((F_X5_many0 c v w).toInt64)) * (31 : Int64)) + ((F_X5_many1 c v w).toInt64)) * (31 : Int64)) + ((F_X5_many2 c v w).toInt64)) * (31 : Int64)) + ((F_X5_many3 c v w).toInt64)) * (31 : Int64)) + ((F_X5_many4 c v w).toInt64)) * (31 : Int64)) + ((F_X5_many5 c v w).toInt64))), (0, .ref (ad 5 0))]) hx hb dX5_digest_25 hl (k := 1) rfl (by decide) (by decide) rfl (fun ls hl => ?_)
  refine lv_goto (tgt := 6) hx hb dX5_digest_28 (by decide) ?_
  refine lv_iload_n hx hb dX5_digest_6 rfl (lv_at hl 0 rfl) ?_
  refine lv_bipush (v := 12) hx hb dX5_digest_7 (by decide) ?_
  refine lv_icmp_gt (tgt := 31) hx hb dX5_digest_9 (by decide) (fun c449 => absurd c449 (by decide)) (fun _ => ?_)
  refine lv_lload_n hx hb dX5_digest_12 rfl (lv_at hl 1 rfl) ?_
  refine lv_ldc2 (v := 31) hx hb hown (hts (.constantLong RX5 336 31) (by decide +kernel)) dX5_digest_13 ?_
  refine lv_lmul hx hb dX5_digest_16 ?_
  refine lv_aload_n hx hb dX5_digest_17 rfl (lv_at hl 2 rfl) ?_
  refine lv_iload_n hx hb dX5_digest_18 rfl (lv_at hl 0 rfl) ?_
  refine pc_rcalli (va_runV (As := [.int 6]) (rest := [.long (((((((((((((1801317 : Int64) + ((F_X5_many0 c v w).toInt64)) * (31 : Int64)) + ((F_X5_many1 c v w).toInt64)) * (31 : Int64)) + ((F_X5_many2 c v w).toInt64)) * (31 : Int64)) + ((F_X5_many3 c v w).toInt64)) * (31 : Int64)) + ((F_X5_many4 c v w).toInt64)) * (31 : Int64)) + ((F_X5_many5 c v w).toInt64)) * (31 : Int64))]) ⟨hx, hb, hml, hown, hts⟩ (r_X5_many6 l D cA NL c v w u ad  hM hBd hF ) (cwV 1 hts gX5_digest_X5_many rfl rfl rfl (by decide +kernel) ⟨Nat.le_of_ble_eq_true rfl, Nat.le_of_ble_eq_true rfl⟩) (pc_preV pcN_ok hX hW.1 hM.1 rfl rfl hW.1) rfl rfl hl.1 rfl (lv_room (Nat.le_of_ble_eq_true rfl)) dX5_digest_19 ⟨Nat.le_of_ble_eq_true rfl, Nat.le_of_ble_eq_true rfl⟩) hW (fun r450 H locs hwr450 hW => ?_)
  subst hwr450
  refine lv_i2l (v := (F_X5_many6 c v w).toInt64) hx hb dX5_digest_22 rfl ?_
  refine lv_ladd hx hb dX5_digest_23 ?_
  refine lv_lstore_n (lv' := [(1, .long ((((((((((((((1801317 : Int64) + ((F_X5_many0 c v w).toInt64)) * (31 : Int64)) + ((F_X5_many1 c v w).toInt64)) * (31 : Int64)) + ((F_X5_many2 c v w).toInt64)) * (31 : Int64)) + ((F_X5_many3 c v w).toInt64)) * (31 : Int64)) + ((F_X5_many4 c v w).toInt64)) * (31 : Int64)) + ((F_X5_many5 c v w).toInt64)) * (31 : Int64)) + ((F_X5_many6 c v w).toInt64))), (3, .int 6), (0, .ref (ad 5 0))]) hx hb dX5_digest_24 rfl hl (by decide) rfl (fun ls hl => ?_)
  refine lv_iinc (v := 7) (lv' := [(3, .int 7), (1, .long ((((((((((((((1801317 : Int64) + ((F_X5_many0 c v w).toInt64)) * (31 : Int64)) + ((F_X5_many1 c v w).toInt64)) * (31 : Int64)) + ((F_X5_many2 c v w).toInt64)) * (31 : Int64)) + ((F_X5_many3 c v w).toInt64)) * (31 : Int64)) + ((F_X5_many4 c v w).toInt64)) * (31 : Int64)) + ((F_X5_many5 c v w).toInt64)) * (31 : Int64)) + ((F_X5_many6 c v w).toInt64))), (0, .ref (ad 5 0))]) hx hb dX5_digest_25 hl (k := 1) rfl (by decide) (by decide) rfl (fun ls hl => ?_)
  refine lv_goto (tgt := 6) hx hb dX5_digest_28 (by decide) ?_
  refine lv_iload_n hx hb dX5_digest_6 rfl (lv_at hl 0 rfl) ?_
  refine lv_bipush (v := 12) hx hb dX5_digest_7 (by decide) ?_
  refine lv_icmp_gt (tgt := 31) hx hb dX5_digest_9 (by decide) (fun c451 => absurd c451 (by decide)) (fun _ => ?_)
  refine lv_lload_n hx hb dX5_digest_12 rfl (lv_at hl 1 rfl) ?_
  refine lv_ldc2 (v := 31) hx hb hown (hts (.constantLong RX5 336 31) (by decide +kernel)) dX5_digest_13 ?_
  refine lv_lmul hx hb dX5_digest_16 ?_
  refine lv_aload_n hx hb dX5_digest_17 rfl (lv_at hl 2 rfl) ?_
  refine lv_iload_n hx hb dX5_digest_18 rfl (lv_at hl 0 rfl) ?_
  refine pc_rcalli (va_runV (As := [.int 7]) (rest := [.long (((((((((((((((1801317 : Int64) + ((F_X5_many0 c v w).toInt64)) * (31 : Int64)) + ((F_X5_many1 c v w).toInt64)) * (31 : Int64)) + ((F_X5_many2 c v w).toInt64)) * (31 : Int64)) + ((F_X5_many3 c v w).toInt64)) * (31 : Int64)) + ((F_X5_many4 c v w).toInt64)) * (31 : Int64)) + ((F_X5_many5 c v w).toInt64)) * (31 : Int64)) + ((F_X5_many6 c v w).toInt64)) * (31 : Int64))]) ⟨hx, hb, hml, hown, hts⟩ (r_X5_many7 l D cA NL c v w u ad  hM hBd hF ) (cwV 1 hts gX5_digest_X5_many rfl rfl rfl (by decide +kernel) ⟨Nat.le_of_ble_eq_true rfl, Nat.le_of_ble_eq_true rfl⟩) (pc_preV pcN_ok hX hW.1 hM.1 rfl rfl hW.1) rfl rfl hl.1 rfl (lv_room (Nat.le_of_ble_eq_true rfl)) dX5_digest_19 ⟨Nat.le_of_ble_eq_true rfl, Nat.le_of_ble_eq_true rfl⟩) hW (fun r452 H locs hwr452 hW => ?_)
  subst hwr452
  refine lv_i2l (v := (F_X5_many7 c v w).toInt64) hx hb dX5_digest_22 rfl ?_
  refine lv_ladd hx hb dX5_digest_23 ?_
  refine lv_lstore_n (lv' := [(1, .long ((((((((((((((((1801317 : Int64) + ((F_X5_many0 c v w).toInt64)) * (31 : Int64)) + ((F_X5_many1 c v w).toInt64)) * (31 : Int64)) + ((F_X5_many2 c v w).toInt64)) * (31 : Int64)) + ((F_X5_many3 c v w).toInt64)) * (31 : Int64)) + ((F_X5_many4 c v w).toInt64)) * (31 : Int64)) + ((F_X5_many5 c v w).toInt64)) * (31 : Int64)) + ((F_X5_many6 c v w).toInt64)) * (31 : Int64)) + ((F_X5_many7 c v w).toInt64))), (3, .int 7), (0, .ref (ad 5 0))]) hx hb dX5_digest_24 rfl hl (by decide) rfl (fun ls hl => ?_)
  refine lv_iinc (v := 8) (lv' := [(3, .int 8), (1, .long ((((((((((((((((1801317 : Int64) + ((F_X5_many0 c v w).toInt64)) * (31 : Int64)) + ((F_X5_many1 c v w).toInt64)) * (31 : Int64)) + ((F_X5_many2 c v w).toInt64)) * (31 : Int64)) + ((F_X5_many3 c v w).toInt64)) * (31 : Int64)) + ((F_X5_many4 c v w).toInt64)) * (31 : Int64)) + ((F_X5_many5 c v w).toInt64)) * (31 : Int64)) + ((F_X5_many6 c v w).toInt64)) * (31 : Int64)) + ((F_X5_many7 c v w).toInt64))), (0, .ref (ad 5 0))]) hx hb dX5_digest_25 hl (k := 1) rfl (by decide) (by decide) rfl (fun ls hl => ?_)
  refine lv_goto (tgt := 6) hx hb dX5_digest_28 (by decide) ?_
  refine lv_iload_n hx hb dX5_digest_6 rfl (lv_at hl 0 rfl) ?_
  refine lv_bipush (v := 12) hx hb dX5_digest_7 (by decide) ?_
  refine lv_icmp_gt (tgt := 31) hx hb dX5_digest_9 (by decide) (fun c453 => absurd c453 (by decide)) (fun _ => ?_)
  refine lv_lload_n hx hb dX5_digest_12 rfl (lv_at hl 1 rfl) ?_
  refine lv_ldc2 (v := 31) hx hb hown (hts (.constantLong RX5 336 31) (by decide +kernel)) dX5_digest_13 ?_
  refine lv_lmul hx hb dX5_digest_16 ?_
  refine lv_aload_n hx hb dX5_digest_17 rfl (lv_at hl 2 rfl) ?_
  refine lv_iload_n hx hb dX5_digest_18 rfl (lv_at hl 0 rfl) ?_
  refine pc_rcalli (va_runV (As := [.int 8]) (rest := [.long (((((((((((((((((1801317 : Int64) + ((F_X5_many0 c v w).toInt64)) * (31 : Int64)) + ((F_X5_many1 c v w).toInt64)) * (31 : Int64)) + ((F_X5_many2 c v w).toInt64)) * (31 : Int64)) + ((F_X5_many3 c v w).toInt64)) * (31 : Int64)) + ((F_X5_many4 c v w).toInt64)) * (31 : Int64)) + ((F_X5_many5 c v w).toInt64)) * (31 : Int64)) + ((F_X5_many6 c v w).toInt64)) * (31 : Int64)) + ((F_X5_many7 c v w).toInt64)) * (31 : Int64))]) ⟨hx, hb, hml, hown, hts⟩ (r_X5_many8 l D cA NL c v w u ad  hM hBd hF ) (cwV 1 hts gX5_digest_X5_many rfl rfl rfl (by decide +kernel) ⟨Nat.le_of_ble_eq_true rfl, Nat.le_of_ble_eq_true rfl⟩) (pc_preV pcN_ok hX hW.1 hM.1 rfl rfl hW.1) rfl rfl hl.1 rfl (lv_room (Nat.le_of_ble_eq_true rfl)) dX5_digest_19 ⟨Nat.le_of_ble_eq_true rfl, Nat.le_of_ble_eq_true rfl⟩) hW (fun r454 H locs hwr454 hW => ?_)
  subst hwr454
  refine lv_i2l (v := (F_X5_many8 c v w).toInt64) hx hb dX5_digest_22 rfl ?_
  refine lv_ladd hx hb dX5_digest_23 ?_
  refine lv_lstore_n (lv' := [(1, .long ((((((((((((((((((1801317 : Int64) + ((F_X5_many0 c v w).toInt64)) * (31 : Int64)) + ((F_X5_many1 c v w).toInt64)) * (31 : Int64)) + ((F_X5_many2 c v w).toInt64)) * (31 : Int64)) + ((F_X5_many3 c v w).toInt64)) * (31 : Int64)) + ((F_X5_many4 c v w).toInt64)) * (31 : Int64)) + ((F_X5_many5 c v w).toInt64)) * (31 : Int64)) + ((F_X5_many6 c v w).toInt64)) * (31 : Int64)) + ((F_X5_many7 c v w).toInt64)) * (31 : Int64)) + ((F_X5_many8 c v w).toInt64))), (3, .int 8), (0, .ref (ad 5 0))]) hx hb dX5_digest_24 rfl hl (by decide) rfl (fun ls hl => ?_)
  refine lv_iinc (v := 9) (lv' := [(3, .int 9), (1, .long ((((((((((((((((((1801317 : Int64) + ((F_X5_many0 c v w).toInt64)) * (31 : Int64)) + ((F_X5_many1 c v w).toInt64)) * (31 : Int64)) + ((F_X5_many2 c v w).toInt64)) * (31 : Int64)) + ((F_X5_many3 c v w).toInt64)) * (31 : Int64)) + ((F_X5_many4 c v w).toInt64)) * (31 : Int64)) + ((F_X5_many5 c v w).toInt64)) * (31 : Int64)) + ((F_X5_many6 c v w).toInt64)) * (31 : Int64)) + ((F_X5_many7 c v w).toInt64)) * (31 : Int64)) + ((F_X5_many8 c v w).toInt64))), (0, .ref (ad 5 0))]) hx hb dX5_digest_25 hl (k := 1) rfl (by decide) (by decide) rfl (fun ls hl => ?_)
  refine lv_goto (tgt := 6) hx hb dX5_digest_28 (by decide) ?_
  refine lv_iload_n hx hb dX5_digest_6 rfl (lv_at hl 0 rfl) ?_
  refine lv_bipush (v := 12) hx hb dX5_digest_7 (by decide) ?_
  refine lv_icmp_gt (tgt := 31) hx hb dX5_digest_9 (by decide) (fun c455 => absurd c455 (by decide)) (fun _ => ?_)
  refine lv_lload_n hx hb dX5_digest_12 rfl (lv_at hl 1 rfl) ?_
  refine lv_ldc2 (v := 31) hx hb hown (hts (.constantLong RX5 336 31) (by decide +kernel)) dX5_digest_13 ?_
  refine lv_lmul hx hb dX5_digest_16 ?_
  refine lv_aload_n hx hb dX5_digest_17 rfl (lv_at hl 2 rfl) ?_
  refine lv_iload_n hx hb dX5_digest_18 rfl (lv_at hl 0 rfl) ?_
  refine pc_rcalli (va_runV (As := [.int 9]) (rest := [.long (((((((((((((((((((1801317 : Int64) + ((F_X5_many0 c v w).toInt64)) * (31 : Int64)) + ((F_X5_many1 c v w).toInt64)) * (31 : Int64)) + ((F_X5_many2 c v w).toInt64)) * (31 : Int64)) + ((F_X5_many3 c v w).toInt64)) * (31 : Int64)) + ((F_X5_many4 c v w).toInt64)) * (31 : Int64)) + ((F_X5_many5 c v w).toInt64)) * (31 : Int64)) + ((F_X5_many6 c v w).toInt64)) * (31 : Int64)) + ((F_X5_many7 c v w).toInt64)) * (31 : Int64)) + ((F_X5_many8 c v w).toInt64)) * (31 : Int64))]) ⟨hx, hb, hml, hown, hts⟩ (r_X5_many9 l D cA NL c v w u ad  hM hBd hF ) (cwV 1 hts gX5_digest_X5_many rfl rfl rfl (by decide +kernel) ⟨Nat.le_of_ble_eq_true rfl, Nat.le_of_ble_eq_true rfl⟩) (pc_preV pcN_ok hX hW.1 hM.1 rfl rfl hW.1) rfl rfl hl.1 rfl (lv_room (Nat.le_of_ble_eq_true rfl)) dX5_digest_19 ⟨Nat.le_of_ble_eq_true rfl, Nat.le_of_ble_eq_true rfl⟩) hW (fun r456 H locs hwr456 hW => ?_)
  subst hwr456
  refine lv_i2l (v := (F_X5_many9 c v w).toInt64) hx hb dX5_digest_22 rfl ?_
  refine lv_ladd hx hb dX5_digest_23 ?_
  refine lv_lstore_n (lv' := [(1, .long ((((((((((((((((((((1801317 : Int64) + ((F_X5_many0 c v w).toInt64)) * (31 : Int64)) + ((F_X5_many1 c v w).toInt64)) * (31 : Int64)) + ((F_X5_many2 c v w).toInt64)) * (31 : Int64)) + ((F_X5_many3 c v w).toInt64)) * (31 : Int64)) + ((F_X5_many4 c v w).toInt64)) * (31 : Int64)) + ((F_X5_many5 c v w).toInt64)) * (31 : Int64)) + ((F_X5_many6 c v w).toInt64)) * (31 : Int64)) + ((F_X5_many7 c v w).toInt64)) * (31 : Int64)) + ((F_X5_many8 c v w).toInt64)) * (31 : Int64)) + ((F_X5_many9 c v w).toInt64))), (3, .int 9), (0, .ref (ad 5 0))]) hx hb dX5_digest_24 rfl hl (by decide) rfl (fun ls hl => ?_)
  refine lv_iinc (v := 10) (lv' := [(3, .int 10), (1, .long ((((((((((((((((((((1801317 : Int64) + ((F_X5_many0 c v w).toInt64)) * (31 : Int64)) + ((F_X5_many1 c v w).toInt64)) * (31 : Int64)) + ((F_X5_many2 c v w).toInt64)) * (31 : Int64)) + ((F_X5_many3 c v w).toInt64)) * (31 : Int64)) + ((F_X5_many4 c v w).toInt64)) * (31 : Int64)) + ((F_X5_many5 c v w).toInt64)) * (31 : Int64)) + ((F_X5_many6 c v w).toInt64)) * (31 : Int64)) + ((F_X5_many7 c v w).toInt64)) * (31 : Int64)) + ((F_X5_many8 c v w).toInt64)) * (31 : Int64)) + ((F_X5_many9 c v w).toInt64))), (0, .ref (ad 5 0))]) hx hb dX5_digest_25 hl (k := 1) rfl (by decide) (by decide) rfl (fun ls hl => ?_)
  refine lv_goto (tgt := 6) hx hb dX5_digest_28 (by decide) ?_
  refine lv_iload_n hx hb dX5_digest_6 rfl (lv_at hl 0 rfl) ?_
  refine lv_bipush (v := 12) hx hb dX5_digest_7 (by decide) ?_
  refine lv_icmp_gt (tgt := 31) hx hb dX5_digest_9 (by decide) (fun c457 => absurd c457 (by decide)) (fun _ => ?_)
  refine lv_lload_n hx hb dX5_digest_12 rfl (lv_at hl 1 rfl) ?_
  refine lv_ldc2 (v := 31) hx hb hown (hts (.constantLong RX5 336 31) (by decide +kernel)) dX5_digest_13 ?_
  refine lv_lmul hx hb dX5_digest_16 ?_
  refine lv_aload_n hx hb dX5_digest_17 rfl (lv_at hl 2 rfl) ?_
  refine lv_iload_n hx hb dX5_digest_18 rfl (lv_at hl 0 rfl) ?_
  refine pc_rcalli (va_runV (As := [.int 10]) (rest := [.long (((((((((((((((((((((1801317 : Int64) + ((F_X5_many0 c v w).toInt64)) * (31 : Int64)) + ((F_X5_many1 c v w).toInt64)) * (31 : Int64)) + ((F_X5_many2 c v w).toInt64)) * (31 : Int64)) + ((F_X5_many3 c v w).toInt64)) * (31 : Int64)) + ((F_X5_many4 c v w).toInt64)) * (31 : Int64)) + ((F_X5_many5 c v w).toInt64)) * (31 : Int64)) + ((F_X5_many6 c v w).toInt64)) * (31 : Int64)) + ((F_X5_many7 c v w).toInt64)) * (31 : Int64)) + ((F_X5_many8 c v w).toInt64)) * (31 : Int64)) + ((F_X5_many9 c v w).toInt64)) * (31 : Int64))]) ⟨hx, hb, hml, hown, hts⟩ (r_X5_many10 l D cA NL c v w u ad  hM hBd hF ) (cwV 1 hts gX5_digest_X5_many rfl rfl rfl (by decide +kernel) ⟨Nat.le_of_ble_eq_true rfl, Nat.le_of_ble_eq_true rfl⟩) (pc_preV pcN_ok hX hW.1 hM.1 rfl rfl hW.1) rfl rfl hl.1 rfl (lv_room (Nat.le_of_ble_eq_true rfl)) dX5_digest_19 ⟨Nat.le_of_ble_eq_true rfl, Nat.le_of_ble_eq_true rfl⟩) hW (fun r458 H locs hwr458 hW => ?_)
  subst hwr458
  refine lv_i2l (v := (F_X5_many10 c v w).toInt64) hx hb dX5_digest_22 rfl ?_
  refine lv_ladd hx hb dX5_digest_23 ?_
  refine lv_lstore_n (lv' := [(1, .long ((((((((((((((((((((((1801317 : Int64) + ((F_X5_many0 c v w).toInt64)) * (31 : Int64)) + ((F_X5_many1 c v w).toInt64)) * (31 : Int64)) + ((F_X5_many2 c v w).toInt64)) * (31 : Int64)) + ((F_X5_many3 c v w).toInt64)) * (31 : Int64)) + ((F_X5_many4 c v w).toInt64)) * (31 : Int64)) + ((F_X5_many5 c v w).toInt64)) * (31 : Int64)) + ((F_X5_many6 c v w).toInt64)) * (31 : Int64)) + ((F_X5_many7 c v w).toInt64)) * (31 : Int64)) + ((F_X5_many8 c v w).toInt64)) * (31 : Int64)) + ((F_X5_many9 c v w).toInt64)) * (31 : Int64)) + ((F_X5_many10 c v w).toInt64))), (3, .int 10), (0, .ref (ad 5 0))]) hx hb dX5_digest_24 rfl hl (by decide) rfl (fun ls hl => ?_)
  refine lv_iinc (v := 11) (lv' := [(3, .int 11), (1, .long ((((((((((((((((((((((1801317 : Int64) + ((F_X5_many0 c v w).toInt64)) * (31 : Int64)) + ((F_X5_many1 c v w).toInt64)) * (31 : Int64)) + ((F_X5_many2 c v w).toInt64)) * (31 : Int64)) + ((F_X5_many3 c v w).toInt64)) * (31 : Int64)) + ((F_X5_many4 c v w).toInt64)) * (31 : Int64)) + ((F_X5_many5 c v w).toInt64)) * (31 : Int64)) + ((F_X5_many6 c v w).toInt64)) * (31 : Int64)) + ((F_X5_many7 c v w).toInt64)) * (31 : Int64)) + ((F_X5_many8 c v w).toInt64)) * (31 : Int64)) + ((F_X5_many9 c v w).toInt64)) * (31 : Int64)) + ((F_X5_many10 c v w).toInt64))), (0, .ref (ad 5 0))]) hx hb dX5_digest_25 hl (k := 1) rfl (by decide) (by decide) rfl (fun ls hl => ?_)
  refine lv_goto (tgt := 6) hx hb dX5_digest_28 (by decide) ?_
  refine lv_iload_n hx hb dX5_digest_6 rfl (lv_at hl 0 rfl) ?_
  refine lv_bipush (v := 12) hx hb dX5_digest_7 (by decide) ?_
  refine lv_icmp_gt (tgt := 31) hx hb dX5_digest_9 (by decide) (fun c459 => absurd c459 (by decide)) (fun _ => ?_)
  refine lv_lload_n hx hb dX5_digest_12 rfl (lv_at hl 1 rfl) ?_
  refine lv_ldc2 (v := 31) hx hb hown (hts (.constantLong RX5 336 31) (by decide +kernel)) dX5_digest_13 ?_
  refine lv_lmul hx hb dX5_digest_16 ?_
  refine lv_aload_n hx hb dX5_digest_17 rfl (lv_at hl 2 rfl) ?_
  refine lv_iload_n hx hb dX5_digest_18 rfl (lv_at hl 0 rfl) ?_
  refine pc_rcalli (va_runV (As := [.int 11]) (rest := [.long (((((((((((((((((((((((1801317 : Int64) + ((F_X5_many0 c v w).toInt64)) * (31 : Int64)) + ((F_X5_many1 c v w).toInt64)) * (31 : Int64)) + ((F_X5_many2 c v w).toInt64)) * (31 : Int64)) + ((F_X5_many3 c v w).toInt64)) * (31 : Int64)) + ((F_X5_many4 c v w).toInt64)) * (31 : Int64)) + ((F_X5_many5 c v w).toInt64)) * (31 : Int64)) + ((F_X5_many6 c v w).toInt64)) * (31 : Int64)) + ((F_X5_many7 c v w).toInt64)) * (31 : Int64)) + ((F_X5_many8 c v w).toInt64)) * (31 : Int64)) + ((F_X5_many9 c v w).toInt64)) * (31 : Int64)) + ((F_X5_many10 c v w).toInt64)) * (31 : Int64))]) ⟨hx, hb, hml, hown, hts⟩ (r_X5_many11 l D cA NL c v w u ad  hM hBd hF ) (cwV 1 hts gX5_digest_X5_many rfl rfl rfl (by decide +kernel) ⟨Nat.le_of_ble_eq_true rfl, Nat.le_of_ble_eq_true rfl⟩) (pc_preV pcN_ok hX hW.1 hM.1 rfl rfl hW.1) rfl rfl hl.1 rfl (lv_room (Nat.le_of_ble_eq_true rfl)) dX5_digest_19 ⟨Nat.le_of_ble_eq_true rfl, Nat.le_of_ble_eq_true rfl⟩) hW (fun r460 H locs hwr460 hW => ?_)
  subst hwr460
  refine lv_i2l (v := (F_X5_many11 c v w).toInt64) hx hb dX5_digest_22 rfl ?_
  refine lv_ladd hx hb dX5_digest_23 ?_
  refine lv_lstore_n (lv' := [(1, .long ((((((((((((((((((((((((1801317 : Int64) + ((F_X5_many0 c v w).toInt64)) * (31 : Int64)) + ((F_X5_many1 c v w).toInt64)) * (31 : Int64)) + ((F_X5_many2 c v w).toInt64)) * (31 : Int64)) + ((F_X5_many3 c v w).toInt64)) * (31 : Int64)) + ((F_X5_many4 c v w).toInt64)) * (31 : Int64)) + ((F_X5_many5 c v w).toInt64)) * (31 : Int64)) + ((F_X5_many6 c v w).toInt64)) * (31 : Int64)) + ((F_X5_many7 c v w).toInt64)) * (31 : Int64)) + ((F_X5_many8 c v w).toInt64)) * (31 : Int64)) + ((F_X5_many9 c v w).toInt64)) * (31 : Int64)) + ((F_X5_many10 c v w).toInt64)) * (31 : Int64)) + ((F_X5_many11 c v w).toInt64))), (3, .int 11), (0, .ref (ad 5 0))]) hx hb dX5_digest_24 rfl hl (by decide) rfl (fun ls hl => ?_)
  refine lv_iinc (v := 12) (lv' := [(3, .int 12), (1, .long ((((((((((((((((((((((((1801317 : Int64) + ((F_X5_many0 c v w).toInt64)) * (31 : Int64)) + ((F_X5_many1 c v w).toInt64)) * (31 : Int64)) + ((F_X5_many2 c v w).toInt64)) * (31 : Int64)) + ((F_X5_many3 c v w).toInt64)) * (31 : Int64)) + ((F_X5_many4 c v w).toInt64)) * (31 : Int64)) + ((F_X5_many5 c v w).toInt64)) * (31 : Int64)) + ((F_X5_many6 c v w).toInt64)) * (31 : Int64)) + ((F_X5_many7 c v w).toInt64)) * (31 : Int64)) + ((F_X5_many8 c v w).toInt64)) * (31 : Int64)) + ((F_X5_many9 c v w).toInt64)) * (31 : Int64)) + ((F_X5_many10 c v w).toInt64)) * (31 : Int64)) + ((F_X5_many11 c v w).toInt64))), (0, .ref (ad 5 0))]) hx hb dX5_digest_25 hl (k := 1) rfl (by decide) (by decide) rfl (fun ls hl => ?_)
  refine lv_goto (tgt := 6) hx hb dX5_digest_28 (by decide) ?_
  refine lv_iload_n hx hb dX5_digest_6 rfl (lv_at hl 0 rfl) ?_
  refine lv_bipush (v := 12) hx hb dX5_digest_7 (by decide) ?_
  refine lv_icmp_gt (tgt := 31) hx hb dX5_digest_9 (by decide) (fun c461 => absurd c461 (by decide)) (fun _ => ?_)
  refine lv_lload_n hx hb dX5_digest_12 rfl (lv_at hl 1 rfl) ?_
  refine lv_ldc2 (v := 31) hx hb hown (hts (.constantLong RX5 336 31) (by decide +kernel)) dX5_digest_13 ?_
  refine lv_lmul hx hb dX5_digest_16 ?_
  refine lv_aload_n hx hb dX5_digest_17 rfl (lv_at hl 2 rfl) ?_
  refine lv_iload_n hx hb dX5_digest_18 rfl (lv_at hl 0 rfl) ?_
  refine pc_rcalli (va_runV (As := [.int 12]) (rest := [.long (((((((((((((((((((((((((1801317 : Int64) + ((F_X5_many0 c v w).toInt64)) * (31 : Int64)) + ((F_X5_many1 c v w).toInt64)) * (31 : Int64)) + ((F_X5_many2 c v w).toInt64)) * (31 : Int64)) + ((F_X5_many3 c v w).toInt64)) * (31 : Int64)) + ((F_X5_many4 c v w).toInt64)) * (31 : Int64)) + ((F_X5_many5 c v w).toInt64)) * (31 : Int64)) + ((F_X5_many6 c v w).toInt64)) * (31 : Int64)) + ((F_X5_many7 c v w).toInt64)) * (31 : Int64)) + ((F_X5_many8 c v w).toInt64)) * (31 : Int64)) + ((F_X5_many9 c v w).toInt64)) * (31 : Int64)) + ((F_X5_many10 c v w).toInt64)) * (31 : Int64)) + ((F_X5_many11 c v w).toInt64)) * (31 : Int64))]) ⟨hx, hb, hml, hown, hts⟩ (r_X5_many12 l D cA NL c v w u ad  hM hBd hF ) (cwV 1 hts gX5_digest_X5_many rfl rfl rfl (by decide +kernel) ⟨Nat.le_of_ble_eq_true rfl, Nat.le_of_ble_eq_true rfl⟩) (pc_preV pcN_ok hX hW.1 hM.1 rfl rfl hW.1) rfl rfl hl.1 rfl (lv_room (Nat.le_of_ble_eq_true rfl)) dX5_digest_19 ⟨Nat.le_of_ble_eq_true rfl, Nat.le_of_ble_eq_true rfl⟩) hW (fun r462 H locs hwr462 hW => ?_)
  subst hwr462
  refine lv_i2l (v := (F_X5_many12 c v w).toInt64) hx hb dX5_digest_22 rfl ?_
  refine lv_ladd hx hb dX5_digest_23 ?_
  refine lv_lstore_n (lv' := [(1, .long ((((((((((((((((((((((((((1801317 : Int64) + ((F_X5_many0 c v w).toInt64)) * (31 : Int64)) + ((F_X5_many1 c v w).toInt64)) * (31 : Int64)) + ((F_X5_many2 c v w).toInt64)) * (31 : Int64)) + ((F_X5_many3 c v w).toInt64)) * (31 : Int64)) + ((F_X5_many4 c v w).toInt64)) * (31 : Int64)) + ((F_X5_many5 c v w).toInt64)) * (31 : Int64)) + ((F_X5_many6 c v w).toInt64)) * (31 : Int64)) + ((F_X5_many7 c v w).toInt64)) * (31 : Int64)) + ((F_X5_many8 c v w).toInt64)) * (31 : Int64)) + ((F_X5_many9 c v w).toInt64)) * (31 : Int64)) + ((F_X5_many10 c v w).toInt64)) * (31 : Int64)) + ((F_X5_many11 c v w).toInt64)) * (31 : Int64)) + ((F_X5_many12 c v w).toInt64))), (3, .int 12), (0, .ref (ad 5 0))]) hx hb dX5_digest_24 rfl hl (by decide) rfl (fun ls hl => ?_)
  refine lv_iinc (v := 13) (lv' := [(3, .int 13), (1, .long ((((((((((((((((((((((((((1801317 : Int64) + ((F_X5_many0 c v w).toInt64)) * (31 : Int64)) + ((F_X5_many1 c v w).toInt64)) * (31 : Int64)) + ((F_X5_many2 c v w).toInt64)) * (31 : Int64)) + ((F_X5_many3 c v w).toInt64)) * (31 : Int64)) + ((F_X5_many4 c v w).toInt64)) * (31 : Int64)) + ((F_X5_many5 c v w).toInt64)) * (31 : Int64)) + ((F_X5_many6 c v w).toInt64)) * (31 : Int64)) + ((F_X5_many7 c v w).toInt64)) * (31 : Int64)) + ((F_X5_many8 c v w).toInt64)) * (31 : Int64)) + ((F_X5_many9 c v w).toInt64)) * (31 : Int64)) + ((F_X5_many10 c v w).toInt64)) * (31 : Int64)) + ((F_X5_many11 c v w).toInt64)) * (31 : Int64)) + ((F_X5_many12 c v w).toInt64))), (0, .ref (ad 5 0))]) hx hb dX5_digest_25 hl (k := 1) rfl (by decide) (by decide) rfl (fun ls hl => ?_)
  refine lv_goto (tgt := 6) hx hb dX5_digest_28 (by decide) ?_
  refine lv_iload_n hx hb dX5_digest_6 rfl (lv_at hl 0 rfl) ?_
  refine lv_bipush (v := 12) hx hb dX5_digest_7 (by decide) ?_
  refine lv_icmp_gt (tgt := 31) hx hb dX5_digest_9 (by decide) (fun _ => ?_) (fun c463 => absurd (by decide) c463)
  refine lv_iconst (v := 0) hx hb dX5_digest_31 (by decide) ?_
  refine lv_istore_n (lv' := [(3, .int 0), (1, .long ((((((((((((((((((((((((((1801317 : Int64) + ((F_X5_many0 c v w).toInt64)) * (31 : Int64)) + ((F_X5_many1 c v w).toInt64)) * (31 : Int64)) + ((F_X5_many2 c v w).toInt64)) * (31 : Int64)) + ((F_X5_many3 c v w).toInt64)) * (31 : Int64)) + ((F_X5_many4 c v w).toInt64)) * (31 : Int64)) + ((F_X5_many5 c v w).toInt64)) * (31 : Int64)) + ((F_X5_many6 c v w).toInt64)) * (31 : Int64)) + ((F_X5_many7 c v w).toInt64)) * (31 : Int64)) + ((F_X5_many8 c v w).toInt64)) * (31 : Int64)) + ((F_X5_many9 c v w).toInt64)) * (31 : Int64)) + ((F_X5_many10 c v w).toInt64)) * (31 : Int64)) + ((F_X5_many11 c v w).toInt64)) * (31 : Int64)) + ((F_X5_many12 c v w).toInt64))), (0, .ref (ad 5 0))]) hx hb dX5_digest_32 rfl hl (by decide) rfl (fun ls hl => ?_)
  have K467 : ∀ (k465 i464 : Nat) (s466 : Int64) (H : Heap) (locs : List Loc) (ls : Array Slot), i464 + k465 = c 0 → (FL_X5_digest c v w k465 i464 s466) = (FL_X5_digest c v w (c 0) 0 ((((((((((((((((((((((((((1801317 : Int64) + ((F_X5_many0 c v w).toInt64)) * (31 : Int64)) + ((F_X5_many1 c v w).toInt64)) * (31 : Int64)) + ((F_X5_many2 c v w).toInt64)) * (31 : Int64)) + ((F_X5_many3 c v w).toInt64)) * (31 : Int64)) + ((F_X5_many4 c v w).toInt64)) * (31 : Int64)) + ((F_X5_many5 c v w).toInt64)) * (31 : Int64)) + ((F_X5_many6 c v w).toInt64)) * (31 : Int64)) + ((F_X5_many7 c v w).toInt64)) * (31 : Int64)) + ((F_X5_many8 c v w).toInt64)) * (31 : Int64)) + ((F_X5_many9 c v w).toInt64)) * (31 : Int64)) + ((F_X5_many10 c v w).toInt64)) * (31 : Int64)) + ((F_X5_many11 c v w).toInt64)) * (31 : Int64)) + ((F_X5_many12 c v w).toInt64))) → pcS D vwCl A s.heap NL ad (ctO cA c v w u ad) H locs → lv_has ls 5 [(3, .int (nI i464)), (1, .long s466), (0, .ref (ad 5 0))] → W p l e (headSpec wsX5_digest ({ frames := 7, cells := 0, slots := 0, locals := 166 })).room s m ([.ref (ad 5 0)] : List Value).toArray below meth c0 H locs 0 0 (MQ below (va_Ql (fun (r : Int64) (_ : Unit) => r = F_X5_digest c v w) (fun (_ : Unit) t => va_P D vwCl (pcW NL ad (ctO cA c v w (U_X5_digest c v w) ad)) t.heap) A) ([.ref (ad 5 0)] : List Value).toArray s 0 0 A) (F0 m 33 ls []) := by
    intro k465
    induction k465 with
    | zero =>
      intro i464 s466 H locs ls hk heF hW hl
      have ei : i464 = c 0 := by omega
      rw [ei] at hl
      obtain rfl : s466 = (FL_X5_digest c v w (c 0) 0 ((((((((((((((((((((((((((1801317 : Int64) + ((F_X5_many0 c v w).toInt64)) * (31 : Int64)) + ((F_X5_many1 c v w).toInt64)) * (31 : Int64)) + ((F_X5_many2 c v w).toInt64)) * (31 : Int64)) + ((F_X5_many3 c v w).toInt64)) * (31 : Int64)) + ((F_X5_many4 c v w).toInt64)) * (31 : Int64)) + ((F_X5_many5 c v w).toInt64)) * (31 : Int64)) + ((F_X5_many6 c v w).toInt64)) * (31 : Int64)) + ((F_X5_many7 c v w).toInt64)) * (31 : Int64)) + ((F_X5_many8 c v w).toInt64)) * (31 : Int64)) + ((F_X5_many9 c v w).toInt64)) * (31 : Int64)) + ((F_X5_many10 c v w).toInt64)) * (31 : Int64)) + ((F_X5_many11 c v w).toInt64)) * (31 : Int64)) + ((F_X5_many12 c v w).toInt64))) := heF
      refine lv_iload_n hx hb dX5_digest_33 rfl (lv_at hl 0 rfl) ?_
      refine lv_aload_n hx hb dX5_digest_34 rfl (lv_at hl 2 rfl) ?_
      refine pc_get (C := RX5) (T := TX5) (N := 13) (ci := 5) hx hb hts (by decide +kernel) hown hX.1 hW.1 5 0 hM.1 rfl rfl 7 (by decide) (hts (.fieldLink RX5 48 "DraftsmanOffice" "sheetCount" "I") (by decide +kernel)) (fun _ h9 => h9) rfl dX5_digest_35 ?_
      refine lv_icmp_ge (tgt := 159) hx hb dX5_digest_38 (by decide) (fun _ => ?_) (fun c468 => absurd (Int32.le_refl _) c468)
      refine lv_iconst (v := 0) hx hb dX5_digest_159 (by decide) ?_
      refine lv_istore_n (lv' := [(3, .int 0), (1, .long (FL_X5_digest c v w (c 0) 0 ((((((((((((((((((((((((((1801317 : Int64) + ((F_X5_many0 c v w).toInt64)) * (31 : Int64)) + ((F_X5_many1 c v w).toInt64)) * (31 : Int64)) + ((F_X5_many2 c v w).toInt64)) * (31 : Int64)) + ((F_X5_many3 c v w).toInt64)) * (31 : Int64)) + ((F_X5_many4 c v w).toInt64)) * (31 : Int64)) + ((F_X5_many5 c v w).toInt64)) * (31 : Int64)) + ((F_X5_many6 c v w).toInt64)) * (31 : Int64)) + ((F_X5_many7 c v w).toInt64)) * (31 : Int64)) + ((F_X5_many8 c v w).toInt64)) * (31 : Int64)) + ((F_X5_many9 c v w).toInt64)) * (31 : Int64)) + ((F_X5_many10 c v w).toInt64)) * (31 : Int64)) + ((F_X5_many11 c v w).toInt64)) * (31 : Int64)) + ((F_X5_many12 c v w).toInt64)))), (0, .ref (ad 5 0))]) hx hb dX5_digest_160 rfl hl (by decide) rfl (fun ls hl => ?_)
      have K472 : ∀ (k470 i469 : Nat) (s471 : Int64) (H : Heap) (locs : List Loc) (ls : Array Slot), i469 + k470 = c 3 → (FL2_X5_digest c v w k470 i469 s471) = (FL2_X5_digest c v w (c 3) 0 (FL_X5_digest c v w (c 0) 0 ((((((((((((((((((((((((((1801317 : Int64) + ((F_X5_many0 c v w).toInt64)) * (31 : Int64)) + ((F_X5_many1 c v w).toInt64)) * (31 : Int64)) + ((F_X5_many2 c v w).toInt64)) * (31 : Int64)) + ((F_X5_many3 c v w).toInt64)) * (31 : Int64)) + ((F_X5_many4 c v w).toInt64)) * (31 : Int64)) + ((F_X5_many5 c v w).toInt64)) * (31 : Int64)) + ((F_X5_many6 c v w).toInt64)) * (31 : Int64)) + ((F_X5_many7 c v w).toInt64)) * (31 : Int64)) + ((F_X5_many8 c v w).toInt64)) * (31 : Int64)) + ((F_X5_many9 c v w).toInt64)) * (31 : Int64)) + ((F_X5_many10 c v w).toInt64)) * (31 : Int64)) + ((F_X5_many11 c v w).toInt64)) * (31 : Int64)) + ((F_X5_many12 c v w).toInt64)))) → pcS D vwCl A s.heap NL ad (ctO cA c v w u ad) H locs → lv_has ls 5 [(3, .int (nI i469)), (1, .long s471), (0, .ref (ad 5 0))] → W p l e (headSpec wsX5_digest ({ frames := 7, cells := 0, slots := 0, locals := 166 })).room s m ([.ref (ad 5 0)] : List Value).toArray below meth c0 H locs 0 0 (MQ below (va_Ql (fun (r : Int64) (_ : Unit) => r = F_X5_digest c v w) (fun (_ : Unit) t => va_P D vwCl (pcW NL ad (ctO cA c v w (U_X5_digest c v w) ad)) t.heap) A) ([.ref (ad 5 0)] : List Value).toArray s 0 0 A) (F0 m 161 ls []) := by
        intro k470
        induction k470 with
        | zero =>
          intro i469 s471 H locs ls hk heF hW hl
          have ei : i469 = c 3 := by omega
          rw [ei] at hl
          obtain rfl : s471 = (FL2_X5_digest c v w (c 3) 0 (FL_X5_digest c v w (c 0) 0 ((((((((((((((((((((((((((1801317 : Int64) + ((F_X5_many0 c v w).toInt64)) * (31 : Int64)) + ((F_X5_many1 c v w).toInt64)) * (31 : Int64)) + ((F_X5_many2 c v w).toInt64)) * (31 : Int64)) + ((F_X5_many3 c v w).toInt64)) * (31 : Int64)) + ((F_X5_many4 c v w).toInt64)) * (31 : Int64)) + ((F_X5_many5 c v w).toInt64)) * (31 : Int64)) + ((F_X5_many6 c v w).toInt64)) * (31 : Int64)) + ((F_X5_many7 c v w).toInt64)) * (31 : Int64)) + ((F_X5_many8 c v w).toInt64)) * (31 : Int64)) + ((F_X5_many9 c v w).toInt64)) * (31 : Int64)) + ((F_X5_many10 c v w).toInt64)) * (31 : Int64)) + ((F_X5_many11 c v w).toInt64)) * (31 : Int64)) + ((F_X5_many12 c v w).toInt64)))) := heF
          refine lv_iload_n hx hb dX5_digest_161 rfl (lv_at hl 0 rfl) ?_
          refine lv_aload_n hx hb dX5_digest_162 rfl (lv_at hl 2 rfl) ?_
          refine pc_get (C := RX5) (T := TX5) (N := 13) (ci := 5) hx hb hts (by decide +kernel) hown hX.1 hW.1 5 0 hM.1 rfl rfl 10 (by decide) (hts (.fieldLink RX5 58 "DraftsmanOffice" "queryCount" "I") (by decide +kernel)) (fun _ h9 => h9) rfl dX5_digest_163 ?_
          refine lv_icmp_ge (tgt := 201) hx hb dX5_digest_166 (by decide) (fun _ => ?_) (fun c473 => absurd (Int32.le_refl _) c473)
          refine lv_iconst (v := 0) hx hb dX5_digest_201 (by decide) ?_
          refine lv_istore_n (lv' := [(3, .int 0), (1, .long (FL2_X5_digest c v w (c 3) 0 (FL_X5_digest c v w (c 0) 0 ((((((((((((((((((((((((((1801317 : Int64) + ((F_X5_many0 c v w).toInt64)) * (31 : Int64)) + ((F_X5_many1 c v w).toInt64)) * (31 : Int64)) + ((F_X5_many2 c v w).toInt64)) * (31 : Int64)) + ((F_X5_many3 c v w).toInt64)) * (31 : Int64)) + ((F_X5_many4 c v w).toInt64)) * (31 : Int64)) + ((F_X5_many5 c v w).toInt64)) * (31 : Int64)) + ((F_X5_many6 c v w).toInt64)) * (31 : Int64)) + ((F_X5_many7 c v w).toInt64)) * (31 : Int64)) + ((F_X5_many8 c v w).toInt64)) * (31 : Int64)) + ((F_X5_many9 c v w).toInt64)) * (31 : Int64)) + ((F_X5_many10 c v w).toInt64)) * (31 : Int64)) + ((F_X5_many11 c v w).toInt64)) * (31 : Int64)) + ((F_X5_many12 c v w).toInt64))))), (0, .ref (ad 5 0))]) hx hb dX5_digest_202 rfl hl (by decide) rfl (fun ls hl => ?_)
          refine lv_iload_n hx hb dX5_digest_203 rfl (lv_at hl 0 rfl) ?_
          refine lv_iconst (v := 4) hx hb dX5_digest_204 (by decide) ?_
          refine lv_icmp_ge (tgt := 240) hx hb dX5_digest_205 (by decide) (fun c474 => absurd c474 (by decide)) (fun _ => ?_)
          refine lv_lload_n hx hb dX5_digest_208 rfl (lv_at hl 1 rfl) ?_
          refine lv_ldc2 (v := 31) hx hb hown (hts (.constantLong RX5 336 31) (by decide +kernel)) dX5_digest_209 ?_
          refine lv_lmul hx hb dX5_digest_212 ?_
          refine lv_aload_n hx hb dX5_digest_213 rfl (lv_at hl 2 rfl) ?_
          refine lv_iload_n hx hb dX5_digest_214 rfl (lv_at hl 0 rfl) ?_
          refine pc_rcalli (va_runV (As := [.int 0]) (rest := [.long ((FL2_X5_digest c v w (c 3) 0 (FL_X5_digest c v w (c 0) 0 ((((((((((((((((((((((((((1801317 : Int64) + ((F_X5_many0 c v w).toInt64)) * (31 : Int64)) + ((F_X5_many1 c v w).toInt64)) * (31 : Int64)) + ((F_X5_many2 c v w).toInt64)) * (31 : Int64)) + ((F_X5_many3 c v w).toInt64)) * (31 : Int64)) + ((F_X5_many4 c v w).toInt64)) * (31 : Int64)) + ((F_X5_many5 c v w).toInt64)) * (31 : Int64)) + ((F_X5_many6 c v w).toInt64)) * (31 : Int64)) + ((F_X5_many7 c v w).toInt64)) * (31 : Int64)) + ((F_X5_many8 c v w).toInt64)) * (31 : Int64)) + ((F_X5_many9 c v w).toInt64)) * (31 : Int64)) + ((F_X5_many10 c v w).toInt64)) * (31 : Int64)) + ((F_X5_many11 c v w).toInt64)) * (31 : Int64)) + ((F_X5_many12 c v w).toInt64)))) * (31 : Int64))]) ⟨hx, hb, hml, hown, hts⟩ (r_X5_owes l D cA NL c v w u ad (0 : Int32) hM hBd hF (by decide) (by decide)) (cwV 1 hts gX5_digest_X5_owes rfl rfl rfl (by decide +kernel) ⟨Nat.le_of_ble_eq_true rfl, Nat.le_of_ble_eq_true rfl⟩) (pc_preV pcN_ok hX hW.1 hM.1 rfl rfl hW.1) rfl rfl hl.1 rfl (lv_room (Nat.le_of_ble_eq_true rfl)) dX5_digest_215 ⟨Nat.le_of_ble_eq_true rfl, Nat.le_of_ble_eq_true rfl⟩) hW (fun r475 H locs hwr475 hW => ?_)
          subst hwr475
          refine lv_i2l (v := (F_X5_owes c v w (0 : Int32)).toInt64) hx hb dX5_digest_218 rfl ?_
          refine lv_ladd hx hb dX5_digest_219 ?_
          refine lv_lstore_n (lv' := [(1, .long (((FL2_X5_digest c v w (c 3) 0 (FL_X5_digest c v w (c 0) 0 ((((((((((((((((((((((((((1801317 : Int64) + ((F_X5_many0 c v w).toInt64)) * (31 : Int64)) + ((F_X5_many1 c v w).toInt64)) * (31 : Int64)) + ((F_X5_many2 c v w).toInt64)) * (31 : Int64)) + ((F_X5_many3 c v w).toInt64)) * (31 : Int64)) + ((F_X5_many4 c v w).toInt64)) * (31 : Int64)) + ((F_X5_many5 c v w).toInt64)) * (31 : Int64)) + ((F_X5_many6 c v w).toInt64)) * (31 : Int64)) + ((F_X5_many7 c v w).toInt64)) * (31 : Int64)) + ((F_X5_many8 c v w).toInt64)) * (31 : Int64)) + ((F_X5_many9 c v w).toInt64)) * (31 : Int64)) + ((F_X5_many10 c v w).toInt64)) * (31 : Int64)) + ((F_X5_many11 c v w).toInt64)) * (31 : Int64)) + ((F_X5_many12 c v w).toInt64)))) * (31 : Int64)) + ((F_X5_owes c v w (0 : Int32)).toInt64))), (3, .int 0), (0, .ref (ad 5 0))]) hx hb dX5_digest_220 rfl hl (by decide) rfl (fun ls hl => ?_)
          refine lv_lload_n hx hb dX5_digest_221 rfl (lv_at hl 0 rfl) ?_
          refine lv_ldc2 (v := 31) hx hb hown (hts (.constantLong RX5 336 31) (by decide +kernel)) dX5_digest_222 ?_
          refine lv_lmul hx hb dX5_digest_225 ?_
          refine lv_aload_n hx hb dX5_digest_226 rfl (lv_at hl 2 rfl) ?_
          refine lv_iload_n hx hb dX5_digest_227 rfl (lv_at hl 1 rfl) ?_
          have hD9 := hW.2.1
          refine pc_mcalli (va_runV (As := [.int 0]) (rest := [.long ((((FL2_X5_digest c v w (c 3) 0 (FL_X5_digest c v w (c 0) 0 ((((((((((((((((((((((((((1801317 : Int64) + ((F_X5_many0 c v w).toInt64)) * (31 : Int64)) + ((F_X5_many1 c v w).toInt64)) * (31 : Int64)) + ((F_X5_many2 c v w).toInt64)) * (31 : Int64)) + ((F_X5_many3 c v w).toInt64)) * (31 : Int64)) + ((F_X5_many4 c v w).toInt64)) * (31 : Int64)) + ((F_X5_many5 c v w).toInt64)) * (31 : Int64)) + ((F_X5_many6 c v w).toInt64)) * (31 : Int64)) + ((F_X5_many7 c v w).toInt64)) * (31 : Int64)) + ((F_X5_many8 c v w).toInt64)) * (31 : Int64)) + ((F_X5_many9 c v w).toInt64)) * (31 : Int64)) + ((F_X5_many10 c v w).toInt64)) * (31 : Int64)) + ((F_X5_many11 c v w).toInt64)) * (31 : Int64)) + ((F_X5_many12 c v w).toInt64)))) * (31 : Int64)) + ((F_X5_owes c v w (0 : Int32)).toInt64)) * (31 : Int64))]) ⟨hx, hb, hml, hown, hts⟩ (m_X5_freedByAll l D cA NL c v w u ad A (0 : Int32) hM hBd hF (by decide) (by decide)) (cwV 1 hts gX5_digest_X5_freedByAll rfl rfl rfl (by decide +kernel) ⟨Nat.le_of_ble_eq_true rfl, Nat.le_of_ble_eq_true rfl⟩) (pc_preV pcN_ok hX hW.1 hM.1 rfl rfl ⟨hW.1, hW.2.1, fun q h => hA q (Nat.le_trans hW.2.2.1 h)⟩) rfl rfl hl.1 rfl (lv_room (Nat.le_of_ble_eq_true rfl)) dX5_digest_228 ⟨Nat.le_of_ble_eq_true rfl, Nat.le_of_ble_eq_true rfl⟩) hW.2.2 (fun r476 _ H locs hwr476 hB hS9 => ?_)
          subst hwr476
          have hW : pcS D vwCl A s.heap NL ad (ctO cA c v w (U_X5_freedByAll c v w (0 : Int32)) ad) H locs := ⟨hB, pcD_ct hD9, hS9⟩
          refine lv_i2l (v := (F_X5_freedByAll c v w (0 : Int32)).toInt64) hx hb dX5_digest_231 rfl ?_
          refine lv_ladd hx hb dX5_digest_232 ?_
          refine lv_lstore_n (lv' := [(1, .long (((((FL2_X5_digest c v w (c 3) 0 (FL_X5_digest c v w (c 0) 0 ((((((((((((((((((((((((((1801317 : Int64) + ((F_X5_many0 c v w).toInt64)) * (31 : Int64)) + ((F_X5_many1 c v w).toInt64)) * (31 : Int64)) + ((F_X5_many2 c v w).toInt64)) * (31 : Int64)) + ((F_X5_many3 c v w).toInt64)) * (31 : Int64)) + ((F_X5_many4 c v w).toInt64)) * (31 : Int64)) + ((F_X5_many5 c v w).toInt64)) * (31 : Int64)) + ((F_X5_many6 c v w).toInt64)) * (31 : Int64)) + ((F_X5_many7 c v w).toInt64)) * (31 : Int64)) + ((F_X5_many8 c v w).toInt64)) * (31 : Int64)) + ((F_X5_many9 c v w).toInt64)) * (31 : Int64)) + ((F_X5_many10 c v w).toInt64)) * (31 : Int64)) + ((F_X5_many11 c v w).toInt64)) * (31 : Int64)) + ((F_X5_many12 c v w).toInt64)))) * (31 : Int64)) + ((F_X5_owes c v w (0 : Int32)).toInt64)) * (31 : Int64)) + ((F_X5_freedByAll c v w (0 : Int32)).toInt64))), (3, .int 0), (0, .ref (ad 5 0))]) hx hb dX5_digest_233 rfl hl (by decide) rfl (fun ls hl => ?_)
          refine lv_iinc (v := 1) (lv' := [(3, .int 1), (1, .long (((((FL2_X5_digest c v w (c 3) 0 (FL_X5_digest c v w (c 0) 0 ((((((((((((((((((((((((((1801317 : Int64) + ((F_X5_many0 c v w).toInt64)) * (31 : Int64)) + ((F_X5_many1 c v w).toInt64)) * (31 : Int64)) + ((F_X5_many2 c v w).toInt64)) * (31 : Int64)) + ((F_X5_many3 c v w).toInt64)) * (31 : Int64)) + ((F_X5_many4 c v w).toInt64)) * (31 : Int64)) + ((F_X5_many5 c v w).toInt64)) * (31 : Int64)) + ((F_X5_many6 c v w).toInt64)) * (31 : Int64)) + ((F_X5_many7 c v w).toInt64)) * (31 : Int64)) + ((F_X5_many8 c v w).toInt64)) * (31 : Int64)) + ((F_X5_many9 c v w).toInt64)) * (31 : Int64)) + ((F_X5_many10 c v w).toInt64)) * (31 : Int64)) + ((F_X5_many11 c v w).toInt64)) * (31 : Int64)) + ((F_X5_many12 c v w).toInt64)))) * (31 : Int64)) + ((F_X5_owes c v w (0 : Int32)).toInt64)) * (31 : Int64)) + ((F_X5_freedByAll c v w (0 : Int32)).toInt64))), (0, .ref (ad 5 0))]) hx hb dX5_digest_234 hl (k := 1) rfl (by decide) (by decide) rfl (fun ls hl => ?_)
          refine lv_goto (tgt := 203) hx hb dX5_digest_237 (by decide) ?_
          refine lv_iload_n hx hb dX5_digest_203 rfl (lv_at hl 0 rfl) ?_
          refine lv_iconst (v := 4) hx hb dX5_digest_204 (by decide) ?_
          refine lv_icmp_ge (tgt := 240) hx hb dX5_digest_205 (by decide) (fun c477 => absurd c477 (by decide)) (fun _ => ?_)
          refine lv_lload_n hx hb dX5_digest_208 rfl (lv_at hl 1 rfl) ?_
          refine lv_ldc2 (v := 31) hx hb hown (hts (.constantLong RX5 336 31) (by decide +kernel)) dX5_digest_209 ?_
          refine lv_lmul hx hb dX5_digest_212 ?_
          refine lv_aload_n hx hb dX5_digest_213 rfl (lv_at hl 2 rfl) ?_
          refine lv_iload_n hx hb dX5_digest_214 rfl (lv_at hl 0 rfl) ?_
          refine pc_rcalli (va_runV (As := [.int 1]) (rest := [.long ((((((FL2_X5_digest c v w (c 3) 0 (FL_X5_digest c v w (c 0) 0 ((((((((((((((((((((((((((1801317 : Int64) + ((F_X5_many0 c v w).toInt64)) * (31 : Int64)) + ((F_X5_many1 c v w).toInt64)) * (31 : Int64)) + ((F_X5_many2 c v w).toInt64)) * (31 : Int64)) + ((F_X5_many3 c v w).toInt64)) * (31 : Int64)) + ((F_X5_many4 c v w).toInt64)) * (31 : Int64)) + ((F_X5_many5 c v w).toInt64)) * (31 : Int64)) + ((F_X5_many6 c v w).toInt64)) * (31 : Int64)) + ((F_X5_many7 c v w).toInt64)) * (31 : Int64)) + ((F_X5_many8 c v w).toInt64)) * (31 : Int64)) + ((F_X5_many9 c v w).toInt64)) * (31 : Int64)) + ((F_X5_many10 c v w).toInt64)) * (31 : Int64)) + ((F_X5_many11 c v w).toInt64)) * (31 : Int64)) + ((F_X5_many12 c v w).toInt64)))) * (31 : Int64)) + ((F_X5_owes c v w (0 : Int32)).toInt64)) * (31 : Int64)) + ((F_X5_freedByAll c v w (0 : Int32)).toInt64)) * (31 : Int64))]) ⟨hx, hb, hml, hown, hts⟩ (r_X5_owes l D cA NL c v w (U_X5_freedByAll c v w (0 : Int32)) ad (1 : Int32) hM hBd hF (by decide) (by decide)) (cwV 1 hts gX5_digest_X5_owes rfl rfl rfl (by decide +kernel) ⟨Nat.le_of_ble_eq_true rfl, Nat.le_of_ble_eq_true rfl⟩) (pc_preV pcN_ok hX hW.1 hM.1 rfl rfl hW.1) rfl rfl hl.1 rfl (lv_room (Nat.le_of_ble_eq_true rfl)) dX5_digest_215 ⟨Nat.le_of_ble_eq_true rfl, Nat.le_of_ble_eq_true rfl⟩) hW (fun r478 H locs hwr478 hW => ?_)
          subst hwr478
          refine lv_i2l (v := (F_X5_owes c v w (1 : Int32)).toInt64) hx hb dX5_digest_218 rfl ?_
          refine lv_ladd hx hb dX5_digest_219 ?_
          refine lv_lstore_n (lv' := [(1, .long (((((((FL2_X5_digest c v w (c 3) 0 (FL_X5_digest c v w (c 0) 0 ((((((((((((((((((((((((((1801317 : Int64) + ((F_X5_many0 c v w).toInt64)) * (31 : Int64)) + ((F_X5_many1 c v w).toInt64)) * (31 : Int64)) + ((F_X5_many2 c v w).toInt64)) * (31 : Int64)) + ((F_X5_many3 c v w).toInt64)) * (31 : Int64)) + ((F_X5_many4 c v w).toInt64)) * (31 : Int64)) + ((F_X5_many5 c v w).toInt64)) * (31 : Int64)) + ((F_X5_many6 c v w).toInt64)) * (31 : Int64)) + ((F_X5_many7 c v w).toInt64)) * (31 : Int64)) + ((F_X5_many8 c v w).toInt64)) * (31 : Int64)) + ((F_X5_many9 c v w).toInt64)) * (31 : Int64)) + ((F_X5_many10 c v w).toInt64)) * (31 : Int64)) + ((F_X5_many11 c v w).toInt64)) * (31 : Int64)) + ((F_X5_many12 c v w).toInt64)))) * (31 : Int64)) + ((F_X5_owes c v w (0 : Int32)).toInt64)) * (31 : Int64)) + ((F_X5_freedByAll c v w (0 : Int32)).toInt64)) * (31 : Int64)) + ((F_X5_owes c v w (1 : Int32)).toInt64))), (3, .int 1), (0, .ref (ad 5 0))]) hx hb dX5_digest_220 rfl hl (by decide) rfl (fun ls hl => ?_)
          refine lv_lload_n hx hb dX5_digest_221 rfl (lv_at hl 0 rfl) ?_
          refine lv_ldc2 (v := 31) hx hb hown (hts (.constantLong RX5 336 31) (by decide +kernel)) dX5_digest_222 ?_
          refine lv_lmul hx hb dX5_digest_225 ?_
          refine lv_aload_n hx hb dX5_digest_226 rfl (lv_at hl 2 rfl) ?_
          refine lv_iload_n hx hb dX5_digest_227 rfl (lv_at hl 1 rfl) ?_
          have hD9 := hW.2.1
          refine pc_mcalli (va_runV (As := [.int 1]) (rest := [.long ((((((((FL2_X5_digest c v w (c 3) 0 (FL_X5_digest c v w (c 0) 0 ((((((((((((((((((((((((((1801317 : Int64) + ((F_X5_many0 c v w).toInt64)) * (31 : Int64)) + ((F_X5_many1 c v w).toInt64)) * (31 : Int64)) + ((F_X5_many2 c v w).toInt64)) * (31 : Int64)) + ((F_X5_many3 c v w).toInt64)) * (31 : Int64)) + ((F_X5_many4 c v w).toInt64)) * (31 : Int64)) + ((F_X5_many5 c v w).toInt64)) * (31 : Int64)) + ((F_X5_many6 c v w).toInt64)) * (31 : Int64)) + ((F_X5_many7 c v w).toInt64)) * (31 : Int64)) + ((F_X5_many8 c v w).toInt64)) * (31 : Int64)) + ((F_X5_many9 c v w).toInt64)) * (31 : Int64)) + ((F_X5_many10 c v w).toInt64)) * (31 : Int64)) + ((F_X5_many11 c v w).toInt64)) * (31 : Int64)) + ((F_X5_many12 c v w).toInt64)))) * (31 : Int64)) + ((F_X5_owes c v w (0 : Int32)).toInt64)) * (31 : Int64)) + ((F_X5_freedByAll c v w (0 : Int32)).toInt64)) * (31 : Int64)) + ((F_X5_owes c v w (1 : Int32)).toInt64)) * (31 : Int64))]) ⟨hx, hb, hml, hown, hts⟩ (m_X5_freedByAll l D cA NL c v w (U_X5_freedByAll c v w (0 : Int32)) ad A (1 : Int32) hM hBd hF (by decide) (by decide)) (cwV 1 hts gX5_digest_X5_freedByAll rfl rfl rfl (by decide +kernel) ⟨Nat.le_of_ble_eq_true rfl, Nat.le_of_ble_eq_true rfl⟩) (pc_preV pcN_ok hX hW.1 hM.1 rfl rfl ⟨hW.1, hW.2.1, fun q h => hA q (Nat.le_trans hW.2.2.1 h)⟩) rfl rfl hl.1 rfl (lv_room (Nat.le_of_ble_eq_true rfl)) dX5_digest_228 ⟨Nat.le_of_ble_eq_true rfl, Nat.le_of_ble_eq_true rfl⟩) hW.2.2 (fun r479 _ H locs hwr479 hB hS9 => ?_)
          subst hwr479
          have hW : pcS D vwCl A s.heap NL ad (ctO cA c v w (U_X5_freedByAll c v w (1 : Int32)) ad) H locs := ⟨hB, pcD_ct hD9, hS9⟩
          refine lv_i2l (v := (F_X5_freedByAll c v w (1 : Int32)).toInt64) hx hb dX5_digest_231 rfl ?_
          refine lv_ladd hx hb dX5_digest_232 ?_
          refine lv_lstore_n (lv' := [(1, .long (((((((((FL2_X5_digest c v w (c 3) 0 (FL_X5_digest c v w (c 0) 0 ((((((((((((((((((((((((((1801317 : Int64) + ((F_X5_many0 c v w).toInt64)) * (31 : Int64)) + ((F_X5_many1 c v w).toInt64)) * (31 : Int64)) + ((F_X5_many2 c v w).toInt64)) * (31 : Int64)) + ((F_X5_many3 c v w).toInt64)) * (31 : Int64)) + ((F_X5_many4 c v w).toInt64)) * (31 : Int64)) + ((F_X5_many5 c v w).toInt64)) * (31 : Int64)) + ((F_X5_many6 c v w).toInt64)) * (31 : Int64)) + ((F_X5_many7 c v w).toInt64)) * (31 : Int64)) + ((F_X5_many8 c v w).toInt64)) * (31 : Int64)) + ((F_X5_many9 c v w).toInt64)) * (31 : Int64)) + ((F_X5_many10 c v w).toInt64)) * (31 : Int64)) + ((F_X5_many11 c v w).toInt64)) * (31 : Int64)) + ((F_X5_many12 c v w).toInt64)))) * (31 : Int64)) + ((F_X5_owes c v w (0 : Int32)).toInt64)) * (31 : Int64)) + ((F_X5_freedByAll c v w (0 : Int32)).toInt64)) * (31 : Int64)) + ((F_X5_owes c v w (1 : Int32)).toInt64)) * (31 : Int64)) + ((F_X5_freedByAll c v w (1 : Int32)).toInt64))), (3, .int 1), (0, .ref (ad 5 0))]) hx hb dX5_digest_233 rfl hl (by decide) rfl (fun ls hl => ?_)
          refine lv_iinc (v := 2) (lv' := [(3, .int 2), (1, .long (((((((((FL2_X5_digest c v w (c 3) 0 (FL_X5_digest c v w (c 0) 0 ((((((((((((((((((((((((((1801317 : Int64) + ((F_X5_many0 c v w).toInt64)) * (31 : Int64)) + ((F_X5_many1 c v w).toInt64)) * (31 : Int64)) + ((F_X5_many2 c v w).toInt64)) * (31 : Int64)) + ((F_X5_many3 c v w).toInt64)) * (31 : Int64)) + ((F_X5_many4 c v w).toInt64)) * (31 : Int64)) + ((F_X5_many5 c v w).toInt64)) * (31 : Int64)) + ((F_X5_many6 c v w).toInt64)) * (31 : Int64)) + ((F_X5_many7 c v w).toInt64)) * (31 : Int64)) + ((F_X5_many8 c v w).toInt64)) * (31 : Int64)) + ((F_X5_many9 c v w).toInt64)) * (31 : Int64)) + ((F_X5_many10 c v w).toInt64)) * (31 : Int64)) + ((F_X5_many11 c v w).toInt64)) * (31 : Int64)) + ((F_X5_many12 c v w).toInt64)))) * (31 : Int64)) + ((F_X5_owes c v w (0 : Int32)).toInt64)) * (31 : Int64)) + ((F_X5_freedByAll c v w (0 : Int32)).toInt64)) * (31 : Int64)) + ((F_X5_owes c v w (1 : Int32)).toInt64)) * (31 : Int64)) + ((F_X5_freedByAll c v w (1 : Int32)).toInt64))), (0, .ref (ad 5 0))]) hx hb dX5_digest_234 hl (k := 1) rfl (by decide) (by decide) rfl (fun ls hl => ?_)
          refine lv_goto (tgt := 203) hx hb dX5_digest_237 (by decide) ?_
          refine lv_iload_n hx hb dX5_digest_203 rfl (lv_at hl 0 rfl) ?_
          refine lv_iconst (v := 4) hx hb dX5_digest_204 (by decide) ?_
          refine lv_icmp_ge (tgt := 240) hx hb dX5_digest_205 (by decide) (fun c480 => absurd c480 (by decide)) (fun _ => ?_)
          refine lv_lload_n hx hb dX5_digest_208 rfl (lv_at hl 1 rfl) ?_
          refine lv_ldc2 (v := 31) hx hb hown (hts (.constantLong RX5 336 31) (by decide +kernel)) dX5_digest_209 ?_
          refine lv_lmul hx hb dX5_digest_212 ?_
          refine lv_aload_n hx hb dX5_digest_213 rfl (lv_at hl 2 rfl) ?_
          refine lv_iload_n hx hb dX5_digest_214 rfl (lv_at hl 0 rfl) ?_
          refine pc_rcalli (va_runV (As := [.int 2]) (rest := [.long ((((((((((FL2_X5_digest c v w (c 3) 0 (FL_X5_digest c v w (c 0) 0 ((((((((((((((((((((((((((1801317 : Int64) + ((F_X5_many0 c v w).toInt64)) * (31 : Int64)) + ((F_X5_many1 c v w).toInt64)) * (31 : Int64)) + ((F_X5_many2 c v w).toInt64)) * (31 : Int64)) + ((F_X5_many3 c v w).toInt64)) * (31 : Int64)) + ((F_X5_many4 c v w).toInt64)) * (31 : Int64)) + ((F_X5_many5 c v w).toInt64)) * (31 : Int64)) + ((F_X5_many6 c v w).toInt64)) * (31 : Int64)) + ((F_X5_many7 c v w).toInt64)) * (31 : Int64)) + ((F_X5_many8 c v w).toInt64)) * (31 : Int64)) + ((F_X5_many9 c v w).toInt64)) * (31 : Int64)) + ((F_X5_many10 c v w).toInt64)) * (31 : Int64)) + ((F_X5_many11 c v w).toInt64)) * (31 : Int64)) + ((F_X5_many12 c v w).toInt64)))) * (31 : Int64)) + ((F_X5_owes c v w (0 : Int32)).toInt64)) * (31 : Int64)) + ((F_X5_freedByAll c v w (0 : Int32)).toInt64)) * (31 : Int64)) + ((F_X5_owes c v w (1 : Int32)).toInt64)) * (31 : Int64)) + ((F_X5_freedByAll c v w (1 : Int32)).toInt64)) * (31 : Int64))]) ⟨hx, hb, hml, hown, hts⟩ (r_X5_owes l D cA NL c v w (U_X5_freedByAll c v w (1 : Int32)) ad (2 : Int32) hM hBd hF (by decide) (by decide)) (cwV 1 hts gX5_digest_X5_owes rfl rfl rfl (by decide +kernel) ⟨Nat.le_of_ble_eq_true rfl, Nat.le_of_ble_eq_true rfl⟩) (pc_preV pcN_ok hX hW.1 hM.1 rfl rfl hW.1) rfl rfl hl.1 rfl (lv_room (Nat.le_of_ble_eq_true rfl)) dX5_digest_215 ⟨Nat.le_of_ble_eq_true rfl, Nat.le_of_ble_eq_true rfl⟩) hW (fun r481 H locs hwr481 hW => ?_)
          subst hwr481
          refine lv_i2l (v := (F_X5_owes c v w (2 : Int32)).toInt64) hx hb dX5_digest_218 rfl ?_
          refine lv_ladd hx hb dX5_digest_219 ?_
          refine lv_lstore_n (lv' := [(1, .long (((((((((((FL2_X5_digest c v w (c 3) 0 (FL_X5_digest c v w (c 0) 0 ((((((((((((((((((((((((((1801317 : Int64) + ((F_X5_many0 c v w).toInt64)) * (31 : Int64)) + ((F_X5_many1 c v w).toInt64)) * (31 : Int64)) + ((F_X5_many2 c v w).toInt64)) * (31 : Int64)) + ((F_X5_many3 c v w).toInt64)) * (31 : Int64)) + ((F_X5_many4 c v w).toInt64)) * (31 : Int64)) + ((F_X5_many5 c v w).toInt64)) * (31 : Int64)) + ((F_X5_many6 c v w).toInt64)) * (31 : Int64)) + ((F_X5_many7 c v w).toInt64)) * (31 : Int64)) + ((F_X5_many8 c v w).toInt64)) * (31 : Int64)) + ((F_X5_many9 c v w).toInt64)) * (31 : Int64)) + ((F_X5_many10 c v w).toInt64)) * (31 : Int64)) + ((F_X5_many11 c v w).toInt64)) * (31 : Int64)) + ((F_X5_many12 c v w).toInt64)))) * (31 : Int64)) + ((F_X5_owes c v w (0 : Int32)).toInt64)) * (31 : Int64)) + ((F_X5_freedByAll c v w (0 : Int32)).toInt64)) * (31 : Int64)) + ((F_X5_owes c v w (1 : Int32)).toInt64)) * (31 : Int64)) + ((F_X5_freedByAll c v w (1 : Int32)).toInt64)) * (31 : Int64)) + ((F_X5_owes c v w (2 : Int32)).toInt64))), (3, .int 2), (0, .ref (ad 5 0))]) hx hb dX5_digest_220 rfl hl (by decide) rfl (fun ls hl => ?_)
          refine lv_lload_n hx hb dX5_digest_221 rfl (lv_at hl 0 rfl) ?_
          refine lv_ldc2 (v := 31) hx hb hown (hts (.constantLong RX5 336 31) (by decide +kernel)) dX5_digest_222 ?_
          refine lv_lmul hx hb dX5_digest_225 ?_
          refine lv_aload_n hx hb dX5_digest_226 rfl (lv_at hl 2 rfl) ?_
          refine lv_iload_n hx hb dX5_digest_227 rfl (lv_at hl 1 rfl) ?_
          have hD9 := hW.2.1
          refine pc_mcalli (va_runV (As := [.int 2]) (rest := [.long ((((((((((((FL2_X5_digest c v w (c 3) 0 (FL_X5_digest c v w (c 0) 0 ((((((((((((((((((((((((((1801317 : Int64) + ((F_X5_many0 c v w).toInt64)) * (31 : Int64)) + ((F_X5_many1 c v w).toInt64)) * (31 : Int64)) + ((F_X5_many2 c v w).toInt64)) * (31 : Int64)) + ((F_X5_many3 c v w).toInt64)) * (31 : Int64)) + ((F_X5_many4 c v w).toInt64)) * (31 : Int64)) + ((F_X5_many5 c v w).toInt64)) * (31 : Int64)) + ((F_X5_many6 c v w).toInt64)) * (31 : Int64)) + ((F_X5_many7 c v w).toInt64)) * (31 : Int64)) + ((F_X5_many8 c v w).toInt64)) * (31 : Int64)) + ((F_X5_many9 c v w).toInt64)) * (31 : Int64)) + ((F_X5_many10 c v w).toInt64)) * (31 : Int64)) + ((F_X5_many11 c v w).toInt64)) * (31 : Int64)) + ((F_X5_many12 c v w).toInt64)))) * (31 : Int64)) + ((F_X5_owes c v w (0 : Int32)).toInt64)) * (31 : Int64)) + ((F_X5_freedByAll c v w (0 : Int32)).toInt64)) * (31 : Int64)) + ((F_X5_owes c v w (1 : Int32)).toInt64)) * (31 : Int64)) + ((F_X5_freedByAll c v w (1 : Int32)).toInt64)) * (31 : Int64)) + ((F_X5_owes c v w (2 : Int32)).toInt64)) * (31 : Int64))]) ⟨hx, hb, hml, hown, hts⟩ (m_X5_freedByAll l D cA NL c v w (U_X5_freedByAll c v w (1 : Int32)) ad A (2 : Int32) hM hBd hF (by decide) (by decide)) (cwV 1 hts gX5_digest_X5_freedByAll rfl rfl rfl (by decide +kernel) ⟨Nat.le_of_ble_eq_true rfl, Nat.le_of_ble_eq_true rfl⟩) (pc_preV pcN_ok hX hW.1 hM.1 rfl rfl ⟨hW.1, hW.2.1, fun q h => hA q (Nat.le_trans hW.2.2.1 h)⟩) rfl rfl hl.1 rfl (lv_room (Nat.le_of_ble_eq_true rfl)) dX5_digest_228 ⟨Nat.le_of_ble_eq_true rfl, Nat.le_of_ble_eq_true rfl⟩) hW.2.2 (fun r482 _ H locs hwr482 hB hS9 => ?_)
          subst hwr482
          have hW : pcS D vwCl A s.heap NL ad (ctO cA c v w (U_X5_freedByAll c v w (2 : Int32)) ad) H locs := ⟨hB, pcD_ct hD9, hS9⟩
          refine lv_i2l (v := (F_X5_freedByAll c v w (2 : Int32)).toInt64) hx hb dX5_digest_231 rfl ?_
          refine lv_ladd hx hb dX5_digest_232 ?_
          refine lv_lstore_n (lv' := [(1, .long (((((((((((((FL2_X5_digest c v w (c 3) 0 (FL_X5_digest c v w (c 0) 0 ((((((((((((((((((((((((((1801317 : Int64) + ((F_X5_many0 c v w).toInt64)) * (31 : Int64)) + ((F_X5_many1 c v w).toInt64)) * (31 : Int64)) + ((F_X5_many2 c v w).toInt64)) * (31 : Int64)) + ((F_X5_many3 c v w).toInt64)) * (31 : Int64)) + ((F_X5_many4 c v w).toInt64)) * (31 : Int64)) + ((F_X5_many5 c v w).toInt64)) * (31 : Int64)) + ((F_X5_many6 c v w).toInt64)) * (31 : Int64)) + ((F_X5_many7 c v w).toInt64)) * (31 : Int64)) + ((F_X5_many8 c v w).toInt64)) * (31 : Int64)) + ((F_X5_many9 c v w).toInt64)) * (31 : Int64)) + ((F_X5_many10 c v w).toInt64)) * (31 : Int64)) + ((F_X5_many11 c v w).toInt64)) * (31 : Int64)) + ((F_X5_many12 c v w).toInt64)))) * (31 : Int64)) + ((F_X5_owes c v w (0 : Int32)).toInt64)) * (31 : Int64)) + ((F_X5_freedByAll c v w (0 : Int32)).toInt64)) * (31 : Int64)) + ((F_X5_owes c v w (1 : Int32)).toInt64)) * (31 : Int64)) + ((F_X5_freedByAll c v w (1 : Int32)).toInt64)) * (31 : Int64)) + ((F_X5_owes c v w (2 : Int32)).toInt64)) * (31 : Int64)) + ((F_X5_freedByAll c v w (2 : Int32)).toInt64))), (3, .int 2), (0, .ref (ad 5 0))]) hx hb dX5_digest_233 rfl hl (by decide) rfl (fun ls hl => ?_)
          refine lv_iinc (v := 3) (lv' := [(3, .int 3), (1, .long (((((((((((((FL2_X5_digest c v w (c 3) 0 (FL_X5_digest c v w (c 0) 0 ((((((((((((((((((((((((((1801317 : Int64) + ((F_X5_many0 c v w).toInt64)) * (31 : Int64)) + ((F_X5_many1 c v w).toInt64)) * (31 : Int64)) + ((F_X5_many2 c v w).toInt64)) * (31 : Int64)) + ((F_X5_many3 c v w).toInt64)) * (31 : Int64)) + ((F_X5_many4 c v w).toInt64)) * (31 : Int64)) + ((F_X5_many5 c v w).toInt64)) * (31 : Int64)) + ((F_X5_many6 c v w).toInt64)) * (31 : Int64)) + ((F_X5_many7 c v w).toInt64)) * (31 : Int64)) + ((F_X5_many8 c v w).toInt64)) * (31 : Int64)) + ((F_X5_many9 c v w).toInt64)) * (31 : Int64)) + ((F_X5_many10 c v w).toInt64)) * (31 : Int64)) + ((F_X5_many11 c v w).toInt64)) * (31 : Int64)) + ((F_X5_many12 c v w).toInt64)))) * (31 : Int64)) + ((F_X5_owes c v w (0 : Int32)).toInt64)) * (31 : Int64)) + ((F_X5_freedByAll c v w (0 : Int32)).toInt64)) * (31 : Int64)) + ((F_X5_owes c v w (1 : Int32)).toInt64)) * (31 : Int64)) + ((F_X5_freedByAll c v w (1 : Int32)).toInt64)) * (31 : Int64)) + ((F_X5_owes c v w (2 : Int32)).toInt64)) * (31 : Int64)) + ((F_X5_freedByAll c v w (2 : Int32)).toInt64))), (0, .ref (ad 5 0))]) hx hb dX5_digest_234 hl (k := 1) rfl (by decide) (by decide) rfl (fun ls hl => ?_)
          refine lv_goto (tgt := 203) hx hb dX5_digest_237 (by decide) ?_
          refine lv_iload_n hx hb dX5_digest_203 rfl (lv_at hl 0 rfl) ?_
          refine lv_iconst (v := 4) hx hb dX5_digest_204 (by decide) ?_
          refine lv_icmp_ge (tgt := 240) hx hb dX5_digest_205 (by decide) (fun c483 => absurd c483 (by decide)) (fun _ => ?_)
          refine lv_lload_n hx hb dX5_digest_208 rfl (lv_at hl 1 rfl) ?_
          refine lv_ldc2 (v := 31) hx hb hown (hts (.constantLong RX5 336 31) (by decide +kernel)) dX5_digest_209 ?_
          refine lv_lmul hx hb dX5_digest_212 ?_
          refine lv_aload_n hx hb dX5_digest_213 rfl (lv_at hl 2 rfl) ?_
          refine lv_iload_n hx hb dX5_digest_214 rfl (lv_at hl 0 rfl) ?_
          refine pc_rcalli (va_runV (As := [.int 3]) (rest := [.long ((((((((((((((FL2_X5_digest c v w (c 3) 0 (FL_X5_digest c v w (c 0) 0 ((((((((((((((((((((((((((1801317 : Int64) + ((F_X5_many0 c v w).toInt64)) * (31 : Int64)) + ((F_X5_many1 c v w).toInt64)) * (31 : Int64)) + ((F_X5_many2 c v w).toInt64)) * (31 : Int64)) + ((F_X5_many3 c v w).toInt64)) * (31 : Int64)) + ((F_X5_many4 c v w).toInt64)) * (31 : Int64)) + ((F_X5_many5 c v w).toInt64)) * (31 : Int64)) + ((F_X5_many6 c v w).toInt64)) * (31 : Int64)) + ((F_X5_many7 c v w).toInt64)) * (31 : Int64)) + ((F_X5_many8 c v w).toInt64)) * (31 : Int64)) + ((F_X5_many9 c v w).toInt64)) * (31 : Int64)) + ((F_X5_many10 c v w).toInt64)) * (31 : Int64)) + ((F_X5_many11 c v w).toInt64)) * (31 : Int64)) + ((F_X5_many12 c v w).toInt64)))) * (31 : Int64)) + ((F_X5_owes c v w (0 : Int32)).toInt64)) * (31 : Int64)) + ((F_X5_freedByAll c v w (0 : Int32)).toInt64)) * (31 : Int64)) + ((F_X5_owes c v w (1 : Int32)).toInt64)) * (31 : Int64)) + ((F_X5_freedByAll c v w (1 : Int32)).toInt64)) * (31 : Int64)) + ((F_X5_owes c v w (2 : Int32)).toInt64)) * (31 : Int64)) + ((F_X5_freedByAll c v w (2 : Int32)).toInt64)) * (31 : Int64))]) ⟨hx, hb, hml, hown, hts⟩ (r_X5_owes l D cA NL c v w (U_X5_freedByAll c v w (2 : Int32)) ad (3 : Int32) hM hBd hF (by decide) (by decide)) (cwV 1 hts gX5_digest_X5_owes rfl rfl rfl (by decide +kernel) ⟨Nat.le_of_ble_eq_true rfl, Nat.le_of_ble_eq_true rfl⟩) (pc_preV pcN_ok hX hW.1 hM.1 rfl rfl hW.1) rfl rfl hl.1 rfl (lv_room (Nat.le_of_ble_eq_true rfl)) dX5_digest_215 ⟨Nat.le_of_ble_eq_true rfl, Nat.le_of_ble_eq_true rfl⟩) hW (fun r484 H locs hwr484 hW => ?_)
          subst hwr484
          refine lv_i2l (v := (F_X5_owes c v w (3 : Int32)).toInt64) hx hb dX5_digest_218 rfl ?_
          refine lv_ladd hx hb dX5_digest_219 ?_
          refine lv_lstore_n (lv' := [(1, .long (((((((((((((((FL2_X5_digest c v w (c 3) 0 (FL_X5_digest c v w (c 0) 0 ((((((((((((((((((((((((((1801317 : Int64) + ((F_X5_many0 c v w).toInt64)) * (31 : Int64)) + ((F_X5_many1 c v w).toInt64)) * (31 : Int64)) + ((F_X5_many2 c v w).toInt64)) * (31 : Int64)) + ((F_X5_many3 c v w).toInt64)) * (31 : Int64)) + ((F_X5_many4 c v w).toInt64)) * (31 : Int64)) + ((F_X5_many5 c v w).toInt64)) * (31 : Int64)) + ((F_X5_many6 c v w).toInt64)) * (31 : Int64)) + ((F_X5_many7 c v w).toInt64)) * (31 : Int64)) + ((F_X5_many8 c v w).toInt64)) * (31 : Int64)) + ((F_X5_many9 c v w).toInt64)) * (31 : Int64)) + ((F_X5_many10 c v w).toInt64)) * (31 : Int64)) + ((F_X5_many11 c v w).toInt64)) * (31 : Int64)) + ((F_X5_many12 c v w).toInt64)))) * (31 : Int64)) + ((F_X5_owes c v w (0 : Int32)).toInt64)) * (31 : Int64)) + ((F_X5_freedByAll c v w (0 : Int32)).toInt64)) * (31 : Int64)) + ((F_X5_owes c v w (1 : Int32)).toInt64)) * (31 : Int64)) + ((F_X5_freedByAll c v w (1 : Int32)).toInt64)) * (31 : Int64)) + ((F_X5_owes c v w (2 : Int32)).toInt64)) * (31 : Int64)) + ((F_X5_freedByAll c v w (2 : Int32)).toInt64)) * (31 : Int64)) + ((F_X5_owes c v w (3 : Int32)).toInt64))), (3, .int 3), (0, .ref (ad 5 0))]) hx hb dX5_digest_220 rfl hl (by decide) rfl (fun ls hl => ?_)
          refine lv_lload_n hx hb dX5_digest_221 rfl (lv_at hl 0 rfl) ?_
          refine lv_ldc2 (v := 31) hx hb hown (hts (.constantLong RX5 336 31) (by decide +kernel)) dX5_digest_222 ?_
          refine lv_lmul hx hb dX5_digest_225 ?_
          refine lv_aload_n hx hb dX5_digest_226 rfl (lv_at hl 2 rfl) ?_
          refine lv_iload_n hx hb dX5_digest_227 rfl (lv_at hl 1 rfl) ?_
          have hD9 := hW.2.1
          refine pc_mcalli (va_runV (As := [.int 3]) (rest := [.long ((((((((((((((((FL2_X5_digest c v w (c 3) 0 (FL_X5_digest c v w (c 0) 0 ((((((((((((((((((((((((((1801317 : Int64) + ((F_X5_many0 c v w).toInt64)) * (31 : Int64)) + ((F_X5_many1 c v w).toInt64)) * (31 : Int64)) + ((F_X5_many2 c v w).toInt64)) * (31 : Int64)) + ((F_X5_many3 c v w).toInt64)) * (31 : Int64)) + ((F_X5_many4 c v w).toInt64)) * (31 : Int64)) + ((F_X5_many5 c v w).toInt64)) * (31 : Int64)) + ((F_X5_many6 c v w).toInt64)) * (31 : Int64)) + ((F_X5_many7 c v w).toInt64)) * (31 : Int64)) + ((F_X5_many8 c v w).toInt64)) * (31 : Int64)) + ((F_X5_many9 c v w).toInt64)) * (31 : Int64)) + ((F_X5_many10 c v w).toInt64)) * (31 : Int64)) + ((F_X5_many11 c v w).toInt64)) * (31 : Int64)) + ((F_X5_many12 c v w).toInt64)))) * (31 : Int64)) + ((F_X5_owes c v w (0 : Int32)).toInt64)) * (31 : Int64)) + ((F_X5_freedByAll c v w (0 : Int32)).toInt64)) * (31 : Int64)) + ((F_X5_owes c v w (1 : Int32)).toInt64)) * (31 : Int64)) + ((F_X5_freedByAll c v w (1 : Int32)).toInt64)) * (31 : Int64)) + ((F_X5_owes c v w (2 : Int32)).toInt64)) * (31 : Int64)) + ((F_X5_freedByAll c v w (2 : Int32)).toInt64)) * (31 : Int64)) + ((F_X5_owes c v w (3 : Int32)).toInt64)) * (31 : Int64))]) ⟨hx, hb, hml, hown, hts⟩ (m_X5_freedByAll l D cA NL c v w (U_X5_freedByAll c v w (2 : Int32)) ad A (3 : Int32) hM hBd hF (by decide) (by decide)) (cwV 1 hts gX5_digest_X5_freedByAll rfl rfl rfl (by decide +kernel) ⟨Nat.le_of_ble_eq_true rfl, Nat.le_of_ble_eq_true rfl⟩) (pc_preV pcN_ok hX hW.1 hM.1 rfl rfl ⟨hW.1, hW.2.1, fun q h => hA q (Nat.le_trans hW.2.2.1 h)⟩) rfl rfl hl.1 rfl (lv_room (Nat.le_of_ble_eq_true rfl)) dX5_digest_228 ⟨Nat.le_of_ble_eq_true rfl, Nat.le_of_ble_eq_true rfl⟩) hW.2.2 (fun r485 _ H locs hwr485 hB hS9 => ?_)
          subst hwr485
          have hW : pcS D vwCl A s.heap NL ad (ctO cA c v w (U_X5_freedByAll c v w (3 : Int32)) ad) H locs := ⟨hB, pcD_ct hD9, hS9⟩
          refine lv_i2l (v := (F_X5_freedByAll c v w (3 : Int32)).toInt64) hx hb dX5_digest_231 rfl ?_
          refine lv_ladd hx hb dX5_digest_232 ?_
          refine lv_lstore_n (lv' := [(1, .long (((((((((((((((((FL2_X5_digest c v w (c 3) 0 (FL_X5_digest c v w (c 0) 0 ((((((((((((((((((((((((((1801317 : Int64) + ((F_X5_many0 c v w).toInt64)) * (31 : Int64)) + ((F_X5_many1 c v w).toInt64)) * (31 : Int64)) + ((F_X5_many2 c v w).toInt64)) * (31 : Int64)) + ((F_X5_many3 c v w).toInt64)) * (31 : Int64)) + ((F_X5_many4 c v w).toInt64)) * (31 : Int64)) + ((F_X5_many5 c v w).toInt64)) * (31 : Int64)) + ((F_X5_many6 c v w).toInt64)) * (31 : Int64)) + ((F_X5_many7 c v w).toInt64)) * (31 : Int64)) + ((F_X5_many8 c v w).toInt64)) * (31 : Int64)) + ((F_X5_many9 c v w).toInt64)) * (31 : Int64)) + ((F_X5_many10 c v w).toInt64)) * (31 : Int64)) + ((F_X5_many11 c v w).toInt64)) * (31 : Int64)) + ((F_X5_many12 c v w).toInt64)))) * (31 : Int64)) + ((F_X5_owes c v w (0 : Int32)).toInt64)) * (31 : Int64)) + ((F_X5_freedByAll c v w (0 : Int32)).toInt64)) * (31 : Int64)) + ((F_X5_owes c v w (1 : Int32)).toInt64)) * (31 : Int64)) + ((F_X5_freedByAll c v w (1 : Int32)).toInt64)) * (31 : Int64)) + ((F_X5_owes c v w (2 : Int32)).toInt64)) * (31 : Int64)) + ((F_X5_freedByAll c v w (2 : Int32)).toInt64)) * (31 : Int64)) + ((F_X5_owes c v w (3 : Int32)).toInt64)) * (31 : Int64)) + ((F_X5_freedByAll c v w (3 : Int32)).toInt64))), (3, .int 3), (0, .ref (ad 5 0))]) hx hb dX5_digest_233 rfl hl (by decide) rfl (fun ls hl => ?_)
          refine lv_iinc (v := 4) (lv' := [(3, .int 4), (1, .long (((((((((((((((((FL2_X5_digest c v w (c 3) 0 (FL_X5_digest c v w (c 0) 0 ((((((((((((((((((((((((((1801317 : Int64) + ((F_X5_many0 c v w).toInt64)) * (31 : Int64)) + ((F_X5_many1 c v w).toInt64)) * (31 : Int64)) + ((F_X5_many2 c v w).toInt64)) * (31 : Int64)) + ((F_X5_many3 c v w).toInt64)) * (31 : Int64)) + ((F_X5_many4 c v w).toInt64)) * (31 : Int64)) + ((F_X5_many5 c v w).toInt64)) * (31 : Int64)) + ((F_X5_many6 c v w).toInt64)) * (31 : Int64)) + ((F_X5_many7 c v w).toInt64)) * (31 : Int64)) + ((F_X5_many8 c v w).toInt64)) * (31 : Int64)) + ((F_X5_many9 c v w).toInt64)) * (31 : Int64)) + ((F_X5_many10 c v w).toInt64)) * (31 : Int64)) + ((F_X5_many11 c v w).toInt64)) * (31 : Int64)) + ((F_X5_many12 c v w).toInt64)))) * (31 : Int64)) + ((F_X5_owes c v w (0 : Int32)).toInt64)) * (31 : Int64)) + ((F_X5_freedByAll c v w (0 : Int32)).toInt64)) * (31 : Int64)) + ((F_X5_owes c v w (1 : Int32)).toInt64)) * (31 : Int64)) + ((F_X5_freedByAll c v w (1 : Int32)).toInt64)) * (31 : Int64)) + ((F_X5_owes c v w (2 : Int32)).toInt64)) * (31 : Int64)) + ((F_X5_freedByAll c v w (2 : Int32)).toInt64)) * (31 : Int64)) + ((F_X5_owes c v w (3 : Int32)).toInt64)) * (31 : Int64)) + ((F_X5_freedByAll c v w (3 : Int32)).toInt64))), (0, .ref (ad 5 0))]) hx hb dX5_digest_234 hl (k := 1) rfl (by decide) (by decide) rfl (fun ls hl => ?_)
          refine lv_goto (tgt := 203) hx hb dX5_digest_237 (by decide) ?_
          refine lv_iload_n hx hb dX5_digest_203 rfl (lv_at hl 0 rfl) ?_
          refine lv_iconst (v := 4) hx hb dX5_digest_204 (by decide) ?_
          refine lv_icmp_ge (tgt := 240) hx hb dX5_digest_205 (by decide) (fun _ => ?_) (fun c486 => absurd (by decide) c486)
          refine lv_iconst (v := 0) hx hb dX5_digest_240 (by decide) ?_
          refine lv_istore_n (lv' := [(3, .int 0), (1, .long (((((((((((((((((FL2_X5_digest c v w (c 3) 0 (FL_X5_digest c v w (c 0) 0 ((((((((((((((((((((((((((1801317 : Int64) + ((F_X5_many0 c v w).toInt64)) * (31 : Int64)) + ((F_X5_many1 c v w).toInt64)) * (31 : Int64)) + ((F_X5_many2 c v w).toInt64)) * (31 : Int64)) + ((F_X5_many3 c v w).toInt64)) * (31 : Int64)) + ((F_X5_many4 c v w).toInt64)) * (31 : Int64)) + ((F_X5_many5 c v w).toInt64)) * (31 : Int64)) + ((F_X5_many6 c v w).toInt64)) * (31 : Int64)) + ((F_X5_many7 c v w).toInt64)) * (31 : Int64)) + ((F_X5_many8 c v w).toInt64)) * (31 : Int64)) + ((F_X5_many9 c v w).toInt64)) * (31 : Int64)) + ((F_X5_many10 c v w).toInt64)) * (31 : Int64)) + ((F_X5_many11 c v w).toInt64)) * (31 : Int64)) + ((F_X5_many12 c v w).toInt64)))) * (31 : Int64)) + ((F_X5_owes c v w (0 : Int32)).toInt64)) * (31 : Int64)) + ((F_X5_freedByAll c v w (0 : Int32)).toInt64)) * (31 : Int64)) + ((F_X5_owes c v w (1 : Int32)).toInt64)) * (31 : Int64)) + ((F_X5_freedByAll c v w (1 : Int32)).toInt64)) * (31 : Int64)) + ((F_X5_owes c v w (2 : Int32)).toInt64)) * (31 : Int64)) + ((F_X5_freedByAll c v w (2 : Int32)).toInt64)) * (31 : Int64)) + ((F_X5_owes c v w (3 : Int32)).toInt64)) * (31 : Int64)) + ((F_X5_freedByAll c v w (3 : Int32)).toInt64))), (0, .ref (ad 5 0))]) hx hb dX5_digest_241 rfl hl (by decide) rfl (fun ls hl => ?_)
          have K490 : ∀ (k488 i487 : Nat) (s489 : Int64) (H : Heap) (locs : List Loc) (ls : Array Slot), i487 + k488 = c 4 → (FL3_X5_digest c v w k488 i487 s489) = (FL3_X5_digest c v w (c 4) 0 (((((((((((((((((FL2_X5_digest c v w (c 3) 0 (FL_X5_digest c v w (c 0) 0 ((((((((((((((((((((((((((1801317 : Int64) + ((F_X5_many0 c v w).toInt64)) * (31 : Int64)) + ((F_X5_many1 c v w).toInt64)) * (31 : Int64)) + ((F_X5_many2 c v w).toInt64)) * (31 : Int64)) + ((F_X5_many3 c v w).toInt64)) * (31 : Int64)) + ((F_X5_many4 c v w).toInt64)) * (31 : Int64)) + ((F_X5_many5 c v w).toInt64)) * (31 : Int64)) + ((F_X5_many6 c v w).toInt64)) * (31 : Int64)) + ((F_X5_many7 c v w).toInt64)) * (31 : Int64)) + ((F_X5_many8 c v w).toInt64)) * (31 : Int64)) + ((F_X5_many9 c v w).toInt64)) * (31 : Int64)) + ((F_X5_many10 c v w).toInt64)) * (31 : Int64)) + ((F_X5_many11 c v w).toInt64)) * (31 : Int64)) + ((F_X5_many12 c v w).toInt64)))) * (31 : Int64)) + ((F_X5_owes c v w (0 : Int32)).toInt64)) * (31 : Int64)) + ((F_X5_freedByAll c v w (0 : Int32)).toInt64)) * (31 : Int64)) + ((F_X5_owes c v w (1 : Int32)).toInt64)) * (31 : Int64)) + ((F_X5_freedByAll c v w (1 : Int32)).toInt64)) * (31 : Int64)) + ((F_X5_owes c v w (2 : Int32)).toInt64)) * (31 : Int64)) + ((F_X5_freedByAll c v w (2 : Int32)).toInt64)) * (31 : Int64)) + ((F_X5_owes c v w (3 : Int32)).toInt64)) * (31 : Int64)) + ((F_X5_freedByAll c v w (3 : Int32)).toInt64))) → pcS D vwCl A s.heap NL ad (ctO cA c v w (U_X5_freedByAll c v w (3 : Int32)) ad) H locs → lv_has ls 5 [(3, .int (nI i487)), (1, .long s489), (0, .ref (ad 5 0))] → W p l e (headSpec wsX5_digest ({ frames := 7, cells := 0, slots := 0, locals := 166 })).room s m ([.ref (ad 5 0)] : List Value).toArray below meth c0 H locs 0 0 (MQ below (va_Ql (fun (r : Int64) (_ : Unit) => r = F_X5_digest c v w) (fun (_ : Unit) t => va_P D vwCl (pcW NL ad (ctO cA c v w (U_X5_digest c v w) ad)) t.heap) A) ([.ref (ad 5 0)] : List Value).toArray s 0 0 A) (F0 m 242 ls []) := by
            intro k488
            induction k488 with
            | zero =>
              intro i487 s489 H locs ls hk heF hW hl
              have ei : i487 = c 4 := by omega
              rw [ei] at hl
              obtain rfl : s489 = (FL3_X5_digest c v w (c 4) 0 (((((((((((((((((FL2_X5_digest c v w (c 3) 0 (FL_X5_digest c v w (c 0) 0 ((((((((((((((((((((((((((1801317 : Int64) + ((F_X5_many0 c v w).toInt64)) * (31 : Int64)) + ((F_X5_many1 c v w).toInt64)) * (31 : Int64)) + ((F_X5_many2 c v w).toInt64)) * (31 : Int64)) + ((F_X5_many3 c v w).toInt64)) * (31 : Int64)) + ((F_X5_many4 c v w).toInt64)) * (31 : Int64)) + ((F_X5_many5 c v w).toInt64)) * (31 : Int64)) + ((F_X5_many6 c v w).toInt64)) * (31 : Int64)) + ((F_X5_many7 c v w).toInt64)) * (31 : Int64)) + ((F_X5_many8 c v w).toInt64)) * (31 : Int64)) + ((F_X5_many9 c v w).toInt64)) * (31 : Int64)) + ((F_X5_many10 c v w).toInt64)) * (31 : Int64)) + ((F_X5_many11 c v w).toInt64)) * (31 : Int64)) + ((F_X5_many12 c v w).toInt64)))) * (31 : Int64)) + ((F_X5_owes c v w (0 : Int32)).toInt64)) * (31 : Int64)) + ((F_X5_freedByAll c v w (0 : Int32)).toInt64)) * (31 : Int64)) + ((F_X5_owes c v w (1 : Int32)).toInt64)) * (31 : Int64)) + ((F_X5_freedByAll c v w (1 : Int32)).toInt64)) * (31 : Int64)) + ((F_X5_owes c v w (2 : Int32)).toInt64)) * (31 : Int64)) + ((F_X5_freedByAll c v w (2 : Int32)).toInt64)) * (31 : Int64)) + ((F_X5_owes c v w (3 : Int32)).toInt64)) * (31 : Int64)) + ((F_X5_freedByAll c v w (3 : Int32)).toInt64))) := heF
              refine lv_iload_n hx hb dX5_digest_242 rfl (lv_at hl 0 rfl) ?_
              refine lv_aload_n hx hb dX5_digest_243 rfl (lv_at hl 2 rfl) ?_
              refine pc_get (C := RX5) (T := TX5) (N := 13) (ci := 5) hx hb hts (by decide +kernel) hown hX.1 hW.1 5 0 hM.1 rfl rfl 11 (by decide) (hts (.fieldLink RX5 61 "DraftsmanOffice" "packageCount" "I") (by decide +kernel)) (fun _ h9 => h9) rfl dX5_digest_244 ?_
              refine lv_icmp_ge (tgt := 287) hx hb dX5_digest_247 (by decide) (fun _ => ?_) (fun c491 => absurd (Int32.le_refl _) c491)
              refine lv_lload_n hx hb dX5_digest_287 rfl (lv_at hl 1 rfl) ?_
              have e9u : U_X5_digest c v w = (U_X5_freedByAll c v w (3 : Int32)) := rfl
              exact W.lret (v := (FL3_X5_digest c v w (c 4) 0 (((((((((((((((((FL2_X5_digest c v w (c 3) 0 (FL_X5_digest c v w (c 0) 0 ((((((((((((((((((((((((((1801317 : Int64) + ((F_X5_many0 c v w).toInt64)) * (31 : Int64)) + ((F_X5_many1 c v w).toInt64)) * (31 : Int64)) + ((F_X5_many2 c v w).toInt64)) * (31 : Int64)) + ((F_X5_many3 c v w).toInt64)) * (31 : Int64)) + ((F_X5_many4 c v w).toInt64)) * (31 : Int64)) + ((F_X5_many5 c v w).toInt64)) * (31 : Int64)) + ((F_X5_many6 c v w).toInt64)) * (31 : Int64)) + ((F_X5_many7 c v w).toInt64)) * (31 : Int64)) + ((F_X5_many8 c v w).toInt64)) * (31 : Int64)) + ((F_X5_many9 c v w).toInt64)) * (31 : Int64)) + ((F_X5_many10 c v w).toInt64)) * (31 : Int64)) + ((F_X5_many11 c v w).toInt64)) * (31 : Int64)) + ((F_X5_many12 c v w).toInt64)))) * (31 : Int64)) + ((F_X5_owes c v w (0 : Int32)).toInt64)) * (31 : Int64)) + ((F_X5_freedByAll c v w (0 : Int32)).toInt64)) * (31 : Int64)) + ((F_X5_owes c v w (1 : Int32)).toInt64)) * (31 : Int64)) + ((F_X5_freedByAll c v w (1 : Int32)).toInt64)) * (31 : Int64)) + ((F_X5_owes c v w (2 : Int32)).toInt64)) * (31 : Int64)) + ((F_X5_freedByAll c v w (2 : Int32)).toInt64)) * (31 : Int64)) + ((F_X5_owes c v w (3 : Int32)).toInt64)) * (31 : Int64)) + ((F_X5_freedByAll c v w (3 : Int32)).toInt64)))) hx hb hr (fun t ht hW9 => ⟨⟨(FL3_X5_digest c v w (c 4) 0 (((((((((((((((((FL2_X5_digest c v w (c 3) 0 (FL_X5_digest c v w (c 0) 0 ((((((((((((((((((((((((((1801317 : Int64) + ((F_X5_many0 c v w).toInt64)) * (31 : Int64)) + ((F_X5_many1 c v w).toInt64)) * (31 : Int64)) + ((F_X5_many2 c v w).toInt64)) * (31 : Int64)) + ((F_X5_many3 c v w).toInt64)) * (31 : Int64)) + ((F_X5_many4 c v w).toInt64)) * (31 : Int64)) + ((F_X5_many5 c v w).toInt64)) * (31 : Int64)) + ((F_X5_many6 c v w).toInt64)) * (31 : Int64)) + ((F_X5_many7 c v w).toInt64)) * (31 : Int64)) + ((F_X5_many8 c v w).toInt64)) * (31 : Int64)) + ((F_X5_many9 c v w).toInt64)) * (31 : Int64)) + ((F_X5_many10 c v w).toInt64)) * (31 : Int64)) + ((F_X5_many11 c v w).toInt64)) * (31 : Int64)) + ((F_X5_many12 c v w).toInt64)))) * (31 : Int64)) + ((F_X5_owes c v w (0 : Int32)).toInt64)) * (31 : Int64)) + ((F_X5_freedByAll c v w (0 : Int32)).toInt64)) * (31 : Int64)) + ((F_X5_owes c v w (1 : Int32)).toInt64)) * (31 : Int64)) + ((F_X5_freedByAll c v w (1 : Int32)).toInt64)) * (31 : Int64)) + ((F_X5_owes c v w (2 : Int32)).toInt64)) * (31 : Int64)) + ((F_X5_freedByAll c v w (2 : Int32)).toInt64)) * (31 : Int64)) + ((F_X5_owes c v w (3 : Int32)).toInt64)) * (31 : Int64)) + ((F_X5_freedByAll c v w (3 : Int32)).toInt64))), (), rfl, rfl, (by show va_P D vwCl (pcW NL ad (ctO cA c v w (U_X5_digest c v w) ad)) t.heap; rw [e9u]; rw [ht]; exact hW.1)⟩, hW.2.2.F ht⟩) hW.2.2.2.2 dX5_digest_288
            | succ k488 ihk488 =>
              intro i487 s489 H locs ls hk heF hW hl
              have hlt : i487 < c 4 := by omega
              have hlt9i487 := hlt
              refine lv_iload_n hx hb dX5_digest_242 rfl (lv_at hl 0 rfl) ?_
              refine lv_aload_n hx hb dX5_digest_243 rfl (lv_at hl 2 rfl) ?_
              refine pc_get (C := RX5) (T := TX5) (N := 13) (ci := 5) hx hb hts (by decide +kernel) hown hX.1 hW.1 5 0 hM.1 rfl rfl 11 (by decide) (hts (.fieldLink RX5 61 "DraftsmanOffice" "packageCount" "I") (by decide +kernel)) (fun _ h9 => h9) rfl dX5_digest_244 ?_
              refine lv_icmp_ge (tgt := 287) hx hb dX5_digest_247 (by decide) (fun c492 => absurd c492 (nI_ge hlt (Nat.lt_of_le_of_lt hBd.2.2.2.2 (by decide)))) (fun _ => ?_)
              refine lv_iconst (v := 0) hx hb dX5_digest_250 (by decide) ?_
              refine lv_istore (lv' := [(4, .int 0), (3, .int (nI i487)), (1, .long s489), (0, .ref (ad 5 0))]) hx hb dX5_digest_251 hl (by decide) rfl (fun ls hl => ?_)
              refine lv_iload hx hb dX5_digest_253 (lv_at hl 0 rfl) ?_
              refine lv_bipush (v := 6) hx hb dX5_digest_255 (by decide) ?_
              refine lv_icmp_gt (tgt := 281) hx hb dX5_digest_257 (by decide) (fun c493 => absurd c493 (by decide)) (fun _ => ?_)
              refine lv_lload_n hx hb dX5_digest_260 rfl (lv_at hl 2 rfl) ?_
              refine lv_ldc2 (v := 31) hx hb hown (hts (.constantLong RX5 336 31) (by decide +kernel)) dX5_digest_261 ?_
              refine lv_lmul hx hb dX5_digest_264 ?_
              refine lv_aload_n hx hb dX5_digest_265 rfl (lv_at hl 3 rfl) ?_
              refine lv_iload_n hx hb dX5_digest_266 rfl (lv_at hl 1 rfl) ?_
              refine lv_iload hx hb dX5_digest_267 (lv_at hl 0 rfl) ?_
              refine pc_rcalli (va_runV (As := [.int (nI i487), .int 0]) (rest := [.long (s489 * (31 : Int64))]) ⟨hx, hb, hml, hown, hts⟩ (r_X5_ofPack0 l D cA NL c v w (U_X5_freedByAll c v w (3 : Int32)) ad (nI i487) hM hBd hF (nI_nn (Nat.lt_of_lt_of_le hlt9i487 (Nat.le_trans hBd.2.2.2.2 (by decide)))) (by rw [nI_clamp (Nat.lt_of_lt_of_le hlt9i487 (Nat.le_trans hBd.2.2.2.2 (by decide)))]; exact hlt9i487)) (cwV 2 hts gX5_digest_X5_ofPack rfl rfl rfl (by decide +kernel) ⟨Nat.le_of_ble_eq_true rfl, Nat.le_of_ble_eq_true rfl⟩) (pc_preV pcN_ok hX hW.1 hM.1 rfl rfl hW.1) rfl rfl hl.1 rfl (lv_room (Nat.le_of_ble_eq_true rfl)) dX5_digest_269 ⟨Nat.le_of_ble_eq_true rfl, Nat.le_of_ble_eq_true rfl⟩) hW (fun r494 H locs hwr494 hW => ?_)
              subst hwr494
              refine lv_i2l (v := (F_X5_ofPack0 c v w (nI i487)).toInt64) hx hb dX5_digest_272 rfl ?_
              refine lv_ladd hx hb dX5_digest_273 ?_
              refine lv_lstore_n (lv' := [(1, .long ((s489 * (31 : Int64)) + ((F_X5_ofPack0 c v w (nI i487)).toInt64))), (4, .int 0), (3, .int (nI i487)), (0, .ref (ad 5 0))]) hx hb dX5_digest_274 rfl hl (by decide) rfl (fun ls hl => ?_)
              refine lv_iinc (v := 1) (lv' := [(4, .int 1), (1, .long ((s489 * (31 : Int64)) + ((F_X5_ofPack0 c v w (nI i487)).toInt64))), (3, .int (nI i487)), (0, .ref (ad 5 0))]) hx hb dX5_digest_275 hl (k := 1) rfl (by decide) (by decide) rfl (fun ls hl => ?_)
              refine lv_goto (tgt := 253) hx hb dX5_digest_278 (by decide) ?_
              refine lv_iload hx hb dX5_digest_253 (lv_at hl 0 rfl) ?_
              refine lv_bipush (v := 6) hx hb dX5_digest_255 (by decide) ?_
              refine lv_icmp_gt (tgt := 281) hx hb dX5_digest_257 (by decide) (fun c495 => absurd c495 (by decide)) (fun _ => ?_)
              refine lv_lload_n hx hb dX5_digest_260 rfl (lv_at hl 1 rfl) ?_
              refine lv_ldc2 (v := 31) hx hb hown (hts (.constantLong RX5 336 31) (by decide +kernel)) dX5_digest_261 ?_
              refine lv_lmul hx hb dX5_digest_264 ?_
              refine lv_aload_n hx hb dX5_digest_265 rfl (lv_at hl 3 rfl) ?_
              refine lv_iload_n hx hb dX5_digest_266 rfl (lv_at hl 2 rfl) ?_
              refine lv_iload hx hb dX5_digest_267 (lv_at hl 0 rfl) ?_
              refine pc_rcalli (va_runV (As := [.int (nI i487), .int 1]) (rest := [.long (((s489 * (31 : Int64)) + ((F_X5_ofPack0 c v w (nI i487)).toInt64)) * (31 : Int64))]) ⟨hx, hb, hml, hown, hts⟩ (r_X5_ofPack1 l D cA NL c v w (U_X5_freedByAll c v w (3 : Int32)) ad (nI i487) hM hBd hF (nI_nn (Nat.lt_of_lt_of_le hlt9i487 (Nat.le_trans hBd.2.2.2.2 (by decide)))) (by rw [nI_clamp (Nat.lt_of_lt_of_le hlt9i487 (Nat.le_trans hBd.2.2.2.2 (by decide)))]; exact hlt9i487)) (cwV 2 hts gX5_digest_X5_ofPack rfl rfl rfl (by decide +kernel) ⟨Nat.le_of_ble_eq_true rfl, Nat.le_of_ble_eq_true rfl⟩) (pc_preV pcN_ok hX hW.1 hM.1 rfl rfl hW.1) rfl rfl hl.1 rfl (lv_room (Nat.le_of_ble_eq_true rfl)) dX5_digest_269 ⟨Nat.le_of_ble_eq_true rfl, Nat.le_of_ble_eq_true rfl⟩) hW (fun r496 H locs hwr496 hW => ?_)
              subst hwr496
              refine lv_i2l (v := (F_X5_ofPack1 c v w (nI i487)).toInt64) hx hb dX5_digest_272 rfl ?_
              refine lv_ladd hx hb dX5_digest_273 ?_
              refine lv_lstore_n (lv' := [(1, .long ((((s489 * (31 : Int64)) + ((F_X5_ofPack0 c v w (nI i487)).toInt64)) * (31 : Int64)) + ((F_X5_ofPack1 c v w (nI i487)).toInt64))), (4, .int 1), (3, .int (nI i487)), (0, .ref (ad 5 0))]) hx hb dX5_digest_274 rfl hl (by decide) rfl (fun ls hl => ?_)
              refine lv_iinc (v := 2) (lv' := [(4, .int 2), (1, .long ((((s489 * (31 : Int64)) + ((F_X5_ofPack0 c v w (nI i487)).toInt64)) * (31 : Int64)) + ((F_X5_ofPack1 c v w (nI i487)).toInt64))), (3, .int (nI i487)), (0, .ref (ad 5 0))]) hx hb dX5_digest_275 hl (k := 1) rfl (by decide) (by decide) rfl (fun ls hl => ?_)
              refine lv_goto (tgt := 253) hx hb dX5_digest_278 (by decide) ?_
              refine lv_iload hx hb dX5_digest_253 (lv_at hl 0 rfl) ?_
              refine lv_bipush (v := 6) hx hb dX5_digest_255 (by decide) ?_
              refine lv_icmp_gt (tgt := 281) hx hb dX5_digest_257 (by decide) (fun c497 => absurd c497 (by decide)) (fun _ => ?_)
              refine lv_lload_n hx hb dX5_digest_260 rfl (lv_at hl 1 rfl) ?_
              refine lv_ldc2 (v := 31) hx hb hown (hts (.constantLong RX5 336 31) (by decide +kernel)) dX5_digest_261 ?_
              refine lv_lmul hx hb dX5_digest_264 ?_
              refine lv_aload_n hx hb dX5_digest_265 rfl (lv_at hl 3 rfl) ?_
              refine lv_iload_n hx hb dX5_digest_266 rfl (lv_at hl 2 rfl) ?_
              refine lv_iload hx hb dX5_digest_267 (lv_at hl 0 rfl) ?_
              refine pc_rcalli (va_runV (As := [.int (nI i487), .int 2]) (rest := [.long (((((s489 * (31 : Int64)) + ((F_X5_ofPack0 c v w (nI i487)).toInt64)) * (31 : Int64)) + ((F_X5_ofPack1 c v w (nI i487)).toInt64)) * (31 : Int64))]) ⟨hx, hb, hml, hown, hts⟩ (r_X5_ofPack2 l D cA NL c v w (U_X5_freedByAll c v w (3 : Int32)) ad (nI i487) hM hBd hF (nI_nn (Nat.lt_of_lt_of_le hlt9i487 (Nat.le_trans hBd.2.2.2.2 (by decide)))) (by rw [nI_clamp (Nat.lt_of_lt_of_le hlt9i487 (Nat.le_trans hBd.2.2.2.2 (by decide)))]; exact hlt9i487)) (cwV 2 hts gX5_digest_X5_ofPack rfl rfl rfl (by decide +kernel) ⟨Nat.le_of_ble_eq_true rfl, Nat.le_of_ble_eq_true rfl⟩) (pc_preV pcN_ok hX hW.1 hM.1 rfl rfl hW.1) rfl rfl hl.1 rfl (lv_room (Nat.le_of_ble_eq_true rfl)) dX5_digest_269 ⟨Nat.le_of_ble_eq_true rfl, Nat.le_of_ble_eq_true rfl⟩) hW (fun r498 H locs hwr498 hW => ?_)
              subst hwr498
              refine lv_i2l (v := (F_X5_ofPack2 c v w (nI i487)).toInt64) hx hb dX5_digest_272 rfl ?_
              refine lv_ladd hx hb dX5_digest_273 ?_
              refine lv_lstore_n (lv' := [(1, .long ((((((s489 * (31 : Int64)) + ((F_X5_ofPack0 c v w (nI i487)).toInt64)) * (31 : Int64)) + ((F_X5_ofPack1 c v w (nI i487)).toInt64)) * (31 : Int64)) + ((F_X5_ofPack2 c v w (nI i487)).toInt64))), (4, .int 2), (3, .int (nI i487)), (0, .ref (ad 5 0))]) hx hb dX5_digest_274 rfl hl (by decide) rfl (fun ls hl => ?_)
              refine lv_iinc (v := 3) (lv' := [(4, .int 3), (1, .long ((((((s489 * (31 : Int64)) + ((F_X5_ofPack0 c v w (nI i487)).toInt64)) * (31 : Int64)) + ((F_X5_ofPack1 c v w (nI i487)).toInt64)) * (31 : Int64)) + ((F_X5_ofPack2 c v w (nI i487)).toInt64))), (3, .int (nI i487)), (0, .ref (ad 5 0))]) hx hb dX5_digest_275 hl (k := 1) rfl (by decide) (by decide) rfl (fun ls hl => ?_)
              refine lv_goto (tgt := 253) hx hb dX5_digest_278 (by decide) ?_
              refine lv_iload hx hb dX5_digest_253 (lv_at hl 0 rfl) ?_
              refine lv_bipush (v := 6) hx hb dX5_digest_255 (by decide) ?_
              refine lv_icmp_gt (tgt := 281) hx hb dX5_digest_257 (by decide) (fun c499 => absurd c499 (by decide)) (fun _ => ?_)
              refine lv_lload_n hx hb dX5_digest_260 rfl (lv_at hl 1 rfl) ?_
              refine lv_ldc2 (v := 31) hx hb hown (hts (.constantLong RX5 336 31) (by decide +kernel)) dX5_digest_261 ?_
              refine lv_lmul hx hb dX5_digest_264 ?_
              refine lv_aload_n hx hb dX5_digest_265 rfl (lv_at hl 3 rfl) ?_
              refine lv_iload_n hx hb dX5_digest_266 rfl (lv_at hl 2 rfl) ?_
              refine lv_iload hx hb dX5_digest_267 (lv_at hl 0 rfl) ?_
              refine pc_rcalli (va_runV (As := [.int (nI i487), .int 3]) (rest := [.long (((((((s489 * (31 : Int64)) + ((F_X5_ofPack0 c v w (nI i487)).toInt64)) * (31 : Int64)) + ((F_X5_ofPack1 c v w (nI i487)).toInt64)) * (31 : Int64)) + ((F_X5_ofPack2 c v w (nI i487)).toInt64)) * (31 : Int64))]) ⟨hx, hb, hml, hown, hts⟩ (r_X5_ofPack3 l D cA NL c v w (U_X5_freedByAll c v w (3 : Int32)) ad (nI i487) hM hBd hF (nI_nn (Nat.lt_of_lt_of_le hlt9i487 (Nat.le_trans hBd.2.2.2.2 (by decide)))) (by rw [nI_clamp (Nat.lt_of_lt_of_le hlt9i487 (Nat.le_trans hBd.2.2.2.2 (by decide)))]; exact hlt9i487)) (cwV 2 hts gX5_digest_X5_ofPack rfl rfl rfl (by decide +kernel) ⟨Nat.le_of_ble_eq_true rfl, Nat.le_of_ble_eq_true rfl⟩) (pc_preV pcN_ok hX hW.1 hM.1 rfl rfl hW.1) rfl rfl hl.1 rfl (lv_room (Nat.le_of_ble_eq_true rfl)) dX5_digest_269 ⟨Nat.le_of_ble_eq_true rfl, Nat.le_of_ble_eq_true rfl⟩) hW (fun r500 H locs hwr500 hW => ?_)
              subst hwr500
              refine lv_i2l (v := (F_X5_ofPack3 c v w (nI i487)).toInt64) hx hb dX5_digest_272 rfl ?_
              refine lv_ladd hx hb dX5_digest_273 ?_
              refine lv_lstore_n (lv' := [(1, .long ((((((((s489 * (31 : Int64)) + ((F_X5_ofPack0 c v w (nI i487)).toInt64)) * (31 : Int64)) + ((F_X5_ofPack1 c v w (nI i487)).toInt64)) * (31 : Int64)) + ((F_X5_ofPack2 c v w (nI i487)).toInt64)) * (31 : Int64)) + ((F_X5_ofPack3 c v w (nI i487)).toInt64))), (4, .int 3), (3, .int (nI i487)), (0, .ref (ad 5 0))]) hx hb dX5_digest_274 rfl hl (by decide) rfl (fun ls hl => ?_)
              refine lv_iinc (v := 4) (lv' := [(4, .int 4), (1, .long ((((((((s489 * (31 : Int64)) + ((F_X5_ofPack0 c v w (nI i487)).toInt64)) * (31 : Int64)) + ((F_X5_ofPack1 c v w (nI i487)).toInt64)) * (31 : Int64)) + ((F_X5_ofPack2 c v w (nI i487)).toInt64)) * (31 : Int64)) + ((F_X5_ofPack3 c v w (nI i487)).toInt64))), (3, .int (nI i487)), (0, .ref (ad 5 0))]) hx hb dX5_digest_275 hl (k := 1) rfl (by decide) (by decide) rfl (fun ls hl => ?_)
              refine lv_goto (tgt := 253) hx hb dX5_digest_278 (by decide) ?_
              refine lv_iload hx hb dX5_digest_253 (lv_at hl 0 rfl) ?_
              refine lv_bipush (v := 6) hx hb dX5_digest_255 (by decide) ?_
              refine lv_icmp_gt (tgt := 281) hx hb dX5_digest_257 (by decide) (fun c501 => absurd c501 (by decide)) (fun _ => ?_)
              refine lv_lload_n hx hb dX5_digest_260 rfl (lv_at hl 1 rfl) ?_
              refine lv_ldc2 (v := 31) hx hb hown (hts (.constantLong RX5 336 31) (by decide +kernel)) dX5_digest_261 ?_
              refine lv_lmul hx hb dX5_digest_264 ?_
              refine lv_aload_n hx hb dX5_digest_265 rfl (lv_at hl 3 rfl) ?_
              refine lv_iload_n hx hb dX5_digest_266 rfl (lv_at hl 2 rfl) ?_
              refine lv_iload hx hb dX5_digest_267 (lv_at hl 0 rfl) ?_
              refine pc_rcalli (va_runV (As := [.int (nI i487), .int 4]) (rest := [.long (((((((((s489 * (31 : Int64)) + ((F_X5_ofPack0 c v w (nI i487)).toInt64)) * (31 : Int64)) + ((F_X5_ofPack1 c v w (nI i487)).toInt64)) * (31 : Int64)) + ((F_X5_ofPack2 c v w (nI i487)).toInt64)) * (31 : Int64)) + ((F_X5_ofPack3 c v w (nI i487)).toInt64)) * (31 : Int64))]) ⟨hx, hb, hml, hown, hts⟩ (r_X5_ofPack4 l D cA NL c v w (U_X5_freedByAll c v w (3 : Int32)) ad (nI i487) hM hBd hF (nI_nn (Nat.lt_of_lt_of_le hlt9i487 (Nat.le_trans hBd.2.2.2.2 (by decide)))) (by rw [nI_clamp (Nat.lt_of_lt_of_le hlt9i487 (Nat.le_trans hBd.2.2.2.2 (by decide)))]; exact hlt9i487)) (cwV 2 hts gX5_digest_X5_ofPack rfl rfl rfl (by decide +kernel) ⟨Nat.le_of_ble_eq_true rfl, Nat.le_of_ble_eq_true rfl⟩) (pc_preV pcN_ok hX hW.1 hM.1 rfl rfl hW.1) rfl rfl hl.1 rfl (lv_room (Nat.le_of_ble_eq_true rfl)) dX5_digest_269 ⟨Nat.le_of_ble_eq_true rfl, Nat.le_of_ble_eq_true rfl⟩) hW (fun r502 H locs hwr502 hW => ?_)
              subst hwr502
              refine lv_i2l (v := (F_X5_ofPack4 c v w (nI i487)).toInt64) hx hb dX5_digest_272 rfl ?_
              refine lv_ladd hx hb dX5_digest_273 ?_
              refine lv_lstore_n (lv' := [(1, .long ((((((((((s489 * (31 : Int64)) + ((F_X5_ofPack0 c v w (nI i487)).toInt64)) * (31 : Int64)) + ((F_X5_ofPack1 c v w (nI i487)).toInt64)) * (31 : Int64)) + ((F_X5_ofPack2 c v w (nI i487)).toInt64)) * (31 : Int64)) + ((F_X5_ofPack3 c v w (nI i487)).toInt64)) * (31 : Int64)) + ((F_X5_ofPack4 c v w (nI i487)).toInt64))), (4, .int 4), (3, .int (nI i487)), (0, .ref (ad 5 0))]) hx hb dX5_digest_274 rfl hl (by decide) rfl (fun ls hl => ?_)
              refine lv_iinc (v := 5) (lv' := [(4, .int 5), (1, .long ((((((((((s489 * (31 : Int64)) + ((F_X5_ofPack0 c v w (nI i487)).toInt64)) * (31 : Int64)) + ((F_X5_ofPack1 c v w (nI i487)).toInt64)) * (31 : Int64)) + ((F_X5_ofPack2 c v w (nI i487)).toInt64)) * (31 : Int64)) + ((F_X5_ofPack3 c v w (nI i487)).toInt64)) * (31 : Int64)) + ((F_X5_ofPack4 c v w (nI i487)).toInt64))), (3, .int (nI i487)), (0, .ref (ad 5 0))]) hx hb dX5_digest_275 hl (k := 1) rfl (by decide) (by decide) rfl (fun ls hl => ?_)
              refine lv_goto (tgt := 253) hx hb dX5_digest_278 (by decide) ?_
              refine lv_iload hx hb dX5_digest_253 (lv_at hl 0 rfl) ?_
              refine lv_bipush (v := 6) hx hb dX5_digest_255 (by decide) ?_
              refine lv_icmp_gt (tgt := 281) hx hb dX5_digest_257 (by decide) (fun c503 => absurd c503 (by decide)) (fun _ => ?_)
              refine lv_lload_n hx hb dX5_digest_260 rfl (lv_at hl 1 rfl) ?_
              refine lv_ldc2 (v := 31) hx hb hown (hts (.constantLong RX5 336 31) (by decide +kernel)) dX5_digest_261 ?_
              refine lv_lmul hx hb dX5_digest_264 ?_
              refine lv_aload_n hx hb dX5_digest_265 rfl (lv_at hl 3 rfl) ?_
              refine lv_iload_n hx hb dX5_digest_266 rfl (lv_at hl 2 rfl) ?_
              refine lv_iload hx hb dX5_digest_267 (lv_at hl 0 rfl) ?_
              refine pc_rcalli (va_runV (As := [.int (nI i487), .int 5]) (rest := [.long (((((((((((s489 * (31 : Int64)) + ((F_X5_ofPack0 c v w (nI i487)).toInt64)) * (31 : Int64)) + ((F_X5_ofPack1 c v w (nI i487)).toInt64)) * (31 : Int64)) + ((F_X5_ofPack2 c v w (nI i487)).toInt64)) * (31 : Int64)) + ((F_X5_ofPack3 c v w (nI i487)).toInt64)) * (31 : Int64)) + ((F_X5_ofPack4 c v w (nI i487)).toInt64)) * (31 : Int64))]) ⟨hx, hb, hml, hown, hts⟩ (r_X5_ofPack5 l D cA NL c v w (U_X5_freedByAll c v w (3 : Int32)) ad (nI i487) hM hBd hF (nI_nn (Nat.lt_of_lt_of_le hlt9i487 (Nat.le_trans hBd.2.2.2.2 (by decide)))) (by rw [nI_clamp (Nat.lt_of_lt_of_le hlt9i487 (Nat.le_trans hBd.2.2.2.2 (by decide)))]; exact hlt9i487)) (cwV 2 hts gX5_digest_X5_ofPack rfl rfl rfl (by decide +kernel) ⟨Nat.le_of_ble_eq_true rfl, Nat.le_of_ble_eq_true rfl⟩) (pc_preV pcN_ok hX hW.1 hM.1 rfl rfl hW.1) rfl rfl hl.1 rfl (lv_room (Nat.le_of_ble_eq_true rfl)) dX5_digest_269 ⟨Nat.le_of_ble_eq_true rfl, Nat.le_of_ble_eq_true rfl⟩) hW (fun r504 H locs hwr504 hW => ?_)
              subst hwr504
              refine lv_i2l (v := (F_X5_ofPack5 c v w (nI i487)).toInt64) hx hb dX5_digest_272 rfl ?_
              refine lv_ladd hx hb dX5_digest_273 ?_
              refine lv_lstore_n (lv' := [(1, .long ((((((((((((s489 * (31 : Int64)) + ((F_X5_ofPack0 c v w (nI i487)).toInt64)) * (31 : Int64)) + ((F_X5_ofPack1 c v w (nI i487)).toInt64)) * (31 : Int64)) + ((F_X5_ofPack2 c v w (nI i487)).toInt64)) * (31 : Int64)) + ((F_X5_ofPack3 c v w (nI i487)).toInt64)) * (31 : Int64)) + ((F_X5_ofPack4 c v w (nI i487)).toInt64)) * (31 : Int64)) + ((F_X5_ofPack5 c v w (nI i487)).toInt64))), (4, .int 5), (3, .int (nI i487)), (0, .ref (ad 5 0))]) hx hb dX5_digest_274 rfl hl (by decide) rfl (fun ls hl => ?_)
              refine lv_iinc (v := 6) (lv' := [(4, .int 6), (1, .long ((((((((((((s489 * (31 : Int64)) + ((F_X5_ofPack0 c v w (nI i487)).toInt64)) * (31 : Int64)) + ((F_X5_ofPack1 c v w (nI i487)).toInt64)) * (31 : Int64)) + ((F_X5_ofPack2 c v w (nI i487)).toInt64)) * (31 : Int64)) + ((F_X5_ofPack3 c v w (nI i487)).toInt64)) * (31 : Int64)) + ((F_X5_ofPack4 c v w (nI i487)).toInt64)) * (31 : Int64)) + ((F_X5_ofPack5 c v w (nI i487)).toInt64))), (3, .int (nI i487)), (0, .ref (ad 5 0))]) hx hb dX5_digest_275 hl (k := 1) rfl (by decide) (by decide) rfl (fun ls hl => ?_)
              refine lv_goto (tgt := 253) hx hb dX5_digest_278 (by decide) ?_
              refine lv_iload hx hb dX5_digest_253 (lv_at hl 0 rfl) ?_
              refine lv_bipush (v := 6) hx hb dX5_digest_255 (by decide) ?_
              refine lv_icmp_gt (tgt := 281) hx hb dX5_digest_257 (by decide) (fun c505 => absurd c505 (by decide)) (fun _ => ?_)
              refine lv_lload_n hx hb dX5_digest_260 rfl (lv_at hl 1 rfl) ?_
              refine lv_ldc2 (v := 31) hx hb hown (hts (.constantLong RX5 336 31) (by decide +kernel)) dX5_digest_261 ?_
              refine lv_lmul hx hb dX5_digest_264 ?_
              refine lv_aload_n hx hb dX5_digest_265 rfl (lv_at hl 3 rfl) ?_
              refine lv_iload_n hx hb dX5_digest_266 rfl (lv_at hl 2 rfl) ?_
              refine lv_iload hx hb dX5_digest_267 (lv_at hl 0 rfl) ?_
              refine pc_rcalli (va_runV (As := [.int (nI i487), .int 6]) (rest := [.long (((((((((((((s489 * (31 : Int64)) + ((F_X5_ofPack0 c v w (nI i487)).toInt64)) * (31 : Int64)) + ((F_X5_ofPack1 c v w (nI i487)).toInt64)) * (31 : Int64)) + ((F_X5_ofPack2 c v w (nI i487)).toInt64)) * (31 : Int64)) + ((F_X5_ofPack3 c v w (nI i487)).toInt64)) * (31 : Int64)) + ((F_X5_ofPack4 c v w (nI i487)).toInt64)) * (31 : Int64)) + ((F_X5_ofPack5 c v w (nI i487)).toInt64)) * (31 : Int64))]) ⟨hx, hb, hml, hown, hts⟩ (r_X5_ofPack6 l D cA NL c v w (U_X5_freedByAll c v w (3 : Int32)) ad (nI i487) hM hBd hF (nI_nn (Nat.lt_of_lt_of_le hlt9i487 (Nat.le_trans hBd.2.2.2.2 (by decide)))) (by rw [nI_clamp (Nat.lt_of_lt_of_le hlt9i487 (Nat.le_trans hBd.2.2.2.2 (by decide)))]; exact hlt9i487)) (cwV 2 hts gX5_digest_X5_ofPack rfl rfl rfl (by decide +kernel) ⟨Nat.le_of_ble_eq_true rfl, Nat.le_of_ble_eq_true rfl⟩) (pc_preV pcN_ok hX hW.1 hM.1 rfl rfl hW.1) rfl rfl hl.1 rfl (lv_room (Nat.le_of_ble_eq_true rfl)) dX5_digest_269 ⟨Nat.le_of_ble_eq_true rfl, Nat.le_of_ble_eq_true rfl⟩) hW (fun r506 H locs hwr506 hW => ?_)
              subst hwr506
              refine lv_i2l (v := (F_X5_ofPack6 c v w (nI i487)).toInt64) hx hb dX5_digest_272 rfl ?_
              refine lv_ladd hx hb dX5_digest_273 ?_
              refine lv_lstore_n (lv' := [(1, .long ((((((((((((((s489 * (31 : Int64)) + ((F_X5_ofPack0 c v w (nI i487)).toInt64)) * (31 : Int64)) + ((F_X5_ofPack1 c v w (nI i487)).toInt64)) * (31 : Int64)) + ((F_X5_ofPack2 c v w (nI i487)).toInt64)) * (31 : Int64)) + ((F_X5_ofPack3 c v w (nI i487)).toInt64)) * (31 : Int64)) + ((F_X5_ofPack4 c v w (nI i487)).toInt64)) * (31 : Int64)) + ((F_X5_ofPack5 c v w (nI i487)).toInt64)) * (31 : Int64)) + ((F_X5_ofPack6 c v w (nI i487)).toInt64))), (4, .int 6), (3, .int (nI i487)), (0, .ref (ad 5 0))]) hx hb dX5_digest_274 rfl hl (by decide) rfl (fun ls hl => ?_)
              refine lv_iinc (v := 7) (lv' := [(4, .int 7), (1, .long ((((((((((((((s489 * (31 : Int64)) + ((F_X5_ofPack0 c v w (nI i487)).toInt64)) * (31 : Int64)) + ((F_X5_ofPack1 c v w (nI i487)).toInt64)) * (31 : Int64)) + ((F_X5_ofPack2 c v w (nI i487)).toInt64)) * (31 : Int64)) + ((F_X5_ofPack3 c v w (nI i487)).toInt64)) * (31 : Int64)) + ((F_X5_ofPack4 c v w (nI i487)).toInt64)) * (31 : Int64)) + ((F_X5_ofPack5 c v w (nI i487)).toInt64)) * (31 : Int64)) + ((F_X5_ofPack6 c v w (nI i487)).toInt64))), (3, .int (nI i487)), (0, .ref (ad 5 0))]) hx hb dX5_digest_275 hl (k := 1) rfl (by decide) (by decide) rfl (fun ls hl => ?_)
              refine lv_goto (tgt := 253) hx hb dX5_digest_278 (by decide) ?_
              refine lv_iload hx hb dX5_digest_253 (lv_at hl 0 rfl) ?_
              refine lv_bipush (v := 6) hx hb dX5_digest_255 (by decide) ?_
              refine lv_icmp_gt (tgt := 281) hx hb dX5_digest_257 (by decide) (fun _ => ?_) (fun c507 => absurd (by decide) c507)
              refine lv_iinc (v := nI (i487 + 1)) (lv' := [(3, .int (nI (i487 + 1))), (4, .int 7), (1, .long ((((((((((((((s489 * (31 : Int64)) + ((F_X5_ofPack0 c v w (nI i487)).toInt64)) * (31 : Int64)) + ((F_X5_ofPack1 c v w (nI i487)).toInt64)) * (31 : Int64)) + ((F_X5_ofPack2 c v w (nI i487)).toInt64)) * (31 : Int64)) + ((F_X5_ofPack3 c v w (nI i487)).toInt64)) * (31 : Int64)) + ((F_X5_ofPack4 c v w (nI i487)).toInt64)) * (31 : Int64)) + ((F_X5_ofPack5 c v w (nI i487)).toInt64)) * (31 : Int64)) + ((F_X5_ofPack6 c v w (nI i487)).toInt64))), (0, .ref (ad 5 0))]) hx hb dX5_digest_281 hl (k := 2) rfl (nI_1 i487) (by decide) rfl (fun ls hl => ?_)
              refine lv_goto (tgt := 242) hx hb dX5_digest_284 (by decide) ?_
              have he9F : (FL3_X5_digest c v w k488 (i487 + 1) ((((((((((((((s489 * (31 : Int64)) + ((F_X5_ofPack0 c v w (nI i487)).toInt64)) * (31 : Int64)) + ((F_X5_ofPack1 c v w (nI i487)).toInt64)) * (31 : Int64)) + ((F_X5_ofPack2 c v w (nI i487)).toInt64)) * (31 : Int64)) + ((F_X5_ofPack3 c v w (nI i487)).toInt64)) * (31 : Int64)) + ((F_X5_ofPack4 c v w (nI i487)).toInt64)) * (31 : Int64)) + ((F_X5_ofPack5 c v w (nI i487)).toInt64)) * (31 : Int64)) + ((F_X5_ofPack6 c v w (nI i487)).toInt64))) = (FL3_X5_digest c v w (c 4) 0 (((((((((((((((((FL2_X5_digest c v w (c 3) 0 (FL_X5_digest c v w (c 0) 0 ((((((((((((((((((((((((((1801317 : Int64) + ((F_X5_many0 c v w).toInt64)) * (31 : Int64)) + ((F_X5_many1 c v w).toInt64)) * (31 : Int64)) + ((F_X5_many2 c v w).toInt64)) * (31 : Int64)) + ((F_X5_many3 c v w).toInt64)) * (31 : Int64)) + ((F_X5_many4 c v w).toInt64)) * (31 : Int64)) + ((F_X5_many5 c v w).toInt64)) * (31 : Int64)) + ((F_X5_many6 c v w).toInt64)) * (31 : Int64)) + ((F_X5_many7 c v w).toInt64)) * (31 : Int64)) + ((F_X5_many8 c v w).toInt64)) * (31 : Int64)) + ((F_X5_many9 c v w).toInt64)) * (31 : Int64)) + ((F_X5_many10 c v w).toInt64)) * (31 : Int64)) + ((F_X5_many11 c v w).toInt64)) * (31 : Int64)) + ((F_X5_many12 c v w).toInt64)))) * (31 : Int64)) + ((F_X5_owes c v w (0 : Int32)).toInt64)) * (31 : Int64)) + ((F_X5_freedByAll c v w (0 : Int32)).toInt64)) * (31 : Int64)) + ((F_X5_owes c v w (1 : Int32)).toInt64)) * (31 : Int64)) + ((F_X5_freedByAll c v w (1 : Int32)).toInt64)) * (31 : Int64)) + ((F_X5_owes c v w (2 : Int32)).toInt64)) * (31 : Int64)) + ((F_X5_freedByAll c v w (2 : Int32)).toInt64)) * (31 : Int64)) + ((F_X5_owes c v w (3 : Int32)).toInt64)) * (31 : Int64)) + ((F_X5_freedByAll c v w (3 : Int32)).toInt64))) := by rw [← heF]; show (FL3_X5_digest c v w k488 (i487 + 1) ((((((((((((((s489 * (31 : Int64)) + ((F_X5_ofPack0 c v w (nI i487)).toInt64)) * (31 : Int64)) + ((F_X5_ofPack1 c v w (nI i487)).toInt64)) * (31 : Int64)) + ((F_X5_ofPack2 c v w (nI i487)).toInt64)) * (31 : Int64)) + ((F_X5_ofPack3 c v w (nI i487)).toInt64)) * (31 : Int64)) + ((F_X5_ofPack4 c v w (nI i487)).toInt64)) * (31 : Int64)) + ((F_X5_ofPack5 c v w (nI i487)).toInt64)) * (31 : Int64)) + ((F_X5_ofPack6 c v w (nI i487)).toInt64))) = (FL3_X5_digest c v w (k488 + 1) i487 s489); rfl
              exact ihk488 (i487 + 1)  ((((((((((((((s489 * (31 : Int64)) + ((F_X5_ofPack0 c v w (nI i487)).toInt64)) * (31 : Int64)) + ((F_X5_ofPack1 c v w (nI i487)).toInt64)) * (31 : Int64)) + ((F_X5_ofPack2 c v w (nI i487)).toInt64)) * (31 : Int64)) + ((F_X5_ofPack3 c v w (nI i487)).toInt64)) * (31 : Int64)) + ((F_X5_ofPack4 c v w (nI i487)).toInt64)) * (31 : Int64)) + ((F_X5_ofPack5 c v w (nI i487)).toInt64)) * (31 : Int64)) + ((F_X5_ofPack6 c v w (nI i487)).toInt64)) H locs ls (by omega) he9F hW (lv_sub hl [0, 2, 3] rfl)
          exact K490 (c 4) 0  (((((((((((((((((FL2_X5_digest c v w (c 3) 0 (FL_X5_digest c v w (c 0) 0 ((((((((((((((((((((((((((1801317 : Int64) + ((F_X5_many0 c v w).toInt64)) * (31 : Int64)) + ((F_X5_many1 c v w).toInt64)) * (31 : Int64)) + ((F_X5_many2 c v w).toInt64)) * (31 : Int64)) + ((F_X5_many3 c v w).toInt64)) * (31 : Int64)) + ((F_X5_many4 c v w).toInt64)) * (31 : Int64)) + ((F_X5_many5 c v w).toInt64)) * (31 : Int64)) + ((F_X5_many6 c v w).toInt64)) * (31 : Int64)) + ((F_X5_many7 c v w).toInt64)) * (31 : Int64)) + ((F_X5_many8 c v w).toInt64)) * (31 : Int64)) + ((F_X5_many9 c v w).toInt64)) * (31 : Int64)) + ((F_X5_many10 c v w).toInt64)) * (31 : Int64)) + ((F_X5_many11 c v w).toInt64)) * (31 : Int64)) + ((F_X5_many12 c v w).toInt64)))) * (31 : Int64)) + ((F_X5_owes c v w (0 : Int32)).toInt64)) * (31 : Int64)) + ((F_X5_freedByAll c v w (0 : Int32)).toInt64)) * (31 : Int64)) + ((F_X5_owes c v w (1 : Int32)).toInt64)) * (31 : Int64)) + ((F_X5_freedByAll c v w (1 : Int32)).toInt64)) * (31 : Int64)) + ((F_X5_owes c v w (2 : Int32)).toInt64)) * (31 : Int64)) + ((F_X5_freedByAll c v w (2 : Int32)).toInt64)) * (31 : Int64)) + ((F_X5_owes c v w (3 : Int32)).toInt64)) * (31 : Int64)) + ((F_X5_freedByAll c v w (3 : Int32)).toInt64)) _ _ ls (by omega) rfl hW (lv_sub hl [0, 1, 2] rfl)
        | succ k470 ihk470 =>
          intro i469 s471 H locs ls hk heF hW hl
          have hlt : i469 < c 3 := by omega
          have hlt9i469 := hlt
          refine lv_iload_n hx hb dX5_digest_161 rfl (lv_at hl 0 rfl) ?_
          refine lv_aload_n hx hb dX5_digest_162 rfl (lv_at hl 2 rfl) ?_
          refine pc_get (C := RX5) (T := TX5) (N := 13) (ci := 5) hx hb hts (by decide +kernel) hown hX.1 hW.1 5 0 hM.1 rfl rfl 10 (by decide) (hts (.fieldLink RX5 58 "DraftsmanOffice" "queryCount" "I") (by decide +kernel)) (fun _ h9 => h9) rfl dX5_digest_163 ?_
          refine lv_icmp_ge (tgt := 201) hx hb dX5_digest_166 (by decide) (fun c508 => absurd c508 (nI_ge hlt (Nat.lt_of_le_of_lt hBd.2.2.2.1 (by decide)))) (fun _ => ?_)
          refine lv_lload_n hx hb dX5_digest_169 rfl (lv_at hl 1 rfl) ?_
          refine lv_ldc2 (v := 31) hx hb hown (hts (.constantLong RX5 336 31) (by decide +kernel)) dX5_digest_170 ?_
          refine lv_lmul hx hb dX5_digest_173 ?_
          refine lv_aload_n hx hb dX5_digest_174 rfl (lv_at hl 2 rfl) ?_
          refine lv_iload_n hx hb dX5_digest_175 rfl (lv_at hl 0 rfl) ?_
          refine pc_rcalli (va_runV (As := [.int (nI i469)]) (rest := [.long (s471 * (31 : Int64))]) ⟨hx, hb, hml, hown, hts⟩ (r_X5_ofQuery l D cA NL c v w u ad (nI i469) hM hBd hF (nI_nn (Nat.lt_of_lt_of_le hlt9i469 (Nat.le_trans hBd.2.2.2.1 (by decide)))) (by rw [nI_clamp (Nat.lt_of_lt_of_le hlt9i469 (Nat.le_trans hBd.2.2.2.1 (by decide)))]; exact hlt9i469)) (cwV 1 hts gX5_digest_X5_ofQuery rfl rfl rfl (by decide +kernel) ⟨Nat.le_of_ble_eq_true rfl, Nat.le_of_ble_eq_true rfl⟩) (pc_preV pcN_ok hX hW.1 hM.1 rfl rfl hW.1) rfl rfl hl.1 rfl (lv_room (Nat.le_of_ble_eq_true rfl)) dX5_digest_176 ⟨Nat.le_of_ble_eq_true rfl, Nat.le_of_ble_eq_true rfl⟩) hW (fun r509 H locs hwr509 hW => ?_)
          subst hwr509
          refine lv_i2l (v := (F_X5_ofQuery c v w (nI i469)).toInt64) hx hb dX5_digest_179 rfl ?_
          refine lv_ladd hx hb dX5_digest_180 ?_
          refine lv_lstore_n (lv' := [(1, .long ((s471 * (31 : Int64)) + ((F_X5_ofQuery c v w (nI i469)).toInt64))), (3, .int (nI i469)), (0, .ref (ad 5 0))]) hx hb dX5_digest_181 rfl hl (by decide) rfl (fun ls hl => ?_)
          refine lv_lload_n hx hb dX5_digest_182 rfl (lv_at hl 0 rfl) ?_
          refine lv_ldc2 (v := 31) hx hb hown (hts (.constantLong RX5 336 31) (by decide +kernel)) dX5_digest_183 ?_
          refine lv_lmul hx hb dX5_digest_186 ?_
          refine lv_aload_n hx hb dX5_digest_187 rfl (lv_at hl 2 rfl) ?_
          refine lv_iload_n hx hb dX5_digest_188 rfl (lv_at hl 1 rfl) ?_
          have hD9 := hW.2.1
          refine pc_mcalli (va_runV (As := [.int (nI i469)]) (rest := [.long (((s471 * (31 : Int64)) + ((F_X5_ofQuery c v w (nI i469)).toInt64)) * (31 : Int64))]) ⟨hx, hb, hml, hown, hts⟩ (m_X5_freedBy l D cA NL c v w u ad A (nI i469) hM hBd hF (nI_nn (Nat.lt_of_lt_of_le hlt9i469 (Nat.le_trans hBd.2.2.2.1 (by decide)))) (by rw [nI_clamp (Nat.lt_of_lt_of_le hlt9i469 (Nat.le_trans hBd.2.2.2.1 (by decide)))]; exact hlt9i469)) (cwV 1 hts gX5_digest_X5_freedBy rfl rfl rfl (by decide +kernel) ⟨Nat.le_of_ble_eq_true rfl, Nat.le_of_ble_eq_true rfl⟩) (pc_preV pcN_ok hX hW.1 hM.1 rfl rfl ⟨hW.1, hW.2.1, fun q h => hA q (Nat.le_trans hW.2.2.1 h)⟩) rfl rfl hl.1 rfl (lv_room (Nat.le_of_ble_eq_true rfl)) dX5_digest_189 ⟨Nat.le_of_ble_eq_true rfl, Nat.le_of_ble_eq_true rfl⟩) hW.2.2 (fun r510 _ H locs hwr510 hB hS9 => ?_)
          subst hwr510
          have hW : pcS D vwCl A s.heap NL ad (ctO cA c v w u ad) H locs := ⟨hB, pcD_ct hD9, hS9⟩
          refine lv_i2l (v := (F_X5_freedBy c v w (nI i469)).toInt64) hx hb dX5_digest_192 rfl ?_
          refine lv_ladd hx hb dX5_digest_193 ?_
          refine lv_lstore_n (lv' := [(1, .long ((((s471 * (31 : Int64)) + ((F_X5_ofQuery c v w (nI i469)).toInt64)) * (31 : Int64)) + ((F_X5_freedBy c v w (nI i469)).toInt64))), (3, .int (nI i469)), (0, .ref (ad 5 0))]) hx hb dX5_digest_194 rfl hl (by decide) rfl (fun ls hl => ?_)
          refine lv_iinc (v := nI (i469 + 1)) (lv' := [(3, .int (nI (i469 + 1))), (1, .long ((((s471 * (31 : Int64)) + ((F_X5_ofQuery c v w (nI i469)).toInt64)) * (31 : Int64)) + ((F_X5_freedBy c v w (nI i469)).toInt64))), (0, .ref (ad 5 0))]) hx hb dX5_digest_195 hl (k := 1) rfl (nI_1 i469) (by decide) rfl (fun ls hl => ?_)
          refine lv_goto (tgt := 161) hx hb dX5_digest_198 (by decide) ?_
          have he9F : (FL2_X5_digest c v w k470 (i469 + 1) ((((s471 * (31 : Int64)) + ((F_X5_ofQuery c v w (nI i469)).toInt64)) * (31 : Int64)) + ((F_X5_freedBy c v w (nI i469)).toInt64))) = (FL2_X5_digest c v w (c 3) 0 (FL_X5_digest c v w (c 0) 0 ((((((((((((((((((((((((((1801317 : Int64) + ((F_X5_many0 c v w).toInt64)) * (31 : Int64)) + ((F_X5_many1 c v w).toInt64)) * (31 : Int64)) + ((F_X5_many2 c v w).toInt64)) * (31 : Int64)) + ((F_X5_many3 c v w).toInt64)) * (31 : Int64)) + ((F_X5_many4 c v w).toInt64)) * (31 : Int64)) + ((F_X5_many5 c v w).toInt64)) * (31 : Int64)) + ((F_X5_many6 c v w).toInt64)) * (31 : Int64)) + ((F_X5_many7 c v w).toInt64)) * (31 : Int64)) + ((F_X5_many8 c v w).toInt64)) * (31 : Int64)) + ((F_X5_many9 c v w).toInt64)) * (31 : Int64)) + ((F_X5_many10 c v w).toInt64)) * (31 : Int64)) + ((F_X5_many11 c v w).toInt64)) * (31 : Int64)) + ((F_X5_many12 c v w).toInt64)))) := by rw [← heF]; show (FL2_X5_digest c v w k470 (i469 + 1) ((((s471 * (31 : Int64)) + ((F_X5_ofQuery c v w (nI i469)).toInt64)) * (31 : Int64)) + ((F_X5_freedBy c v w (nI i469)).toInt64))) = (FL2_X5_digest c v w (k470 + 1) i469 s471); rfl
          exact ihk470 (i469 + 1)  ((((s471 * (31 : Int64)) + ((F_X5_ofQuery c v w (nI i469)).toInt64)) * (31 : Int64)) + ((F_X5_freedBy c v w (nI i469)).toInt64)) H locs ls (by omega) he9F hW (lv_sub hl [0, 1, 2] rfl)
      exact K472 (c 3) 0  (FL_X5_digest c v w (c 0) 0 ((((((((((((((((((((((((((1801317 : Int64) + ((F_X5_many0 c v w).toInt64)) * (31 : Int64)) + ((F_X5_many1 c v w).toInt64)) * (31 : Int64)) + ((F_X5_many2 c v w).toInt64)) * (31 : Int64)) + ((F_X5_many3 c v w).toInt64)) * (31 : Int64)) + ((F_X5_many4 c v w).toInt64)) * (31 : Int64)) + ((F_X5_many5 c v w).toInt64)) * (31 : Int64)) + ((F_X5_many6 c v w).toInt64)) * (31 : Int64)) + ((F_X5_many7 c v w).toInt64)) * (31 : Int64)) + ((F_X5_many8 c v w).toInt64)) * (31 : Int64)) + ((F_X5_many9 c v w).toInt64)) * (31 : Int64)) + ((F_X5_many10 c v w).toInt64)) * (31 : Int64)) + ((F_X5_many11 c v w).toInt64)) * (31 : Int64)) + ((F_X5_many12 c v w).toInt64))) _ _ ls (by omega) rfl hW (lv_sub hl [0, 1, 2] rfl)
    | succ k465 ihk465 =>
      intro i464 s466 H locs ls hk heF hW hl
      have hlt : i464 < c 0 := by omega
      have hlt9i464 := hlt
      refine lv_iload_n hx hb dX5_digest_33 rfl (lv_at hl 0 rfl) ?_
      refine lv_aload_n hx hb dX5_digest_34 rfl (lv_at hl 2 rfl) ?_
      refine pc_get (C := RX5) (T := TX5) (N := 13) (ci := 5) hx hb hts (by decide +kernel) hown hX.1 hW.1 5 0 hM.1 rfl rfl 7 (by decide) (hts (.fieldLink RX5 48 "DraftsmanOffice" "sheetCount" "I") (by decide +kernel)) (fun _ h9 => h9) rfl dX5_digest_35 ?_
      refine lv_icmp_ge (tgt := 159) hx hb dX5_digest_38 (by decide) (fun c511 => absurd c511 (nI_ge hlt (Nat.lt_of_le_of_lt hBd.1 (by decide)))) (fun _ => ?_)
      refine lv_iconst (v := 0) hx hb dX5_digest_41 (by decide) ?_
      refine lv_istore (lv' := [(4, .int 0), (3, .int (nI i464)), (1, .long s466), (0, .ref (ad 5 0))]) hx hb dX5_digest_42 hl (by decide) rfl (fun ls hl => ?_)
      refine lv_iload hx hb dX5_digest_44 (lv_at hl 0 rfl) ?_
      refine lv_bipush (v := 9) hx hb dX5_digest_46 (by decide) ?_
      refine lv_icmp_gt (tgt := 72) hx hb dX5_digest_48 (by decide) (fun c512 => absurd c512 (by decide)) (fun _ => ?_)
      refine lv_lload_n hx hb dX5_digest_51 rfl (lv_at hl 2 rfl) ?_
      refine lv_ldc2 (v := 31) hx hb hown (hts (.constantLong RX5 336 31) (by decide +kernel)) dX5_digest_52 ?_
      refine lv_lmul hx hb dX5_digest_55 ?_
      refine lv_aload_n hx hb dX5_digest_56 rfl (lv_at hl 3 rfl) ?_
      refine lv_iload_n hx hb dX5_digest_57 rfl (lv_at hl 1 rfl) ?_
      refine lv_iload hx hb dX5_digest_58 (lv_at hl 0 rfl) ?_
      refine pc_rcalli (va_runV (As := [.int (nI i464), .int 0]) (rest := [.long (s466 * (31 : Int64))]) ⟨hx, hb, hml, hown, hts⟩ (r_X5_ofSheet0 l D cA NL c v w u ad (nI i464) hM hBd hF (nI_nn (Nat.lt_of_lt_of_le hlt9i464 (Nat.le_trans hBd.1 (by decide)))) (by rw [nI_clamp (Nat.lt_of_lt_of_le hlt9i464 (Nat.le_trans hBd.1 (by decide)))]; exact hlt9i464)) (cwV 2 hts gX5_digest_X5_ofSheet rfl rfl rfl (by decide +kernel) ⟨Nat.le_of_ble_eq_true rfl, Nat.le_of_ble_eq_true rfl⟩) (pc_preV pcN_ok hX hW.1 hM.1 rfl rfl hW.1) rfl rfl hl.1 rfl (lv_room (Nat.le_of_ble_eq_true rfl)) dX5_digest_60 ⟨Nat.le_of_ble_eq_true rfl, Nat.le_of_ble_eq_true rfl⟩) hW (fun r513 H locs hwr513 hW => ?_)
      subst hwr513
      refine lv_i2l (v := (F_X5_ofSheet0 c v w (nI i464)).toInt64) hx hb dX5_digest_63 rfl ?_
      refine lv_ladd hx hb dX5_digest_64 ?_
      refine lv_lstore_n (lv' := [(1, .long ((s466 * (31 : Int64)) + ((F_X5_ofSheet0 c v w (nI i464)).toInt64))), (4, .int 0), (3, .int (nI i464)), (0, .ref (ad 5 0))]) hx hb dX5_digest_65 rfl hl (by decide) rfl (fun ls hl => ?_)
      refine lv_iinc (v := 1) (lv' := [(4, .int 1), (1, .long ((s466 * (31 : Int64)) + ((F_X5_ofSheet0 c v w (nI i464)).toInt64))), (3, .int (nI i464)), (0, .ref (ad 5 0))]) hx hb dX5_digest_66 hl (k := 1) rfl (by decide) (by decide) rfl (fun ls hl => ?_)
      refine lv_goto (tgt := 44) hx hb dX5_digest_69 (by decide) ?_
      refine lv_iload hx hb dX5_digest_44 (lv_at hl 0 rfl) ?_
      refine lv_bipush (v := 9) hx hb dX5_digest_46 (by decide) ?_
      refine lv_icmp_gt (tgt := 72) hx hb dX5_digest_48 (by decide) (fun c514 => absurd c514 (by decide)) (fun _ => ?_)
      refine lv_lload_n hx hb dX5_digest_51 rfl (lv_at hl 1 rfl) ?_
      refine lv_ldc2 (v := 31) hx hb hown (hts (.constantLong RX5 336 31) (by decide +kernel)) dX5_digest_52 ?_
      refine lv_lmul hx hb dX5_digest_55 ?_
      refine lv_aload_n hx hb dX5_digest_56 rfl (lv_at hl 3 rfl) ?_
      refine lv_iload_n hx hb dX5_digest_57 rfl (lv_at hl 2 rfl) ?_
      refine lv_iload hx hb dX5_digest_58 (lv_at hl 0 rfl) ?_
      refine pc_rcalli (va_runV (As := [.int (nI i464), .int 1]) (rest := [.long (((s466 * (31 : Int64)) + ((F_X5_ofSheet0 c v w (nI i464)).toInt64)) * (31 : Int64))]) ⟨hx, hb, hml, hown, hts⟩ (r_X5_ofSheet1 l D cA NL c v w u ad (nI i464) hM hBd hF (nI_nn (Nat.lt_of_lt_of_le hlt9i464 (Nat.le_trans hBd.1 (by decide)))) (by rw [nI_clamp (Nat.lt_of_lt_of_le hlt9i464 (Nat.le_trans hBd.1 (by decide)))]; exact hlt9i464)) (cwV 2 hts gX5_digest_X5_ofSheet rfl rfl rfl (by decide +kernel) ⟨Nat.le_of_ble_eq_true rfl, Nat.le_of_ble_eq_true rfl⟩) (pc_preV pcN_ok hX hW.1 hM.1 rfl rfl hW.1) rfl rfl hl.1 rfl (lv_room (Nat.le_of_ble_eq_true rfl)) dX5_digest_60 ⟨Nat.le_of_ble_eq_true rfl, Nat.le_of_ble_eq_true rfl⟩) hW (fun r515 H locs hwr515 hW => ?_)
      subst hwr515
      refine lv_i2l (v := (F_X5_ofSheet1 c v w (nI i464)).toInt64) hx hb dX5_digest_63 rfl ?_
      refine lv_ladd hx hb dX5_digest_64 ?_
      refine lv_lstore_n (lv' := [(1, .long ((((s466 * (31 : Int64)) + ((F_X5_ofSheet0 c v w (nI i464)).toInt64)) * (31 : Int64)) + ((F_X5_ofSheet1 c v w (nI i464)).toInt64))), (4, .int 1), (3, .int (nI i464)), (0, .ref (ad 5 0))]) hx hb dX5_digest_65 rfl hl (by decide) rfl (fun ls hl => ?_)
      refine lv_iinc (v := 2) (lv' := [(4, .int 2), (1, .long ((((s466 * (31 : Int64)) + ((F_X5_ofSheet0 c v w (nI i464)).toInt64)) * (31 : Int64)) + ((F_X5_ofSheet1 c v w (nI i464)).toInt64))), (3, .int (nI i464)), (0, .ref (ad 5 0))]) hx hb dX5_digest_66 hl (k := 1) rfl (by decide) (by decide) rfl (fun ls hl => ?_)
      refine lv_goto (tgt := 44) hx hb dX5_digest_69 (by decide) ?_
      refine lv_iload hx hb dX5_digest_44 (lv_at hl 0 rfl) ?_
      refine lv_bipush (v := 9) hx hb dX5_digest_46 (by decide) ?_
      refine lv_icmp_gt (tgt := 72) hx hb dX5_digest_48 (by decide) (fun c516 => absurd c516 (by decide)) (fun _ => ?_)
      refine lv_lload_n hx hb dX5_digest_51 rfl (lv_at hl 1 rfl) ?_
      refine lv_ldc2 (v := 31) hx hb hown (hts (.constantLong RX5 336 31) (by decide +kernel)) dX5_digest_52 ?_
      refine lv_lmul hx hb dX5_digest_55 ?_
      refine lv_aload_n hx hb dX5_digest_56 rfl (lv_at hl 3 rfl) ?_
      refine lv_iload_n hx hb dX5_digest_57 rfl (lv_at hl 2 rfl) ?_
      refine lv_iload hx hb dX5_digest_58 (lv_at hl 0 rfl) ?_
      refine pc_rcalli (va_runV (As := [.int (nI i464), .int 2]) (rest := [.long (((((s466 * (31 : Int64)) + ((F_X5_ofSheet0 c v w (nI i464)).toInt64)) * (31 : Int64)) + ((F_X5_ofSheet1 c v w (nI i464)).toInt64)) * (31 : Int64))]) ⟨hx, hb, hml, hown, hts⟩ (r_X5_ofSheet2 l D cA NL c v w u ad (nI i464) hM hBd hF (nI_nn (Nat.lt_of_lt_of_le hlt9i464 (Nat.le_trans hBd.1 (by decide)))) (by rw [nI_clamp (Nat.lt_of_lt_of_le hlt9i464 (Nat.le_trans hBd.1 (by decide)))]; exact hlt9i464)) (cwV 2 hts gX5_digest_X5_ofSheet rfl rfl rfl (by decide +kernel) ⟨Nat.le_of_ble_eq_true rfl, Nat.le_of_ble_eq_true rfl⟩) (pc_preV pcN_ok hX hW.1 hM.1 rfl rfl hW.1) rfl rfl hl.1 rfl (lv_room (Nat.le_of_ble_eq_true rfl)) dX5_digest_60 ⟨Nat.le_of_ble_eq_true rfl, Nat.le_of_ble_eq_true rfl⟩) hW (fun r517 H locs hwr517 hW => ?_)
      subst hwr517
      refine lv_i2l (v := (F_X5_ofSheet2 c v w (nI i464)).toInt64) hx hb dX5_digest_63 rfl ?_
      refine lv_ladd hx hb dX5_digest_64 ?_
      refine lv_lstore_n (lv' := [(1, .long ((((((s466 * (31 : Int64)) + ((F_X5_ofSheet0 c v w (nI i464)).toInt64)) * (31 : Int64)) + ((F_X5_ofSheet1 c v w (nI i464)).toInt64)) * (31 : Int64)) + ((F_X5_ofSheet2 c v w (nI i464)).toInt64))), (4, .int 2), (3, .int (nI i464)), (0, .ref (ad 5 0))]) hx hb dX5_digest_65 rfl hl (by decide) rfl (fun ls hl => ?_)
      refine lv_iinc (v := 3) (lv' := [(4, .int 3), (1, .long ((((((s466 * (31 : Int64)) + ((F_X5_ofSheet0 c v w (nI i464)).toInt64)) * (31 : Int64)) + ((F_X5_ofSheet1 c v w (nI i464)).toInt64)) * (31 : Int64)) + ((F_X5_ofSheet2 c v w (nI i464)).toInt64))), (3, .int (nI i464)), (0, .ref (ad 5 0))]) hx hb dX5_digest_66 hl (k := 1) rfl (by decide) (by decide) rfl (fun ls hl => ?_)
      refine lv_goto (tgt := 44) hx hb dX5_digest_69 (by decide) ?_
      refine lv_iload hx hb dX5_digest_44 (lv_at hl 0 rfl) ?_
      refine lv_bipush (v := 9) hx hb dX5_digest_46 (by decide) ?_
      refine lv_icmp_gt (tgt := 72) hx hb dX5_digest_48 (by decide) (fun c518 => absurd c518 (by decide)) (fun _ => ?_)
      refine lv_lload_n hx hb dX5_digest_51 rfl (lv_at hl 1 rfl) ?_
      refine lv_ldc2 (v := 31) hx hb hown (hts (.constantLong RX5 336 31) (by decide +kernel)) dX5_digest_52 ?_
      refine lv_lmul hx hb dX5_digest_55 ?_
      refine lv_aload_n hx hb dX5_digest_56 rfl (lv_at hl 3 rfl) ?_
      refine lv_iload_n hx hb dX5_digest_57 rfl (lv_at hl 2 rfl) ?_
      refine lv_iload hx hb dX5_digest_58 (lv_at hl 0 rfl) ?_
      refine pc_rcalli (va_runV (As := [.int (nI i464), .int 3]) (rest := [.long (((((((s466 * (31 : Int64)) + ((F_X5_ofSheet0 c v w (nI i464)).toInt64)) * (31 : Int64)) + ((F_X5_ofSheet1 c v w (nI i464)).toInt64)) * (31 : Int64)) + ((F_X5_ofSheet2 c v w (nI i464)).toInt64)) * (31 : Int64))]) ⟨hx, hb, hml, hown, hts⟩ (r_X5_ofSheet3 l D cA NL c v w u ad (nI i464) hM hBd hF (nI_nn (Nat.lt_of_lt_of_le hlt9i464 (Nat.le_trans hBd.1 (by decide)))) (by rw [nI_clamp (Nat.lt_of_lt_of_le hlt9i464 (Nat.le_trans hBd.1 (by decide)))]; exact hlt9i464)) (cwV 2 hts gX5_digest_X5_ofSheet rfl rfl rfl (by decide +kernel) ⟨Nat.le_of_ble_eq_true rfl, Nat.le_of_ble_eq_true rfl⟩) (pc_preV pcN_ok hX hW.1 hM.1 rfl rfl hW.1) rfl rfl hl.1 rfl (lv_room (Nat.le_of_ble_eq_true rfl)) dX5_digest_60 ⟨Nat.le_of_ble_eq_true rfl, Nat.le_of_ble_eq_true rfl⟩) hW (fun r519 H locs hwr519 hW => ?_)
      subst hwr519
      refine lv_i2l (v := (F_X5_ofSheet3 c v w (nI i464)).toInt64) hx hb dX5_digest_63 rfl ?_
      refine lv_ladd hx hb dX5_digest_64 ?_
      refine lv_lstore_n (lv' := [(1, .long ((((((((s466 * (31 : Int64)) + ((F_X5_ofSheet0 c v w (nI i464)).toInt64)) * (31 : Int64)) + ((F_X5_ofSheet1 c v w (nI i464)).toInt64)) * (31 : Int64)) + ((F_X5_ofSheet2 c v w (nI i464)).toInt64)) * (31 : Int64)) + ((F_X5_ofSheet3 c v w (nI i464)).toInt64))), (4, .int 3), (3, .int (nI i464)), (0, .ref (ad 5 0))]) hx hb dX5_digest_65 rfl hl (by decide) rfl (fun ls hl => ?_)
      refine lv_iinc (v := 4) (lv' := [(4, .int 4), (1, .long ((((((((s466 * (31 : Int64)) + ((F_X5_ofSheet0 c v w (nI i464)).toInt64)) * (31 : Int64)) + ((F_X5_ofSheet1 c v w (nI i464)).toInt64)) * (31 : Int64)) + ((F_X5_ofSheet2 c v w (nI i464)).toInt64)) * (31 : Int64)) + ((F_X5_ofSheet3 c v w (nI i464)).toInt64))), (3, .int (nI i464)), (0, .ref (ad 5 0))]) hx hb dX5_digest_66 hl (k := 1) rfl (by decide) (by decide) rfl (fun ls hl => ?_)
      refine lv_goto (tgt := 44) hx hb dX5_digest_69 (by decide) ?_
      refine lv_iload hx hb dX5_digest_44 (lv_at hl 0 rfl) ?_
      refine lv_bipush (v := 9) hx hb dX5_digest_46 (by decide) ?_
      refine lv_icmp_gt (tgt := 72) hx hb dX5_digest_48 (by decide) (fun c520 => absurd c520 (by decide)) (fun _ => ?_)
      refine lv_lload_n hx hb dX5_digest_51 rfl (lv_at hl 1 rfl) ?_
      refine lv_ldc2 (v := 31) hx hb hown (hts (.constantLong RX5 336 31) (by decide +kernel)) dX5_digest_52 ?_
      refine lv_lmul hx hb dX5_digest_55 ?_
      refine lv_aload_n hx hb dX5_digest_56 rfl (lv_at hl 3 rfl) ?_
      refine lv_iload_n hx hb dX5_digest_57 rfl (lv_at hl 2 rfl) ?_
      refine lv_iload hx hb dX5_digest_58 (lv_at hl 0 rfl) ?_
      refine pc_rcalli (va_runV (As := [.int (nI i464), .int 4]) (rest := [.long (((((((((s466 * (31 : Int64)) + ((F_X5_ofSheet0 c v w (nI i464)).toInt64)) * (31 : Int64)) + ((F_X5_ofSheet1 c v w (nI i464)).toInt64)) * (31 : Int64)) + ((F_X5_ofSheet2 c v w (nI i464)).toInt64)) * (31 : Int64)) + ((F_X5_ofSheet3 c v w (nI i464)).toInt64)) * (31 : Int64))]) ⟨hx, hb, hml, hown, hts⟩ (r_X5_ofSheet4 l D cA NL c v w u ad (nI i464) hM hBd hF (nI_nn (Nat.lt_of_lt_of_le hlt9i464 (Nat.le_trans hBd.1 (by decide)))) (by rw [nI_clamp (Nat.lt_of_lt_of_le hlt9i464 (Nat.le_trans hBd.1 (by decide)))]; exact hlt9i464)) (cwV 2 hts gX5_digest_X5_ofSheet rfl rfl rfl (by decide +kernel) ⟨Nat.le_of_ble_eq_true rfl, Nat.le_of_ble_eq_true rfl⟩) (pc_preV pcN_ok hX hW.1 hM.1 rfl rfl hW.1) rfl rfl hl.1 rfl (lv_room (Nat.le_of_ble_eq_true rfl)) dX5_digest_60 ⟨Nat.le_of_ble_eq_true rfl, Nat.le_of_ble_eq_true rfl⟩) hW (fun r521 H locs hwr521 hW => ?_)
      subst hwr521
      refine lv_i2l (v := (F_X5_ofSheet4 c v w (nI i464)).toInt64) hx hb dX5_digest_63 rfl ?_
      refine lv_ladd hx hb dX5_digest_64 ?_
      refine lv_lstore_n (lv' := [(1, .long ((((((((((s466 * (31 : Int64)) + ((F_X5_ofSheet0 c v w (nI i464)).toInt64)) * (31 : Int64)) + ((F_X5_ofSheet1 c v w (nI i464)).toInt64)) * (31 : Int64)) + ((F_X5_ofSheet2 c v w (nI i464)).toInt64)) * (31 : Int64)) + ((F_X5_ofSheet3 c v w (nI i464)).toInt64)) * (31 : Int64)) + ((F_X5_ofSheet4 c v w (nI i464)).toInt64))), (4, .int 4), (3, .int (nI i464)), (0, .ref (ad 5 0))]) hx hb dX5_digest_65 rfl hl (by decide) rfl (fun ls hl => ?_)
      refine lv_iinc (v := 5) (lv' := [(4, .int 5), (1, .long ((((((((((s466 * (31 : Int64)) + ((F_X5_ofSheet0 c v w (nI i464)).toInt64)) * (31 : Int64)) + ((F_X5_ofSheet1 c v w (nI i464)).toInt64)) * (31 : Int64)) + ((F_X5_ofSheet2 c v w (nI i464)).toInt64)) * (31 : Int64)) + ((F_X5_ofSheet3 c v w (nI i464)).toInt64)) * (31 : Int64)) + ((F_X5_ofSheet4 c v w (nI i464)).toInt64))), (3, .int (nI i464)), (0, .ref (ad 5 0))]) hx hb dX5_digest_66 hl (k := 1) rfl (by decide) (by decide) rfl (fun ls hl => ?_)
      refine lv_goto (tgt := 44) hx hb dX5_digest_69 (by decide) ?_
      refine lv_iload hx hb dX5_digest_44 (lv_at hl 0 rfl) ?_
      refine lv_bipush (v := 9) hx hb dX5_digest_46 (by decide) ?_
      refine lv_icmp_gt (tgt := 72) hx hb dX5_digest_48 (by decide) (fun c522 => absurd c522 (by decide)) (fun _ => ?_)
      refine lv_lload_n hx hb dX5_digest_51 rfl (lv_at hl 1 rfl) ?_
      refine lv_ldc2 (v := 31) hx hb hown (hts (.constantLong RX5 336 31) (by decide +kernel)) dX5_digest_52 ?_
      refine lv_lmul hx hb dX5_digest_55 ?_
      refine lv_aload_n hx hb dX5_digest_56 rfl (lv_at hl 3 rfl) ?_
      refine lv_iload_n hx hb dX5_digest_57 rfl (lv_at hl 2 rfl) ?_
      refine lv_iload hx hb dX5_digest_58 (lv_at hl 0 rfl) ?_
      refine pc_rcalli (va_runV (As := [.int (nI i464), .int 5]) (rest := [.long (((((((((((s466 * (31 : Int64)) + ((F_X5_ofSheet0 c v w (nI i464)).toInt64)) * (31 : Int64)) + ((F_X5_ofSheet1 c v w (nI i464)).toInt64)) * (31 : Int64)) + ((F_X5_ofSheet2 c v w (nI i464)).toInt64)) * (31 : Int64)) + ((F_X5_ofSheet3 c v w (nI i464)).toInt64)) * (31 : Int64)) + ((F_X5_ofSheet4 c v w (nI i464)).toInt64)) * (31 : Int64))]) ⟨hx, hb, hml, hown, hts⟩ (r_X5_ofSheet5 l D cA NL c v w u ad (nI i464) hM hBd hF (nI_nn (Nat.lt_of_lt_of_le hlt9i464 (Nat.le_trans hBd.1 (by decide)))) (by rw [nI_clamp (Nat.lt_of_lt_of_le hlt9i464 (Nat.le_trans hBd.1 (by decide)))]; exact hlt9i464)) (cwV 2 hts gX5_digest_X5_ofSheet rfl rfl rfl (by decide +kernel) ⟨Nat.le_of_ble_eq_true rfl, Nat.le_of_ble_eq_true rfl⟩) (pc_preV pcN_ok hX hW.1 hM.1 rfl rfl hW.1) rfl rfl hl.1 rfl (lv_room (Nat.le_of_ble_eq_true rfl)) dX5_digest_60 ⟨Nat.le_of_ble_eq_true rfl, Nat.le_of_ble_eq_true rfl⟩) hW (fun r523 H locs hwr523 hW => ?_)
      subst hwr523
      refine lv_i2l (v := (F_X5_ofSheet5 c v w (nI i464)).toInt64) hx hb dX5_digest_63 rfl ?_
      refine lv_ladd hx hb dX5_digest_64 ?_
      refine lv_lstore_n (lv' := [(1, .long ((((((((((((s466 * (31 : Int64)) + ((F_X5_ofSheet0 c v w (nI i464)).toInt64)) * (31 : Int64)) + ((F_X5_ofSheet1 c v w (nI i464)).toInt64)) * (31 : Int64)) + ((F_X5_ofSheet2 c v w (nI i464)).toInt64)) * (31 : Int64)) + ((F_X5_ofSheet3 c v w (nI i464)).toInt64)) * (31 : Int64)) + ((F_X5_ofSheet4 c v w (nI i464)).toInt64)) * (31 : Int64)) + ((F_X5_ofSheet5 c v w (nI i464)).toInt64))), (4, .int 5), (3, .int (nI i464)), (0, .ref (ad 5 0))]) hx hb dX5_digest_65 rfl hl (by decide) rfl (fun ls hl => ?_)
      refine lv_iinc (v := 6) (lv' := [(4, .int 6), (1, .long ((((((((((((s466 * (31 : Int64)) + ((F_X5_ofSheet0 c v w (nI i464)).toInt64)) * (31 : Int64)) + ((F_X5_ofSheet1 c v w (nI i464)).toInt64)) * (31 : Int64)) + ((F_X5_ofSheet2 c v w (nI i464)).toInt64)) * (31 : Int64)) + ((F_X5_ofSheet3 c v w (nI i464)).toInt64)) * (31 : Int64)) + ((F_X5_ofSheet4 c v w (nI i464)).toInt64)) * (31 : Int64)) + ((F_X5_ofSheet5 c v w (nI i464)).toInt64))), (3, .int (nI i464)), (0, .ref (ad 5 0))]) hx hb dX5_digest_66 hl (k := 1) rfl (by decide) (by decide) rfl (fun ls hl => ?_)
      refine lv_goto (tgt := 44) hx hb dX5_digest_69 (by decide) ?_
      refine lv_iload hx hb dX5_digest_44 (lv_at hl 0 rfl) ?_
      refine lv_bipush (v := 9) hx hb dX5_digest_46 (by decide) ?_
      refine lv_icmp_gt (tgt := 72) hx hb dX5_digest_48 (by decide) (fun c524 => absurd c524 (by decide)) (fun _ => ?_)
      refine lv_lload_n hx hb dX5_digest_51 rfl (lv_at hl 1 rfl) ?_
      refine lv_ldc2 (v := 31) hx hb hown (hts (.constantLong RX5 336 31) (by decide +kernel)) dX5_digest_52 ?_
      refine lv_lmul hx hb dX5_digest_55 ?_
      refine lv_aload_n hx hb dX5_digest_56 rfl (lv_at hl 3 rfl) ?_
      refine lv_iload_n hx hb dX5_digest_57 rfl (lv_at hl 2 rfl) ?_
      refine lv_iload hx hb dX5_digest_58 (lv_at hl 0 rfl) ?_
      refine pc_rcalli (va_runV (As := [.int (nI i464), .int 6]) (rest := [.long (((((((((((((s466 * (31 : Int64)) + ((F_X5_ofSheet0 c v w (nI i464)).toInt64)) * (31 : Int64)) + ((F_X5_ofSheet1 c v w (nI i464)).toInt64)) * (31 : Int64)) + ((F_X5_ofSheet2 c v w (nI i464)).toInt64)) * (31 : Int64)) + ((F_X5_ofSheet3 c v w (nI i464)).toInt64)) * (31 : Int64)) + ((F_X5_ofSheet4 c v w (nI i464)).toInt64)) * (31 : Int64)) + ((F_X5_ofSheet5 c v w (nI i464)).toInt64)) * (31 : Int64))]) ⟨hx, hb, hml, hown, hts⟩ (r_X5_ofSheet6 l D cA NL c v w u ad (nI i464) hM hBd hF (nI_nn (Nat.lt_of_lt_of_le hlt9i464 (Nat.le_trans hBd.1 (by decide)))) (by rw [nI_clamp (Nat.lt_of_lt_of_le hlt9i464 (Nat.le_trans hBd.1 (by decide)))]; exact hlt9i464)) (cwV 2 hts gX5_digest_X5_ofSheet rfl rfl rfl (by decide +kernel) ⟨Nat.le_of_ble_eq_true rfl, Nat.le_of_ble_eq_true rfl⟩) (pc_preV pcN_ok hX hW.1 hM.1 rfl rfl hW.1) rfl rfl hl.1 rfl (lv_room (Nat.le_of_ble_eq_true rfl)) dX5_digest_60 ⟨Nat.le_of_ble_eq_true rfl, Nat.le_of_ble_eq_true rfl⟩) hW (fun r525 H locs hwr525 hW => ?_)
      subst hwr525
      refine lv_i2l (v := (F_X5_ofSheet6 c v w (nI i464)).toInt64) hx hb dX5_digest_63 rfl ?_
      refine lv_ladd hx hb dX5_digest_64 ?_
      refine lv_lstore_n (lv' := [(1, .long ((((((((((((((s466 * (31 : Int64)) + ((F_X5_ofSheet0 c v w (nI i464)).toInt64)) * (31 : Int64)) + ((F_X5_ofSheet1 c v w (nI i464)).toInt64)) * (31 : Int64)) + ((F_X5_ofSheet2 c v w (nI i464)).toInt64)) * (31 : Int64)) + ((F_X5_ofSheet3 c v w (nI i464)).toInt64)) * (31 : Int64)) + ((F_X5_ofSheet4 c v w (nI i464)).toInt64)) * (31 : Int64)) + ((F_X5_ofSheet5 c v w (nI i464)).toInt64)) * (31 : Int64)) + ((F_X5_ofSheet6 c v w (nI i464)).toInt64))), (4, .int 6), (3, .int (nI i464)), (0, .ref (ad 5 0))]) hx hb dX5_digest_65 rfl hl (by decide) rfl (fun ls hl => ?_)
      refine lv_iinc (v := 7) (lv' := [(4, .int 7), (1, .long ((((((((((((((s466 * (31 : Int64)) + ((F_X5_ofSheet0 c v w (nI i464)).toInt64)) * (31 : Int64)) + ((F_X5_ofSheet1 c v w (nI i464)).toInt64)) * (31 : Int64)) + ((F_X5_ofSheet2 c v w (nI i464)).toInt64)) * (31 : Int64)) + ((F_X5_ofSheet3 c v w (nI i464)).toInt64)) * (31 : Int64)) + ((F_X5_ofSheet4 c v w (nI i464)).toInt64)) * (31 : Int64)) + ((F_X5_ofSheet5 c v w (nI i464)).toInt64)) * (31 : Int64)) + ((F_X5_ofSheet6 c v w (nI i464)).toInt64))), (3, .int (nI i464)), (0, .ref (ad 5 0))]) hx hb dX5_digest_66 hl (k := 1) rfl (by decide) (by decide) rfl (fun ls hl => ?_)
      refine lv_goto (tgt := 44) hx hb dX5_digest_69 (by decide) ?_
      refine lv_iload hx hb dX5_digest_44 (lv_at hl 0 rfl) ?_
      refine lv_bipush (v := 9) hx hb dX5_digest_46 (by decide) ?_
      refine lv_icmp_gt (tgt := 72) hx hb dX5_digest_48 (by decide) (fun c526 => absurd c526 (by decide)) (fun _ => ?_)
      refine lv_lload_n hx hb dX5_digest_51 rfl (lv_at hl 1 rfl) ?_
      refine lv_ldc2 (v := 31) hx hb hown (hts (.constantLong RX5 336 31) (by decide +kernel)) dX5_digest_52 ?_
      refine lv_lmul hx hb dX5_digest_55 ?_
      refine lv_aload_n hx hb dX5_digest_56 rfl (lv_at hl 3 rfl) ?_
      refine lv_iload_n hx hb dX5_digest_57 rfl (lv_at hl 2 rfl) ?_
      refine lv_iload hx hb dX5_digest_58 (lv_at hl 0 rfl) ?_
      refine pc_rcalli (va_runV (As := [.int (nI i464), .int 7]) (rest := [.long (((((((((((((((s466 * (31 : Int64)) + ((F_X5_ofSheet0 c v w (nI i464)).toInt64)) * (31 : Int64)) + ((F_X5_ofSheet1 c v w (nI i464)).toInt64)) * (31 : Int64)) + ((F_X5_ofSheet2 c v w (nI i464)).toInt64)) * (31 : Int64)) + ((F_X5_ofSheet3 c v w (nI i464)).toInt64)) * (31 : Int64)) + ((F_X5_ofSheet4 c v w (nI i464)).toInt64)) * (31 : Int64)) + ((F_X5_ofSheet5 c v w (nI i464)).toInt64)) * (31 : Int64)) + ((F_X5_ofSheet6 c v w (nI i464)).toInt64)) * (31 : Int64))]) ⟨hx, hb, hml, hown, hts⟩ (r_X5_ofSheet7 l D cA NL c v w u ad (nI i464) hM hBd hF (nI_nn (Nat.lt_of_lt_of_le hlt9i464 (Nat.le_trans hBd.1 (by decide)))) (by rw [nI_clamp (Nat.lt_of_lt_of_le hlt9i464 (Nat.le_trans hBd.1 (by decide)))]; exact hlt9i464)) (cwV 2 hts gX5_digest_X5_ofSheet rfl rfl rfl (by decide +kernel) ⟨Nat.le_of_ble_eq_true rfl, Nat.le_of_ble_eq_true rfl⟩) (pc_preV pcN_ok hX hW.1 hM.1 rfl rfl hW.1) rfl rfl hl.1 rfl (lv_room (Nat.le_of_ble_eq_true rfl)) dX5_digest_60 ⟨Nat.le_of_ble_eq_true rfl, Nat.le_of_ble_eq_true rfl⟩) hW (fun r527 H locs hwr527 hW => ?_)
      subst hwr527
      refine lv_i2l (v := (F_X5_ofSheet7 c v w (nI i464)).toInt64) hx hb dX5_digest_63 rfl ?_
      refine lv_ladd hx hb dX5_digest_64 ?_
      refine lv_lstore_n (lv' := [(1, .long ((((((((((((((((s466 * (31 : Int64)) + ((F_X5_ofSheet0 c v w (nI i464)).toInt64)) * (31 : Int64)) + ((F_X5_ofSheet1 c v w (nI i464)).toInt64)) * (31 : Int64)) + ((F_X5_ofSheet2 c v w (nI i464)).toInt64)) * (31 : Int64)) + ((F_X5_ofSheet3 c v w (nI i464)).toInt64)) * (31 : Int64)) + ((F_X5_ofSheet4 c v w (nI i464)).toInt64)) * (31 : Int64)) + ((F_X5_ofSheet5 c v w (nI i464)).toInt64)) * (31 : Int64)) + ((F_X5_ofSheet6 c v w (nI i464)).toInt64)) * (31 : Int64)) + ((F_X5_ofSheet7 c v w (nI i464)).toInt64))), (4, .int 7), (3, .int (nI i464)), (0, .ref (ad 5 0))]) hx hb dX5_digest_65 rfl hl (by decide) rfl (fun ls hl => ?_)
      refine lv_iinc (v := 8) (lv' := [(4, .int 8), (1, .long ((((((((((((((((s466 * (31 : Int64)) + ((F_X5_ofSheet0 c v w (nI i464)).toInt64)) * (31 : Int64)) + ((F_X5_ofSheet1 c v w (nI i464)).toInt64)) * (31 : Int64)) + ((F_X5_ofSheet2 c v w (nI i464)).toInt64)) * (31 : Int64)) + ((F_X5_ofSheet3 c v w (nI i464)).toInt64)) * (31 : Int64)) + ((F_X5_ofSheet4 c v w (nI i464)).toInt64)) * (31 : Int64)) + ((F_X5_ofSheet5 c v w (nI i464)).toInt64)) * (31 : Int64)) + ((F_X5_ofSheet6 c v w (nI i464)).toInt64)) * (31 : Int64)) + ((F_X5_ofSheet7 c v w (nI i464)).toInt64))), (3, .int (nI i464)), (0, .ref (ad 5 0))]) hx hb dX5_digest_66 hl (k := 1) rfl (by decide) (by decide) rfl (fun ls hl => ?_)
      refine lv_goto (tgt := 44) hx hb dX5_digest_69 (by decide) ?_
      refine lv_iload hx hb dX5_digest_44 (lv_at hl 0 rfl) ?_
      refine lv_bipush (v := 9) hx hb dX5_digest_46 (by decide) ?_
      refine lv_icmp_gt (tgt := 72) hx hb dX5_digest_48 (by decide) (fun c528 => absurd c528 (by decide)) (fun _ => ?_)
      refine lv_lload_n hx hb dX5_digest_51 rfl (lv_at hl 1 rfl) ?_
      refine lv_ldc2 (v := 31) hx hb hown (hts (.constantLong RX5 336 31) (by decide +kernel)) dX5_digest_52 ?_
      refine lv_lmul hx hb dX5_digest_55 ?_
      refine lv_aload_n hx hb dX5_digest_56 rfl (lv_at hl 3 rfl) ?_
      refine lv_iload_n hx hb dX5_digest_57 rfl (lv_at hl 2 rfl) ?_
      refine lv_iload hx hb dX5_digest_58 (lv_at hl 0 rfl) ?_
      refine pc_rcalli (va_runV (As := [.int (nI i464), .int 8]) (rest := [.long (((((((((((((((((s466 * (31 : Int64)) + ((F_X5_ofSheet0 c v w (nI i464)).toInt64)) * (31 : Int64)) + ((F_X5_ofSheet1 c v w (nI i464)).toInt64)) * (31 : Int64)) + ((F_X5_ofSheet2 c v w (nI i464)).toInt64)) * (31 : Int64)) + ((F_X5_ofSheet3 c v w (nI i464)).toInt64)) * (31 : Int64)) + ((F_X5_ofSheet4 c v w (nI i464)).toInt64)) * (31 : Int64)) + ((F_X5_ofSheet5 c v w (nI i464)).toInt64)) * (31 : Int64)) + ((F_X5_ofSheet6 c v w (nI i464)).toInt64)) * (31 : Int64)) + ((F_X5_ofSheet7 c v w (nI i464)).toInt64)) * (31 : Int64))]) ⟨hx, hb, hml, hown, hts⟩ (r_X5_ofSheet8 l D cA NL c v w u ad (nI i464) hM hBd hF (nI_nn (Nat.lt_of_lt_of_le hlt9i464 (Nat.le_trans hBd.1 (by decide)))) (by rw [nI_clamp (Nat.lt_of_lt_of_le hlt9i464 (Nat.le_trans hBd.1 (by decide)))]; exact hlt9i464)) (cwV 2 hts gX5_digest_X5_ofSheet rfl rfl rfl (by decide +kernel) ⟨Nat.le_of_ble_eq_true rfl, Nat.le_of_ble_eq_true rfl⟩) (pc_preV pcN_ok hX hW.1 hM.1 rfl rfl hW.1) rfl rfl hl.1 rfl (lv_room (Nat.le_of_ble_eq_true rfl)) dX5_digest_60 ⟨Nat.le_of_ble_eq_true rfl, Nat.le_of_ble_eq_true rfl⟩) hW (fun r529 H locs hwr529 hW => ?_)
      subst hwr529
      refine lv_i2l (v := (F_X5_ofSheet8 c v w (nI i464)).toInt64) hx hb dX5_digest_63 rfl ?_
      refine lv_ladd hx hb dX5_digest_64 ?_
      refine lv_lstore_n (lv' := [(1, .long ((((((((((((((((((s466 * (31 : Int64)) + ((F_X5_ofSheet0 c v w (nI i464)).toInt64)) * (31 : Int64)) + ((F_X5_ofSheet1 c v w (nI i464)).toInt64)) * (31 : Int64)) + ((F_X5_ofSheet2 c v w (nI i464)).toInt64)) * (31 : Int64)) + ((F_X5_ofSheet3 c v w (nI i464)).toInt64)) * (31 : Int64)) + ((F_X5_ofSheet4 c v w (nI i464)).toInt64)) * (31 : Int64)) + ((F_X5_ofSheet5 c v w (nI i464)).toInt64)) * (31 : Int64)) + ((F_X5_ofSheet6 c v w (nI i464)).toInt64)) * (31 : Int64)) + ((F_X5_ofSheet7 c v w (nI i464)).toInt64)) * (31 : Int64)) + ((F_X5_ofSheet8 c v w (nI i464)).toInt64))), (4, .int 8), (3, .int (nI i464)), (0, .ref (ad 5 0))]) hx hb dX5_digest_65 rfl hl (by decide) rfl (fun ls hl => ?_)
      refine lv_iinc (v := 9) (lv' := [(4, .int 9), (1, .long ((((((((((((((((((s466 * (31 : Int64)) + ((F_X5_ofSheet0 c v w (nI i464)).toInt64)) * (31 : Int64)) + ((F_X5_ofSheet1 c v w (nI i464)).toInt64)) * (31 : Int64)) + ((F_X5_ofSheet2 c v w (nI i464)).toInt64)) * (31 : Int64)) + ((F_X5_ofSheet3 c v w (nI i464)).toInt64)) * (31 : Int64)) + ((F_X5_ofSheet4 c v w (nI i464)).toInt64)) * (31 : Int64)) + ((F_X5_ofSheet5 c v w (nI i464)).toInt64)) * (31 : Int64)) + ((F_X5_ofSheet6 c v w (nI i464)).toInt64)) * (31 : Int64)) + ((F_X5_ofSheet7 c v w (nI i464)).toInt64)) * (31 : Int64)) + ((F_X5_ofSheet8 c v w (nI i464)).toInt64))), (3, .int (nI i464)), (0, .ref (ad 5 0))]) hx hb dX5_digest_66 hl (k := 1) rfl (by decide) (by decide) rfl (fun ls hl => ?_)
      refine lv_goto (tgt := 44) hx hb dX5_digest_69 (by decide) ?_
      refine lv_iload hx hb dX5_digest_44 (lv_at hl 0 rfl) ?_
      refine lv_bipush (v := 9) hx hb dX5_digest_46 (by decide) ?_
      refine lv_icmp_gt (tgt := 72) hx hb dX5_digest_48 (by decide) (fun c530 => absurd c530 (by decide)) (fun _ => ?_)
      refine lv_lload_n hx hb dX5_digest_51 rfl (lv_at hl 1 rfl) ?_
      refine lv_ldc2 (v := 31) hx hb hown (hts (.constantLong RX5 336 31) (by decide +kernel)) dX5_digest_52 ?_
      refine lv_lmul hx hb dX5_digest_55 ?_
      refine lv_aload_n hx hb dX5_digest_56 rfl (lv_at hl 3 rfl) ?_
      refine lv_iload_n hx hb dX5_digest_57 rfl (lv_at hl 2 rfl) ?_
      refine lv_iload hx hb dX5_digest_58 (lv_at hl 0 rfl) ?_
      refine pc_rcalli (va_runV (As := [.int (nI i464), .int 9]) (rest := [.long (((((((((((((((((((s466 * (31 : Int64)) + ((F_X5_ofSheet0 c v w (nI i464)).toInt64)) * (31 : Int64)) + ((F_X5_ofSheet1 c v w (nI i464)).toInt64)) * (31 : Int64)) + ((F_X5_ofSheet2 c v w (nI i464)).toInt64)) * (31 : Int64)) + ((F_X5_ofSheet3 c v w (nI i464)).toInt64)) * (31 : Int64)) + ((F_X5_ofSheet4 c v w (nI i464)).toInt64)) * (31 : Int64)) + ((F_X5_ofSheet5 c v w (nI i464)).toInt64)) * (31 : Int64)) + ((F_X5_ofSheet6 c v w (nI i464)).toInt64)) * (31 : Int64)) + ((F_X5_ofSheet7 c v w (nI i464)).toInt64)) * (31 : Int64)) + ((F_X5_ofSheet8 c v w (nI i464)).toInt64)) * (31 : Int64))]) ⟨hx, hb, hml, hown, hts⟩ (r_X5_ofSheet9 l D cA NL c v w u ad (nI i464) hM hBd hF (nI_nn (Nat.lt_of_lt_of_le hlt9i464 (Nat.le_trans hBd.1 (by decide)))) (by rw [nI_clamp (Nat.lt_of_lt_of_le hlt9i464 (Nat.le_trans hBd.1 (by decide)))]; exact hlt9i464)) (cwV 2 hts gX5_digest_X5_ofSheet rfl rfl rfl (by decide +kernel) ⟨Nat.le_of_ble_eq_true rfl, Nat.le_of_ble_eq_true rfl⟩) (pc_preV pcN_ok hX hW.1 hM.1 rfl rfl hW.1) rfl rfl hl.1 rfl (lv_room (Nat.le_of_ble_eq_true rfl)) dX5_digest_60 ⟨Nat.le_of_ble_eq_true rfl, Nat.le_of_ble_eq_true rfl⟩) hW (fun r531 H locs hwr531 hW => ?_)
      subst hwr531
      refine lv_i2l (v := (F_X5_ofSheet9 c v w (nI i464)).toInt64) hx hb dX5_digest_63 rfl ?_
      refine lv_ladd hx hb dX5_digest_64 ?_
      refine lv_lstore_n (lv' := [(1, .long ((((((((((((((((((((s466 * (31 : Int64)) + ((F_X5_ofSheet0 c v w (nI i464)).toInt64)) * (31 : Int64)) + ((F_X5_ofSheet1 c v w (nI i464)).toInt64)) * (31 : Int64)) + ((F_X5_ofSheet2 c v w (nI i464)).toInt64)) * (31 : Int64)) + ((F_X5_ofSheet3 c v w (nI i464)).toInt64)) * (31 : Int64)) + ((F_X5_ofSheet4 c v w (nI i464)).toInt64)) * (31 : Int64)) + ((F_X5_ofSheet5 c v w (nI i464)).toInt64)) * (31 : Int64)) + ((F_X5_ofSheet6 c v w (nI i464)).toInt64)) * (31 : Int64)) + ((F_X5_ofSheet7 c v w (nI i464)).toInt64)) * (31 : Int64)) + ((F_X5_ofSheet8 c v w (nI i464)).toInt64)) * (31 : Int64)) + ((F_X5_ofSheet9 c v w (nI i464)).toInt64))), (4, .int 9), (3, .int (nI i464)), (0, .ref (ad 5 0))]) hx hb dX5_digest_65 rfl hl (by decide) rfl (fun ls hl => ?_)
      refine lv_iinc (v := 10) (lv' := [(4, .int 10), (1, .long ((((((((((((((((((((s466 * (31 : Int64)) + ((F_X5_ofSheet0 c v w (nI i464)).toInt64)) * (31 : Int64)) + ((F_X5_ofSheet1 c v w (nI i464)).toInt64)) * (31 : Int64)) + ((F_X5_ofSheet2 c v w (nI i464)).toInt64)) * (31 : Int64)) + ((F_X5_ofSheet3 c v w (nI i464)).toInt64)) * (31 : Int64)) + ((F_X5_ofSheet4 c v w (nI i464)).toInt64)) * (31 : Int64)) + ((F_X5_ofSheet5 c v w (nI i464)).toInt64)) * (31 : Int64)) + ((F_X5_ofSheet6 c v w (nI i464)).toInt64)) * (31 : Int64)) + ((F_X5_ofSheet7 c v w (nI i464)).toInt64)) * (31 : Int64)) + ((F_X5_ofSheet8 c v w (nI i464)).toInt64)) * (31 : Int64)) + ((F_X5_ofSheet9 c v w (nI i464)).toInt64))), (3, .int (nI i464)), (0, .ref (ad 5 0))]) hx hb dX5_digest_66 hl (k := 1) rfl (by decide) (by decide) rfl (fun ls hl => ?_)
      refine lv_goto (tgt := 44) hx hb dX5_digest_69 (by decide) ?_
      refine lv_iload hx hb dX5_digest_44 (lv_at hl 0 rfl) ?_
      refine lv_bipush (v := 9) hx hb dX5_digest_46 (by decide) ?_
      refine lv_icmp_gt (tgt := 72) hx hb dX5_digest_48 (by decide) (fun _ => ?_) (fun c532 => absurd (by decide) c532)
      refine lv_iconst (v := 0) hx hb dX5_digest_72 (by decide) ?_
      refine lv_istore (lv' := [(4, .int 0), (1, .long ((((((((((((((((((((s466 * (31 : Int64)) + ((F_X5_ofSheet0 c v w (nI i464)).toInt64)) * (31 : Int64)) + ((F_X5_ofSheet1 c v w (nI i464)).toInt64)) * (31 : Int64)) + ((F_X5_ofSheet2 c v w (nI i464)).toInt64)) * (31 : Int64)) + ((F_X5_ofSheet3 c v w (nI i464)).toInt64)) * (31 : Int64)) + ((F_X5_ofSheet4 c v w (nI i464)).toInt64)) * (31 : Int64)) + ((F_X5_ofSheet5 c v w (nI i464)).toInt64)) * (31 : Int64)) + ((F_X5_ofSheet6 c v w (nI i464)).toInt64)) * (31 : Int64)) + ((F_X5_ofSheet7 c v w (nI i464)).toInt64)) * (31 : Int64)) + ((F_X5_ofSheet8 c v w (nI i464)).toInt64)) * (31 : Int64)) + ((F_X5_ofSheet9 c v w (nI i464)).toInt64))), (3, .int (nI i464)), (0, .ref (ad 5 0))]) hx hb dX5_digest_73 hl (by decide) rfl (fun ls hl => ?_)
      have K536 : ∀ (k534 i533 : Nat) (s535 : Int64) (H : Heap) (locs : List Loc) (ls : Array Slot), i533 + k534 = ((v 1 i464 1).toNatClampNeg + 1) → (FL4_X5_digest c v w i464 k534 i533 s535) = (FL4_X5_digest c v w i464 (((v 1 i464 1).toNatClampNeg + 1)) 0 ((((((((((((((((((((s466 * (31 : Int64)) + ((F_X5_ofSheet0 c v w (nI i464)).toInt64)) * (31 : Int64)) + ((F_X5_ofSheet1 c v w (nI i464)).toInt64)) * (31 : Int64)) + ((F_X5_ofSheet2 c v w (nI i464)).toInt64)) * (31 : Int64)) + ((F_X5_ofSheet3 c v w (nI i464)).toInt64)) * (31 : Int64)) + ((F_X5_ofSheet4 c v w (nI i464)).toInt64)) * (31 : Int64)) + ((F_X5_ofSheet5 c v w (nI i464)).toInt64)) * (31 : Int64)) + ((F_X5_ofSheet6 c v w (nI i464)).toInt64)) * (31 : Int64)) + ((F_X5_ofSheet7 c v w (nI i464)).toInt64)) * (31 : Int64)) + ((F_X5_ofSheet8 c v w (nI i464)).toInt64)) * (31 : Int64)) + ((F_X5_ofSheet9 c v w (nI i464)).toInt64))) → pcS D vwCl A s.heap NL ad (ctO cA c v w u ad) H locs → lv_has ls 5 [(4, .int (nI i533)), (1, .long s535), (3, .int (nI i464)), (0, .ref (ad 5 0))] → W p l e (headSpec wsX5_digest ({ frames := 7, cells := 0, slots := 0, locals := 166 })).room s m ([.ref (ad 5 0)] : List Value).toArray below meth c0 H locs 0 0 (MQ below (va_Ql (fun (r : Int64) (_ : Unit) => r = F_X5_digest c v w) (fun (_ : Unit) t => va_P D vwCl (pcW NL ad (ctO cA c v w (U_X5_digest c v w) ad)) t.heap) A) ([.ref (ad 5 0)] : List Value).toArray s 0 0 A) (F0 m 75 ls []) := by
        intro k534
        induction k534 with
        | zero =>
          intro i533 s535 H locs ls hk heF hW hl
          have ei : i533 = ((v 1 i464 1).toNatClampNeg + 1) := by omega
          rw [ei] at hl
          obtain rfl : s535 = (FL4_X5_digest c v w i464 (((v 1 i464 1).toNatClampNeg + 1)) 0 ((((((((((((((((((((s466 * (31 : Int64)) + ((F_X5_ofSheet0 c v w (nI i464)).toInt64)) * (31 : Int64)) + ((F_X5_ofSheet1 c v w (nI i464)).toInt64)) * (31 : Int64)) + ((F_X5_ofSheet2 c v w (nI i464)).toInt64)) * (31 : Int64)) + ((F_X5_ofSheet3 c v w (nI i464)).toInt64)) * (31 : Int64)) + ((F_X5_ofSheet4 c v w (nI i464)).toInt64)) * (31 : Int64)) + ((F_X5_ofSheet5 c v w (nI i464)).toInt64)) * (31 : Int64)) + ((F_X5_ofSheet6 c v w (nI i464)).toInt64)) * (31 : Int64)) + ((F_X5_ofSheet7 c v w (nI i464)).toInt64)) * (31 : Int64)) + ((F_X5_ofSheet8 c v w (nI i464)).toInt64)) * (31 : Int64)) + ((F_X5_ofSheet9 c v w (nI i464)).toInt64))) := heF
          refine lv_iload hx hb dX5_digest_75 (lv_at hl 0 rfl) ?_
          refine lv_aload_n hx hb dX5_digest_77 rfl (lv_at hl 3 rfl) ?_
          refine pc_get (C := RX5) (T := TX5) (N := 13) (ci := 5) hx hb hts (by decide +kernel) hown hX.1 hW.1 5 0 hM.1 rfl rfl 0 (by decide) (hts (.fieldLink RX5 11 "DraftsmanOffice" "sheets" "[LDraftsmanOffice$Sheet;") (by decide +kernel)) (fun _ h9 => h9) rfl dX5_digest_78 ?_
          refine lv_iload_n hx hb dX5_digest_81 rfl (lv_at hl 2 rfl) ?_
          refine pc_aald (r := .ref (ad 1 i464)) hx hb hX.1 hW.1 50 0 3 (hM.2.1 50 (by decide) (by decide)) rfl rfl rfl (vp_in_nI (Nat.lt_of_lt_of_le hlt9i464 hBd.1) (by decide)) (by rw [nI_clamp (Nat.lt_of_lt_of_le (Nat.lt_of_lt_of_le hlt9i464 hBd.1) (by decide)), sRf_in hlt9i464]; rfl) dX5_digest_82 ?_
          refine pc_getN (C := RX3) (T := TX3) (N := 10) (ci := 3) hx hb hts (by decide +kernel) hown hX.1 hW.1 1 i464 (hM.2.2.2.1 i464 hlt9i464).1 rfl rfl 3 (by decide) (hX.2.1 (.fieldLinkNest RX5 115 "DraftsmanOffice$Sheet" "last" "I" R_host) (by decide +kernel)) (fun _ h9 => h9) rfl dX5_digest_83 ?_
          refine lv_icmp_gt (tgt := 110) hx hb dX5_digest_86 (by decide) (fun _ => ?_) (fun c537 => absurd (last_exit (hF.2.2 i464 hlt9i464).1 (hF.2.2 i464 hlt9i464).2) c537)
          refine lv_iconst (v := 0) hx hb dX5_digest_110 (by decide) ?_
          refine lv_istore (lv' := [(4, .int 0), (1, .long (FL4_X5_digest c v w i464 (((v 1 i464 1).toNatClampNeg + 1)) 0 ((((((((((((((((((((s466 * (31 : Int64)) + ((F_X5_ofSheet0 c v w (nI i464)).toInt64)) * (31 : Int64)) + ((F_X5_ofSheet1 c v w (nI i464)).toInt64)) * (31 : Int64)) + ((F_X5_ofSheet2 c v w (nI i464)).toInt64)) * (31 : Int64)) + ((F_X5_ofSheet3 c v w (nI i464)).toInt64)) * (31 : Int64)) + ((F_X5_ofSheet4 c v w (nI i464)).toInt64)) * (31 : Int64)) + ((F_X5_ofSheet5 c v w (nI i464)).toInt64)) * (31 : Int64)) + ((F_X5_ofSheet6 c v w (nI i464)).toInt64)) * (31 : Int64)) + ((F_X5_ofSheet7 c v w (nI i464)).toInt64)) * (31 : Int64)) + ((F_X5_ofSheet8 c v w (nI i464)).toInt64)) * (31 : Int64)) + ((F_X5_ofSheet9 c v w (nI i464)).toInt64)))), (3, .int (nI i464)), (0, .ref (ad 5 0))]) hx hb dX5_digest_111 hl (by decide) rfl (fun ls hl => ?_)
          refine lv_iload hx hb dX5_digest_113 (lv_at hl 0 rfl) ?_
          refine lv_iconst (v := 4) hx hb dX5_digest_115 (by decide) ?_
          refine lv_icmp_ge (tgt := 140) hx hb dX5_digest_116 (by decide) (fun c538 => absurd c538 (by decide)) (fun _ => ?_)
          refine lv_lload_n hx hb dX5_digest_119 rfl (lv_at hl 1 rfl) ?_
          refine lv_ldc2 (v := 31) hx hb hown (hts (.constantLong RX5 336 31) (by decide +kernel)) dX5_digest_120 ?_
          refine lv_lmul hx hb dX5_digest_123 ?_
          refine lv_aload_n hx hb dX5_digest_124 rfl (lv_at hl 3 rfl) ?_
          refine lv_iload hx hb dX5_digest_125 (lv_at hl 0 rfl) ?_
          refine lv_iload_n hx hb dX5_digest_127 rfl (lv_at hl 2 rfl) ?_
          refine pc_rcalli (va_runV (As := [.int 0, .int (nI i464)]) (rest := [.long ((FL4_X5_digest c v w i464 (((v 1 i464 1).toNatClampNeg + 1)) 0 ((((((((((((((((((((s466 * (31 : Int64)) + ((F_X5_ofSheet0 c v w (nI i464)).toInt64)) * (31 : Int64)) + ((F_X5_ofSheet1 c v w (nI i464)).toInt64)) * (31 : Int64)) + ((F_X5_ofSheet2 c v w (nI i464)).toInt64)) * (31 : Int64)) + ((F_X5_ofSheet3 c v w (nI i464)).toInt64)) * (31 : Int64)) + ((F_X5_ofSheet4 c v w (nI i464)).toInt64)) * (31 : Int64)) + ((F_X5_ofSheet5 c v w (nI i464)).toInt64)) * (31 : Int64)) + ((F_X5_ofSheet6 c v w (nI i464)).toInt64)) * (31 : Int64)) + ((F_X5_ofSheet7 c v w (nI i464)).toInt64)) * (31 : Int64)) + ((F_X5_ofSheet8 c v w (nI i464)).toInt64)) * (31 : Int64)) + ((F_X5_ofSheet9 c v w (nI i464)).toInt64))) * (31 : Int64))]) ⟨hx, hb, hml, hown, hts⟩ (r_X5_has l D cA NL c v w u ad (0 : Int32) (nI i464) hM hBd hF (by decide) (by decide) (nI_nn (Nat.lt_of_lt_of_le hlt9i464 (Nat.le_trans hBd.1 (by decide)))) (by rw [nI_clamp (Nat.lt_of_lt_of_le hlt9i464 (Nat.le_trans hBd.1 (by decide)))]; exact hlt9i464)) (cwV 2 hts gX5_digest_X5_has rfl rfl rfl (by decide +kernel) ⟨Nat.le_of_ble_eq_true rfl, Nat.le_of_ble_eq_true rfl⟩) (pc_preV pcN_ok hX hW.1 hM.1 rfl rfl hW.1) rfl rfl hl.1 rfl (lv_room (Nat.le_of_ble_eq_true rfl)) dX5_digest_128 ⟨Nat.le_of_ble_eq_true rfl, Nat.le_of_ble_eq_true rfl⟩) hW (fun r539 H locs hwr539 hW => ?_)
          subst hwr539
          refine lv_i2l (v := (F_X5_has c v w (0 : Int32) (nI i464)).toInt64) hx hb dX5_digest_131 rfl ?_
          refine lv_ladd hx hb dX5_digest_132 ?_
          refine lv_lstore_n (lv' := [(1, .long (((FL4_X5_digest c v w i464 (((v 1 i464 1).toNatClampNeg + 1)) 0 ((((((((((((((((((((s466 * (31 : Int64)) + ((F_X5_ofSheet0 c v w (nI i464)).toInt64)) * (31 : Int64)) + ((F_X5_ofSheet1 c v w (nI i464)).toInt64)) * (31 : Int64)) + ((F_X5_ofSheet2 c v w (nI i464)).toInt64)) * (31 : Int64)) + ((F_X5_ofSheet3 c v w (nI i464)).toInt64)) * (31 : Int64)) + ((F_X5_ofSheet4 c v w (nI i464)).toInt64)) * (31 : Int64)) + ((F_X5_ofSheet5 c v w (nI i464)).toInt64)) * (31 : Int64)) + ((F_X5_ofSheet6 c v w (nI i464)).toInt64)) * (31 : Int64)) + ((F_X5_ofSheet7 c v w (nI i464)).toInt64)) * (31 : Int64)) + ((F_X5_ofSheet8 c v w (nI i464)).toInt64)) * (31 : Int64)) + ((F_X5_ofSheet9 c v w (nI i464)).toInt64))) * (31 : Int64)) + ((F_X5_has c v w (0 : Int32) (nI i464)).toInt64))), (4, .int 0), (3, .int (nI i464)), (0, .ref (ad 5 0))]) hx hb dX5_digest_133 rfl hl (by decide) rfl (fun ls hl => ?_)
          refine lv_iinc (v := 1) (lv' := [(4, .int 1), (1, .long (((FL4_X5_digest c v w i464 (((v 1 i464 1).toNatClampNeg + 1)) 0 ((((((((((((((((((((s466 * (31 : Int64)) + ((F_X5_ofSheet0 c v w (nI i464)).toInt64)) * (31 : Int64)) + ((F_X5_ofSheet1 c v w (nI i464)).toInt64)) * (31 : Int64)) + ((F_X5_ofSheet2 c v w (nI i464)).toInt64)) * (31 : Int64)) + ((F_X5_ofSheet3 c v w (nI i464)).toInt64)) * (31 : Int64)) + ((F_X5_ofSheet4 c v w (nI i464)).toInt64)) * (31 : Int64)) + ((F_X5_ofSheet5 c v w (nI i464)).toInt64)) * (31 : Int64)) + ((F_X5_ofSheet6 c v w (nI i464)).toInt64)) * (31 : Int64)) + ((F_X5_ofSheet7 c v w (nI i464)).toInt64)) * (31 : Int64)) + ((F_X5_ofSheet8 c v w (nI i464)).toInt64)) * (31 : Int64)) + ((F_X5_ofSheet9 c v w (nI i464)).toInt64))) * (31 : Int64)) + ((F_X5_has c v w (0 : Int32) (nI i464)).toInt64))), (3, .int (nI i464)), (0, .ref (ad 5 0))]) hx hb dX5_digest_134 hl (k := 1) rfl (by decide) (by decide) rfl (fun ls hl => ?_)
          refine lv_goto (tgt := 113) hx hb dX5_digest_137 (by decide) ?_
          refine lv_iload hx hb dX5_digest_113 (lv_at hl 0 rfl) ?_
          refine lv_iconst (v := 4) hx hb dX5_digest_115 (by decide) ?_
          refine lv_icmp_ge (tgt := 140) hx hb dX5_digest_116 (by decide) (fun c540 => absurd c540 (by decide)) (fun _ => ?_)
          refine lv_lload_n hx hb dX5_digest_119 rfl (lv_at hl 1 rfl) ?_
          refine lv_ldc2 (v := 31) hx hb hown (hts (.constantLong RX5 336 31) (by decide +kernel)) dX5_digest_120 ?_
          refine lv_lmul hx hb dX5_digest_123 ?_
          refine lv_aload_n hx hb dX5_digest_124 rfl (lv_at hl 3 rfl) ?_
          refine lv_iload hx hb dX5_digest_125 (lv_at hl 0 rfl) ?_
          refine lv_iload_n hx hb dX5_digest_127 rfl (lv_at hl 2 rfl) ?_
          refine pc_rcalli (va_runV (As := [.int 1, .int (nI i464)]) (rest := [.long ((((FL4_X5_digest c v w i464 (((v 1 i464 1).toNatClampNeg + 1)) 0 ((((((((((((((((((((s466 * (31 : Int64)) + ((F_X5_ofSheet0 c v w (nI i464)).toInt64)) * (31 : Int64)) + ((F_X5_ofSheet1 c v w (nI i464)).toInt64)) * (31 : Int64)) + ((F_X5_ofSheet2 c v w (nI i464)).toInt64)) * (31 : Int64)) + ((F_X5_ofSheet3 c v w (nI i464)).toInt64)) * (31 : Int64)) + ((F_X5_ofSheet4 c v w (nI i464)).toInt64)) * (31 : Int64)) + ((F_X5_ofSheet5 c v w (nI i464)).toInt64)) * (31 : Int64)) + ((F_X5_ofSheet6 c v w (nI i464)).toInt64)) * (31 : Int64)) + ((F_X5_ofSheet7 c v w (nI i464)).toInt64)) * (31 : Int64)) + ((F_X5_ofSheet8 c v w (nI i464)).toInt64)) * (31 : Int64)) + ((F_X5_ofSheet9 c v w (nI i464)).toInt64))) * (31 : Int64)) + ((F_X5_has c v w (0 : Int32) (nI i464)).toInt64)) * (31 : Int64))]) ⟨hx, hb, hml, hown, hts⟩ (r_X5_has l D cA NL c v w u ad (1 : Int32) (nI i464) hM hBd hF (by decide) (by decide) (nI_nn (Nat.lt_of_lt_of_le hlt9i464 (Nat.le_trans hBd.1 (by decide)))) (by rw [nI_clamp (Nat.lt_of_lt_of_le hlt9i464 (Nat.le_trans hBd.1 (by decide)))]; exact hlt9i464)) (cwV 2 hts gX5_digest_X5_has rfl rfl rfl (by decide +kernel) ⟨Nat.le_of_ble_eq_true rfl, Nat.le_of_ble_eq_true rfl⟩) (pc_preV pcN_ok hX hW.1 hM.1 rfl rfl hW.1) rfl rfl hl.1 rfl (lv_room (Nat.le_of_ble_eq_true rfl)) dX5_digest_128 ⟨Nat.le_of_ble_eq_true rfl, Nat.le_of_ble_eq_true rfl⟩) hW (fun r541 H locs hwr541 hW => ?_)
          subst hwr541
          refine lv_i2l (v := (F_X5_has c v w (1 : Int32) (nI i464)).toInt64) hx hb dX5_digest_131 rfl ?_
          refine lv_ladd hx hb dX5_digest_132 ?_
          refine lv_lstore_n (lv' := [(1, .long (((((FL4_X5_digest c v w i464 (((v 1 i464 1).toNatClampNeg + 1)) 0 ((((((((((((((((((((s466 * (31 : Int64)) + ((F_X5_ofSheet0 c v w (nI i464)).toInt64)) * (31 : Int64)) + ((F_X5_ofSheet1 c v w (nI i464)).toInt64)) * (31 : Int64)) + ((F_X5_ofSheet2 c v w (nI i464)).toInt64)) * (31 : Int64)) + ((F_X5_ofSheet3 c v w (nI i464)).toInt64)) * (31 : Int64)) + ((F_X5_ofSheet4 c v w (nI i464)).toInt64)) * (31 : Int64)) + ((F_X5_ofSheet5 c v w (nI i464)).toInt64)) * (31 : Int64)) + ((F_X5_ofSheet6 c v w (nI i464)).toInt64)) * (31 : Int64)) + ((F_X5_ofSheet7 c v w (nI i464)).toInt64)) * (31 : Int64)) + ((F_X5_ofSheet8 c v w (nI i464)).toInt64)) * (31 : Int64)) + ((F_X5_ofSheet9 c v w (nI i464)).toInt64))) * (31 : Int64)) + ((F_X5_has c v w (0 : Int32) (nI i464)).toInt64)) * (31 : Int64)) + ((F_X5_has c v w (1 : Int32) (nI i464)).toInt64))), (4, .int 1), (3, .int (nI i464)), (0, .ref (ad 5 0))]) hx hb dX5_digest_133 rfl hl (by decide) rfl (fun ls hl => ?_)
          refine lv_iinc (v := 2) (lv' := [(4, .int 2), (1, .long (((((FL4_X5_digest c v w i464 (((v 1 i464 1).toNatClampNeg + 1)) 0 ((((((((((((((((((((s466 * (31 : Int64)) + ((F_X5_ofSheet0 c v w (nI i464)).toInt64)) * (31 : Int64)) + ((F_X5_ofSheet1 c v w (nI i464)).toInt64)) * (31 : Int64)) + ((F_X5_ofSheet2 c v w (nI i464)).toInt64)) * (31 : Int64)) + ((F_X5_ofSheet3 c v w (nI i464)).toInt64)) * (31 : Int64)) + ((F_X5_ofSheet4 c v w (nI i464)).toInt64)) * (31 : Int64)) + ((F_X5_ofSheet5 c v w (nI i464)).toInt64)) * (31 : Int64)) + ((F_X5_ofSheet6 c v w (nI i464)).toInt64)) * (31 : Int64)) + ((F_X5_ofSheet7 c v w (nI i464)).toInt64)) * (31 : Int64)) + ((F_X5_ofSheet8 c v w (nI i464)).toInt64)) * (31 : Int64)) + ((F_X5_ofSheet9 c v w (nI i464)).toInt64))) * (31 : Int64)) + ((F_X5_has c v w (0 : Int32) (nI i464)).toInt64)) * (31 : Int64)) + ((F_X5_has c v w (1 : Int32) (nI i464)).toInt64))), (3, .int (nI i464)), (0, .ref (ad 5 0))]) hx hb dX5_digest_134 hl (k := 1) rfl (by decide) (by decide) rfl (fun ls hl => ?_)
          refine lv_goto (tgt := 113) hx hb dX5_digest_137 (by decide) ?_
          refine lv_iload hx hb dX5_digest_113 (lv_at hl 0 rfl) ?_
          refine lv_iconst (v := 4) hx hb dX5_digest_115 (by decide) ?_
          refine lv_icmp_ge (tgt := 140) hx hb dX5_digest_116 (by decide) (fun c542 => absurd c542 (by decide)) (fun _ => ?_)
          refine lv_lload_n hx hb dX5_digest_119 rfl (lv_at hl 1 rfl) ?_
          refine lv_ldc2 (v := 31) hx hb hown (hts (.constantLong RX5 336 31) (by decide +kernel)) dX5_digest_120 ?_
          refine lv_lmul hx hb dX5_digest_123 ?_
          refine lv_aload_n hx hb dX5_digest_124 rfl (lv_at hl 3 rfl) ?_
          refine lv_iload hx hb dX5_digest_125 (lv_at hl 0 rfl) ?_
          refine lv_iload_n hx hb dX5_digest_127 rfl (lv_at hl 2 rfl) ?_
          refine pc_rcalli (va_runV (As := [.int 2, .int (nI i464)]) (rest := [.long ((((((FL4_X5_digest c v w i464 (((v 1 i464 1).toNatClampNeg + 1)) 0 ((((((((((((((((((((s466 * (31 : Int64)) + ((F_X5_ofSheet0 c v w (nI i464)).toInt64)) * (31 : Int64)) + ((F_X5_ofSheet1 c v w (nI i464)).toInt64)) * (31 : Int64)) + ((F_X5_ofSheet2 c v w (nI i464)).toInt64)) * (31 : Int64)) + ((F_X5_ofSheet3 c v w (nI i464)).toInt64)) * (31 : Int64)) + ((F_X5_ofSheet4 c v w (nI i464)).toInt64)) * (31 : Int64)) + ((F_X5_ofSheet5 c v w (nI i464)).toInt64)) * (31 : Int64)) + ((F_X5_ofSheet6 c v w (nI i464)).toInt64)) * (31 : Int64)) + ((F_X5_ofSheet7 c v w (nI i464)).toInt64)) * (31 : Int64)) + ((F_X5_ofSheet8 c v w (nI i464)).toInt64)) * (31 : Int64)) + ((F_X5_ofSheet9 c v w (nI i464)).toInt64))) * (31 : Int64)) + ((F_X5_has c v w (0 : Int32) (nI i464)).toInt64)) * (31 : Int64)) + ((F_X5_has c v w (1 : Int32) (nI i464)).toInt64)) * (31 : Int64))]) ⟨hx, hb, hml, hown, hts⟩ (r_X5_has l D cA NL c v w u ad (2 : Int32) (nI i464) hM hBd hF (by decide) (by decide) (nI_nn (Nat.lt_of_lt_of_le hlt9i464 (Nat.le_trans hBd.1 (by decide)))) (by rw [nI_clamp (Nat.lt_of_lt_of_le hlt9i464 (Nat.le_trans hBd.1 (by decide)))]; exact hlt9i464)) (cwV 2 hts gX5_digest_X5_has rfl rfl rfl (by decide +kernel) ⟨Nat.le_of_ble_eq_true rfl, Nat.le_of_ble_eq_true rfl⟩) (pc_preV pcN_ok hX hW.1 hM.1 rfl rfl hW.1) rfl rfl hl.1 rfl (lv_room (Nat.le_of_ble_eq_true rfl)) dX5_digest_128 ⟨Nat.le_of_ble_eq_true rfl, Nat.le_of_ble_eq_true rfl⟩) hW (fun r543 H locs hwr543 hW => ?_)
          subst hwr543
          refine lv_i2l (v := (F_X5_has c v w (2 : Int32) (nI i464)).toInt64) hx hb dX5_digest_131 rfl ?_
          refine lv_ladd hx hb dX5_digest_132 ?_
          refine lv_lstore_n (lv' := [(1, .long (((((((FL4_X5_digest c v w i464 (((v 1 i464 1).toNatClampNeg + 1)) 0 ((((((((((((((((((((s466 * (31 : Int64)) + ((F_X5_ofSheet0 c v w (nI i464)).toInt64)) * (31 : Int64)) + ((F_X5_ofSheet1 c v w (nI i464)).toInt64)) * (31 : Int64)) + ((F_X5_ofSheet2 c v w (nI i464)).toInt64)) * (31 : Int64)) + ((F_X5_ofSheet3 c v w (nI i464)).toInt64)) * (31 : Int64)) + ((F_X5_ofSheet4 c v w (nI i464)).toInt64)) * (31 : Int64)) + ((F_X5_ofSheet5 c v w (nI i464)).toInt64)) * (31 : Int64)) + ((F_X5_ofSheet6 c v w (nI i464)).toInt64)) * (31 : Int64)) + ((F_X5_ofSheet7 c v w (nI i464)).toInt64)) * (31 : Int64)) + ((F_X5_ofSheet8 c v w (nI i464)).toInt64)) * (31 : Int64)) + ((F_X5_ofSheet9 c v w (nI i464)).toInt64))) * (31 : Int64)) + ((F_X5_has c v w (0 : Int32) (nI i464)).toInt64)) * (31 : Int64)) + ((F_X5_has c v w (1 : Int32) (nI i464)).toInt64)) * (31 : Int64)) + ((F_X5_has c v w (2 : Int32) (nI i464)).toInt64))), (4, .int 2), (3, .int (nI i464)), (0, .ref (ad 5 0))]) hx hb dX5_digest_133 rfl hl (by decide) rfl (fun ls hl => ?_)
          refine lv_iinc (v := 3) (lv' := [(4, .int 3), (1, .long (((((((FL4_X5_digest c v w i464 (((v 1 i464 1).toNatClampNeg + 1)) 0 ((((((((((((((((((((s466 * (31 : Int64)) + ((F_X5_ofSheet0 c v w (nI i464)).toInt64)) * (31 : Int64)) + ((F_X5_ofSheet1 c v w (nI i464)).toInt64)) * (31 : Int64)) + ((F_X5_ofSheet2 c v w (nI i464)).toInt64)) * (31 : Int64)) + ((F_X5_ofSheet3 c v w (nI i464)).toInt64)) * (31 : Int64)) + ((F_X5_ofSheet4 c v w (nI i464)).toInt64)) * (31 : Int64)) + ((F_X5_ofSheet5 c v w (nI i464)).toInt64)) * (31 : Int64)) + ((F_X5_ofSheet6 c v w (nI i464)).toInt64)) * (31 : Int64)) + ((F_X5_ofSheet7 c v w (nI i464)).toInt64)) * (31 : Int64)) + ((F_X5_ofSheet8 c v w (nI i464)).toInt64)) * (31 : Int64)) + ((F_X5_ofSheet9 c v w (nI i464)).toInt64))) * (31 : Int64)) + ((F_X5_has c v w (0 : Int32) (nI i464)).toInt64)) * (31 : Int64)) + ((F_X5_has c v w (1 : Int32) (nI i464)).toInt64)) * (31 : Int64)) + ((F_X5_has c v w (2 : Int32) (nI i464)).toInt64))), (3, .int (nI i464)), (0, .ref (ad 5 0))]) hx hb dX5_digest_134 hl (k := 1) rfl (by decide) (by decide) rfl (fun ls hl => ?_)
          refine lv_goto (tgt := 113) hx hb dX5_digest_137 (by decide) ?_
          refine lv_iload hx hb dX5_digest_113 (lv_at hl 0 rfl) ?_
          refine lv_iconst (v := 4) hx hb dX5_digest_115 (by decide) ?_
          refine lv_icmp_ge (tgt := 140) hx hb dX5_digest_116 (by decide) (fun c544 => absurd c544 (by decide)) (fun _ => ?_)
          refine lv_lload_n hx hb dX5_digest_119 rfl (lv_at hl 1 rfl) ?_
          refine lv_ldc2 (v := 31) hx hb hown (hts (.constantLong RX5 336 31) (by decide +kernel)) dX5_digest_120 ?_
          refine lv_lmul hx hb dX5_digest_123 ?_
          refine lv_aload_n hx hb dX5_digest_124 rfl (lv_at hl 3 rfl) ?_
          refine lv_iload hx hb dX5_digest_125 (lv_at hl 0 rfl) ?_
          refine lv_iload_n hx hb dX5_digest_127 rfl (lv_at hl 2 rfl) ?_
          refine pc_rcalli (va_runV (As := [.int 3, .int (nI i464)]) (rest := [.long ((((((((FL4_X5_digest c v w i464 (((v 1 i464 1).toNatClampNeg + 1)) 0 ((((((((((((((((((((s466 * (31 : Int64)) + ((F_X5_ofSheet0 c v w (nI i464)).toInt64)) * (31 : Int64)) + ((F_X5_ofSheet1 c v w (nI i464)).toInt64)) * (31 : Int64)) + ((F_X5_ofSheet2 c v w (nI i464)).toInt64)) * (31 : Int64)) + ((F_X5_ofSheet3 c v w (nI i464)).toInt64)) * (31 : Int64)) + ((F_X5_ofSheet4 c v w (nI i464)).toInt64)) * (31 : Int64)) + ((F_X5_ofSheet5 c v w (nI i464)).toInt64)) * (31 : Int64)) + ((F_X5_ofSheet6 c v w (nI i464)).toInt64)) * (31 : Int64)) + ((F_X5_ofSheet7 c v w (nI i464)).toInt64)) * (31 : Int64)) + ((F_X5_ofSheet8 c v w (nI i464)).toInt64)) * (31 : Int64)) + ((F_X5_ofSheet9 c v w (nI i464)).toInt64))) * (31 : Int64)) + ((F_X5_has c v w (0 : Int32) (nI i464)).toInt64)) * (31 : Int64)) + ((F_X5_has c v w (1 : Int32) (nI i464)).toInt64)) * (31 : Int64)) + ((F_X5_has c v w (2 : Int32) (nI i464)).toInt64)) * (31 : Int64))]) ⟨hx, hb, hml, hown, hts⟩ (r_X5_has l D cA NL c v w u ad (3 : Int32) (nI i464) hM hBd hF (by decide) (by decide) (nI_nn (Nat.lt_of_lt_of_le hlt9i464 (Nat.le_trans hBd.1 (by decide)))) (by rw [nI_clamp (Nat.lt_of_lt_of_le hlt9i464 (Nat.le_trans hBd.1 (by decide)))]; exact hlt9i464)) (cwV 2 hts gX5_digest_X5_has rfl rfl rfl (by decide +kernel) ⟨Nat.le_of_ble_eq_true rfl, Nat.le_of_ble_eq_true rfl⟩) (pc_preV pcN_ok hX hW.1 hM.1 rfl rfl hW.1) rfl rfl hl.1 rfl (lv_room (Nat.le_of_ble_eq_true rfl)) dX5_digest_128 ⟨Nat.le_of_ble_eq_true rfl, Nat.le_of_ble_eq_true rfl⟩) hW (fun r545 H locs hwr545 hW => ?_)
          subst hwr545
          refine lv_i2l (v := (F_X5_has c v w (3 : Int32) (nI i464)).toInt64) hx hb dX5_digest_131 rfl ?_
          refine lv_ladd hx hb dX5_digest_132 ?_
          refine lv_lstore_n (lv' := [(1, .long (((((((((FL4_X5_digest c v w i464 (((v 1 i464 1).toNatClampNeg + 1)) 0 ((((((((((((((((((((s466 * (31 : Int64)) + ((F_X5_ofSheet0 c v w (nI i464)).toInt64)) * (31 : Int64)) + ((F_X5_ofSheet1 c v w (nI i464)).toInt64)) * (31 : Int64)) + ((F_X5_ofSheet2 c v w (nI i464)).toInt64)) * (31 : Int64)) + ((F_X5_ofSheet3 c v w (nI i464)).toInt64)) * (31 : Int64)) + ((F_X5_ofSheet4 c v w (nI i464)).toInt64)) * (31 : Int64)) + ((F_X5_ofSheet5 c v w (nI i464)).toInt64)) * (31 : Int64)) + ((F_X5_ofSheet6 c v w (nI i464)).toInt64)) * (31 : Int64)) + ((F_X5_ofSheet7 c v w (nI i464)).toInt64)) * (31 : Int64)) + ((F_X5_ofSheet8 c v w (nI i464)).toInt64)) * (31 : Int64)) + ((F_X5_ofSheet9 c v w (nI i464)).toInt64))) * (31 : Int64)) + ((F_X5_has c v w (0 : Int32) (nI i464)).toInt64)) * (31 : Int64)) + ((F_X5_has c v w (1 : Int32) (nI i464)).toInt64)) * (31 : Int64)) + ((F_X5_has c v w (2 : Int32) (nI i464)).toInt64)) * (31 : Int64)) + ((F_X5_has c v w (3 : Int32) (nI i464)).toInt64))), (4, .int 3), (3, .int (nI i464)), (0, .ref (ad 5 0))]) hx hb dX5_digest_133 rfl hl (by decide) rfl (fun ls hl => ?_)
          refine lv_iinc (v := 4) (lv' := [(4, .int 4), (1, .long (((((((((FL4_X5_digest c v w i464 (((v 1 i464 1).toNatClampNeg + 1)) 0 ((((((((((((((((((((s466 * (31 : Int64)) + ((F_X5_ofSheet0 c v w (nI i464)).toInt64)) * (31 : Int64)) + ((F_X5_ofSheet1 c v w (nI i464)).toInt64)) * (31 : Int64)) + ((F_X5_ofSheet2 c v w (nI i464)).toInt64)) * (31 : Int64)) + ((F_X5_ofSheet3 c v w (nI i464)).toInt64)) * (31 : Int64)) + ((F_X5_ofSheet4 c v w (nI i464)).toInt64)) * (31 : Int64)) + ((F_X5_ofSheet5 c v w (nI i464)).toInt64)) * (31 : Int64)) + ((F_X5_ofSheet6 c v w (nI i464)).toInt64)) * (31 : Int64)) + ((F_X5_ofSheet7 c v w (nI i464)).toInt64)) * (31 : Int64)) + ((F_X5_ofSheet8 c v w (nI i464)).toInt64)) * (31 : Int64)) + ((F_X5_ofSheet9 c v w (nI i464)).toInt64))) * (31 : Int64)) + ((F_X5_has c v w (0 : Int32) (nI i464)).toInt64)) * (31 : Int64)) + ((F_X5_has c v w (1 : Int32) (nI i464)).toInt64)) * (31 : Int64)) + ((F_X5_has c v w (2 : Int32) (nI i464)).toInt64)) * (31 : Int64)) + ((F_X5_has c v w (3 : Int32) (nI i464)).toInt64))), (3, .int (nI i464)), (0, .ref (ad 5 0))]) hx hb dX5_digest_134 hl (k := 1) rfl (by decide) (by decide) rfl (fun ls hl => ?_)
          refine lv_goto (tgt := 113) hx hb dX5_digest_137 (by decide) ?_
          refine lv_iload hx hb dX5_digest_113 (lv_at hl 0 rfl) ?_
          refine lv_iconst (v := 4) hx hb dX5_digest_115 (by decide) ?_
          refine lv_icmp_ge (tgt := 140) hx hb dX5_digest_116 (by decide) (fun _ => ?_) (fun c546 => absurd (by decide) c546)
          refine lv_lload_n hx hb dX5_digest_140 rfl (lv_at hl 1 rfl) ?_
          refine lv_ldc2 (v := 31) hx hb hown (hts (.constantLong RX5 336 31) (by decide +kernel)) dX5_digest_141 ?_
          refine lv_lmul hx hb dX5_digest_144 ?_
          refine lv_aload_n hx hb dX5_digest_145 rfl (lv_at hl 3 rfl) ?_
          refine lv_iload_n hx hb dX5_digest_146 rfl (lv_at hl 2 rfl) ?_
          have hD9 := hW.2.1
          refine pc_mcalli (va_runV (As := [.int (nI i464)]) (rest := [.long ((((((((((FL4_X5_digest c v w i464 (((v 1 i464 1).toNatClampNeg + 1)) 0 ((((((((((((((((((((s466 * (31 : Int64)) + ((F_X5_ofSheet0 c v w (nI i464)).toInt64)) * (31 : Int64)) + ((F_X5_ofSheet1 c v w (nI i464)).toInt64)) * (31 : Int64)) + ((F_X5_ofSheet2 c v w (nI i464)).toInt64)) * (31 : Int64)) + ((F_X5_ofSheet3 c v w (nI i464)).toInt64)) * (31 : Int64)) + ((F_X5_ofSheet4 c v w (nI i464)).toInt64)) * (31 : Int64)) + ((F_X5_ofSheet5 c v w (nI i464)).toInt64)) * (31 : Int64)) + ((F_X5_ofSheet6 c v w (nI i464)).toInt64)) * (31 : Int64)) + ((F_X5_ofSheet7 c v w (nI i464)).toInt64)) * (31 : Int64)) + ((F_X5_ofSheet8 c v w (nI i464)).toInt64)) * (31 : Int64)) + ((F_X5_ofSheet9 c v w (nI i464)).toInt64))) * (31 : Int64)) + ((F_X5_has c v w (0 : Int32) (nI i464)).toInt64)) * (31 : Int64)) + ((F_X5_has c v w (1 : Int32) (nI i464)).toInt64)) * (31 : Int64)) + ((F_X5_has c v w (2 : Int32) (nI i464)).toInt64)) * (31 : Int64)) + ((F_X5_has c v w (3 : Int32) (nI i464)).toInt64)) * (31 : Int64))]) ⟨hx, hb, hml, hown, hts⟩ (m_X5_stoppedBy l D cA NL c v w u ad A (nI i464) hM hBd hF hRI (nI_nn (Nat.lt_of_lt_of_le hlt9i464 (Nat.le_trans hBd.1 (by decide)))) (by rw [nI_clamp (Nat.lt_of_lt_of_le hlt9i464 (Nat.le_trans hBd.1 (by decide)))]; exact hlt9i464)) (cwV 1 hts gX5_digest_X5_stoppedBy rfl rfl rfl (by decide +kernel) ⟨Nat.le_of_ble_eq_true rfl, Nat.le_of_ble_eq_true rfl⟩) (pc_preV pcN_ok hX hW.1 hM.1 rfl rfl ⟨hW.1, hW.2.1, fun q h => hA q (Nat.le_trans hW.2.2.1 h)⟩) rfl rfl hl.1 rfl (lv_room (Nat.le_of_ble_eq_true rfl)) dX5_digest_147 ⟨Nat.le_of_ble_eq_true rfl, Nat.le_of_ble_eq_true rfl⟩) hW.2.2 (fun r547 _ H locs hwr547 hB hS9 => ?_)
          subst hwr547
          have hW : pcS D vwCl A s.heap NL ad (ctO cA c v w u ad) H locs := ⟨hB, pcD_ct hD9, hS9⟩
          refine lv_i2l (v := (F_X5_stoppedBy c v w (nI i464)).toInt64) hx hb dX5_digest_150 rfl ?_
          refine lv_ladd hx hb dX5_digest_151 ?_
          refine lv_lstore_n (lv' := [(1, .long (((((((((((FL4_X5_digest c v w i464 (((v 1 i464 1).toNatClampNeg + 1)) 0 ((((((((((((((((((((s466 * (31 : Int64)) + ((F_X5_ofSheet0 c v w (nI i464)).toInt64)) * (31 : Int64)) + ((F_X5_ofSheet1 c v w (nI i464)).toInt64)) * (31 : Int64)) + ((F_X5_ofSheet2 c v w (nI i464)).toInt64)) * (31 : Int64)) + ((F_X5_ofSheet3 c v w (nI i464)).toInt64)) * (31 : Int64)) + ((F_X5_ofSheet4 c v w (nI i464)).toInt64)) * (31 : Int64)) + ((F_X5_ofSheet5 c v w (nI i464)).toInt64)) * (31 : Int64)) + ((F_X5_ofSheet6 c v w (nI i464)).toInt64)) * (31 : Int64)) + ((F_X5_ofSheet7 c v w (nI i464)).toInt64)) * (31 : Int64)) + ((F_X5_ofSheet8 c v w (nI i464)).toInt64)) * (31 : Int64)) + ((F_X5_ofSheet9 c v w (nI i464)).toInt64))) * (31 : Int64)) + ((F_X5_has c v w (0 : Int32) (nI i464)).toInt64)) * (31 : Int64)) + ((F_X5_has c v w (1 : Int32) (nI i464)).toInt64)) * (31 : Int64)) + ((F_X5_has c v w (2 : Int32) (nI i464)).toInt64)) * (31 : Int64)) + ((F_X5_has c v w (3 : Int32) (nI i464)).toInt64)) * (31 : Int64)) + ((F_X5_stoppedBy c v w (nI i464)).toInt64))), (4, .int 4), (3, .int (nI i464)), (0, .ref (ad 5 0))]) hx hb dX5_digest_152 rfl hl (by decide) rfl (fun ls hl => ?_)
          refine lv_iinc (v := nI (i464 + 1)) (lv' := [(3, .int (nI (i464 + 1))), (1, .long (((((((((((FL4_X5_digest c v w i464 (((v 1 i464 1).toNatClampNeg + 1)) 0 ((((((((((((((((((((s466 * (31 : Int64)) + ((F_X5_ofSheet0 c v w (nI i464)).toInt64)) * (31 : Int64)) + ((F_X5_ofSheet1 c v w (nI i464)).toInt64)) * (31 : Int64)) + ((F_X5_ofSheet2 c v w (nI i464)).toInt64)) * (31 : Int64)) + ((F_X5_ofSheet3 c v w (nI i464)).toInt64)) * (31 : Int64)) + ((F_X5_ofSheet4 c v w (nI i464)).toInt64)) * (31 : Int64)) + ((F_X5_ofSheet5 c v w (nI i464)).toInt64)) * (31 : Int64)) + ((F_X5_ofSheet6 c v w (nI i464)).toInt64)) * (31 : Int64)) + ((F_X5_ofSheet7 c v w (nI i464)).toInt64)) * (31 : Int64)) + ((F_X5_ofSheet8 c v w (nI i464)).toInt64)) * (31 : Int64)) + ((F_X5_ofSheet9 c v w (nI i464)).toInt64))) * (31 : Int64)) + ((F_X5_has c v w (0 : Int32) (nI i464)).toInt64)) * (31 : Int64)) + ((F_X5_has c v w (1 : Int32) (nI i464)).toInt64)) * (31 : Int64)) + ((F_X5_has c v w (2 : Int32) (nI i464)).toInt64)) * (31 : Int64)) + ((F_X5_has c v w (3 : Int32) (nI i464)).toInt64)) * (31 : Int64)) + ((F_X5_stoppedBy c v w (nI i464)).toInt64))), (4, .int 4), (0, .ref (ad 5 0))]) hx hb dX5_digest_153 hl (k := 2) rfl (nI_1 i464) (by decide) rfl (fun ls hl => ?_)
          refine lv_goto (tgt := 33) hx hb dX5_digest_156 (by decide) ?_
          have he9F : (FL_X5_digest c v w k465 (i464 + 1) (((((((((((FL4_X5_digest c v w i464 (((v 1 i464 1).toNatClampNeg + 1)) 0 ((((((((((((((((((((s466 * (31 : Int64)) + ((F_X5_ofSheet0 c v w (nI i464)).toInt64)) * (31 : Int64)) + ((F_X5_ofSheet1 c v w (nI i464)).toInt64)) * (31 : Int64)) + ((F_X5_ofSheet2 c v w (nI i464)).toInt64)) * (31 : Int64)) + ((F_X5_ofSheet3 c v w (nI i464)).toInt64)) * (31 : Int64)) + ((F_X5_ofSheet4 c v w (nI i464)).toInt64)) * (31 : Int64)) + ((F_X5_ofSheet5 c v w (nI i464)).toInt64)) * (31 : Int64)) + ((F_X5_ofSheet6 c v w (nI i464)).toInt64)) * (31 : Int64)) + ((F_X5_ofSheet7 c v w (nI i464)).toInt64)) * (31 : Int64)) + ((F_X5_ofSheet8 c v w (nI i464)).toInt64)) * (31 : Int64)) + ((F_X5_ofSheet9 c v w (nI i464)).toInt64))) * (31 : Int64)) + ((F_X5_has c v w (0 : Int32) (nI i464)).toInt64)) * (31 : Int64)) + ((F_X5_has c v w (1 : Int32) (nI i464)).toInt64)) * (31 : Int64)) + ((F_X5_has c v w (2 : Int32) (nI i464)).toInt64)) * (31 : Int64)) + ((F_X5_has c v w (3 : Int32) (nI i464)).toInt64)) * (31 : Int64)) + ((F_X5_stoppedBy c v w (nI i464)).toInt64))) = (FL_X5_digest c v w (c 0) 0 ((((((((((((((((((((((((((1801317 : Int64) + ((F_X5_many0 c v w).toInt64)) * (31 : Int64)) + ((F_X5_many1 c v w).toInt64)) * (31 : Int64)) + ((F_X5_many2 c v w).toInt64)) * (31 : Int64)) + ((F_X5_many3 c v w).toInt64)) * (31 : Int64)) + ((F_X5_many4 c v w).toInt64)) * (31 : Int64)) + ((F_X5_many5 c v w).toInt64)) * (31 : Int64)) + ((F_X5_many6 c v w).toInt64)) * (31 : Int64)) + ((F_X5_many7 c v w).toInt64)) * (31 : Int64)) + ((F_X5_many8 c v w).toInt64)) * (31 : Int64)) + ((F_X5_many9 c v w).toInt64)) * (31 : Int64)) + ((F_X5_many10 c v w).toInt64)) * (31 : Int64)) + ((F_X5_many11 c v w).toInt64)) * (31 : Int64)) + ((F_X5_many12 c v w).toInt64))) := by rw [← heF]; show (FL_X5_digest c v w k465 (i464 + 1) (((((((((((FL4_X5_digest c v w i464 (((v 1 i464 1).toNatClampNeg + 1)) 0 ((((((((((((((((((((s466 * (31 : Int64)) + ((F_X5_ofSheet0 c v w (nI i464)).toInt64)) * (31 : Int64)) + ((F_X5_ofSheet1 c v w (nI i464)).toInt64)) * (31 : Int64)) + ((F_X5_ofSheet2 c v w (nI i464)).toInt64)) * (31 : Int64)) + ((F_X5_ofSheet3 c v w (nI i464)).toInt64)) * (31 : Int64)) + ((F_X5_ofSheet4 c v w (nI i464)).toInt64)) * (31 : Int64)) + ((F_X5_ofSheet5 c v w (nI i464)).toInt64)) * (31 : Int64)) + ((F_X5_ofSheet6 c v w (nI i464)).toInt64)) * (31 : Int64)) + ((F_X5_ofSheet7 c v w (nI i464)).toInt64)) * (31 : Int64)) + ((F_X5_ofSheet8 c v w (nI i464)).toInt64)) * (31 : Int64)) + ((F_X5_ofSheet9 c v w (nI i464)).toInt64))) * (31 : Int64)) + ((F_X5_has c v w (0 : Int32) (nI i464)).toInt64)) * (31 : Int64)) + ((F_X5_has c v w (1 : Int32) (nI i464)).toInt64)) * (31 : Int64)) + ((F_X5_has c v w (2 : Int32) (nI i464)).toInt64)) * (31 : Int64)) + ((F_X5_has c v w (3 : Int32) (nI i464)).toInt64)) * (31 : Int64)) + ((F_X5_stoppedBy c v w (nI i464)).toInt64))) = (FL_X5_digest c v w (k465 + 1) i464 s466); rfl
          exact ihk465 (i464 + 1)  (((((((((((FL4_X5_digest c v w i464 (((v 1 i464 1).toNatClampNeg + 1)) 0 ((((((((((((((((((((s466 * (31 : Int64)) + ((F_X5_ofSheet0 c v w (nI i464)).toInt64)) * (31 : Int64)) + ((F_X5_ofSheet1 c v w (nI i464)).toInt64)) * (31 : Int64)) + ((F_X5_ofSheet2 c v w (nI i464)).toInt64)) * (31 : Int64)) + ((F_X5_ofSheet3 c v w (nI i464)).toInt64)) * (31 : Int64)) + ((F_X5_ofSheet4 c v w (nI i464)).toInt64)) * (31 : Int64)) + ((F_X5_ofSheet5 c v w (nI i464)).toInt64)) * (31 : Int64)) + ((F_X5_ofSheet6 c v w (nI i464)).toInt64)) * (31 : Int64)) + ((F_X5_ofSheet7 c v w (nI i464)).toInt64)) * (31 : Int64)) + ((F_X5_ofSheet8 c v w (nI i464)).toInt64)) * (31 : Int64)) + ((F_X5_ofSheet9 c v w (nI i464)).toInt64))) * (31 : Int64)) + ((F_X5_has c v w (0 : Int32) (nI i464)).toInt64)) * (31 : Int64)) + ((F_X5_has c v w (1 : Int32) (nI i464)).toInt64)) * (31 : Int64)) + ((F_X5_has c v w (2 : Int32) (nI i464)).toInt64)) * (31 : Int64)) + ((F_X5_has c v w (3 : Int32) (nI i464)).toInt64)) * (31 : Int64)) + ((F_X5_stoppedBy c v w (nI i464)).toInt64)) H locs ls (by omega) he9F hW (lv_sub hl [0, 1, 3] rfl)
        | succ k534 ihk534 =>
          intro i533 s535 H locs ls hk heF hW hl
          have hlt : i533 < ((v 1 i464 1).toNatClampNeg + 1) := by omega
          have hlt9i533 := hlt
          refine lv_iload hx hb dX5_digest_75 (lv_at hl 0 rfl) ?_
          refine lv_aload_n hx hb dX5_digest_77 rfl (lv_at hl 3 rfl) ?_
          refine pc_get (C := RX5) (T := TX5) (N := 13) (ci := 5) hx hb hts (by decide +kernel) hown hX.1 hW.1 5 0 hM.1 rfl rfl 0 (by decide) (hts (.fieldLink RX5 11 "DraftsmanOffice" "sheets" "[LDraftsmanOffice$Sheet;") (by decide +kernel)) (fun _ h9 => h9) rfl dX5_digest_78 ?_
          refine lv_iload_n hx hb dX5_digest_81 rfl (lv_at hl 2 rfl) ?_
          refine pc_aald (r := .ref (ad 1 i464)) hx hb hX.1 hW.1 50 0 3 (hM.2.1 50 (by decide) (by decide)) rfl rfl rfl (vp_in_nI (Nat.lt_of_lt_of_le hlt9i464 hBd.1) (by decide)) (by rw [nI_clamp (Nat.lt_of_lt_of_le (Nat.lt_of_lt_of_le hlt9i464 hBd.1) (by decide)), sRf_in hlt9i464]; rfl) dX5_digest_82 ?_
          refine pc_getN (C := RX3) (T := TX3) (N := 10) (ci := 3) hx hb hts (by decide +kernel) hown hX.1 hW.1 1 i464 (hM.2.2.2.1 i464 hlt9i464).1 rfl rfl 3 (by decide) (hX.2.1 (.fieldLinkNest RX5 115 "DraftsmanOffice$Sheet" "last" "I" R_host) (by decide +kernel)) (fun _ h9 => h9) rfl dX5_digest_83 ?_
          refine lv_icmp_gt (tgt := 110) hx hb dX5_digest_86 (by decide) (fun c548 => absurd c548 (last_step (hF.2.2 i464 hlt9i464).1 (hF.2.2 i464 hlt9i464).2 hlt)) (fun _ => ?_)
          refine lv_lload_n hx hb dX5_digest_89 rfl (lv_at hl 1 rfl) ?_
          refine lv_ldc2 (v := 31) hx hb hown (hts (.constantLong RX5 336 31) (by decide +kernel)) dX5_digest_90 ?_
          refine lv_lmul hx hb dX5_digest_93 ?_
          refine lv_aload_n hx hb dX5_digest_94 rfl (lv_at hl 3 rfl) ?_
          refine lv_iload_n hx hb dX5_digest_95 rfl (lv_at hl 2 rfl) ?_
          refine lv_iload hx hb dX5_digest_96 (lv_at hl 0 rfl) ?_
          refine pc_rcalli (va_runV (As := [.int (nI i464), .int (nI i533)]) (rest := [.long (s535 * (31 : Int64))]) ⟨hx, hb, hml, hown, hts⟩ (r_X5_status l D cA NL c v w u ad (nI i464) (nI i533) hM hBd hF (nI_nn (Nat.lt_of_lt_of_le hlt9i464 (Nat.le_trans hBd.1 (by decide)))) (by rw [nI_clamp (Nat.lt_of_lt_of_le hlt9i464 (Nat.le_trans hBd.1 (by decide)))]; exact hlt9i464) (nI_nn (Nat.lt_of_lt_of_le hlt9i533 (by have h6 := (hF.2.2 i464 hlt9i464).2; omega))) (by rw [nI_clamp (Nat.lt_of_lt_of_le hlt9i464 (Nat.le_trans hBd.1 (by decide)))]; exact last_le (hF.2.2 i464 hlt9i464).1 (hF.2.2 i464 hlt9i464).2 hlt9i533)) (cwV 2 hts gX5_digest_X5_status rfl rfl rfl (by decide +kernel) ⟨Nat.le_of_ble_eq_true rfl, Nat.le_of_ble_eq_true rfl⟩) (pc_preV pcN_ok hX hW.1 hM.1 rfl rfl hW.1) rfl rfl hl.1 rfl (lv_room (Nat.le_of_ble_eq_true rfl)) dX5_digest_98 ⟨Nat.le_of_ble_eq_true rfl, Nat.le_of_ble_eq_true rfl⟩) hW (fun r549 H locs hwr549 hW => ?_)
          subst hwr549
          refine lv_i2l (v := (F_X5_status c v w (nI i464) (nI i533)).toInt64) hx hb dX5_digest_101 rfl ?_
          refine lv_ladd hx hb dX5_digest_102 ?_
          refine lv_lstore_n (lv' := [(1, .long ((s535 * (31 : Int64)) + ((F_X5_status c v w (nI i464) (nI i533)).toInt64))), (4, .int (nI i533)), (3, .int (nI i464)), (0, .ref (ad 5 0))]) hx hb dX5_digest_103 rfl hl (by decide) rfl (fun ls hl => ?_)
          refine lv_iinc (v := nI (i533 + 1)) (lv' := [(4, .int (nI (i533 + 1))), (1, .long ((s535 * (31 : Int64)) + ((F_X5_status c v w (nI i464) (nI i533)).toInt64))), (3, .int (nI i464)), (0, .ref (ad 5 0))]) hx hb dX5_digest_104 hl (k := 1) rfl (nI_1 i533) (by decide) rfl (fun ls hl => ?_)
          refine lv_goto (tgt := 75) hx hb dX5_digest_107 (by decide) ?_
          have he9F : (FL4_X5_digest c v w i464 k534 (i533 + 1) ((s535 * (31 : Int64)) + ((F_X5_status c v w (nI i464) (nI i533)).toInt64))) = (FL4_X5_digest c v w i464 (((v 1 i464 1).toNatClampNeg + 1)) 0 ((((((((((((((((((((s466 * (31 : Int64)) + ((F_X5_ofSheet0 c v w (nI i464)).toInt64)) * (31 : Int64)) + ((F_X5_ofSheet1 c v w (nI i464)).toInt64)) * (31 : Int64)) + ((F_X5_ofSheet2 c v w (nI i464)).toInt64)) * (31 : Int64)) + ((F_X5_ofSheet3 c v w (nI i464)).toInt64)) * (31 : Int64)) + ((F_X5_ofSheet4 c v w (nI i464)).toInt64)) * (31 : Int64)) + ((F_X5_ofSheet5 c v w (nI i464)).toInt64)) * (31 : Int64)) + ((F_X5_ofSheet6 c v w (nI i464)).toInt64)) * (31 : Int64)) + ((F_X5_ofSheet7 c v w (nI i464)).toInt64)) * (31 : Int64)) + ((F_X5_ofSheet8 c v w (nI i464)).toInt64)) * (31 : Int64)) + ((F_X5_ofSheet9 c v w (nI i464)).toInt64))) := by rw [← heF]; show (FL4_X5_digest c v w i464 k534 (i533 + 1) ((s535 * (31 : Int64)) + ((F_X5_status c v w (nI i464) (nI i533)).toInt64))) = (FL4_X5_digest c v w i464 (k534 + 1) i533 s535); rfl
          exact ihk534 (i533 + 1)  ((s535 * (31 : Int64)) + ((F_X5_status c v w (nI i464) (nI i533)).toInt64)) H locs ls (by omega) he9F hW (lv_sub hl [0, 1, 2, 3] rfl)
      exact K536 (((v 1 i464 1).toNatClampNeg + 1)) 0  ((((((((((((((((((((s466 * (31 : Int64)) + ((F_X5_ofSheet0 c v w (nI i464)).toInt64)) * (31 : Int64)) + ((F_X5_ofSheet1 c v w (nI i464)).toInt64)) * (31 : Int64)) + ((F_X5_ofSheet2 c v w (nI i464)).toInt64)) * (31 : Int64)) + ((F_X5_ofSheet3 c v w (nI i464)).toInt64)) * (31 : Int64)) + ((F_X5_ofSheet4 c v w (nI i464)).toInt64)) * (31 : Int64)) + ((F_X5_ofSheet5 c v w (nI i464)).toInt64)) * (31 : Int64)) + ((F_X5_ofSheet6 c v w (nI i464)).toInt64)) * (31 : Int64)) + ((F_X5_ofSheet7 c v w (nI i464)).toInt64)) * (31 : Int64)) + ((F_X5_ofSheet8 c v w (nI i464)).toInt64)) * (31 : Int64)) + ((F_X5_ofSheet9 c v w (nI i464)).toInt64)) _ _ ls (by omega) rfl hW (lv_sub hl [0, 1, 2, 3] rfl)
  exact K467 (c 0) 0  ((((((((((((((((((((((((((1801317 : Int64) + ((F_X5_many0 c v w).toInt64)) * (31 : Int64)) + ((F_X5_many1 c v w).toInt64)) * (31 : Int64)) + ((F_X5_many2 c v w).toInt64)) * (31 : Int64)) + ((F_X5_many3 c v w).toInt64)) * (31 : Int64)) + ((F_X5_many4 c v w).toInt64)) * (31 : Int64)) + ((F_X5_many5 c v w).toInt64)) * (31 : Int64)) + ((F_X5_many6 c v w).toInt64)) * (31 : Int64)) + ((F_X5_many7 c v w).toInt64)) * (31 : Int64)) + ((F_X5_many8 c v w).toInt64)) * (31 : Int64)) + ((F_X5_many9 c v w).toInt64)) * (31 : Int64)) + ((F_X5_many10 c v w).toInt64)) * (31 : Int64)) + ((F_X5_many11 c v w).toInt64)) * (31 : Int64)) + ((F_X5_many12 c v w).toInt64)) _ _ ls (by omega) rfl hW (lv_sub hl [0, 1, 2] rfl)

theorem va_P_row {D : va_G} {cl : List vw_C} {ws : va_W} {H : Heap} (hP : va_P D cl ws H) (k : Nat) {q n : Nat} {cA : ClassId} {f g : Nat → Int32} (hk : ws[k]? = some (q, .inl (cA, n, .inl f))) (h : ∀ j, j < n → f j = g j) : va_P D cl (ws.set k (q, .inl (cA, n, .inl g))) H := by
  intro j p hj
  by_cases hjk : j = k
  · subst hjk
    have hlen : j < ws.length := (List.getElem?_eq_some_iff.mp hk).1
    rw [List.getElem?_set_self hlen] at hj
    obtain rfl := Option.some.inj hj
    have h1 := hP j _ hk
    show H[q]? = some (arrV cA n (fun i => .int (g i)))
    have h2 : H[q]? = some (arrV cA n (fun i => .int (f i))) := h1
    rw [h2]
    unfold arrV
    congr 3
    funext i
    exact congrArg Value.int (h i.val i.isLt)
  · rw [List.getElem?_set_ne (Ne.symm hjk)] at hj
    exact hP j p hj
theorem va_D_row {A : Nat → Prop} {ws : va_W} (hD : va_D A ws) (k : Nat) {q : Nat} {e e2 : va_E} (hk : ws[k]? = some (q, e)) : va_D A (ws.set k (q, e2)) := by
  have hlen : k < ws.length := (List.getElem?_eq_some_iff.mp hk).1
  have key : ∀ (j : Nat) (p : Nat × va_E), (ws.set k (q, e2))[j]? = some p → ∃ p0, ws[j]? = some p0 ∧ p0.1 = p.1 := by
    intro j p hj
    by_cases hjk : j = k
    · subst hjk
      rw [List.getElem?_set_self hlen] at hj
      obtain rfl := Option.some.inj hj
      exact ⟨_, hk, rfl⟩
    · rw [List.getElem?_set_ne (Ne.symm hjk)] at hj
      exact ⟨p, hj, rfl⟩
  refine ⟨fun i j x y hi hj hxy => ?_, fun j p hj => ?_⟩
  · obtain ⟨x0, h1, h2⟩ := key i x hi
    obtain ⟨y0, h3, h4⟩ := key j y hj
    exact hD.1 i j x0 y0 h1 h3 (h2.trans (hxy.trans h4.symm))
  · obtain ⟨p0, h1, h2⟩ := key j p hj
    rw [← h2]
    exact hD.2 j p0 h1

set_option maxHeartbeats 4000000 in
set_option maxRecDepth 100000 in
theorem l_J7_fill_53178 (l : Launch) (D : va_G) (cA : Nat → ClassId) (A : Nat → Prop) (h0 n : Nat) (f : Nat → Int32) (v : Int32) (hn : n < 2 ^ 31) : Met l yJ7_fill_53178 wsJ7_fill_53178 ({ frames := 0, cells := 0, slots := 0, locals := 0 }) (pcPre D vwCl (tyL cA) [.ref h0, .int v] (fun H => va_P D vwCl [(h0, .inl (cA 0, n, .inl f))] H ∧ va_D A [(h0, .inl (cA 0, n, .inl f))] ∧ (∀ q, H.size ≤ q → A q))) (va_Qv (fun (u : Nat → Int32) => ∀ j, j < n → u j = v) (fun (u : Nat → Int32) t => va_P D vwCl [(h0, .inl (cA 0, n, .inl u))] t.heap ∧ va_D A [(h0, .inl (cA 0, n, .inl u))]) A) 0 0 A := by
  refine Met.ofW (cc := cJ7_fill_53178) (maxL := 4) (ret := none) (by decide) rfl ?_
  intro p e s m args below meth c s₁ B hml hv
  obtain ⟨rfl, hX, hP, hD, hA⟩ := hv
  have hx := B.exec
  have hb := B.bytes
  have hr := B.returns
  have hts := atoms_spec (ws := wsJ7_fill_53178) B.pre
  have hown : s.vm.findClass RJ7 = some m.cls := findClass_of_methodNamed B.named
  have hlocks := B.notSynchronized
  have hS : va_S A s.heap s.heap [] := va_S.rf
  have hl := lv_entry ([.ref h0, .int v]) (n := 4) (Nat.le_of_ble_eq_true rfl)
  rw [lg_entry_eq]
  generalize (lg_sl ([.ref h0, .int v]) ++ List.replicate (4 - (lg_sl ([.ref h0, .int v])).length) Slot.unset).toArray = ls at hl ⊢
  have hl : lv_has ls 4 [(0, .ref h0), (1, .int v)] := hl
  refine lv_iconst (v := 0) hx hb dJ7_fill_53178_0 (by decide) ?_
  refine lv_istore_n (lv' := [(2, .int 0), (0, .ref h0), (1, .int v)]) hx hb dJ7_fill_53178_1 rfl hl (by decide) rfl (fun ls hl => ?_)
  refine lv_aload_n hx hb dJ7_fill_53178_2 rfl (lv_at hl 1 rfl) ?_
  refine va_alen (v := nI n) hx hb hX.1 hP 0 0 rfl rfl rfl dJ7_fill_53178_3 ?_
  refine lv_istore_n (lv' := [(3, .int (nI n)), (2, .int 0), (0, .ref h0), (1, .int v)]) hx hb dJ7_fill_53178_4 rfl hl (by decide) rfl (fun ls hl => ?_)
  have K : ∀ (k i : Nat) (f1 : Nat → Int32) (H : Heap) (locs : List Loc) (ls : Array Slot), i + k = n → (∀ j, j < i → f1 j = v) → va_P D vwCl [(h0, .inl (cA 0, n, .inl f1))] H → va_D A [(h0, .inl (cA 0, n, .inl f1))] → va_S A s.heap H locs → lv_has ls 4 [(2, .int (nI i)), (3, .int (nI n)), (0, .ref h0), (1, .int v)] → W p l e (headSpec wsJ7_fill_53178 ({ frames := 0, cells := 0, slots := 0, locals := 0 })).room s m ([.ref h0, .int v] : List Value).toArray below meth c H locs 0 0 (MQ below (va_Qv (fun (u : Nat → Int32) => ∀ j, j < n → u j = v) (fun (u : Nat → Int32) t => va_P D vwCl [(h0, .inl (cA 0, n, .inl u))] t.heap ∧ va_D A [(h0, .inl (cA 0, n, .inl u))]) A) ([.ref h0, .int v] : List Value).toArray s 0 0 A) (F0 m 5 ls []) := by
    intro k
    induction k with
    | zero =>
      intro i f1 H locs ls hk hf hP hD hS hl
      have ei : i = n := by omega
      subst ei
      refine lv_iload_n hx hb dJ7_fill_53178_5 rfl (lv_at hl 0 rfl) ?_
      refine lv_iload_n hx hb dJ7_fill_53178_6 rfl (lv_at hl 1 rfl) ?_
      refine lv_icmp_ge (tgt := 20) hx hb dJ7_fill_53178_7 (by decide) (fun _ => ?_) (fun c348 => absurd (Int32.le_refl _) c348)
      have hP9 := hP.sub (ws' := [(h0, .inl (cA 0, i, .inl f1))]) [0] rfl
      have hD9 := hD.sub (ws' := [(h0, .inl (cA 0, i, .inl f1))]) [0] (by decide) rfl
      refine W.widen (k := 0) (n := 0) (Nat.le_of_ble_eq_true rfl) (Nat.le_of_ble_eq_true rfl) ?_
      exact W.vret hx hb hr (fun t ht hW9 => ⟨⟨f1, rfl, hf, ⟨by show va_P _ _ _ t.heap; rw [ht]; exact hP9, hD9⟩⟩, hS.F ht⟩) hS.2.2 dJ7_fill_53178_20
    | succ k ih =>
      intro i f1 H locs ls hk hf hP hD hS hl
      have hlt : i < n := by omega
      refine lv_iload_n hx hb dJ7_fill_53178_5 rfl (lv_at hl 0 rfl) ?_
      refine lv_iload_n hx hb dJ7_fill_53178_6 rfl (lv_at hl 1 rfl) ?_
      refine lv_icmp_ge (tgt := 20) hx hb dJ7_fill_53178_7 (by decide) (fun c349 => absurd c349 (nI_ge hlt hn)) (fun _ => ?_)
      refine lv_aload_n hx hb dJ7_fill_53178_10 rfl (lv_at hl 2 rfl) ?_
      refine lv_iload_n hx hb dJ7_fill_53178_11 rfl (lv_at hl 0 rfl) ?_
      refine lv_iload_n hx hb dJ7_fill_53178_12 rfl (lv_at hl 3 rfl) ?_
      refine va_iast hx hb hX.1 hP hD hS 0 0 rfl rfl (vp_in_nI hlt hn) dJ7_fill_53178_13 (fun H locs hP hD hS => ?_)
      rw [nI_clamp (Nat.lt_trans hlt hn)] at hP hD
      refine lv_iinc (v := nI (i + 1)) (lv' := [(2, .int (nI (i + 1))), (3, .int (nI n)), (0, .ref h0), (1, .int v)]) hx hb dJ7_fill_53178_14 hl (k := 0) rfl (nI_1 i) (by decide) rfl (fun ls hl => ?_)
      refine lv_goto (tgt := 5) hx hb dJ7_fill_53178_17 (by decide) ?_
      exact ih (i + 1) (upd f1 i v) H locs ls (by omega) (fun j hj => by unfold upd; split <;> first | rfl | (exact hf j (by omega))) hP hD hS (lv_sub hl [0, 1, 2, 3] rfl)
  exact K n 0 f _ _ ls (Nat.zero_add n) (fun j hj => absurd hj (Nat.not_lt_zero j)) hP hD hS (lv_sub hl [1, 0, 2, 3] rfl)

set_option maxHeartbeats 4000000 in
set_option maxRecDepth 100000 in
theorem l_X3_init (l : Launch) (D : va_G) (cA : Nat → ClassId) (A : Nat → Prop) (h0 : Nat) (x1 : Int32)  : Met l yX3_init wsX3_init ({ frames := 1, cells := 2, slots := 12, locals := 20 }) (pcPre D vwCl (tyL cA) [.ref h0, .int x1] (fun H => va_P D vwCl [(h0, .inr (3, [.int 0, .null, .null, .int 0, .int 0, .int 0, .long 0, .int 0, .int 0, .int 0]))] H ∧ va_D A [(h0, .inr (3, [.int 0, .null, .null, .int 0, .int 0, .int 0, .long 0, .int 0, .int 0, .int 0]))] ∧ (∀ q, H.size ≤ q → A q))) (va_Qv (fun (u : Unit) => True) (fun (u : Unit) t => ∃ (q350 : Nat) (q353 : Nat), va_P D vwCl [(h0, .inr (3, [.int x1, .ref q350, .ref q353, .int 0, .int 0, .int (-1), .long 0, .int 0, .int 0, .int 0])), (q350, .inl (cA 1, 6, .inr (.inl (vp_updL (fun _ => 0) 0 1048577)))), (q353, .inl (cA 0, 6, .inl (fun _ => 0)))] t.heap ∧ va_D A [(h0, .inr (3, [.int x1, .ref q350, .ref q353, .int 0, .int 0, .int (-1), .long 0, .int 0, .int 0, .int 0])), (q350, .inl (cA 1, 6, .inr (.inl (vp_updL (fun _ => 0) 0 1048577)))), (q353, .inl (cA 0, 6, .inl (fun _ => 0)))]) A) 2 12 A := by
  refine Met.ofW (cc := cX3_init) (maxL := 2) (ret := none) (by decide) rfl ?_
  intro p e s m args below meth c s₁ B hml hv
  obtain ⟨rfl, hX, hP, hD, hA⟩ := hv
  have hx := B.exec
  have hb := B.bytes
  have hr := B.returns
  have hts := atoms_spec (ws := wsX3_init) B.pre
  have hown : s.vm.findClass RX3 = some m.cls := findClass_of_methodNamed B.named
  have hlocks := B.notSynchronized
  have hin : meth.name = "<init>" := (name_of_methodNamed B.named B.method).1
  have hS : va_S A s.heap s.heap [] := va_S.rf
  have hl := lv_entry ([.ref h0, .int x1]) (n := 2) (Nat.le_of_ble_eq_true rfl)
  rw [lg_entry_eq]
  generalize (lg_sl ([.ref h0, .int x1]) ++ List.replicate (2 - (lg_sl ([.ref h0, .int x1])).length) Slot.unset).toArray = ls at hl ⊢
  have hl : lv_has ls 2 [(0, .ref h0), (1, .int x1)] := hl
  refine lv_aload_n hx hb dX3_init_0 rfl (lv_at hl 0 rfl) ?_
  refine W.objInit hx hb hown (hts (.methodLink RX3 3 objectInit) (by decide +kernel)) (hts (.instanceMethod objectInit) (by decide +kernel)) (hts (.code objectInit ⟨#[0xb1]⟩ 1 none) (by decide +kernel)) rfl (by rw [hml]; exact hl.1) rfl dX3_init_1 (Nat.le_of_ble_eq_true rfl) (Nat.le_of_ble_eq_true rfl) ?_
  refine W.eq (g2 := F0 m 4 ls []) rfl ?_
  refine lv_aload_n hx hb dX3_init_4 rfl (lv_at hl 0 rfl) ?_
  refine lv_bipush (v := 6) hx hb dX3_init_5 (by decide) ?_
  refine va_newa (atype := .long) (ty := .long) (N' := 6) (a0 := (6, .inr (.inl (fun _ => 0)))) hx hb (hts (.arrayClass .long) (by decide +kernel)) rfl hX.1 hP hD hS hA (fun _ => rfl) (by decide) (by decide) (Nat.le_of_ble_eq_true rfl) (Nat.le_of_ble_eq_true rfl) (Nat.le_of_ble_eq_true rfl) dX3_init_7 (fun q350 y351 H hK9 hP hD hS => ?_)
  obtain rfl : y351 = cA 1 := va_K_last (t0 := 1) hX.1 rfl hK9
  have hP : va_P D vwCl [(h0, .inr (3, [.int 0, .null, .null, .int 0, .int 0, .int 0, .long 0, .int 0, .int 0, .int 0])), (q350, .inl (cA 1, 6, .inr (.inl (fun _ => 0))))] H := hP
  have hD : va_D A [(h0, .inr (3, [.int 0, .null, .null, .int 0, .int 0, .int 0, .long 0, .int 0, .int 0, .int 0])), (q350, .inl (cA 1, 6, .inr (.inl (fun _ => 0))))] := hD
  refine W.widen (k := 1) (n := 6) (Nat.le_of_ble_eq_true rfl) (Nat.le_of_ble_eq_true rfl) ?_
  refine va_putF (D := D) (ci := 3) (v := .ref q350) (ty := .array .long) (C := RX3) (T := TX3) (N := 10) hx hb hts (by decide +kernel) tyX3 tyX3_ok nmX3 hown hX.1 hP hD hS 0 rfl rfl 1 (by decide) (hts (.fieldLink RX3 9 "DraftsmanOffice$Sheet" "regions" "[J") (by decide +kernel)) (fun _ h9 => h9) rfl hin rfl (by decide +kernel) rfl rfl (Nat.le_of_ble_eq_true rfl) dX3_init_9 (fun H locs hP hD hS => ?_)
  have hP : va_P D vwCl [(h0, .inr (3, [.int 0, .ref q350, .null, .int 0, .int 0, .int 0, .long 0, .int 0, .int 0, .int 0])), (q350, .inl (cA 1, 6, .inr (.inl (fun _ => 0))))] H := hP
  have hD : va_D A [(h0, .inr (3, [.int 0, .ref q350, .null, .int 0, .int 0, .int 0, .long 0, .int 0, .int 0, .int 0])), (q350, .inl (cA 1, 6, .inr (.inl (fun _ => 0))))] := hD
  refine lv_aload_n hx hb dX3_init_12 rfl (lv_at hl 0 rfl) ?_
  refine lv_bipush (v := 6) hx hb dX3_init_13 (by decide) ?_
  refine va_newa (atype := .int) (ty := .int) (N' := 6) (a0 := (6, .inl (fun _ => 0))) hx hb (hts (.arrayClass .int) (by decide +kernel)) rfl hX.1 hP hD hS hA (fun _ => rfl) (by decide) (by decide) (Nat.le_of_ble_eq_true rfl) (Nat.le_of_ble_eq_true rfl) (Nat.le_of_ble_eq_true rfl) dX3_init_15 (fun q353 y354 H hK9 hP hD hS => ?_)
  obtain rfl : y354 = cA 0 := va_K_last (t0 := 0) hX.1 rfl hK9
  have hP : va_P D vwCl [(h0, .inr (3, [.int 0, .ref q350, .null, .int 0, .int 0, .int 0, .long 0, .int 0, .int 0, .int 0])), (q350, .inl (cA 1, 6, .inr (.inl (fun _ => 0)))), (q353, .inl (cA 0, 6, .inl (fun _ => 0)))] H := hP
  have hD : va_D A [(h0, .inr (3, [.int 0, .ref q350, .null, .int 0, .int 0, .int 0, .long 0, .int 0, .int 0, .int 0])), (q350, .inl (cA 1, 6, .inr (.inl (fun _ => 0)))), (q353, .inl (cA 0, 6, .inl (fun _ => 0)))] := hD
  refine W.widen (k := 2) (n := 12) (Nat.le_of_ble_eq_true rfl) (Nat.le_of_ble_eq_true rfl) ?_
  refine va_putF (D := D) (ci := 3) (v := .ref q353) (ty := .array .int) (C := RX3) (T := TX3) (N := 10) hx hb hts (by decide +kernel) tyX3 tyX3_ok nmX3 hown hX.1 hP hD hS 0 rfl rfl 2 (by decide) (hts (.fieldLink RX3 15 "DraftsmanOffice$Sheet" "details" "[I") (by decide +kernel)) (fun _ h9 => h9) rfl hin rfl (by decide +kernel) rfl rfl (Nat.le_of_ble_eq_true rfl) dX3_init_17 (fun H locs hP hD hS => ?_)
  have hP : va_P D vwCl [(h0, .inr (3, [.int 0, .ref q350, .ref q353, .int 0, .int 0, .int 0, .long 0, .int 0, .int 0, .int 0])), (q350, .inl (cA 1, 6, .inr (.inl (fun _ => 0)))), (q353, .inl (cA 0, 6, .inl (fun _ => 0)))] H := hP
  have hD : va_D A [(h0, .inr (3, [.int 0, .ref q350, .ref q353, .int 0, .int 0, .int 0, .long 0, .int 0, .int 0, .int 0])), (q350, .inl (cA 1, 6, .inr (.inl (fun _ => 0)))), (q353, .inl (cA 0, 6, .inl (fun _ => 0)))] := hD
  refine lv_aload_n hx hb dX3_init_20 rfl (lv_at hl 0 rfl) ?_
  refine lv_iconst (v := 0) hx hb dX3_init_21 (by decide) ?_
  refine va_put (D := D) (ci := 3) (v := .int 0) (ty := .int) (C := RX3) (T := TX3) (N := 10) hx hb hts (by decide +kernel) tyX3 tyX3_ok nmX3 hown hX.1 hP hD hS 0 rfl rfl 3 (by decide) (hts (.fieldLink RX3 19 "DraftsmanOffice$Sheet" "last" "I") (by decide +kernel)) (fun _ h9 => h9) rfl (by decide +kernel) rfl rfl (Nat.le_of_ble_eq_true rfl) dX3_init_22 (fun H locs hP hD hS => ?_)
  have hP : va_P D vwCl [(h0, .inr (3, [.int 0, .ref q350, .ref q353, .int 0, .int 0, .int 0, .long 0, .int 0, .int 0, .int 0])), (q350, .inl (cA 1, 6, .inr (.inl (fun _ => 0)))), (q353, .inl (cA 0, 6, .inl (fun _ => 0)))] H := hP
  have hD : va_D A [(h0, .inr (3, [.int 0, .ref q350, .ref q353, .int 0, .int 0, .int 0, .long 0, .int 0, .int 0, .int 0])), (q350, .inl (cA 1, 6, .inr (.inl (fun _ => 0)))), (q353, .inl (cA 0, 6, .inl (fun _ => 0)))] := hD
  refine lv_aload_n hx hb dX3_init_25 rfl (lv_at hl 0 rfl) ?_
  refine lv_iconst (v := 0) hx hb dX3_init_26 (by decide) ?_
  refine va_put (D := D) (ci := 3) (v := .int 0) (ty := .boolean) (C := RX3) (T := TX3) (N := 10) hx hb hts (by decide +kernel) tyX3 tyX3_ok nmX3 hown hX.1 hP hD hS 0 rfl rfl 4 (by decide) (hts (.fieldLink RX3 23 "DraftsmanOffice$Sheet" "isLastChecked" "Z") (by decide +kernel)) (fun _ h9 => h9) rfl (by decide +kernel) rfl rfl (Nat.le_of_ble_eq_true rfl) dX3_init_27 (fun H locs hP hD hS => ?_)
  have hP : va_P D vwCl [(h0, .inr (3, [.int 0, .ref q350, .ref q353, .int 0, .int 0, .int 0, .long 0, .int 0, .int 0, .int 0])), (q350, .inl (cA 1, 6, .inr (.inl (fun _ => 0)))), (q353, .inl (cA 0, 6, .inl (fun _ => 0)))] H := hP
  have hD : va_D A [(h0, .inr (3, [.int 0, .ref q350, .ref q353, .int 0, .int 0, .int 0, .long 0, .int 0, .int 0, .int 0])), (q350, .inl (cA 1, 6, .inr (.inl (fun _ => 0)))), (q353, .inl (cA 0, 6, .inl (fun _ => 0)))] := hD
  refine lv_aload_n hx hb dX3_init_30 rfl (lv_at hl 0 rfl) ?_
  refine lv_iconst (v := -1) hx hb dX3_init_31 (by decide) ?_
  refine va_put (D := D) (ci := 3) (v := .int (-1)) (ty := .int) (C := RX3) (T := TX3) (N := 10) hx hb hts (by decide +kernel) tyX3 tyX3_ok nmX3 hown hX.1 hP hD hS 0 rfl rfl 5 (by decide) (hts (.fieldLink RX3 27 "DraftsmanOffice$Sheet" "issued" "I") (by decide +kernel)) (fun _ h9 => h9) rfl (by decide +kernel) rfl rfl (Nat.le_of_ble_eq_true rfl) dX3_init_32 (fun H locs hP hD hS => ?_)
  have hP : va_P D vwCl [(h0, .inr (3, [.int 0, .ref q350, .ref q353, .int 0, .int 0, .int (-1), .long 0, .int 0, .int 0, .int 0])), (q350, .inl (cA 1, 6, .inr (.inl (fun _ => 0)))), (q353, .inl (cA 0, 6, .inl (fun _ => 0)))] H := hP
  have hD : va_D A [(h0, .inr (3, [.int 0, .ref q350, .ref q353, .int 0, .int 0, .int (-1), .long 0, .int 0, .int 0, .int 0])), (q350, .inl (cA 1, 6, .inr (.inl (fun _ => 0)))), (q353, .inl (cA 0, 6, .inl (fun _ => 0)))] := hD
  refine lv_aload_n hx hb dX3_init_35 rfl (lv_at hl 0 rfl) ?_
  refine lv_lconst (v := 0) hx hb dX3_init_36 (by decide) ?_
  refine va_put (D := D) (ci := 3) (v := .long 0) (ty := .long) (C := RX3) (T := TX3) (N := 10) hx hb hts (by decide +kernel) tyX3 tyX3_ok nmX3 hown hX.1 hP hD hS 0 rfl rfl 6 (by decide) (hts (.fieldLink RX3 30 "DraftsmanOffice$Sheet" "issuedRegion" "J") (by decide +kernel)) (fun _ h9 => h9) rfl (by decide +kernel) rfl rfl (Nat.le_of_ble_eq_true rfl) dX3_init_37 (fun H locs hP hD hS => ?_)
  have hP : va_P D vwCl [(h0, .inr (3, [.int 0, .ref q350, .ref q353, .int 0, .int 0, .int (-1), .long 0, .int 0, .int 0, .int 0])), (q350, .inl (cA 1, 6, .inr (.inl (fun _ => 0)))), (q353, .inl (cA 0, 6, .inl (fun _ => 0)))] H := hP
  have hD : va_D A [(h0, .inr (3, [.int 0, .ref q350, .ref q353, .int 0, .int 0, .int (-1), .long 0, .int 0, .int 0, .int 0])), (q350, .inl (cA 1, 6, .inr (.inl (fun _ => 0)))), (q353, .inl (cA 0, 6, .inl (fun _ => 0)))] := hD
  refine lv_aload_n hx hb dX3_init_40 rfl (lv_at hl 0 rfl) ?_
  refine lv_iconst (v := 0) hx hb dX3_init_41 (by decide) ?_
  refine va_put (D := D) (ci := 3) (v := .int 0) (ty := .int) (C := RX3) (T := TX3) (N := 10) hx hb hts (by decide +kernel) tyX3 tyX3_ok nmX3 hown hX.1 hP hD hS 0 rfl rfl 7 (by decide) (hts (.fieldLink RX3 34 "DraftsmanOffice$Sheet" "issuedDetails" "I") (by decide +kernel)) (fun _ h9 => h9) rfl (by decide +kernel) rfl rfl (Nat.le_of_ble_eq_true rfl) dX3_init_42 (fun H locs hP hD hS => ?_)
  have hP : va_P D vwCl [(h0, .inr (3, [.int 0, .ref q350, .ref q353, .int 0, .int 0, .int (-1), .long 0, .int 0, .int 0, .int 0])), (q350, .inl (cA 1, 6, .inr (.inl (fun _ => 0)))), (q353, .inl (cA 0, 6, .inl (fun _ => 0)))] H := hP
  have hD : va_D A [(h0, .inr (3, [.int 0, .ref q350, .ref q353, .int 0, .int 0, .int (-1), .long 0, .int 0, .int 0, .int 0])), (q350, .inl (cA 1, 6, .inr (.inl (fun _ => 0)))), (q353, .inl (cA 0, 6, .inl (fun _ => 0)))] := hD
  refine lv_aload_n hx hb dX3_init_45 rfl (lv_at hl 0 rfl) ?_
  refine lv_iconst (v := 0) hx hb dX3_init_46 (by decide) ?_
  refine va_put (D := D) (ci := 3) (v := .int 0) (ty := .int) (C := RX3) (T := TX3) (N := 10) hx hb hts (by decide +kernel) tyX3 tyX3_ok nmX3 hown hX.1 hP hD hS 0 rfl rfl 8 (by decide) (hts (.fieldLink RX3 37 "DraftsmanOffice$Sheet" "marks" "I") (by decide +kernel)) (fun _ h9 => h9) rfl (by decide +kernel) rfl rfl (Nat.le_of_ble_eq_true rfl) dX3_init_47 (fun H locs hP hD hS => ?_)
  have hP : va_P D vwCl [(h0, .inr (3, [.int 0, .ref q350, .ref q353, .int 0, .int 0, .int (-1), .long 0, .int 0, .int 0, .int 0])), (q350, .inl (cA 1, 6, .inr (.inl (fun _ => 0)))), (q353, .inl (cA 0, 6, .inl (fun _ => 0)))] H := hP
  have hD : va_D A [(h0, .inr (3, [.int 0, .ref q350, .ref q353, .int 0, .int 0, .int (-1), .long 0, .int 0, .int 0, .int 0])), (q350, .inl (cA 1, 6, .inr (.inl (fun _ => 0)))), (q353, .inl (cA 0, 6, .inl (fun _ => 0)))] := hD
  refine lv_aload_n hx hb dX3_init_50 rfl (lv_at hl 0 rfl) ?_
  refine lv_iconst (v := 0) hx hb dX3_init_51 (by decide) ?_
  refine va_put (D := D) (ci := 3) (v := .int 0) (ty := .int) (C := RX3) (T := TX3) (N := 10) hx hb hts (by decide +kernel) tyX3 tyX3_ok nmX3 hown hX.1 hP hD hS 0 rfl rfl 9 (by decide) (hts (.fieldLink RX3 40 "DraftsmanOffice$Sheet" "excused" "I") (by decide +kernel)) (fun _ h9 => h9) rfl (by decide +kernel) rfl rfl (Nat.le_of_ble_eq_true rfl) dX3_init_52 (fun H locs hP hD hS => ?_)
  have hP : va_P D vwCl [(h0, .inr (3, [.int 0, .ref q350, .ref q353, .int 0, .int 0, .int (-1), .long 0, .int 0, .int 0, .int 0])), (q350, .inl (cA 1, 6, .inr (.inl (fun _ => 0)))), (q353, .inl (cA 0, 6, .inl (fun _ => 0)))] H := hP
  have hD : va_D A [(h0, .inr (3, [.int 0, .ref q350, .ref q353, .int 0, .int 0, .int (-1), .long 0, .int 0, .int 0, .int 0])), (q350, .inl (cA 1, 6, .inr (.inl (fun _ => 0)))), (q353, .inl (cA 0, 6, .inl (fun _ => 0)))] := hD
  refine lv_aload_n hx hb dX3_init_55 rfl (lv_at hl 0 rfl) ?_
  refine lv_iload_n hx hb dX3_init_56 rfl (lv_at hl 1 rfl) ?_
  refine va_putF (D := D) (ci := 3) (v := .int x1) (ty := .int) (C := RX3) (T := TX3) (N := 10) hx hb hts (by decide +kernel) tyX3 tyX3_ok nmX3 hown hX.1 hP hD hS 0 rfl rfl 0 (by decide) (hts (.fieldLink RX3 43 "DraftsmanOffice$Sheet" "trade" "I") (by decide +kernel)) (fun _ h9 => h9) rfl hin rfl (by decide +kernel) rfl rfl (Nat.le_of_ble_eq_true rfl) dX3_init_57 (fun H locs hP hD hS => ?_)
  have hP : va_P D vwCl [(h0, .inr (3, [.int x1, .ref q350, .ref q353, .int 0, .int 0, .int (-1), .long 0, .int 0, .int 0, .int 0])), (q350, .inl (cA 1, 6, .inr (.inl (fun _ => 0)))), (q353, .inl (cA 0, 6, .inl (fun _ => 0)))] H := hP
  have hD : va_D A [(h0, .inr (3, [.int x1, .ref q350, .ref q353, .int 0, .int 0, .int (-1), .long 0, .int 0, .int 0, .int 0])), (q350, .inl (cA 1, 6, .inr (.inl (fun _ => 0)))), (q353, .inl (cA 0, 6, .inl (fun _ => 0)))] := hD
  refine lv_aload_n hx hb dX3_init_60 rfl (lv_at hl 0 rfl) ?_
  refine va_get (D := D) (ci := 3) (v := .ref q350) (C := RX3) (T := TX3) (N := 10) hx hb hts (by decide +kernel) hown hX.1 hP 0 rfl rfl 1 (by decide) (hts (.fieldLink RX3 9 "DraftsmanOffice$Sheet" "regions" "[J") (by decide +kernel)) (fun _ h9 => h9) rfl dX3_init_61 ?_
  refine lv_iconst (v := 0) hx hb dX3_init_64 (by decide) ?_
  refine lv_ldc2 (v := 1048577) hx hb hown (hts (.constantLong RX3 46 1048577) (by decide +kernel)) dX3_init_65 ?_
  refine va_last hx hb hX.1 hP hD hS 1 1 rfl rfl (vp_in_nI (n := 0) (by decide) (by decide)) dX3_init_68 (fun H locs hP hD hS => ?_)
  have hP : va_P D vwCl [(h0, .inr (3, [.int x1, .ref q350, .ref q353, .int 0, .int 0, .int (-1), .long 0, .int 0, .int 0, .int 0])), (q350, .inl (cA 1, 6, .inr (.inl (vp_updL (fun _ => 0) 0 1048577)))), (q353, .inl (cA 0, 6, .inl (fun _ => 0)))] H := hP
  have hD : va_D A [(h0, .inr (3, [.int x1, .ref q350, .ref q353, .int 0, .int 0, .int (-1), .long 0, .int 0, .int 0, .int 0])), (q350, .inl (cA 1, 6, .inr (.inl (vp_updL (fun _ => 0) 0 1048577)))), (q353, .inl (cA 0, 6, .inl (fun _ => 0)))] := hD
  have hP9 := hP.sub (ws' := [(h0, .inr (3, [.int x1, .ref q350, .ref q353, .int 0, .int 0, .int (-1), .long 0, .int 0, .int 0, .int 0])), (q350, .inl (cA 1, 6, .inr (.inl (vp_updL (fun _ => 0) 0 1048577)))), (q353, .inl (cA 0, 6, .inl (fun _ => 0)))]) [0, 1, 2] rfl
  have hD9 := hD.sub (ws' := [(h0, .inr (3, [.int x1, .ref q350, .ref q353, .int 0, .int 0, .int (-1), .long 0, .int 0, .int 0, .int 0])), (q350, .inl (cA 1, 6, .inr (.inl (vp_updL (fun _ => 0) 0 1048577)))), (q353, .inl (cA 0, 6, .inl (fun _ => 0)))]) [0, 1, 2] (by decide) rfl
  refine W.widen (k := 2) (n := 12) (Nat.le_of_ble_eq_true rfl) (Nat.le_of_ble_eq_true rfl) ?_
  exact W.vret hx hb hr (fun t ht hW9 => ⟨⟨(), rfl, trivial, ⟨q350, q353, by show va_P _ _ _ t.heap; rw [ht]; exact hP9, hD9⟩⟩, hS.F ht⟩) hS.2.2 dX3_init_69

set_option maxHeartbeats 4000000 in
set_option maxRecDepth 100000 in
theorem l_X1_init (l : Launch) (D : va_G) (cA : Nat → ClassId) (A : Nat → Prop) (h0 : Nat) (x1 : Int32) (x2 : Int32) (x3 : Int32)  : Met l yX1_init wsX1_init ({ frames := 1, cells := 0, slots := 0, locals := 20 }) (pcPre D vwCl (tyL cA) [.ref h0, .int x1, .int x2, .int x3] (fun H => va_P D vwCl [(h0, .inr (1, [.int 0, .int 0, .int 0]))] H ∧ va_D A [(h0, .inr (1, [.int 0, .int 0, .int 0]))] ∧ (∀ q, H.size ≤ q → A q))) (va_Qv (fun (u : Unit) => True) (fun (u : Unit) t => va_P D vwCl [(h0, .inr (1, [.int x1, .int x2, .int x3]))] t.heap ∧ va_D A [(h0, .inr (1, [.int x1, .int x2, .int x3]))]) A) 0 0 A := by
  refine Met.ofW (cc := cX1_init) (maxL := 4) (ret := none) (by decide) rfl ?_
  intro p e s m args below meth c s₁ B hml hv
  obtain ⟨rfl, hX, hP, hD, hA⟩ := hv
  have hx := B.exec
  have hb := B.bytes
  have hr := B.returns
  have hts := atoms_spec (ws := wsX1_init) B.pre
  have hown : s.vm.findClass RX1 = some m.cls := findClass_of_methodNamed B.named
  have hlocks := B.notSynchronized
  have hin : meth.name = "<init>" := (name_of_methodNamed B.named B.method).1
  have hS : va_S A s.heap s.heap [] := va_S.rf
  have hl := lv_entry ([.ref h0, .int x1, .int x2, .int x3]) (n := 4) (Nat.le_of_ble_eq_true rfl)
  rw [lg_entry_eq]
  generalize (lg_sl ([.ref h0, .int x1, .int x2, .int x3]) ++ List.replicate (4 - (lg_sl ([.ref h0, .int x1, .int x2, .int x3])).length) Slot.unset).toArray = ls at hl ⊢
  have hl : lv_has ls 4 [(0, .ref h0), (1, .int x1), (2, .int x2), (3, .int x3)] := hl
  refine lv_aload_n hx hb dX1_init_0 rfl (lv_at hl 0 rfl) ?_
  refine W.objInit hx hb hown (hts (.methodLink RX1 1 objectInit) (by decide +kernel)) (hts (.instanceMethod objectInit) (by decide +kernel)) (hts (.code objectInit ⟨#[0xb1]⟩ 1 none) (by decide +kernel)) rfl (by rw [hml]; exact hl.1) rfl dX1_init_1 (Nat.le_of_ble_eq_true rfl) (Nat.le_of_ble_eq_true rfl) ?_
  refine W.eq (g2 := F0 m 4 ls []) rfl ?_
  refine lv_aload_n hx hb dX1_init_4 rfl (lv_at hl 0 rfl) ?_
  refine lv_iload_n hx hb dX1_init_5 rfl (lv_at hl 1 rfl) ?_
  refine va_putF (D := D) (ci := 1) (v := .int x1) (ty := .int) (C := RX1) (T := TX1) (N := 3) hx hb hts (by decide +kernel) tyX1 tyX1_ok nmX1 hown hX.1 hP hD hS 0 rfl rfl 0 (by decide) (hts (.fieldLink RX1 7 "DraftsmanOffice$Reference" "from" "I") (by decide +kernel)) (fun _ h9 => h9) rfl hin rfl (by decide +kernel) rfl rfl (Nat.le_of_ble_eq_true rfl) dX1_init_6 (fun H locs hP hD hS => ?_)
  have hP : va_P D vwCl [(h0, .inr (1, [.int x1, .int 0, .int 0]))] H := hP
  have hD : va_D A [(h0, .inr (1, [.int x1, .int 0, .int 0]))] := hD
  refine lv_aload_n hx hb dX1_init_9 rfl (lv_at hl 0 rfl) ?_
  refine lv_iload_n hx hb dX1_init_10 rfl (lv_at hl 2 rfl) ?_
  refine va_putF (D := D) (ci := 1) (v := .int x2) (ty := .int) (C := RX1) (T := TX1) (N := 3) hx hb hts (by decide +kernel) tyX1 tyX1_ok nmX1 hown hX.1 hP hD hS 0 rfl rfl 1 (by decide) (hts (.fieldLink RX1 13 "DraftsmanOffice$Reference" "to" "I") (by decide +kernel)) (fun _ h9 => h9) rfl hin rfl (by decide +kernel) rfl rfl (Nat.le_of_ble_eq_true rfl) dX1_init_11 (fun H locs hP hD hS => ?_)
  have hP : va_P D vwCl [(h0, .inr (1, [.int x1, .int x2, .int 0]))] H := hP
  have hD : va_D A [(h0, .inr (1, [.int x1, .int x2, .int 0]))] := hD
  refine lv_aload_n hx hb dX1_init_14 rfl (lv_at hl 0 rfl) ?_
  refine lv_iload_n hx hb dX1_init_15 rfl (lv_at hl 3 rfl) ?_
  refine va_putF (D := D) (ci := 1) (v := .int x3) (ty := .int) (C := RX1) (T := TX1) (N := 3) hx hb hts (by decide +kernel) tyX1 tyX1_ok nmX1 hown hX.1 hP hD hS 0 rfl rfl 2 (by decide) (hts (.fieldLink RX1 16 "DraftsmanOffice$Reference" "detail" "I") (by decide +kernel)) (fun _ h9 => h9) rfl hin rfl (by decide +kernel) rfl rfl (Nat.le_of_ble_eq_true rfl) dX1_init_16 (fun H locs hP hD hS => ?_)
  have hP : va_P D vwCl [(h0, .inr (1, [.int x1, .int x2, .int x3]))] H := hP
  have hD : va_D A [(h0, .inr (1, [.int x1, .int x2, .int x3]))] := hD
  have hP9 := hP.sub (ws' := [(h0, .inr (1, [.int x1, .int x2, .int x3]))]) [0] rfl
  have hD9 := hD.sub (ws' := [(h0, .inr (1, [.int x1, .int x2, .int x3]))]) [0] (by decide) rfl
  refine W.widen (k := 0) (n := 0) (Nat.le_of_ble_eq_true rfl) (Nat.le_of_ble_eq_true rfl) ?_
  exact W.vret hx hb hr (fun t ht hW9 => ⟨⟨(), rfl, trivial, ⟨by show va_P _ _ _ t.heap; rw [ht]; exact hP9, hD9⟩⟩, hS.F ht⟩) hS.2.2 dX1_init_19

set_option maxHeartbeats 4000000 in
set_option maxRecDepth 100000 in
theorem l_X2_init (l : Launch) (D : va_G) (cA : Nat → ClassId) (A : Nat → Prop) (h0 : Nat) (x1 : Int32) (x2 : Int32)  : Met l yX2_init wsX2_init ({ frames := 1, cells := 1, slots := 10, locals := 23 }) (pcPre D vwCl (tyL cA) [.ref h0, .int x1, .int x2] (fun H => va_P D vwCl [(h0, .inr (2, [.int 0, .null, .int 0]))] H ∧ va_D A [(h0, .inr (2, [.int 0, .null, .int 0]))] ∧ (∀ q, H.size ≤ q → A q))) (va_Qv (fun (u : Unit) => True) (fun (u : Unit) t => ∃ (q356 : Nat), va_P D vwCl [(h0, .inr (2, [.int x2, .ref q356, .int x1])), (q356, .inl (cA 0, 10, .inl (fun _ => (-1))))] t.heap ∧ va_D A [(h0, .inr (2, [.int x2, .ref q356, .int x1])), (q356, .inl (cA 0, 10, .inl (fun _ => (-1))))]) A) 1 10 A := by
  refine Met.ofW (cc := cX2_init) (maxL := 3) (ret := none) (by decide) rfl ?_
  intro p e s m args below meth c s₁ B hml hv
  obtain ⟨rfl, hX, hP, hD, hA⟩ := hv
  have hx := B.exec
  have hb := B.bytes
  have hr := B.returns
  have hts := atoms_spec (ws := wsX2_init) B.pre
  have hown : s.vm.findClass RX2 = some m.cls := findClass_of_methodNamed B.named
  have hlocks := B.notSynchronized
  have hin : meth.name = "<init>" := (name_of_methodNamed B.named B.method).1
  have hS : va_S A s.heap s.heap [] := va_S.rf
  have hl := lv_entry ([.ref h0, .int x1, .int x2]) (n := 3) (Nat.le_of_ble_eq_true rfl)
  rw [lg_entry_eq]
  generalize (lg_sl ([.ref h0, .int x1, .int x2]) ++ List.replicate (3 - (lg_sl ([.ref h0, .int x1, .int x2])).length) Slot.unset).toArray = ls at hl ⊢
  have hl : lv_has ls 3 [(0, .ref h0), (1, .int x1), (2, .int x2)] := hl
  refine lv_aload_n hx hb dX2_init_0 rfl (lv_at hl 0 rfl) ?_
  refine W.objInit hx hb hown (hts (.methodLink RX2 3 objectInit) (by decide +kernel)) (hts (.instanceMethod objectInit) (by decide +kernel)) (hts (.code objectInit ⟨#[0xb1]⟩ 1 none) (by decide +kernel)) rfl (by rw [hml]; exact hl.1) rfl dX2_init_1 (Nat.le_of_ble_eq_true rfl) (Nat.le_of_ble_eq_true rfl) ?_
  refine W.eq (g2 := F0 m 4 ls []) rfl ?_
  refine lv_aload_n hx hb dX2_init_4 rfl (lv_at hl 0 rfl) ?_
  refine lv_bipush (v := 10) hx hb dX2_init_5 (by decide) ?_
  refine va_newa (atype := .int) (ty := .int) (N' := 10) (a0 := (10, .inl (fun _ => 0))) hx hb (hts (.arrayClass .int) (by decide +kernel)) rfl hX.1 hP hD hS hA (fun _ => rfl) (by decide) (by decide) (Nat.le_of_ble_eq_true rfl) (Nat.le_of_ble_eq_true rfl) (Nat.le_of_ble_eq_true rfl) dX2_init_7 (fun q356 y357 H hK9 hP hD hS => ?_)
  obtain rfl : y357 = cA 0 := va_K_last (t0 := 0) hX.1 rfl hK9
  have hP : va_P D vwCl [(h0, .inr (2, [.int 0, .null, .int 0])), (q356, .inl (cA 0, 10, .inl (fun _ => 0)))] H := hP
  have hD : va_D A [(h0, .inr (2, [.int 0, .null, .int 0])), (q356, .inl (cA 0, 10, .inl (fun _ => 0)))] := hD
  refine W.widen (k := 1) (n := 10) (Nat.le_of_ble_eq_true rfl) (Nat.le_of_ble_eq_true rfl) ?_
  refine va_putF (D := D) (ci := 2) (v := .ref q356) (ty := .array .int) (C := RX2) (T := TX2) (N := 3) hx hb hts (by decide +kernel) tyX2 tyX2_ok nmX2 hown hX.1 hP hD hS 0 rfl rfl 1 (by decide) (hts (.fieldLink RX2 9 "DraftsmanOffice$Sending" "revisions" "[I") (by decide +kernel)) (fun _ h9 => h9) rfl hin rfl (by decide +kernel) rfl rfl (Nat.le_of_ble_eq_true rfl) dX2_init_9 (fun H locs hP hD hS => ?_)
  have hP : va_P D vwCl [(h0, .inr (2, [.int 0, .ref q356, .int 0])), (q356, .inl (cA 0, 10, .inl (fun _ => 0)))] H := hP
  have hD : va_D A [(h0, .inr (2, [.int 0, .ref q356, .int 0])), (q356, .inl (cA 0, 10, .inl (fun _ => 0)))] := hD
  refine lv_aload_n hx hb dX2_init_12 rfl (lv_at hl 0 rfl) ?_
  refine lv_iload_n hx hb dX2_init_13 rfl (lv_at hl 1 rfl) ?_
  refine va_put (D := D) (ci := 2) (v := .int x1) (ty := .int) (C := RX2) (T := TX2) (N := 3) hx hb hts (by decide +kernel) tyX2 tyX2_ok nmX2 hown hX.1 hP hD hS 0 rfl rfl 2 (by decide) (hts (.fieldLink RX2 15 "DraftsmanOffice$Sending" "awaitedBy" "I") (by decide +kernel)) (fun _ h9 => h9) rfl (by decide +kernel) rfl rfl (Nat.le_of_ble_eq_true rfl) dX2_init_14 (fun H locs hP hD hS => ?_)
  have hP : va_P D vwCl [(h0, .inr (2, [.int 0, .ref q356, .int x1])), (q356, .inl (cA 0, 10, .inl (fun _ => 0)))] H := hP
  have hD : va_D A [(h0, .inr (2, [.int 0, .ref q356, .int x1])), (q356, .inl (cA 0, 10, .inl (fun _ => 0)))] := hD
  refine lv_aload_n hx hb dX2_init_17 rfl (lv_at hl 0 rfl) ?_
  refine lv_iload_n hx hb dX2_init_18 rfl (lv_at hl 2 rfl) ?_
  refine va_putF (D := D) (ci := 2) (v := .int x2) (ty := .int) (C := RX2) (T := TX2) (N := 3) hx hb hts (by decide +kernel) tyX2 tyX2_ok nmX2 hown hX.1 hP hD hS 0 rfl rfl 0 (by decide) (hts (.fieldLink RX2 19 "DraftsmanOffice$Sending" "sentOn" "I") (by decide +kernel)) (fun _ h9 => h9) rfl hin rfl (by decide +kernel) rfl rfl (Nat.le_of_ble_eq_true rfl) dX2_init_19 (fun H locs hP hD hS => ?_)
  have hP : va_P D vwCl [(h0, .inr (2, [.int x2, .ref q356, .int x1])), (q356, .inl (cA 0, 10, .inl (fun _ => 0)))] H := hP
  have hD : va_D A [(h0, .inr (2, [.int x2, .ref q356, .int x1])), (q356, .inl (cA 0, 10, .inl (fun _ => 0)))] := hD
  refine lv_aload_n hx hb dX2_init_22 rfl (lv_at hl 0 rfl) ?_
  refine va_get (D := D) (ci := 2) (v := .ref q356) (C := RX2) (T := TX2) (N := 3) hx hb hts (by decide +kernel) hown hX.1 hP 0 rfl rfl 1 (by decide) (hts (.fieldLink RX2 9 "DraftsmanOffice$Sending" "revisions" "[I") (by decide +kernel)) (fun _ h9 => h9) rfl dX2_init_23 ?_
  refine lv_iconst (v := -1) hx hb dX2_init_26 (by decide) ?_
  have hPc := hP.sub (ws' := [(q356, .inl (cA 0, 10, .inl (fun _ => 0)))]) [1] rfl
  have hDc := (hD.sub (ws' := [(q356, .inl (cA 0, 10, .inl (fun _ => 0)))]) [1] (by decide) rfl).self (sz := H.size)
  have hFc := va_free (wc := [(q356, .inl (cA 0, 10, .inl (fun _ => 0)))]) hD hS hA [1] rfl
  refine va_callv (va_runS (As := [.ref q356, .int (-1)]) (rest := []) ⟨hx, hb, hml, hown, hts⟩ (l_J7_fill_53178 l D cA (va_A [(q356, .inl (cA 0, 10, .inl (fun _ => 0)))] H.size) q356 10 (fun _ => 0) (-1) (by decide)) (va_cwS 2 hts gX2_init_J7_fill_53178 rfl rfl rfl (by decide +kernel) ⟨Nat.le_of_ble_eq_true rfl, Nat.le_of_ble_eq_true rfl⟩) (pc_preS pcN_ok hX ⟨hPc, hDc, fun q h => Or.inr h⟩) rfl rfl hl.1 rfl (lv_room (Nat.le_of_ble_eq_true rfl)) dX2_init_27 ⟨Nat.le_of_ble_eq_true rfl, Nat.le_of_ble_eq_true rfl⟩) hS (fun q _ h => hFc q h) hFc (fun u359 t H1 locs ht hvm hw hB hz1 hk1 hS => ?_)
  obtain ⟨hP1, hD1⟩ := hB
  rw [ht] at hP1
  obtain ⟨hP, hD⟩ := va_join (wr := [(h0, .inr (2, [.int x2, .ref q356, .int x1]))]) (w1 := [(q356, .inl (cA 0, 10, .inl u359))]) hP hD [1] [0] rfl rfl (by decide) (by decide) hk1 hFc hP1 hD1
  generalize H1 = H at hP hS ⊢
  have hP : va_P D vwCl [(h0, .inr (2, [.int x2, .ref q356, .int x1])), (q356, .inl (cA 0, 10, .inl u359))] H := hP
  have hD : va_D A [(h0, .inr (2, [.int x2, .ref q356, .int x1])), (q356, .inl (cA 0, 10, .inl u359))] := hD
  refine W.widen (k := 1) (n := 10) (Nat.le_of_ble_eq_true rfl) (Nat.le_of_ble_eq_true rfl) ?_
  have hP := va_P_row hP 1 (g := (fun _ => (-1))) rfl hw
  have hD := va_D_row hD 1 (e2 := .inl (cA 0, 10, .inl (fun _ => (-1)))) rfl
  have hP : va_P D vwCl [(h0, .inr (2, [.int x2, .ref q356, .int x1])), (q356, .inl (cA 0, 10, .inl (fun _ => (-1))))] H := hP
  have hD : va_D A [(h0, .inr (2, [.int x2, .ref q356, .int x1])), (q356, .inl (cA 0, 10, .inl (fun _ => (-1))))] := hD
  have hP9 := hP.sub (ws' := [(h0, .inr (2, [.int x2, .ref q356, .int x1])), (q356, .inl (cA 0, 10, .inl (fun _ => (-1))))]) [0, 1] rfl
  have hD9 := hD.sub (ws' := [(h0, .inr (2, [.int x2, .ref q356, .int x1])), (q356, .inl (cA 0, 10, .inl (fun _ => (-1))))]) [0, 1] (by decide) rfl
  refine W.widen (k := 1) (n := 10) (Nat.le_of_ble_eq_true rfl) (Nat.le_of_ble_eq_true rfl) ?_
  exact W.vret hx hb hr (fun t ht hW9 => ⟨⟨(), rfl, trivial, ⟨q356, by show va_P _ _ _ t.heap; rw [ht]; exact hP9, hD9⟩⟩, hS.F ht⟩) hS.2.2 dX2_init_30

set_option maxHeartbeats 4000000 in
set_option maxRecDepth 100000 in
theorem l_X0_init (l : Launch) (D : va_G) (cA : Nat → ClassId) (A : Nat → Prop) (h0 : Nat) (x1 : Int32) (x2 : Int64)  : Met l yX0_init wsX0_init ({ frames := 1, cells := 0, slots := 0, locals := 20 }) (pcPre D vwCl (tyL cA) [.ref h0, .int x1, .long x2] (fun H => va_P D vwCl [(h0, .inr (0, [.int 0, .long 0, .int 0]))] H ∧ va_D A [(h0, .inr (0, [.int 0, .long 0, .int 0]))] ∧ (∀ q, H.size ≤ q → A q))) (va_Qv (fun (u : Unit) => True) (fun (u : Unit) t => va_P D vwCl [(h0, .inr (0, [.int x1, .long x2, .int 0]))] t.heap ∧ va_D A [(h0, .inr (0, [.int x1, .long x2, .int 0]))]) A) 0 0 A := by
  refine Met.ofW (cc := cX0_init) (maxL := 4) (ret := none) (by decide) rfl ?_
  intro p e s m args below meth c s₁ B hml hv
  obtain ⟨rfl, hX, hP, hD, hA⟩ := hv
  have hx := B.exec
  have hb := B.bytes
  have hr := B.returns
  have hts := atoms_spec (ws := wsX0_init) B.pre
  have hown : s.vm.findClass RX0 = some m.cls := findClass_of_methodNamed B.named
  have hlocks := B.notSynchronized
  have hin : meth.name = "<init>" := (name_of_methodNamed B.named B.method).1
  have hS : va_S A s.heap s.heap [] := va_S.rf
  have hl := lv_entry ([.ref h0, .int x1, .long x2]) (n := 4) (Nat.le_of_ble_eq_true rfl)
  rw [lg_entry_eq]
  generalize (lg_sl ([.ref h0, .int x1, .long x2]) ++ List.replicate (4 - (lg_sl ([.ref h0, .int x1, .long x2])).length) Slot.unset).toArray = ls at hl ⊢
  have hl : lv_has ls 4 [(0, .ref h0), (1, .int x1), (2, .long x2)] := hl
  refine lv_aload_n hx hb dX0_init_0 rfl (lv_at hl 0 rfl) ?_
  refine W.objInit hx hb hown (hts (.methodLink RX0 3 objectInit) (by decide +kernel)) (hts (.instanceMethod objectInit) (by decide +kernel)) (hts (.code objectInit ⟨#[0xb1]⟩ 1 none) (by decide +kernel)) rfl (by rw [hml]; exact hl.1) rfl dX0_init_1 (Nat.le_of_ble_eq_true rfl) (Nat.le_of_ble_eq_true rfl) ?_
  refine W.eq (g2 := F0 m 4 ls []) rfl ?_
  refine lv_aload_n hx hb dX0_init_4 rfl (lv_at hl 0 rfl) ?_
  refine lv_iconst (v := 0) hx hb dX0_init_5 (by decide) ?_
  refine va_put (D := D) (ci := 0) (v := .int 0) (ty := .int) (C := RX0) (T := TX0) (N := 3) hx hb hts (by decide +kernel) tyX0 tyX0_ok nmX0 hown hX.1 hP hD hS 0 rfl rfl 2 (by decide) (hts (.fieldLink RX0 9 "DraftsmanOffice$Query" "state" "I") (by decide +kernel)) (fun _ h9 => h9) rfl (by decide +kernel) rfl rfl (Nat.le_of_ble_eq_true rfl) dX0_init_6 (fun H locs hP hD hS => ?_)
  have hP : va_P D vwCl [(h0, .inr (0, [.int 0, .long 0, .int 0]))] H := hP
  have hD : va_D A [(h0, .inr (0, [.int 0, .long 0, .int 0]))] := hD
  refine lv_aload_n hx hb dX0_init_9 rfl (lv_at hl 0 rfl) ?_
  refine lv_iload_n hx hb dX0_init_10 rfl (lv_at hl 1 rfl) ?_
  refine va_putF (D := D) (ci := 0) (v := .int x1) (ty := .int) (C := RX0) (T := TX0) (N := 3) hx hb hts (by decide +kernel) tyX0 tyX0_ok nmX0 hown hX.1 hP hD hS 0 rfl rfl 0 (by decide) (hts (.fieldLink RX0 15 "DraftsmanOffice$Query" "sheet" "I") (by decide +kernel)) (fun _ h9 => h9) rfl hin rfl (by decide +kernel) rfl rfl (Nat.le_of_ble_eq_true rfl) dX0_init_11 (fun H locs hP hD hS => ?_)
  have hP : va_P D vwCl [(h0, .inr (0, [.int x1, .long 0, .int 0]))] H := hP
  have hD : va_D A [(h0, .inr (0, [.int x1, .long 0, .int 0]))] := hD
  refine lv_aload_n hx hb dX0_init_14 rfl (lv_at hl 0 rfl) ?_
  refine lv_lload_n hx hb dX0_init_15 rfl (lv_at hl 2 rfl) ?_
  refine va_putF (D := D) (ci := 0) (v := .long x2) (ty := .long) (C := RX0) (T := TX0) (N := 3) hx hb hts (by decide +kernel) tyX0 tyX0_ok nmX0 hown hX.1 hP hD hS 0 rfl rfl 1 (by decide) (hts (.fieldLink RX0 18 "DraftsmanOffice$Query" "region" "J") (by decide +kernel)) (fun _ h9 => h9) rfl hin rfl (by decide +kernel) rfl rfl (Nat.le_of_ble_eq_true rfl) dX0_init_16 (fun H locs hP hD hS => ?_)
  have hP : va_P D vwCl [(h0, .inr (0, [.int x1, .long x2, .int 0]))] H := hP
  have hD : va_D A [(h0, .inr (0, [.int x1, .long x2, .int 0]))] := hD
  have hP9 := hP.sub (ws' := [(h0, .inr (0, [.int x1, .long x2, .int 0]))]) [0] rfl
  have hD9 := hD.sub (ws' := [(h0, .inr (0, [.int x1, .long x2, .int 0]))]) [0] (by decide) rfl
  refine W.widen (k := 0) (n := 0) (Nat.le_of_ble_eq_true rfl) (Nat.le_of_ble_eq_true rfl) ?_
  exact W.vret hx hb hr (fun t ht hW9 => ⟨⟨(), rfl, trivial, ⟨by show va_P _ _ _ t.heap; rw [ht]; exact hP9, hD9⟩⟩, hS.F ht⟩) hS.2.2 dX0_init_19

set_option maxHeartbeats 4000000 in
set_option maxRecDepth 100000 in
theorem l_X4_init (l : Launch) (D : va_G) (cA : Nat → ClassId) (A : Nat → Prop) (h0 : Nat) (x1 : Int32) (x2 : Int32) (x3 : Int32)  : Met l yX4_init wsX4_init ({ frames := 1, cells := 0, slots := 0, locals := 20 }) (pcPre D vwCl (tyL cA) [.ref h0, .int x1, .int x2, .int x3] (fun H => va_P D vwCl [(h0, .inr (4, [.int 0, .int 0, .int 0, .long 0, .int 0, .int 0]))] H ∧ va_D A [(h0, .inr (4, [.int 0, .int 0, .int 0, .long 0, .int 0, .int 0]))] ∧ (∀ q, H.size ≤ q → A q))) (va_Qv (fun (u : Unit) => True) (fun (u : Unit) t => va_P D vwCl [(h0, .inr (4, [.int x1, .int x2, .int x3, .long 1099511627775, .int 0, .int 0]))] t.heap ∧ va_D A [(h0, .inr (4, [.int x1, .int x2, .int x3, .long 1099511627775, .int 0, .int 0]))]) A) 0 0 A := by
  refine Met.ofW (cc := cX4_init) (maxL := 4) (ret := none) (by decide) rfl ?_
  intro p e s m args below meth c s₁ B hml hv
  obtain ⟨rfl, hX, hP, hD, hA⟩ := hv
  have hx := B.exec
  have hb := B.bytes
  have hr := B.returns
  have hts := atoms_spec (ws := wsX4_init) B.pre
  have hown : s.vm.findClass RX4 = some m.cls := findClass_of_methodNamed B.named
  have hlocks := B.notSynchronized
  have hin : meth.name = "<init>" := (name_of_methodNamed B.named B.method).1
  have hS : va_S A s.heap s.heap [] := va_S.rf
  have hl := lv_entry ([.ref h0, .int x1, .int x2, .int x3]) (n := 4) (Nat.le_of_ble_eq_true rfl)
  rw [lg_entry_eq]
  generalize (lg_sl ([.ref h0, .int x1, .int x2, .int x3]) ++ List.replicate (4 - (lg_sl ([.ref h0, .int x1, .int x2, .int x3])).length) Slot.unset).toArray = ls at hl ⊢
  have hl : lv_has ls 4 [(0, .ref h0), (1, .int x1), (2, .int x2), (3, .int x3)] := hl
  refine lv_aload_n hx hb dX4_init_0 rfl (lv_at hl 0 rfl) ?_
  refine W.objInit hx hb hown (hts (.methodLink RX4 3 objectInit) (by decide +kernel)) (hts (.instanceMethod objectInit) (by decide +kernel)) (hts (.code objectInit ⟨#[0xb1]⟩ 1 none) (by decide +kernel)) rfl (by rw [hml]; exact hl.1) rfl dX4_init_1 (Nat.le_of_ble_eq_true rfl) (Nat.le_of_ble_eq_true rfl) ?_
  refine W.eq (g2 := F0 m 4 ls []) rfl ?_
  refine lv_aload_n hx hb dX4_init_4 rfl (lv_at hl 0 rfl) ?_
  refine lv_ldc2 (v := 1099511627775) hx hb hown (hts (.constantLong RX4 9 1099511627775) (by decide +kernel)) dX4_init_5 ?_
  refine va_put (D := D) (ci := 4) (v := .long 1099511627775) (ty := .long) (C := RX4) (T := TX4) (N := 6) hx hb hts (by decide +kernel) tyX4 tyX4_ok nmX4 hown hX.1 hP hD hS 0 rfl rfl 3 (by decide) (hts (.fieldLink RX4 11 "DraftsmanOffice$WorkPackage" "region" "J") (by decide +kernel)) (fun _ h9 => h9) rfl (by decide +kernel) rfl rfl (Nat.le_of_ble_eq_true rfl) dX4_init_8 (fun H locs hP hD hS => ?_)
  have hP : va_P D vwCl [(h0, .inr (4, [.int 0, .int 0, .int 0, .long 1099511627775, .int 0, .int 0]))] H := hP
  have hD : va_D A [(h0, .inr (4, [.int 0, .int 0, .int 0, .long 1099511627775, .int 0, .int 0]))] := hD
  refine lv_aload_n hx hb dX4_init_11 rfl (lv_at hl 0 rfl) ?_
  refine lv_iconst (v := 0) hx hb dX4_init_12 (by decide) ?_
  refine va_put (D := D) (ci := 4) (v := .int 0) (ty := .int) (C := RX4) (T := TX4) (N := 6) hx hb hts (by decide +kernel) tyX4 tyX4_ok nmX4 hown hX.1 hP hD hS 0 rfl rfl 4 (by decide) (hts (.fieldLink RX4 17 "DraftsmanOffice$WorkPackage" "state" "I") (by decide +kernel)) (fun _ h9 => h9) rfl (by decide +kernel) rfl rfl (Nat.le_of_ble_eq_true rfl) dX4_init_13 (fun H locs hP hD hS => ?_)
  have hP : va_P D vwCl [(h0, .inr (4, [.int 0, .int 0, .int 0, .long 1099511627775, .int 0, .int 0]))] H := hP
  have hD : va_D A [(h0, .inr (4, [.int 0, .int 0, .int 0, .long 1099511627775, .int 0, .int 0]))] := hD
  refine lv_aload_n hx hb dX4_init_16 rfl (lv_at hl 0 rfl) ?_
  refine lv_iconst (v := 0) hx hb dX4_init_17 (by decide) ?_
  refine va_put (D := D) (ci := 4) (v := .int 0) (ty := .int) (C := RX4) (T := TX4) (N := 6) hx hb hts (by decide +kernel) tyX4 tyX4_ok nmX4 hown hX.1 hP hD hS 0 rfl rfl 5 (by decide) (hts (.fieldLink RX4 21 "DraftsmanOffice$WorkPackage" "stops" "I") (by decide +kernel)) (fun _ h9 => h9) rfl (by decide +kernel) rfl rfl (Nat.le_of_ble_eq_true rfl) dX4_init_18 (fun H locs hP hD hS => ?_)
  have hP : va_P D vwCl [(h0, .inr (4, [.int 0, .int 0, .int 0, .long 1099511627775, .int 0, .int 0]))] H := hP
  have hD : va_D A [(h0, .inr (4, [.int 0, .int 0, .int 0, .long 1099511627775, .int 0, .int 0]))] := hD
  refine lv_aload_n hx hb dX4_init_21 rfl (lv_at hl 0 rfl) ?_
  refine lv_iload_n hx hb dX4_init_22 rfl (lv_at hl 1 rfl) ?_
  refine va_putF (D := D) (ci := 4) (v := .int x1) (ty := .int) (C := RX4) (T := TX4) (N := 6) hx hb hts (by decide +kernel) tyX4 tyX4_ok nmX4 hown hX.1 hP hD hS 0 rfl rfl 0 (by decide) (hts (.fieldLink RX4 24 "DraftsmanOffice$WorkPackage" "crew" "I") (by decide +kernel)) (fun _ h9 => h9) rfl hin rfl (by decide +kernel) rfl rfl (Nat.le_of_ble_eq_true rfl) dX4_init_23 (fun H locs hP hD hS => ?_)
  have hP : va_P D vwCl [(h0, .inr (4, [.int x1, .int 0, .int 0, .long 1099511627775, .int 0, .int 0]))] H := hP
  have hD : va_D A [(h0, .inr (4, [.int x1, .int 0, .int 0, .long 1099511627775, .int 0, .int 0]))] := hD
  refine lv_aload_n hx hb dX4_init_26 rfl (lv_at hl 0 rfl) ?_
  refine lv_iload_n hx hb dX4_init_27 rfl (lv_at hl 2 rfl) ?_
  refine va_putF (D := D) (ci := 4) (v := .int x2) (ty := .int) (C := RX4) (T := TX4) (N := 6) hx hb hts (by decide +kernel) tyX4 tyX4_ok nmX4 hown hX.1 hP hD hS 0 rfl rfl 1 (by decide) (hts (.fieldLink RX4 27 "DraftsmanOffice$WorkPackage" "sheets" "I") (by decide +kernel)) (fun _ h9 => h9) rfl hin rfl (by decide +kernel) rfl rfl (Nat.le_of_ble_eq_true rfl) dX4_init_28 (fun H locs hP hD hS => ?_)
  have hP : va_P D vwCl [(h0, .inr (4, [.int x1, .int x2, .int 0, .long 1099511627775, .int 0, .int 0]))] H := hP
  have hD : va_D A [(h0, .inr (4, [.int x1, .int x2, .int 0, .long 1099511627775, .int 0, .int 0]))] := hD
  refine lv_aload_n hx hb dX4_init_31 rfl (lv_at hl 0 rfl) ?_
  refine lv_iload_n hx hb dX4_init_32 rfl (lv_at hl 3 rfl) ?_
  refine va_put (D := D) (ci := 4) (v := .int x3) (ty := .int) (C := RX4) (T := TX4) (N := 6) hx hb hts (by decide +kernel) tyX4 tyX4_ok nmX4 hown hX.1 hP hD hS 0 rfl rfl 2 (by decide) (hts (.fieldLink RX4 30 "DraftsmanOffice$WorkPackage" "daysLeft" "I") (by decide +kernel)) (fun _ h9 => h9) rfl (by decide +kernel) rfl rfl (Nat.le_of_ble_eq_true rfl) dX4_init_33 (fun H locs hP hD hS => ?_)
  have hP : va_P D vwCl [(h0, .inr (4, [.int x1, .int x2, .int x3, .long 1099511627775, .int 0, .int 0]))] H := hP
  have hD : va_D A [(h0, .inr (4, [.int x1, .int x2, .int x3, .long 1099511627775, .int 0, .int 0]))] := hD
  have hP9 := hP.sub (ws' := [(h0, .inr (4, [.int x1, .int x2, .int x3, .long 1099511627775, .int 0, .int 0]))]) [0] rfl
  have hD9 := hD.sub (ws' := [(h0, .inr (4, [.int x1, .int x2, .int x3, .long 1099511627775, .int 0, .int 0]))]) [0] (by decide) rfl
  refine W.widen (k := 0) (n := 0) (Nat.le_of_ble_eq_true rfl) (Nat.le_of_ble_eq_true rfl) ?_
  exact W.vret hx hb hr (fun t ht hW9 => ⟨⟨(), rfl, trivial, ⟨by show va_P _ _ _ t.heap; rw [ht]; exact hP9, hD9⟩⟩, hS.F ht⟩) hS.2.2 dX4_init_36

set_option maxHeartbeats 4000000 in
set_option maxRecDepth 100000 in
theorem l_X5_init (l : Launch) (D : va_G) (cA : Nat → ClassId) (A : Nat → Prop) (h0 : Nat)  : Met l yX5_init wsX5_init ({ frames := 1, cells := 11, slots := 132, locals := 23 }) (pcPre D vwCl (tyL cA) [.ref h0] (fun H => va_P D vwCl [(h0, .inr (5, [.null, .null, .null, .null, .null, .null, .null, .int 0, .int 0, .int 0, .int 0, .int 0, .int 0]))] H ∧ va_D A [(h0, .inr (5, [.null, .null, .null, .null, .null, .null, .null, .int 0, .int 0, .int 0, .int 0, .int 0, .int 0]))] ∧ (∀ q, H.size ≤ q → A q))) (va_Qv (fun (u : Unit) => True) (fun (u : Unit) t => ∃ (q363 : Nat) (q366 : Nat) (q369 : Nat) (q372 : Nat) (q375 : Nat) (q378 : Nat) (q390 : Nat) (q386 : Nat) (q387 : Nat) (q388 : Nat) (q389 : Nat), va_P D vwCl [(h0, .inr (5, [.ref q363, .ref q366, .ref q369, .ref q372, .ref q375, .ref q378, .ref q390, .int 0, .int 0, .int 0, .int 0, .int 0, .int 0])), (q363, .inl (cA 3, 10, .inr (.inr (.inr (.inr (fun _ => none)))))), (q366, .inl (cA 4, 20, .inr (.inr (.inr (.inr (fun _ => none)))))), (q369, .inl (cA 5, 20, .inr (.inr (.inr (.inr (fun _ => none)))))), (q372, .inl (cA 6, 20, .inr (.inr (.inr (.inr (fun _ => none)))))), (q375, .inl (cA 7, 8, .inr (.inr (.inr (.inr (fun _ => none)))))), (q378, .inl (cA 2, 4, .inr (.inr (.inr (.inr (fun i => ([q386, q387, q388, q389] : List Nat)[i]?)))))), (q390, .inl (cA 0, 10, .inl (fun _ => 0))), (q386, .inl (cA 0, 10, .inl (fun _ => (-1)))), (q387, .inl (cA 0, 10, .inl (fun _ => (-1)))), (q388, .inl (cA 0, 10, .inl (fun _ => (-1)))), (q389, .inl (cA 0, 10, .inl (fun _ => (-1))))] t.heap ∧ va_D A [(h0, .inr (5, [.ref q363, .ref q366, .ref q369, .ref q372, .ref q375, .ref q378, .ref q390, .int 0, .int 0, .int 0, .int 0, .int 0, .int 0])), (q363, .inl (cA 3, 10, .inr (.inr (.inr (.inr (fun _ => none)))))), (q366, .inl (cA 4, 20, .inr (.inr (.inr (.inr (fun _ => none)))))), (q369, .inl (cA 5, 20, .inr (.inr (.inr (.inr (fun _ => none)))))), (q372, .inl (cA 6, 20, .inr (.inr (.inr (.inr (fun _ => none)))))), (q375, .inl (cA 7, 8, .inr (.inr (.inr (.inr (fun _ => none)))))), (q378, .inl (cA 2, 4, .inr (.inr (.inr (.inr (fun i => ([q386, q387, q388, q389] : List Nat)[i]?)))))), (q390, .inl (cA 0, 10, .inl (fun _ => 0))), (q386, .inl (cA 0, 10, .inl (fun _ => (-1)))), (q387, .inl (cA 0, 10, .inl (fun _ => (-1)))), (q388, .inl (cA 0, 10, .inl (fun _ => (-1)))), (q389, .inl (cA 0, 10, .inl (fun _ => (-1))))]) A) 11 132 A := by
  refine Met.ofW (cc := cX5_init) (maxL := 2) (ret := none) (by decide) rfl ?_
  intro p e s m args below meth c s₁ B hml hv
  obtain ⟨rfl, hX, hP, hD, hA⟩ := hv
  have hx := B.exec
  have hb := B.bytes
  have hr := B.returns
  have hts := atoms_spec (ws := wsX5_init) B.pre
  have hown : s.vm.findClass RX5 = some m.cls := findClass_of_methodNamed B.named
  have hlocks := B.notSynchronized
  have hin : meth.name = "<init>" := (name_of_methodNamed B.named B.method).1
  have hS : va_S A s.heap s.heap [] := va_S.rf
  have hl := lv_entry ([.ref h0]) (n := 2) (Nat.le_of_ble_eq_true rfl)
  rw [lg_entry_eq]
  generalize (lg_sl ([.ref h0]) ++ List.replicate (2 - (lg_sl ([.ref h0])).length) Slot.unset).toArray = ls at hl ⊢
  have hl : lv_has ls 2 [(0, .ref h0)] := hl
  refine lv_aload_n hx hb dX5_init_0 rfl (lv_at hl 0 rfl) ?_
  refine W.objInit hx hb hown (hts (.methodLink RX5 3 objectInit) (by decide +kernel)) (hts (.instanceMethod objectInit) (by decide +kernel)) (hts (.code objectInit ⟨#[0xb1]⟩ 1 none) (by decide +kernel)) rfl (by rw [hml]; exact hl.1) rfl dX5_init_1 (Nat.le_of_ble_eq_true rfl) (Nat.le_of_ble_eq_true rfl) ?_
  refine W.eq (g2 := F0 m 4 ls []) rfl ?_
  refine lv_aload_n hx hb dX5_init_4 rfl (lv_at hl 0 rfl) ?_
  refine lv_bipush (v := 10) hx hb dX5_init_5 (by decide) ?_
  refine va_newq (C := RX3) (N' := 10) hx hb hown (hts (.classLink RX5 9 RX3) (by decide +kernel)) (hX.2.2.1 RX3 (by decide +kernel)) hX.1 hP hD hS hA (by decide) (by decide) (Nat.le_of_ble_eq_true rfl) (Nat.le_of_ble_eq_true rfl) (Nat.le_of_ble_eq_true rfl) dX5_init_7 (fun q363 y364 H hK9 hP hD hS => ?_)
  obtain rfl : y364 = cA 3 := va_K_last (t0 := 3) hX.1 rfl hK9
  have hP : va_P D vwCl [(h0, .inr (5, [.null, .null, .null, .null, .null, .null, .null, .int 0, .int 0, .int 0, .int 0, .int 0, .int 0])), (q363, .inl (cA 3, 10, .inr (.inr (.inr (.inr (fun _ => none))))))] H := hP
  have hD : va_D A [(h0, .inr (5, [.null, .null, .null, .null, .null, .null, .null, .int 0, .int 0, .int 0, .int 0, .int 0, .int 0])), (q363, .inl (cA 3, 10, .inr (.inr (.inr (.inr (fun _ => none))))))] := hD
  refine W.widen (k := 1) (n := 10) (Nat.le_of_ble_eq_true rfl) (Nat.le_of_ble_eq_true rfl) ?_
  refine va_putF (D := D) (ci := 5) (v := .ref q363) (ty := .array (.object "DraftsmanOffice$Sheet")) (C := RX5) (T := TX5) (N := 13) hx hb hts (by decide +kernel) tyX5 tyX5_ok nmX5 hown hX.1 hP hD hS 0 rfl rfl 0 (by decide) (hts (.fieldLink RX5 11 "DraftsmanOffice" "sheets" "[LDraftsmanOffice$Sheet;") (by decide +kernel)) (fun _ h9 => h9) rfl hin rfl (by decide +kernel) rfl rfl (Nat.le_of_ble_eq_true rfl) dX5_init_10 (fun H locs hP hD hS => ?_)
  have hP : va_P D vwCl [(h0, .inr (5, [.ref q363, .null, .null, .null, .null, .null, .null, .int 0, .int 0, .int 0, .int 0, .int 0, .int 0])), (q363, .inl (cA 3, 10, .inr (.inr (.inr (.inr (fun _ => none))))))] H := hP
  have hD : va_D A [(h0, .inr (5, [.ref q363, .null, .null, .null, .null, .null, .null, .int 0, .int 0, .int 0, .int 0, .int 0, .int 0])), (q363, .inl (cA 3, 10, .inr (.inr (.inr (.inr (fun _ => none))))))] := hD
  refine lv_aload_n hx hb dX5_init_13 rfl (lv_at hl 0 rfl) ?_
  refine lv_bipush (v := 20) hx hb dX5_init_14 (by decide) ?_
  refine va_newq (C := RX1) (N' := 20) hx hb hown (hts (.classLink RX5 15 RX1) (by decide +kernel)) (hX.2.2.1 RX1 (by decide +kernel)) hX.1 hP hD hS hA (by decide) (by decide) (Nat.le_of_ble_eq_true rfl) (Nat.le_of_ble_eq_true rfl) (Nat.le_of_ble_eq_true rfl) dX5_init_16 (fun q366 y367 H hK9 hP hD hS => ?_)
  obtain rfl : y367 = cA 4 := va_K_last (t0 := 4) hX.1 rfl hK9
  have hP : va_P D vwCl [(h0, .inr (5, [.ref q363, .null, .null, .null, .null, .null, .null, .int 0, .int 0, .int 0, .int 0, .int 0, .int 0])), (q363, .inl (cA 3, 10, .inr (.inr (.inr (.inr (fun _ => none)))))), (q366, .inl (cA 4, 20, .inr (.inr (.inr (.inr (fun _ => none))))))] H := hP
  have hD : va_D A [(h0, .inr (5, [.ref q363, .null, .null, .null, .null, .null, .null, .int 0, .int 0, .int 0, .int 0, .int 0, .int 0])), (q363, .inl (cA 3, 10, .inr (.inr (.inr (.inr (fun _ => none)))))), (q366, .inl (cA 4, 20, .inr (.inr (.inr (.inr (fun _ => none))))))] := hD
  refine W.widen (k := 2) (n := 30) (Nat.le_of_ble_eq_true rfl) (Nat.le_of_ble_eq_true rfl) ?_
  refine va_putF (D := D) (ci := 5) (v := .ref q366) (ty := .array (.object "DraftsmanOffice$Reference")) (C := RX5) (T := TX5) (N := 13) hx hb hts (by decide +kernel) tyX5 tyX5_ok nmX5 hown hX.1 hP hD hS 0 rfl rfl 1 (by decide) (hts (.fieldLink RX5 17 "DraftsmanOffice" "references" "[LDraftsmanOffice$Reference;") (by decide +kernel)) (fun _ h9 => h9) rfl hin rfl (by decide +kernel) rfl rfl (Nat.le_of_ble_eq_true rfl) dX5_init_19 (fun H locs hP hD hS => ?_)
  have hP : va_P D vwCl [(h0, .inr (5, [.ref q363, .ref q366, .null, .null, .null, .null, .null, .int 0, .int 0, .int 0, .int 0, .int 0, .int 0])), (q363, .inl (cA 3, 10, .inr (.inr (.inr (.inr (fun _ => none)))))), (q366, .inl (cA 4, 20, .inr (.inr (.inr (.inr (fun _ => none))))))] H := hP
  have hD : va_D A [(h0, .inr (5, [.ref q363, .ref q366, .null, .null, .null, .null, .null, .int 0, .int 0, .int 0, .int 0, .int 0, .int 0])), (q363, .inl (cA 3, 10, .inr (.inr (.inr (.inr (fun _ => none)))))), (q366, .inl (cA 4, 20, .inr (.inr (.inr (.inr (fun _ => none))))))] := hD
  refine lv_aload_n hx hb dX5_init_22 rfl (lv_at hl 0 rfl) ?_
  refine lv_bipush (v := 20) hx hb dX5_init_23 (by decide) ?_
  refine va_newq (C := RX2) (N' := 20) hx hb hown (hts (.classLink RX5 21 RX2) (by decide +kernel)) (hX.2.2.1 RX2 (by decide +kernel)) hX.1 hP hD hS hA (by decide) (by decide) (Nat.le_of_ble_eq_true rfl) (Nat.le_of_ble_eq_true rfl) (Nat.le_of_ble_eq_true rfl) dX5_init_25 (fun q369 y370 H hK9 hP hD hS => ?_)
  obtain rfl : y370 = cA 5 := va_K_last (t0 := 5) hX.1 rfl hK9
  have hP : va_P D vwCl [(h0, .inr (5, [.ref q363, .ref q366, .null, .null, .null, .null, .null, .int 0, .int 0, .int 0, .int 0, .int 0, .int 0])), (q363, .inl (cA 3, 10, .inr (.inr (.inr (.inr (fun _ => none)))))), (q366, .inl (cA 4, 20, .inr (.inr (.inr (.inr (fun _ => none)))))), (q369, .inl (cA 5, 20, .inr (.inr (.inr (.inr (fun _ => none))))))] H := hP
  have hD : va_D A [(h0, .inr (5, [.ref q363, .ref q366, .null, .null, .null, .null, .null, .int 0, .int 0, .int 0, .int 0, .int 0, .int 0])), (q363, .inl (cA 3, 10, .inr (.inr (.inr (.inr (fun _ => none)))))), (q366, .inl (cA 4, 20, .inr (.inr (.inr (.inr (fun _ => none)))))), (q369, .inl (cA 5, 20, .inr (.inr (.inr (.inr (fun _ => none))))))] := hD
  refine W.widen (k := 3) (n := 50) (Nat.le_of_ble_eq_true rfl) (Nat.le_of_ble_eq_true rfl) ?_
  refine va_putF (D := D) (ci := 5) (v := .ref q369) (ty := .array (.object "DraftsmanOffice$Sending")) (C := RX5) (T := TX5) (N := 13) hx hb hts (by decide +kernel) tyX5 tyX5_ok nmX5 hown hX.1 hP hD hS 0 rfl rfl 2 (by decide) (hts (.fieldLink RX5 23 "DraftsmanOffice" "sendings" "[LDraftsmanOffice$Sending;") (by decide +kernel)) (fun _ h9 => h9) rfl hin rfl (by decide +kernel) rfl rfl (Nat.le_of_ble_eq_true rfl) dX5_init_28 (fun H locs hP hD hS => ?_)
  have hP : va_P D vwCl [(h0, .inr (5, [.ref q363, .ref q366, .ref q369, .null, .null, .null, .null, .int 0, .int 0, .int 0, .int 0, .int 0, .int 0])), (q363, .inl (cA 3, 10, .inr (.inr (.inr (.inr (fun _ => none)))))), (q366, .inl (cA 4, 20, .inr (.inr (.inr (.inr (fun _ => none)))))), (q369, .inl (cA 5, 20, .inr (.inr (.inr (.inr (fun _ => none))))))] H := hP
  have hD : va_D A [(h0, .inr (5, [.ref q363, .ref q366, .ref q369, .null, .null, .null, .null, .int 0, .int 0, .int 0, .int 0, .int 0, .int 0])), (q363, .inl (cA 3, 10, .inr (.inr (.inr (.inr (fun _ => none)))))), (q366, .inl (cA 4, 20, .inr (.inr (.inr (.inr (fun _ => none)))))), (q369, .inl (cA 5, 20, .inr (.inr (.inr (.inr (fun _ => none))))))] := hD
  refine lv_aload_n hx hb dX5_init_31 rfl (lv_at hl 0 rfl) ?_
  refine lv_bipush (v := 20) hx hb dX5_init_32 (by decide) ?_
  refine va_newq (C := RX0) (N' := 20) hx hb hown (hts (.classLink RX5 27 RX0) (by decide +kernel)) (hX.2.2.1 RX0 (by decide +kernel)) hX.1 hP hD hS hA (by decide) (by decide) (Nat.le_of_ble_eq_true rfl) (Nat.le_of_ble_eq_true rfl) (Nat.le_of_ble_eq_true rfl) dX5_init_34 (fun q372 y373 H hK9 hP hD hS => ?_)
  obtain rfl : y373 = cA 6 := va_K_last (t0 := 6) hX.1 rfl hK9
  have hP : va_P D vwCl [(h0, .inr (5, [.ref q363, .ref q366, .ref q369, .null, .null, .null, .null, .int 0, .int 0, .int 0, .int 0, .int 0, .int 0])), (q363, .inl (cA 3, 10, .inr (.inr (.inr (.inr (fun _ => none)))))), (q366, .inl (cA 4, 20, .inr (.inr (.inr (.inr (fun _ => none)))))), (q369, .inl (cA 5, 20, .inr (.inr (.inr (.inr (fun _ => none)))))), (q372, .inl (cA 6, 20, .inr (.inr (.inr (.inr (fun _ => none))))))] H := hP
  have hD : va_D A [(h0, .inr (5, [.ref q363, .ref q366, .ref q369, .null, .null, .null, .null, .int 0, .int 0, .int 0, .int 0, .int 0, .int 0])), (q363, .inl (cA 3, 10, .inr (.inr (.inr (.inr (fun _ => none)))))), (q366, .inl (cA 4, 20, .inr (.inr (.inr (.inr (fun _ => none)))))), (q369, .inl (cA 5, 20, .inr (.inr (.inr (.inr (fun _ => none)))))), (q372, .inl (cA 6, 20, .inr (.inr (.inr (.inr (fun _ => none))))))] := hD
  refine W.widen (k := 4) (n := 70) (Nat.le_of_ble_eq_true rfl) (Nat.le_of_ble_eq_true rfl) ?_
  refine va_putF (D := D) (ci := 5) (v := .ref q372) (ty := .array (.object "DraftsmanOffice$Query")) (C := RX5) (T := TX5) (N := 13) hx hb hts (by decide +kernel) tyX5 tyX5_ok nmX5 hown hX.1 hP hD hS 0 rfl rfl 3 (by decide) (hts (.fieldLink RX5 29 "DraftsmanOffice" "queries" "[LDraftsmanOffice$Query;") (by decide +kernel)) (fun _ h9 => h9) rfl hin rfl (by decide +kernel) rfl rfl (Nat.le_of_ble_eq_true rfl) dX5_init_37 (fun H locs hP hD hS => ?_)
  have hP : va_P D vwCl [(h0, .inr (5, [.ref q363, .ref q366, .ref q369, .ref q372, .null, .null, .null, .int 0, .int 0, .int 0, .int 0, .int 0, .int 0])), (q363, .inl (cA 3, 10, .inr (.inr (.inr (.inr (fun _ => none)))))), (q366, .inl (cA 4, 20, .inr (.inr (.inr (.inr (fun _ => none)))))), (q369, .inl (cA 5, 20, .inr (.inr (.inr (.inr (fun _ => none)))))), (q372, .inl (cA 6, 20, .inr (.inr (.inr (.inr (fun _ => none))))))] H := hP
  have hD : va_D A [(h0, .inr (5, [.ref q363, .ref q366, .ref q369, .ref q372, .null, .null, .null, .int 0, .int 0, .int 0, .int 0, .int 0, .int 0])), (q363, .inl (cA 3, 10, .inr (.inr (.inr (.inr (fun _ => none)))))), (q366, .inl (cA 4, 20, .inr (.inr (.inr (.inr (fun _ => none)))))), (q369, .inl (cA 5, 20, .inr (.inr (.inr (.inr (fun _ => none)))))), (q372, .inl (cA 6, 20, .inr (.inr (.inr (.inr (fun _ => none))))))] := hD
  refine lv_aload_n hx hb dX5_init_40 rfl (lv_at hl 0 rfl) ?_
  refine lv_bipush (v := 8) hx hb dX5_init_41 (by decide) ?_
  refine va_newq (C := RX4) (N' := 8) hx hb hown (hts (.classLink RX5 33 RX4) (by decide +kernel)) (hX.2.2.1 RX4 (by decide +kernel)) hX.1 hP hD hS hA (by decide) (by decide) (Nat.le_of_ble_eq_true rfl) (Nat.le_of_ble_eq_true rfl) (Nat.le_of_ble_eq_true rfl) dX5_init_43 (fun q375 y376 H hK9 hP hD hS => ?_)
  obtain rfl : y376 = cA 7 := va_K_last (t0 := 7) hX.1 rfl hK9
  have hP : va_P D vwCl [(h0, .inr (5, [.ref q363, .ref q366, .ref q369, .ref q372, .null, .null, .null, .int 0, .int 0, .int 0, .int 0, .int 0, .int 0])), (q363, .inl (cA 3, 10, .inr (.inr (.inr (.inr (fun _ => none)))))), (q366, .inl (cA 4, 20, .inr (.inr (.inr (.inr (fun _ => none)))))), (q369, .inl (cA 5, 20, .inr (.inr (.inr (.inr (fun _ => none)))))), (q372, .inl (cA 6, 20, .inr (.inr (.inr (.inr (fun _ => none)))))), (q375, .inl (cA 7, 8, .inr (.inr (.inr (.inr (fun _ => none))))))] H := hP
  have hD : va_D A [(h0, .inr (5, [.ref q363, .ref q366, .ref q369, .ref q372, .null, .null, .null, .int 0, .int 0, .int 0, .int 0, .int 0, .int 0])), (q363, .inl (cA 3, 10, .inr (.inr (.inr (.inr (fun _ => none)))))), (q366, .inl (cA 4, 20, .inr (.inr (.inr (.inr (fun _ => none)))))), (q369, .inl (cA 5, 20, .inr (.inr (.inr (.inr (fun _ => none)))))), (q372, .inl (cA 6, 20, .inr (.inr (.inr (.inr (fun _ => none)))))), (q375, .inl (cA 7, 8, .inr (.inr (.inr (.inr (fun _ => none))))))] := hD
  refine W.widen (k := 5) (n := 78) (Nat.le_of_ble_eq_true rfl) (Nat.le_of_ble_eq_true rfl) ?_
  refine va_putF (D := D) (ci := 5) (v := .ref q375) (ty := .array (.object "DraftsmanOffice$WorkPackage")) (C := RX5) (T := TX5) (N := 13) hx hb hts (by decide +kernel) tyX5 tyX5_ok nmX5 hown hX.1 hP hD hS 0 rfl rfl 4 (by decide) (hts (.fieldLink RX5 35 "DraftsmanOffice" "packages" "[LDraftsmanOffice$WorkPackage;") (by decide +kernel)) (fun _ h9 => h9) rfl hin rfl (by decide +kernel) rfl rfl (Nat.le_of_ble_eq_true rfl) dX5_init_46 (fun H locs hP hD hS => ?_)
  have hP : va_P D vwCl [(h0, .inr (5, [.ref q363, .ref q366, .ref q369, .ref q372, .ref q375, .null, .null, .int 0, .int 0, .int 0, .int 0, .int 0, .int 0])), (q363, .inl (cA 3, 10, .inr (.inr (.inr (.inr (fun _ => none)))))), (q366, .inl (cA 4, 20, .inr (.inr (.inr (.inr (fun _ => none)))))), (q369, .inl (cA 5, 20, .inr (.inr (.inr (.inr (fun _ => none)))))), (q372, .inl (cA 6, 20, .inr (.inr (.inr (.inr (fun _ => none)))))), (q375, .inl (cA 7, 8, .inr (.inr (.inr (.inr (fun _ => none))))))] H := hP
  have hD : va_D A [(h0, .inr (5, [.ref q363, .ref q366, .ref q369, .ref q372, .ref q375, .null, .null, .int 0, .int 0, .int 0, .int 0, .int 0, .int 0])), (q363, .inl (cA 3, 10, .inr (.inr (.inr (.inr (fun _ => none)))))), (q366, .inl (cA 4, 20, .inr (.inr (.inr (.inr (fun _ => none)))))), (q369, .inl (cA 5, 20, .inr (.inr (.inr (.inr (fun _ => none)))))), (q372, .inl (cA 6, 20, .inr (.inr (.inr (.inr (fun _ => none)))))), (q375, .inl (cA 7, 8, .inr (.inr (.inr (.inr (fun _ => none))))))] := hD
  refine lv_aload_n hx hb dX5_init_49 rfl (lv_at hl 0 rfl) ?_
  refine lv_iconst (v := 4) hx hb dX5_init_50 (by decide) ?_
  refine lv_bipush (v := 10) hx hb dX5_init_51 (by decide) ?_
  refine va_mna (X := [(h0, .inr (5, [.ref q363, .ref q366, .ref q369, .ref q372, .ref q375, .null, .null, .int 0, .int 0, .int 0, .int 0, .int 0, .int 0])), (q363, .inl (cA 3, 10, .inr (.inr (.inr (.inr (fun _ => none)))))), (q366, .inl (cA 4, 20, .inr (.inr (.inr (.inr (fun _ => none)))))), (q369, .inl (cA 5, 20, .inr (.inr (.inr (.inr (fun _ => none)))))), (q372, .inl (cA 6, 20, .inr (.inr (.inr (.inr (fun _ => none)))))), (q375, .inl (cA 7, 8, .inr (.inr (.inr (.inr (fun _ => none))))))]) (L := []) (f := fun _ => .inr (0, [])) (ty := .int) (cy := cA 0) (N' := 4) (K' := 10) (z := (10, .inl (fun _ => 0))) hx hb hown (hts (.classLink RX5 39 "[[I") (by decide +kernel)) (hX.2.2.2 .int (by decide +kernel)) (hts (.arrayClass .int) (by decide +kernel)) (hX.1.2 0 _ rfl).2 hX.1 hP hD hS hA (by decide) (by decide) (by decide) (by decide) (Nat.le_of_ble_eq_true rfl) (Nat.le_of_ble_eq_true rfl) (Nat.le_of_ble_eq_true rfl) rfl rfl (Nat.le_of_ble_eq_true rfl) (Nat.le_of_ble_eq_true rfl) (fun _ => rfl) dX5_init_53 (fun q378 g379 y380 H _ _ hK9 hP hD hS => ?_)
  obtain rfl : y380 = cA 2 := va_K_last (t0 := 2) hX.1 rfl hK9
  rw [vr_rowsN, vr_sel] at hP hD
  have hP : va_P D vwCl [(h0, .inr (5, [.ref q363, .ref q366, .ref q369, .ref q372, .ref q375, .null, .null, .int 0, .int 0, .int 0, .int 0, .int 0, .int 0])), (q363, .inl (cA 3, 10, .inr (.inr (.inr (.inr (fun _ => none)))))), (q366, .inl (cA 4, 20, .inr (.inr (.inr (.inr (fun _ => none)))))), (q369, .inl (cA 5, 20, .inr (.inr (.inr (.inr (fun _ => none)))))), (q372, .inl (cA 6, 20, .inr (.inr (.inr (.inr (fun _ => none)))))), (q375, .inl (cA 7, 8, .inr (.inr (.inr (.inr (fun _ => none)))))), (q378, .inl (cA 2, 4, .inr (.inr (.inr (.inr (fun i => ([(g379 0), (g379 1), (g379 2), (g379 3)] : List Nat)[i]?)))))), ((g379 0), .inl (cA 0, 10, .inl (fun _ => 0))), ((g379 1), .inl (cA 0, 10, .inl (fun _ => 0))), ((g379 2), .inl (cA 0, 10, .inl (fun _ => 0))), ((g379 3), .inl (cA 0, 10, .inl (fun _ => 0)))] H := hP
  have hD : va_D A [(h0, .inr (5, [.ref q363, .ref q366, .ref q369, .ref q372, .ref q375, .null, .null, .int 0, .int 0, .int 0, .int 0, .int 0, .int 0])), (q363, .inl (cA 3, 10, .inr (.inr (.inr (.inr (fun _ => none)))))), (q366, .inl (cA 4, 20, .inr (.inr (.inr (.inr (fun _ => none)))))), (q369, .inl (cA 5, 20, .inr (.inr (.inr (.inr (fun _ => none)))))), (q372, .inl (cA 6, 20, .inr (.inr (.inr (.inr (fun _ => none)))))), (q375, .inl (cA 7, 8, .inr (.inr (.inr (.inr (fun _ => none)))))), (q378, .inl (cA 2, 4, .inr (.inr (.inr (.inr (fun i => ([(g379 0), (g379 1), (g379 2), (g379 3)] : List Nat)[i]?)))))), ((g379 0), .inl (cA 0, 10, .inl (fun _ => 0))), ((g379 1), .inl (cA 0, 10, .inl (fun _ => 0))), ((g379 2), .inl (cA 0, 10, .inl (fun _ => 0))), ((g379 3), .inl (cA 0, 10, .inl (fun _ => 0)))] := hD
  generalize g379 0 = q386 at hP hD
  generalize g379 1 = q387 at hP hD
  generalize g379 2 = q388 at hP hD
  generalize g379 3 = q389 at hP hD
  have hP : va_P D vwCl [(h0, .inr (5, [.ref q363, .ref q366, .ref q369, .ref q372, .ref q375, .null, .null, .int 0, .int 0, .int 0, .int 0, .int 0, .int 0])), (q363, .inl (cA 3, 10, .inr (.inr (.inr (.inr (fun _ => none)))))), (q366, .inl (cA 4, 20, .inr (.inr (.inr (.inr (fun _ => none)))))), (q369, .inl (cA 5, 20, .inr (.inr (.inr (.inr (fun _ => none)))))), (q372, .inl (cA 6, 20, .inr (.inr (.inr (.inr (fun _ => none)))))), (q375, .inl (cA 7, 8, .inr (.inr (.inr (.inr (fun _ => none)))))), (q378, .inl (cA 2, 4, .inr (.inr (.inr (.inr (fun i => ([q386, q387, q388, q389] : List Nat)[i]?)))))), (q386, .inl (cA 0, 10, .inl (fun _ => 0))), (q387, .inl (cA 0, 10, .inl (fun _ => 0))), (q388, .inl (cA 0, 10, .inl (fun _ => 0))), (q389, .inl (cA 0, 10, .inl (fun _ => 0)))] H := hP
  have hD : va_D A [(h0, .inr (5, [.ref q363, .ref q366, .ref q369, .ref q372, .ref q375, .null, .null, .int 0, .int 0, .int 0, .int 0, .int 0, .int 0])), (q363, .inl (cA 3, 10, .inr (.inr (.inr (.inr (fun _ => none)))))), (q366, .inl (cA 4, 20, .inr (.inr (.inr (.inr (fun _ => none)))))), (q369, .inl (cA 5, 20, .inr (.inr (.inr (.inr (fun _ => none)))))), (q372, .inl (cA 6, 20, .inr (.inr (.inr (.inr (fun _ => none)))))), (q375, .inl (cA 7, 8, .inr (.inr (.inr (.inr (fun _ => none)))))), (q378, .inl (cA 2, 4, .inr (.inr (.inr (.inr (fun i => ([q386, q387, q388, q389] : List Nat)[i]?)))))), (q386, .inl (cA 0, 10, .inl (fun _ => 0))), (q387, .inl (cA 0, 10, .inl (fun _ => 0))), (q388, .inl (cA 0, 10, .inl (fun _ => 0))), (q389, .inl (cA 0, 10, .inl (fun _ => 0)))] := hD
  refine W.widen (k := 10) (n := 122) (Nat.le_of_ble_eq_true rfl) (Nat.le_of_ble_eq_true rfl) ?_
  refine va_putF (D := D) (ci := 5) (v := .ref q378) (ty := .array (.array .int)) (C := RX5) (T := TX5) (N := 13) hx hb hts (by decide +kernel) tyX5 tyX5_ok nmX5 hown hX.1 hP hD hS 0 rfl rfl 5 (by decide) (hts (.fieldLink RX5 41 "DraftsmanOffice" "crewHas" "[[I") (by decide +kernel)) (fun _ h9 => h9) rfl hin rfl (by decide +kernel) rfl rfl (Nat.le_of_ble_eq_true rfl) dX5_init_57 (fun H locs hP hD hS => ?_)
  have hP : va_P D vwCl [(h0, .inr (5, [.ref q363, .ref q366, .ref q369, .ref q372, .ref q375, .ref q378, .null, .int 0, .int 0, .int 0, .int 0, .int 0, .int 0])), (q363, .inl (cA 3, 10, .inr (.inr (.inr (.inr (fun _ => none)))))), (q366, .inl (cA 4, 20, .inr (.inr (.inr (.inr (fun _ => none)))))), (q369, .inl (cA 5, 20, .inr (.inr (.inr (.inr (fun _ => none)))))), (q372, .inl (cA 6, 20, .inr (.inr (.inr (.inr (fun _ => none)))))), (q375, .inl (cA 7, 8, .inr (.inr (.inr (.inr (fun _ => none)))))), (q378, .inl (cA 2, 4, .inr (.inr (.inr (.inr (fun i => ([q386, q387, q388, q389] : List Nat)[i]?)))))), (q386, .inl (cA 0, 10, .inl (fun _ => 0))), (q387, .inl (cA 0, 10, .inl (fun _ => 0))), (q388, .inl (cA 0, 10, .inl (fun _ => 0))), (q389, .inl (cA 0, 10, .inl (fun _ => 0)))] H := hP
  have hD : va_D A [(h0, .inr (5, [.ref q363, .ref q366, .ref q369, .ref q372, .ref q375, .ref q378, .null, .int 0, .int 0, .int 0, .int 0, .int 0, .int 0])), (q363, .inl (cA 3, 10, .inr (.inr (.inr (.inr (fun _ => none)))))), (q366, .inl (cA 4, 20, .inr (.inr (.inr (.inr (fun _ => none)))))), (q369, .inl (cA 5, 20, .inr (.inr (.inr (.inr (fun _ => none)))))), (q372, .inl (cA 6, 20, .inr (.inr (.inr (.inr (fun _ => none)))))), (q375, .inl (cA 7, 8, .inr (.inr (.inr (.inr (fun _ => none)))))), (q378, .inl (cA 2, 4, .inr (.inr (.inr (.inr (fun i => ([q386, q387, q388, q389] : List Nat)[i]?)))))), (q386, .inl (cA 0, 10, .inl (fun _ => 0))), (q387, .inl (cA 0, 10, .inl (fun _ => 0))), (q388, .inl (cA 0, 10, .inl (fun _ => 0))), (q389, .inl (cA 0, 10, .inl (fun _ => 0)))] := hD
  refine lv_aload_n hx hb dX5_init_60 rfl (lv_at hl 0 rfl) ?_
  refine lv_bipush (v := 10) hx hb dX5_init_61 (by decide) ?_
  refine va_newa (atype := .int) (ty := .int) (N' := 10) (a0 := (10, .inl (fun _ => 0))) hx hb (hts (.arrayClass .int) (by decide +kernel)) rfl hX.1 hP hD hS hA (fun _ => rfl) (by decide) (by decide) (Nat.le_of_ble_eq_true rfl) (Nat.le_of_ble_eq_true rfl) (Nat.le_of_ble_eq_true rfl) dX5_init_63 (fun q390 y391 H hK9 hP hD hS => ?_)
  obtain rfl : y391 = cA 0 := va_K_last (t0 := 0) hX.1 rfl hK9
  have hP : va_P D vwCl [(h0, .inr (5, [.ref q363, .ref q366, .ref q369, .ref q372, .ref q375, .ref q378, .null, .int 0, .int 0, .int 0, .int 0, .int 0, .int 0])), (q363, .inl (cA 3, 10, .inr (.inr (.inr (.inr (fun _ => none)))))), (q366, .inl (cA 4, 20, .inr (.inr (.inr (.inr (fun _ => none)))))), (q369, .inl (cA 5, 20, .inr (.inr (.inr (.inr (fun _ => none)))))), (q372, .inl (cA 6, 20, .inr (.inr (.inr (.inr (fun _ => none)))))), (q375, .inl (cA 7, 8, .inr (.inr (.inr (.inr (fun _ => none)))))), (q378, .inl (cA 2, 4, .inr (.inr (.inr (.inr (fun i => ([q386, q387, q388, q389] : List Nat)[i]?)))))), (q386, .inl (cA 0, 10, .inl (fun _ => 0))), (q387, .inl (cA 0, 10, .inl (fun _ => 0))), (q388, .inl (cA 0, 10, .inl (fun _ => 0))), (q389, .inl (cA 0, 10, .inl (fun _ => 0))), (q390, .inl (cA 0, 10, .inl (fun _ => 0)))] H := hP
  have hD : va_D A [(h0, .inr (5, [.ref q363, .ref q366, .ref q369, .ref q372, .ref q375, .ref q378, .null, .int 0, .int 0, .int 0, .int 0, .int 0, .int 0])), (q363, .inl (cA 3, 10, .inr (.inr (.inr (.inr (fun _ => none)))))), (q366, .inl (cA 4, 20, .inr (.inr (.inr (.inr (fun _ => none)))))), (q369, .inl (cA 5, 20, .inr (.inr (.inr (.inr (fun _ => none)))))), (q372, .inl (cA 6, 20, .inr (.inr (.inr (.inr (fun _ => none)))))), (q375, .inl (cA 7, 8, .inr (.inr (.inr (.inr (fun _ => none)))))), (q378, .inl (cA 2, 4, .inr (.inr (.inr (.inr (fun i => ([q386, q387, q388, q389] : List Nat)[i]?)))))), (q386, .inl (cA 0, 10, .inl (fun _ => 0))), (q387, .inl (cA 0, 10, .inl (fun _ => 0))), (q388, .inl (cA 0, 10, .inl (fun _ => 0))), (q389, .inl (cA 0, 10, .inl (fun _ => 0))), (q390, .inl (cA 0, 10, .inl (fun _ => 0)))] := hD
  refine W.widen (k := 11) (n := 132) (Nat.le_of_ble_eq_true rfl) (Nat.le_of_ble_eq_true rfl) ?_
  refine va_putF (D := D) (ci := 5) (v := .ref q390) (ty := .array .int) (C := RX5) (T := TX5) (N := 13) hx hb hts (by decide +kernel) tyX5 tyX5_ok nmX5 hown hX.1 hP hD hS 0 rfl rfl 6 (by decide) (hts (.fieldLink RX5 44 "DraftsmanOffice" "wouldHave" "[I") (by decide +kernel)) (fun _ h9 => h9) rfl hin rfl (by decide +kernel) rfl rfl (Nat.le_of_ble_eq_true rfl) dX5_init_65 (fun H locs hP hD hS => ?_)
  have hP : va_P D vwCl [(h0, .inr (5, [.ref q363, .ref q366, .ref q369, .ref q372, .ref q375, .ref q378, .ref q390, .int 0, .int 0, .int 0, .int 0, .int 0, .int 0])), (q363, .inl (cA 3, 10, .inr (.inr (.inr (.inr (fun _ => none)))))), (q366, .inl (cA 4, 20, .inr (.inr (.inr (.inr (fun _ => none)))))), (q369, .inl (cA 5, 20, .inr (.inr (.inr (.inr (fun _ => none)))))), (q372, .inl (cA 6, 20, .inr (.inr (.inr (.inr (fun _ => none)))))), (q375, .inl (cA 7, 8, .inr (.inr (.inr (.inr (fun _ => none)))))), (q378, .inl (cA 2, 4, .inr (.inr (.inr (.inr (fun i => ([q386, q387, q388, q389] : List Nat)[i]?)))))), (q386, .inl (cA 0, 10, .inl (fun _ => 0))), (q387, .inl (cA 0, 10, .inl (fun _ => 0))), (q388, .inl (cA 0, 10, .inl (fun _ => 0))), (q389, .inl (cA 0, 10, .inl (fun _ => 0))), (q390, .inl (cA 0, 10, .inl (fun _ => 0)))] H := hP
  have hD : va_D A [(h0, .inr (5, [.ref q363, .ref q366, .ref q369, .ref q372, .ref q375, .ref q378, .ref q390, .int 0, .int 0, .int 0, .int 0, .int 0, .int 0])), (q363, .inl (cA 3, 10, .inr (.inr (.inr (.inr (fun _ => none)))))), (q366, .inl (cA 4, 20, .inr (.inr (.inr (.inr (fun _ => none)))))), (q369, .inl (cA 5, 20, .inr (.inr (.inr (.inr (fun _ => none)))))), (q372, .inl (cA 6, 20, .inr (.inr (.inr (.inr (fun _ => none)))))), (q375, .inl (cA 7, 8, .inr (.inr (.inr (.inr (fun _ => none)))))), (q378, .inl (cA 2, 4, .inr (.inr (.inr (.inr (fun i => ([q386, q387, q388, q389] : List Nat)[i]?)))))), (q386, .inl (cA 0, 10, .inl (fun _ => 0))), (q387, .inl (cA 0, 10, .inl (fun _ => 0))), (q388, .inl (cA 0, 10, .inl (fun _ => 0))), (q389, .inl (cA 0, 10, .inl (fun _ => 0))), (q390, .inl (cA 0, 10, .inl (fun _ => 0)))] := hD
  refine lv_aload_n hx hb dX5_init_68 rfl (lv_at hl 0 rfl) ?_
  refine lv_iconst (v := 0) hx hb dX5_init_69 (by decide) ?_
  refine va_put (D := D) (ci := 5) (v := .int 0) (ty := .int) (C := RX5) (T := TX5) (N := 13) hx hb hts (by decide +kernel) tyX5 tyX5_ok nmX5 hown hX.1 hP hD hS 0 rfl rfl 7 (by decide) (hts (.fieldLink RX5 48 "DraftsmanOffice" "sheetCount" "I") (by decide +kernel)) (fun _ h9 => h9) rfl (by decide +kernel) rfl rfl (Nat.le_of_ble_eq_true rfl) dX5_init_70 (fun H locs hP hD hS => ?_)
  have hP : va_P D vwCl [(h0, .inr (5, [.ref q363, .ref q366, .ref q369, .ref q372, .ref q375, .ref q378, .ref q390, .int 0, .int 0, .int 0, .int 0, .int 0, .int 0])), (q363, .inl (cA 3, 10, .inr (.inr (.inr (.inr (fun _ => none)))))), (q366, .inl (cA 4, 20, .inr (.inr (.inr (.inr (fun _ => none)))))), (q369, .inl (cA 5, 20, .inr (.inr (.inr (.inr (fun _ => none)))))), (q372, .inl (cA 6, 20, .inr (.inr (.inr (.inr (fun _ => none)))))), (q375, .inl (cA 7, 8, .inr (.inr (.inr (.inr (fun _ => none)))))), (q378, .inl (cA 2, 4, .inr (.inr (.inr (.inr (fun i => ([q386, q387, q388, q389] : List Nat)[i]?)))))), (q386, .inl (cA 0, 10, .inl (fun _ => 0))), (q387, .inl (cA 0, 10, .inl (fun _ => 0))), (q388, .inl (cA 0, 10, .inl (fun _ => 0))), (q389, .inl (cA 0, 10, .inl (fun _ => 0))), (q390, .inl (cA 0, 10, .inl (fun _ => 0)))] H := hP
  have hD : va_D A [(h0, .inr (5, [.ref q363, .ref q366, .ref q369, .ref q372, .ref q375, .ref q378, .ref q390, .int 0, .int 0, .int 0, .int 0, .int 0, .int 0])), (q363, .inl (cA 3, 10, .inr (.inr (.inr (.inr (fun _ => none)))))), (q366, .inl (cA 4, 20, .inr (.inr (.inr (.inr (fun _ => none)))))), (q369, .inl (cA 5, 20, .inr (.inr (.inr (.inr (fun _ => none)))))), (q372, .inl (cA 6, 20, .inr (.inr (.inr (.inr (fun _ => none)))))), (q375, .inl (cA 7, 8, .inr (.inr (.inr (.inr (fun _ => none)))))), (q378, .inl (cA 2, 4, .inr (.inr (.inr (.inr (fun i => ([q386, q387, q388, q389] : List Nat)[i]?)))))), (q386, .inl (cA 0, 10, .inl (fun _ => 0))), (q387, .inl (cA 0, 10, .inl (fun _ => 0))), (q388, .inl (cA 0, 10, .inl (fun _ => 0))), (q389, .inl (cA 0, 10, .inl (fun _ => 0))), (q390, .inl (cA 0, 10, .inl (fun _ => 0)))] := hD
  refine lv_aload_n hx hb dX5_init_73 rfl (lv_at hl 0 rfl) ?_
  refine lv_iconst (v := 0) hx hb dX5_init_74 (by decide) ?_
  refine va_put (D := D) (ci := 5) (v := .int 0) (ty := .int) (C := RX5) (T := TX5) (N := 13) hx hb hts (by decide +kernel) tyX5 tyX5_ok nmX5 hown hX.1 hP hD hS 0 rfl rfl 8 (by decide) (hts (.fieldLink RX5 52 "DraftsmanOffice" "referenceCount" "I") (by decide +kernel)) (fun _ h9 => h9) rfl (by decide +kernel) rfl rfl (Nat.le_of_ble_eq_true rfl) dX5_init_75 (fun H locs hP hD hS => ?_)
  have hP : va_P D vwCl [(h0, .inr (5, [.ref q363, .ref q366, .ref q369, .ref q372, .ref q375, .ref q378, .ref q390, .int 0, .int 0, .int 0, .int 0, .int 0, .int 0])), (q363, .inl (cA 3, 10, .inr (.inr (.inr (.inr (fun _ => none)))))), (q366, .inl (cA 4, 20, .inr (.inr (.inr (.inr (fun _ => none)))))), (q369, .inl (cA 5, 20, .inr (.inr (.inr (.inr (fun _ => none)))))), (q372, .inl (cA 6, 20, .inr (.inr (.inr (.inr (fun _ => none)))))), (q375, .inl (cA 7, 8, .inr (.inr (.inr (.inr (fun _ => none)))))), (q378, .inl (cA 2, 4, .inr (.inr (.inr (.inr (fun i => ([q386, q387, q388, q389] : List Nat)[i]?)))))), (q386, .inl (cA 0, 10, .inl (fun _ => 0))), (q387, .inl (cA 0, 10, .inl (fun _ => 0))), (q388, .inl (cA 0, 10, .inl (fun _ => 0))), (q389, .inl (cA 0, 10, .inl (fun _ => 0))), (q390, .inl (cA 0, 10, .inl (fun _ => 0)))] H := hP
  have hD : va_D A [(h0, .inr (5, [.ref q363, .ref q366, .ref q369, .ref q372, .ref q375, .ref q378, .ref q390, .int 0, .int 0, .int 0, .int 0, .int 0, .int 0])), (q363, .inl (cA 3, 10, .inr (.inr (.inr (.inr (fun _ => none)))))), (q366, .inl (cA 4, 20, .inr (.inr (.inr (.inr (fun _ => none)))))), (q369, .inl (cA 5, 20, .inr (.inr (.inr (.inr (fun _ => none)))))), (q372, .inl (cA 6, 20, .inr (.inr (.inr (.inr (fun _ => none)))))), (q375, .inl (cA 7, 8, .inr (.inr (.inr (.inr (fun _ => none)))))), (q378, .inl (cA 2, 4, .inr (.inr (.inr (.inr (fun i => ([q386, q387, q388, q389] : List Nat)[i]?)))))), (q386, .inl (cA 0, 10, .inl (fun _ => 0))), (q387, .inl (cA 0, 10, .inl (fun _ => 0))), (q388, .inl (cA 0, 10, .inl (fun _ => 0))), (q389, .inl (cA 0, 10, .inl (fun _ => 0))), (q390, .inl (cA 0, 10, .inl (fun _ => 0)))] := hD
  refine lv_aload_n hx hb dX5_init_78 rfl (lv_at hl 0 rfl) ?_
  refine lv_iconst (v := 0) hx hb dX5_init_79 (by decide) ?_
  refine va_put (D := D) (ci := 5) (v := .int 0) (ty := .int) (C := RX5) (T := TX5) (N := 13) hx hb hts (by decide +kernel) tyX5 tyX5_ok nmX5 hown hX.1 hP hD hS 0 rfl rfl 9 (by decide) (hts (.fieldLink RX5 55 "DraftsmanOffice" "sendingCount" "I") (by decide +kernel)) (fun _ h9 => h9) rfl (by decide +kernel) rfl rfl (Nat.le_of_ble_eq_true rfl) dX5_init_80 (fun H locs hP hD hS => ?_)
  have hP : va_P D vwCl [(h0, .inr (5, [.ref q363, .ref q366, .ref q369, .ref q372, .ref q375, .ref q378, .ref q390, .int 0, .int 0, .int 0, .int 0, .int 0, .int 0])), (q363, .inl (cA 3, 10, .inr (.inr (.inr (.inr (fun _ => none)))))), (q366, .inl (cA 4, 20, .inr (.inr (.inr (.inr (fun _ => none)))))), (q369, .inl (cA 5, 20, .inr (.inr (.inr (.inr (fun _ => none)))))), (q372, .inl (cA 6, 20, .inr (.inr (.inr (.inr (fun _ => none)))))), (q375, .inl (cA 7, 8, .inr (.inr (.inr (.inr (fun _ => none)))))), (q378, .inl (cA 2, 4, .inr (.inr (.inr (.inr (fun i => ([q386, q387, q388, q389] : List Nat)[i]?)))))), (q386, .inl (cA 0, 10, .inl (fun _ => 0))), (q387, .inl (cA 0, 10, .inl (fun _ => 0))), (q388, .inl (cA 0, 10, .inl (fun _ => 0))), (q389, .inl (cA 0, 10, .inl (fun _ => 0))), (q390, .inl (cA 0, 10, .inl (fun _ => 0)))] H := hP
  have hD : va_D A [(h0, .inr (5, [.ref q363, .ref q366, .ref q369, .ref q372, .ref q375, .ref q378, .ref q390, .int 0, .int 0, .int 0, .int 0, .int 0, .int 0])), (q363, .inl (cA 3, 10, .inr (.inr (.inr (.inr (fun _ => none)))))), (q366, .inl (cA 4, 20, .inr (.inr (.inr (.inr (fun _ => none)))))), (q369, .inl (cA 5, 20, .inr (.inr (.inr (.inr (fun _ => none)))))), (q372, .inl (cA 6, 20, .inr (.inr (.inr (.inr (fun _ => none)))))), (q375, .inl (cA 7, 8, .inr (.inr (.inr (.inr (fun _ => none)))))), (q378, .inl (cA 2, 4, .inr (.inr (.inr (.inr (fun i => ([q386, q387, q388, q389] : List Nat)[i]?)))))), (q386, .inl (cA 0, 10, .inl (fun _ => 0))), (q387, .inl (cA 0, 10, .inl (fun _ => 0))), (q388, .inl (cA 0, 10, .inl (fun _ => 0))), (q389, .inl (cA 0, 10, .inl (fun _ => 0))), (q390, .inl (cA 0, 10, .inl (fun _ => 0)))] := hD
  refine lv_aload_n hx hb dX5_init_83 rfl (lv_at hl 0 rfl) ?_
  refine lv_iconst (v := 0) hx hb dX5_init_84 (by decide) ?_
  refine va_put (D := D) (ci := 5) (v := .int 0) (ty := .int) (C := RX5) (T := TX5) (N := 13) hx hb hts (by decide +kernel) tyX5 tyX5_ok nmX5 hown hX.1 hP hD hS 0 rfl rfl 10 (by decide) (hts (.fieldLink RX5 58 "DraftsmanOffice" "queryCount" "I") (by decide +kernel)) (fun _ h9 => h9) rfl (by decide +kernel) rfl rfl (Nat.le_of_ble_eq_true rfl) dX5_init_85 (fun H locs hP hD hS => ?_)
  have hP : va_P D vwCl [(h0, .inr (5, [.ref q363, .ref q366, .ref q369, .ref q372, .ref q375, .ref q378, .ref q390, .int 0, .int 0, .int 0, .int 0, .int 0, .int 0])), (q363, .inl (cA 3, 10, .inr (.inr (.inr (.inr (fun _ => none)))))), (q366, .inl (cA 4, 20, .inr (.inr (.inr (.inr (fun _ => none)))))), (q369, .inl (cA 5, 20, .inr (.inr (.inr (.inr (fun _ => none)))))), (q372, .inl (cA 6, 20, .inr (.inr (.inr (.inr (fun _ => none)))))), (q375, .inl (cA 7, 8, .inr (.inr (.inr (.inr (fun _ => none)))))), (q378, .inl (cA 2, 4, .inr (.inr (.inr (.inr (fun i => ([q386, q387, q388, q389] : List Nat)[i]?)))))), (q386, .inl (cA 0, 10, .inl (fun _ => 0))), (q387, .inl (cA 0, 10, .inl (fun _ => 0))), (q388, .inl (cA 0, 10, .inl (fun _ => 0))), (q389, .inl (cA 0, 10, .inl (fun _ => 0))), (q390, .inl (cA 0, 10, .inl (fun _ => 0)))] H := hP
  have hD : va_D A [(h0, .inr (5, [.ref q363, .ref q366, .ref q369, .ref q372, .ref q375, .ref q378, .ref q390, .int 0, .int 0, .int 0, .int 0, .int 0, .int 0])), (q363, .inl (cA 3, 10, .inr (.inr (.inr (.inr (fun _ => none)))))), (q366, .inl (cA 4, 20, .inr (.inr (.inr (.inr (fun _ => none)))))), (q369, .inl (cA 5, 20, .inr (.inr (.inr (.inr (fun _ => none)))))), (q372, .inl (cA 6, 20, .inr (.inr (.inr (.inr (fun _ => none)))))), (q375, .inl (cA 7, 8, .inr (.inr (.inr (.inr (fun _ => none)))))), (q378, .inl (cA 2, 4, .inr (.inr (.inr (.inr (fun i => ([q386, q387, q388, q389] : List Nat)[i]?)))))), (q386, .inl (cA 0, 10, .inl (fun _ => 0))), (q387, .inl (cA 0, 10, .inl (fun _ => 0))), (q388, .inl (cA 0, 10, .inl (fun _ => 0))), (q389, .inl (cA 0, 10, .inl (fun _ => 0))), (q390, .inl (cA 0, 10, .inl (fun _ => 0)))] := hD
  refine lv_aload_n hx hb dX5_init_88 rfl (lv_at hl 0 rfl) ?_
  refine lv_iconst (v := 0) hx hb dX5_init_89 (by decide) ?_
  refine va_put (D := D) (ci := 5) (v := .int 0) (ty := .int) (C := RX5) (T := TX5) (N := 13) hx hb hts (by decide +kernel) tyX5 tyX5_ok nmX5 hown hX.1 hP hD hS 0 rfl rfl 11 (by decide) (hts (.fieldLink RX5 61 "DraftsmanOffice" "packageCount" "I") (by decide +kernel)) (fun _ h9 => h9) rfl (by decide +kernel) rfl rfl (Nat.le_of_ble_eq_true rfl) dX5_init_90 (fun H locs hP hD hS => ?_)
  have hP : va_P D vwCl [(h0, .inr (5, [.ref q363, .ref q366, .ref q369, .ref q372, .ref q375, .ref q378, .ref q390, .int 0, .int 0, .int 0, .int 0, .int 0, .int 0])), (q363, .inl (cA 3, 10, .inr (.inr (.inr (.inr (fun _ => none)))))), (q366, .inl (cA 4, 20, .inr (.inr (.inr (.inr (fun _ => none)))))), (q369, .inl (cA 5, 20, .inr (.inr (.inr (.inr (fun _ => none)))))), (q372, .inl (cA 6, 20, .inr (.inr (.inr (.inr (fun _ => none)))))), (q375, .inl (cA 7, 8, .inr (.inr (.inr (.inr (fun _ => none)))))), (q378, .inl (cA 2, 4, .inr (.inr (.inr (.inr (fun i => ([q386, q387, q388, q389] : List Nat)[i]?)))))), (q386, .inl (cA 0, 10, .inl (fun _ => 0))), (q387, .inl (cA 0, 10, .inl (fun _ => 0))), (q388, .inl (cA 0, 10, .inl (fun _ => 0))), (q389, .inl (cA 0, 10, .inl (fun _ => 0))), (q390, .inl (cA 0, 10, .inl (fun _ => 0)))] H := hP
  have hD : va_D A [(h0, .inr (5, [.ref q363, .ref q366, .ref q369, .ref q372, .ref q375, .ref q378, .ref q390, .int 0, .int 0, .int 0, .int 0, .int 0, .int 0])), (q363, .inl (cA 3, 10, .inr (.inr (.inr (.inr (fun _ => none)))))), (q366, .inl (cA 4, 20, .inr (.inr (.inr (.inr (fun _ => none)))))), (q369, .inl (cA 5, 20, .inr (.inr (.inr (.inr (fun _ => none)))))), (q372, .inl (cA 6, 20, .inr (.inr (.inr (.inr (fun _ => none)))))), (q375, .inl (cA 7, 8, .inr (.inr (.inr (.inr (fun _ => none)))))), (q378, .inl (cA 2, 4, .inr (.inr (.inr (.inr (fun i => ([q386, q387, q388, q389] : List Nat)[i]?)))))), (q386, .inl (cA 0, 10, .inl (fun _ => 0))), (q387, .inl (cA 0, 10, .inl (fun _ => 0))), (q388, .inl (cA 0, 10, .inl (fun _ => 0))), (q389, .inl (cA 0, 10, .inl (fun _ => 0))), (q390, .inl (cA 0, 10, .inl (fun _ => 0)))] := hD
  refine lv_aload_n hx hb dX5_init_93 rfl (lv_at hl 0 rfl) ?_
  refine lv_iconst (v := 0) hx hb dX5_init_94 (by decide) ?_
  refine va_put (D := D) (ci := 5) (v := .int 0) (ty := .int) (C := RX5) (T := TX5) (N := 13) hx hb hts (by decide +kernel) tyX5 tyX5_ok nmX5 hown hX.1 hP hD hS 0 rfl rfl 12 (by decide) (hts (.fieldLink RX5 64 "DraftsmanOffice" "today" "I") (by decide +kernel)) (fun _ h9 => h9) rfl (by decide +kernel) rfl rfl (Nat.le_of_ble_eq_true rfl) dX5_init_95 (fun H locs hP hD hS => ?_)
  have hP : va_P D vwCl [(h0, .inr (5, [.ref q363, .ref q366, .ref q369, .ref q372, .ref q375, .ref q378, .ref q390, .int 0, .int 0, .int 0, .int 0, .int 0, .int 0])), (q363, .inl (cA 3, 10, .inr (.inr (.inr (.inr (fun _ => none)))))), (q366, .inl (cA 4, 20, .inr (.inr (.inr (.inr (fun _ => none)))))), (q369, .inl (cA 5, 20, .inr (.inr (.inr (.inr (fun _ => none)))))), (q372, .inl (cA 6, 20, .inr (.inr (.inr (.inr (fun _ => none)))))), (q375, .inl (cA 7, 8, .inr (.inr (.inr (.inr (fun _ => none)))))), (q378, .inl (cA 2, 4, .inr (.inr (.inr (.inr (fun i => ([q386, q387, q388, q389] : List Nat)[i]?)))))), (q386, .inl (cA 0, 10, .inl (fun _ => 0))), (q387, .inl (cA 0, 10, .inl (fun _ => 0))), (q388, .inl (cA 0, 10, .inl (fun _ => 0))), (q389, .inl (cA 0, 10, .inl (fun _ => 0))), (q390, .inl (cA 0, 10, .inl (fun _ => 0)))] H := hP
  have hD : va_D A [(h0, .inr (5, [.ref q363, .ref q366, .ref q369, .ref q372, .ref q375, .ref q378, .ref q390, .int 0, .int 0, .int 0, .int 0, .int 0, .int 0])), (q363, .inl (cA 3, 10, .inr (.inr (.inr (.inr (fun _ => none)))))), (q366, .inl (cA 4, 20, .inr (.inr (.inr (.inr (fun _ => none)))))), (q369, .inl (cA 5, 20, .inr (.inr (.inr (.inr (fun _ => none)))))), (q372, .inl (cA 6, 20, .inr (.inr (.inr (.inr (fun _ => none)))))), (q375, .inl (cA 7, 8, .inr (.inr (.inr (.inr (fun _ => none)))))), (q378, .inl (cA 2, 4, .inr (.inr (.inr (.inr (fun i => ([q386, q387, q388, q389] : List Nat)[i]?)))))), (q386, .inl (cA 0, 10, .inl (fun _ => 0))), (q387, .inl (cA 0, 10, .inl (fun _ => 0))), (q388, .inl (cA 0, 10, .inl (fun _ => 0))), (q389, .inl (cA 0, 10, .inl (fun _ => 0))), (q390, .inl (cA 0, 10, .inl (fun _ => 0)))] := hD
  refine lv_iconst (v := 0) hx hb dX5_init_98 (by decide) ?_
  refine lv_istore_n (lv' := [(1, .int 0), (0, .ref h0)]) hx hb dX5_init_99 rfl hl (by decide) rfl (fun ls hl => ?_)
  refine lv_iload_n hx hb dX5_init_100 rfl (lv_at hl 0 rfl) ?_
  refine lv_iconst (v := 4) hx hb dX5_init_101 (by decide) ?_
  refine lv_icmp_ge (tgt := 121) hx hb dX5_init_102 (by decide) (fun c393 => absurd c393 (by decide)) (fun _ => ?_)
  refine lv_aload_n hx hb dX5_init_105 rfl (lv_at hl 1 rfl) ?_
  refine va_get (D := D) (ci := 5) (v := .ref q378) (C := RX5) (T := TX5) (N := 13) hx hb hts (by decide +kernel) hown hX.1 hP 0 rfl rfl 5 (by decide) (hts (.fieldLink RX5 41 "DraftsmanOffice" "crewHas" "[[I") (by decide +kernel)) (fun _ h9 => h9) rfl dX5_init_106 ?_
  refine lv_iload_n hx hb dX5_init_109 rfl (lv_at hl 0 rfl) ?_
  refine ll_aald (r := .ref q386) hx hb hX.1 hP 6 2 rfl rfl rfl (vp_in_nI (n := 0) (by decide) (by decide)) rfl dX5_init_110 ?_
  refine lv_iconst (v := -1) hx hb dX5_init_111 (by decide) ?_
  have hPc := hP.sub (ws' := [(q386, .inl (cA 0, 10, .inl (fun _ => 0)))]) [7] rfl
  have hDc := (hD.sub (ws' := [(q386, .inl (cA 0, 10, .inl (fun _ => 0)))]) [7] (by decide) rfl).self (sz := H.size)
  have hFc := va_free (wc := [(q386, .inl (cA 0, 10, .inl (fun _ => 0)))]) hD hS hA [7] rfl
  refine va_callv (va_runS (As := [.ref q386, .int (-1)]) (rest := []) ⟨hx, hb, hml, hown, hts⟩ (l_J7_fill_53178 l D cA (va_A [(q386, .inl (cA 0, 10, .inl (fun _ => 0)))] H.size) q386 10 (fun _ => 0) (-1) (by decide)) (va_cwS 2 hts gX5_init_J7_fill_53178 rfl rfl rfl (by decide +kernel) ⟨Nat.le_of_ble_eq_true rfl, Nat.le_of_ble_eq_true rfl⟩) (pc_preS pcN_ok hX ⟨hPc, hDc, fun q h => Or.inr h⟩) rfl rfl hl.1 rfl (lv_room (Nat.le_of_ble_eq_true rfl)) dX5_init_112 ⟨Nat.le_of_ble_eq_true rfl, Nat.le_of_ble_eq_true rfl⟩) hS (fun q _ h => hFc q h) hFc (fun u394 t H1 locs ht hvm hw hB hz1 hk1 hS => ?_)
  obtain ⟨hP1, hD1⟩ := hB
  rw [ht] at hP1
  obtain ⟨hP, hD⟩ := va_join (wr := [(h0, .inr (5, [.ref q363, .ref q366, .ref q369, .ref q372, .ref q375, .ref q378, .ref q390, .int 0, .int 0, .int 0, .int 0, .int 0, .int 0])), (q363, .inl (cA 3, 10, .inr (.inr (.inr (.inr (fun _ => none)))))), (q366, .inl (cA 4, 20, .inr (.inr (.inr (.inr (fun _ => none)))))), (q369, .inl (cA 5, 20, .inr (.inr (.inr (.inr (fun _ => none)))))), (q372, .inl (cA 6, 20, .inr (.inr (.inr (.inr (fun _ => none)))))), (q375, .inl (cA 7, 8, .inr (.inr (.inr (.inr (fun _ => none)))))), (q378, .inl (cA 2, 4, .inr (.inr (.inr (.inr (fun i => ([q386, q387, q388, q389] : List Nat)[i]?)))))), (q387, .inl (cA 0, 10, .inl (fun _ => 0))), (q388, .inl (cA 0, 10, .inl (fun _ => 0))), (q389, .inl (cA 0, 10, .inl (fun _ => 0))), (q390, .inl (cA 0, 10, .inl (fun _ => 0)))]) (w1 := [(q386, .inl (cA 0, 10, .inl u394))]) hP hD [7] [0, 1, 2, 3, 4, 5, 6, 8, 9, 10, 11] rfl rfl (by decide) (by decide) hk1 hFc hP1 hD1
  generalize H1 = H at hP hS ⊢
  have hP : va_P D vwCl [(h0, .inr (5, [.ref q363, .ref q366, .ref q369, .ref q372, .ref q375, .ref q378, .ref q390, .int 0, .int 0, .int 0, .int 0, .int 0, .int 0])), (q363, .inl (cA 3, 10, .inr (.inr (.inr (.inr (fun _ => none)))))), (q366, .inl (cA 4, 20, .inr (.inr (.inr (.inr (fun _ => none)))))), (q369, .inl (cA 5, 20, .inr (.inr (.inr (.inr (fun _ => none)))))), (q372, .inl (cA 6, 20, .inr (.inr (.inr (.inr (fun _ => none)))))), (q375, .inl (cA 7, 8, .inr (.inr (.inr (.inr (fun _ => none)))))), (q378, .inl (cA 2, 4, .inr (.inr (.inr (.inr (fun i => ([q386, q387, q388, q389] : List Nat)[i]?)))))), (q387, .inl (cA 0, 10, .inl (fun _ => 0))), (q388, .inl (cA 0, 10, .inl (fun _ => 0))), (q389, .inl (cA 0, 10, .inl (fun _ => 0))), (q390, .inl (cA 0, 10, .inl (fun _ => 0))), (q386, .inl (cA 0, 10, .inl u394))] H := hP
  have hD : va_D A [(h0, .inr (5, [.ref q363, .ref q366, .ref q369, .ref q372, .ref q375, .ref q378, .ref q390, .int 0, .int 0, .int 0, .int 0, .int 0, .int 0])), (q363, .inl (cA 3, 10, .inr (.inr (.inr (.inr (fun _ => none)))))), (q366, .inl (cA 4, 20, .inr (.inr (.inr (.inr (fun _ => none)))))), (q369, .inl (cA 5, 20, .inr (.inr (.inr (.inr (fun _ => none)))))), (q372, .inl (cA 6, 20, .inr (.inr (.inr (.inr (fun _ => none)))))), (q375, .inl (cA 7, 8, .inr (.inr (.inr (.inr (fun _ => none)))))), (q378, .inl (cA 2, 4, .inr (.inr (.inr (.inr (fun i => ([q386, q387, q388, q389] : List Nat)[i]?)))))), (q387, .inl (cA 0, 10, .inl (fun _ => 0))), (q388, .inl (cA 0, 10, .inl (fun _ => 0))), (q389, .inl (cA 0, 10, .inl (fun _ => 0))), (q390, .inl (cA 0, 10, .inl (fun _ => 0))), (q386, .inl (cA 0, 10, .inl u394))] := hD
  refine W.widen (k := 11) (n := 132) (Nat.le_of_ble_eq_true rfl) (Nat.le_of_ble_eq_true rfl) ?_
  have hP := va_P_row hP 11 (g := (fun _ => (-1))) rfl hw
  have hD := va_D_row hD 11 (e2 := .inl (cA 0, 10, .inl (fun _ => (-1)))) rfl
  have hP : va_P D vwCl [(h0, .inr (5, [.ref q363, .ref q366, .ref q369, .ref q372, .ref q375, .ref q378, .ref q390, .int 0, .int 0, .int 0, .int 0, .int 0, .int 0])), (q363, .inl (cA 3, 10, .inr (.inr (.inr (.inr (fun _ => none)))))), (q366, .inl (cA 4, 20, .inr (.inr (.inr (.inr (fun _ => none)))))), (q369, .inl (cA 5, 20, .inr (.inr (.inr (.inr (fun _ => none)))))), (q372, .inl (cA 6, 20, .inr (.inr (.inr (.inr (fun _ => none)))))), (q375, .inl (cA 7, 8, .inr (.inr (.inr (.inr (fun _ => none)))))), (q378, .inl (cA 2, 4, .inr (.inr (.inr (.inr (fun i => ([q386, q387, q388, q389] : List Nat)[i]?)))))), (q387, .inl (cA 0, 10, .inl (fun _ => 0))), (q388, .inl (cA 0, 10, .inl (fun _ => 0))), (q389, .inl (cA 0, 10, .inl (fun _ => 0))), (q390, .inl (cA 0, 10, .inl (fun _ => 0))), (q386, .inl (cA 0, 10, .inl (fun _ => (-1))))] H := hP
  have hD : va_D A [(h0, .inr (5, [.ref q363, .ref q366, .ref q369, .ref q372, .ref q375, .ref q378, .ref q390, .int 0, .int 0, .int 0, .int 0, .int 0, .int 0])), (q363, .inl (cA 3, 10, .inr (.inr (.inr (.inr (fun _ => none)))))), (q366, .inl (cA 4, 20, .inr (.inr (.inr (.inr (fun _ => none)))))), (q369, .inl (cA 5, 20, .inr (.inr (.inr (.inr (fun _ => none)))))), (q372, .inl (cA 6, 20, .inr (.inr (.inr (.inr (fun _ => none)))))), (q375, .inl (cA 7, 8, .inr (.inr (.inr (.inr (fun _ => none)))))), (q378, .inl (cA 2, 4, .inr (.inr (.inr (.inr (fun i => ([q386, q387, q388, q389] : List Nat)[i]?)))))), (q387, .inl (cA 0, 10, .inl (fun _ => 0))), (q388, .inl (cA 0, 10, .inl (fun _ => 0))), (q389, .inl (cA 0, 10, .inl (fun _ => 0))), (q390, .inl (cA 0, 10, .inl (fun _ => 0))), (q386, .inl (cA 0, 10, .inl (fun _ => (-1))))] := hD
  refine lv_iinc (v := 1) (lv' := [(1, .int 1), (0, .ref h0)]) hx hb dX5_init_115 hl (k := 0) rfl (by decide) (by decide) rfl (fun ls hl => ?_)
  refine lv_goto (tgt := 100) hx hb dX5_init_118 (by decide) ?_
  refine lv_iload_n hx hb dX5_init_100 rfl (lv_at hl 0 rfl) ?_
  refine lv_iconst (v := 4) hx hb dX5_init_101 (by decide) ?_
  refine lv_icmp_ge (tgt := 121) hx hb dX5_init_102 (by decide) (fun c398 => absurd c398 (by decide)) (fun _ => ?_)
  refine lv_aload_n hx hb dX5_init_105 rfl (lv_at hl 1 rfl) ?_
  refine va_get (D := D) (ci := 5) (v := .ref q378) (C := RX5) (T := TX5) (N := 13) hx hb hts (by decide +kernel) hown hX.1 hP 0 rfl rfl 5 (by decide) (hts (.fieldLink RX5 41 "DraftsmanOffice" "crewHas" "[[I") (by decide +kernel)) (fun _ h9 => h9) rfl dX5_init_106 ?_
  refine lv_iload_n hx hb dX5_init_109 rfl (lv_at hl 0 rfl) ?_
  refine ll_aald (r := .ref q387) hx hb hX.1 hP 6 2 rfl rfl rfl (vp_in_nI (n := 1) (by decide) (by decide)) rfl dX5_init_110 ?_
  refine lv_iconst (v := -1) hx hb dX5_init_111 (by decide) ?_
  have hPc := hP.sub (ws' := [(q387, .inl (cA 0, 10, .inl (fun _ => 0)))]) [7] rfl
  have hDc := (hD.sub (ws' := [(q387, .inl (cA 0, 10, .inl (fun _ => 0)))]) [7] (by decide) rfl).self (sz := H.size)
  have hFc := va_free (wc := [(q387, .inl (cA 0, 10, .inl (fun _ => 0)))]) hD hS hA [7] rfl
  refine va_callv (va_runS (As := [.ref q387, .int (-1)]) (rest := []) ⟨hx, hb, hml, hown, hts⟩ (l_J7_fill_53178 l D cA (va_A [(q387, .inl (cA 0, 10, .inl (fun _ => 0)))] H.size) q387 10 (fun _ => 0) (-1) (by decide)) (va_cwS 2 hts gX5_init_J7_fill_53178 rfl rfl rfl (by decide +kernel) ⟨Nat.le_of_ble_eq_true rfl, Nat.le_of_ble_eq_true rfl⟩) (pc_preS pcN_ok hX ⟨hPc, hDc, fun q h => Or.inr h⟩) rfl rfl hl.1 rfl (lv_room (Nat.le_of_ble_eq_true rfl)) dX5_init_112 ⟨Nat.le_of_ble_eq_true rfl, Nat.le_of_ble_eq_true rfl⟩) hS (fun q _ h => hFc q h) hFc (fun u399 t H1 locs ht hvm hw hB hz1 hk1 hS => ?_)
  obtain ⟨hP1, hD1⟩ := hB
  rw [ht] at hP1
  obtain ⟨hP, hD⟩ := va_join (wr := [(h0, .inr (5, [.ref q363, .ref q366, .ref q369, .ref q372, .ref q375, .ref q378, .ref q390, .int 0, .int 0, .int 0, .int 0, .int 0, .int 0])), (q363, .inl (cA 3, 10, .inr (.inr (.inr (.inr (fun _ => none)))))), (q366, .inl (cA 4, 20, .inr (.inr (.inr (.inr (fun _ => none)))))), (q369, .inl (cA 5, 20, .inr (.inr (.inr (.inr (fun _ => none)))))), (q372, .inl (cA 6, 20, .inr (.inr (.inr (.inr (fun _ => none)))))), (q375, .inl (cA 7, 8, .inr (.inr (.inr (.inr (fun _ => none)))))), (q378, .inl (cA 2, 4, .inr (.inr (.inr (.inr (fun i => ([q386, q387, q388, q389] : List Nat)[i]?)))))), (q388, .inl (cA 0, 10, .inl (fun _ => 0))), (q389, .inl (cA 0, 10, .inl (fun _ => 0))), (q390, .inl (cA 0, 10, .inl (fun _ => 0))), (q386, .inl (cA 0, 10, .inl (fun _ => (-1))))]) (w1 := [(q387, .inl (cA 0, 10, .inl u399))]) hP hD [7] [0, 1, 2, 3, 4, 5, 6, 8, 9, 10, 11] rfl rfl (by decide) (by decide) hk1 hFc hP1 hD1
  generalize H1 = H at hP hS ⊢
  have hP : va_P D vwCl [(h0, .inr (5, [.ref q363, .ref q366, .ref q369, .ref q372, .ref q375, .ref q378, .ref q390, .int 0, .int 0, .int 0, .int 0, .int 0, .int 0])), (q363, .inl (cA 3, 10, .inr (.inr (.inr (.inr (fun _ => none)))))), (q366, .inl (cA 4, 20, .inr (.inr (.inr (.inr (fun _ => none)))))), (q369, .inl (cA 5, 20, .inr (.inr (.inr (.inr (fun _ => none)))))), (q372, .inl (cA 6, 20, .inr (.inr (.inr (.inr (fun _ => none)))))), (q375, .inl (cA 7, 8, .inr (.inr (.inr (.inr (fun _ => none)))))), (q378, .inl (cA 2, 4, .inr (.inr (.inr (.inr (fun i => ([q386, q387, q388, q389] : List Nat)[i]?)))))), (q388, .inl (cA 0, 10, .inl (fun _ => 0))), (q389, .inl (cA 0, 10, .inl (fun _ => 0))), (q390, .inl (cA 0, 10, .inl (fun _ => 0))), (q386, .inl (cA 0, 10, .inl (fun _ => (-1)))), (q387, .inl (cA 0, 10, .inl u399))] H := hP
  have hD : va_D A [(h0, .inr (5, [.ref q363, .ref q366, .ref q369, .ref q372, .ref q375, .ref q378, .ref q390, .int 0, .int 0, .int 0, .int 0, .int 0, .int 0])), (q363, .inl (cA 3, 10, .inr (.inr (.inr (.inr (fun _ => none)))))), (q366, .inl (cA 4, 20, .inr (.inr (.inr (.inr (fun _ => none)))))), (q369, .inl (cA 5, 20, .inr (.inr (.inr (.inr (fun _ => none)))))), (q372, .inl (cA 6, 20, .inr (.inr (.inr (.inr (fun _ => none)))))), (q375, .inl (cA 7, 8, .inr (.inr (.inr (.inr (fun _ => none)))))), (q378, .inl (cA 2, 4, .inr (.inr (.inr (.inr (fun i => ([q386, q387, q388, q389] : List Nat)[i]?)))))), (q388, .inl (cA 0, 10, .inl (fun _ => 0))), (q389, .inl (cA 0, 10, .inl (fun _ => 0))), (q390, .inl (cA 0, 10, .inl (fun _ => 0))), (q386, .inl (cA 0, 10, .inl (fun _ => (-1)))), (q387, .inl (cA 0, 10, .inl u399))] := hD
  refine W.widen (k := 11) (n := 132) (Nat.le_of_ble_eq_true rfl) (Nat.le_of_ble_eq_true rfl) ?_
  have hP := va_P_row hP 11 (g := (fun _ => (-1))) rfl hw
  have hD := va_D_row hD 11 (e2 := .inl (cA 0, 10, .inl (fun _ => (-1)))) rfl
  have hP : va_P D vwCl [(h0, .inr (5, [.ref q363, .ref q366, .ref q369, .ref q372, .ref q375, .ref q378, .ref q390, .int 0, .int 0, .int 0, .int 0, .int 0, .int 0])), (q363, .inl (cA 3, 10, .inr (.inr (.inr (.inr (fun _ => none)))))), (q366, .inl (cA 4, 20, .inr (.inr (.inr (.inr (fun _ => none)))))), (q369, .inl (cA 5, 20, .inr (.inr (.inr (.inr (fun _ => none)))))), (q372, .inl (cA 6, 20, .inr (.inr (.inr (.inr (fun _ => none)))))), (q375, .inl (cA 7, 8, .inr (.inr (.inr (.inr (fun _ => none)))))), (q378, .inl (cA 2, 4, .inr (.inr (.inr (.inr (fun i => ([q386, q387, q388, q389] : List Nat)[i]?)))))), (q388, .inl (cA 0, 10, .inl (fun _ => 0))), (q389, .inl (cA 0, 10, .inl (fun _ => 0))), (q390, .inl (cA 0, 10, .inl (fun _ => 0))), (q386, .inl (cA 0, 10, .inl (fun _ => (-1)))), (q387, .inl (cA 0, 10, .inl (fun _ => (-1))))] H := hP
  have hD : va_D A [(h0, .inr (5, [.ref q363, .ref q366, .ref q369, .ref q372, .ref q375, .ref q378, .ref q390, .int 0, .int 0, .int 0, .int 0, .int 0, .int 0])), (q363, .inl (cA 3, 10, .inr (.inr (.inr (.inr (fun _ => none)))))), (q366, .inl (cA 4, 20, .inr (.inr (.inr (.inr (fun _ => none)))))), (q369, .inl (cA 5, 20, .inr (.inr (.inr (.inr (fun _ => none)))))), (q372, .inl (cA 6, 20, .inr (.inr (.inr (.inr (fun _ => none)))))), (q375, .inl (cA 7, 8, .inr (.inr (.inr (.inr (fun _ => none)))))), (q378, .inl (cA 2, 4, .inr (.inr (.inr (.inr (fun i => ([q386, q387, q388, q389] : List Nat)[i]?)))))), (q388, .inl (cA 0, 10, .inl (fun _ => 0))), (q389, .inl (cA 0, 10, .inl (fun _ => 0))), (q390, .inl (cA 0, 10, .inl (fun _ => 0))), (q386, .inl (cA 0, 10, .inl (fun _ => (-1)))), (q387, .inl (cA 0, 10, .inl (fun _ => (-1))))] := hD
  refine lv_iinc (v := 2) (lv' := [(1, .int 2), (0, .ref h0)]) hx hb dX5_init_115 hl (k := 0) rfl (by decide) (by decide) rfl (fun ls hl => ?_)
  refine lv_goto (tgt := 100) hx hb dX5_init_118 (by decide) ?_
  refine lv_iload_n hx hb dX5_init_100 rfl (lv_at hl 0 rfl) ?_
  refine lv_iconst (v := 4) hx hb dX5_init_101 (by decide) ?_
  refine lv_icmp_ge (tgt := 121) hx hb dX5_init_102 (by decide) (fun c403 => absurd c403 (by decide)) (fun _ => ?_)
  refine lv_aload_n hx hb dX5_init_105 rfl (lv_at hl 1 rfl) ?_
  refine va_get (D := D) (ci := 5) (v := .ref q378) (C := RX5) (T := TX5) (N := 13) hx hb hts (by decide +kernel) hown hX.1 hP 0 rfl rfl 5 (by decide) (hts (.fieldLink RX5 41 "DraftsmanOffice" "crewHas" "[[I") (by decide +kernel)) (fun _ h9 => h9) rfl dX5_init_106 ?_
  refine lv_iload_n hx hb dX5_init_109 rfl (lv_at hl 0 rfl) ?_
  refine ll_aald (r := .ref q388) hx hb hX.1 hP 6 2 rfl rfl rfl (vp_in_nI (n := 2) (by decide) (by decide)) rfl dX5_init_110 ?_
  refine lv_iconst (v := -1) hx hb dX5_init_111 (by decide) ?_
  have hPc := hP.sub (ws' := [(q388, .inl (cA 0, 10, .inl (fun _ => 0)))]) [7] rfl
  have hDc := (hD.sub (ws' := [(q388, .inl (cA 0, 10, .inl (fun _ => 0)))]) [7] (by decide) rfl).self (sz := H.size)
  have hFc := va_free (wc := [(q388, .inl (cA 0, 10, .inl (fun _ => 0)))]) hD hS hA [7] rfl
  refine va_callv (va_runS (As := [.ref q388, .int (-1)]) (rest := []) ⟨hx, hb, hml, hown, hts⟩ (l_J7_fill_53178 l D cA (va_A [(q388, .inl (cA 0, 10, .inl (fun _ => 0)))] H.size) q388 10 (fun _ => 0) (-1) (by decide)) (va_cwS 2 hts gX5_init_J7_fill_53178 rfl rfl rfl (by decide +kernel) ⟨Nat.le_of_ble_eq_true rfl, Nat.le_of_ble_eq_true rfl⟩) (pc_preS pcN_ok hX ⟨hPc, hDc, fun q h => Or.inr h⟩) rfl rfl hl.1 rfl (lv_room (Nat.le_of_ble_eq_true rfl)) dX5_init_112 ⟨Nat.le_of_ble_eq_true rfl, Nat.le_of_ble_eq_true rfl⟩) hS (fun q _ h => hFc q h) hFc (fun u404 t H1 locs ht hvm hw hB hz1 hk1 hS => ?_)
  obtain ⟨hP1, hD1⟩ := hB
  rw [ht] at hP1
  obtain ⟨hP, hD⟩ := va_join (wr := [(h0, .inr (5, [.ref q363, .ref q366, .ref q369, .ref q372, .ref q375, .ref q378, .ref q390, .int 0, .int 0, .int 0, .int 0, .int 0, .int 0])), (q363, .inl (cA 3, 10, .inr (.inr (.inr (.inr (fun _ => none)))))), (q366, .inl (cA 4, 20, .inr (.inr (.inr (.inr (fun _ => none)))))), (q369, .inl (cA 5, 20, .inr (.inr (.inr (.inr (fun _ => none)))))), (q372, .inl (cA 6, 20, .inr (.inr (.inr (.inr (fun _ => none)))))), (q375, .inl (cA 7, 8, .inr (.inr (.inr (.inr (fun _ => none)))))), (q378, .inl (cA 2, 4, .inr (.inr (.inr (.inr (fun i => ([q386, q387, q388, q389] : List Nat)[i]?)))))), (q389, .inl (cA 0, 10, .inl (fun _ => 0))), (q390, .inl (cA 0, 10, .inl (fun _ => 0))), (q386, .inl (cA 0, 10, .inl (fun _ => (-1)))), (q387, .inl (cA 0, 10, .inl (fun _ => (-1))))]) (w1 := [(q388, .inl (cA 0, 10, .inl u404))]) hP hD [7] [0, 1, 2, 3, 4, 5, 6, 8, 9, 10, 11] rfl rfl (by decide) (by decide) hk1 hFc hP1 hD1
  generalize H1 = H at hP hS ⊢
  have hP : va_P D vwCl [(h0, .inr (5, [.ref q363, .ref q366, .ref q369, .ref q372, .ref q375, .ref q378, .ref q390, .int 0, .int 0, .int 0, .int 0, .int 0, .int 0])), (q363, .inl (cA 3, 10, .inr (.inr (.inr (.inr (fun _ => none)))))), (q366, .inl (cA 4, 20, .inr (.inr (.inr (.inr (fun _ => none)))))), (q369, .inl (cA 5, 20, .inr (.inr (.inr (.inr (fun _ => none)))))), (q372, .inl (cA 6, 20, .inr (.inr (.inr (.inr (fun _ => none)))))), (q375, .inl (cA 7, 8, .inr (.inr (.inr (.inr (fun _ => none)))))), (q378, .inl (cA 2, 4, .inr (.inr (.inr (.inr (fun i => ([q386, q387, q388, q389] : List Nat)[i]?)))))), (q389, .inl (cA 0, 10, .inl (fun _ => 0))), (q390, .inl (cA 0, 10, .inl (fun _ => 0))), (q386, .inl (cA 0, 10, .inl (fun _ => (-1)))), (q387, .inl (cA 0, 10, .inl (fun _ => (-1)))), (q388, .inl (cA 0, 10, .inl u404))] H := hP
  have hD : va_D A [(h0, .inr (5, [.ref q363, .ref q366, .ref q369, .ref q372, .ref q375, .ref q378, .ref q390, .int 0, .int 0, .int 0, .int 0, .int 0, .int 0])), (q363, .inl (cA 3, 10, .inr (.inr (.inr (.inr (fun _ => none)))))), (q366, .inl (cA 4, 20, .inr (.inr (.inr (.inr (fun _ => none)))))), (q369, .inl (cA 5, 20, .inr (.inr (.inr (.inr (fun _ => none)))))), (q372, .inl (cA 6, 20, .inr (.inr (.inr (.inr (fun _ => none)))))), (q375, .inl (cA 7, 8, .inr (.inr (.inr (.inr (fun _ => none)))))), (q378, .inl (cA 2, 4, .inr (.inr (.inr (.inr (fun i => ([q386, q387, q388, q389] : List Nat)[i]?)))))), (q389, .inl (cA 0, 10, .inl (fun _ => 0))), (q390, .inl (cA 0, 10, .inl (fun _ => 0))), (q386, .inl (cA 0, 10, .inl (fun _ => (-1)))), (q387, .inl (cA 0, 10, .inl (fun _ => (-1)))), (q388, .inl (cA 0, 10, .inl u404))] := hD
  refine W.widen (k := 11) (n := 132) (Nat.le_of_ble_eq_true rfl) (Nat.le_of_ble_eq_true rfl) ?_
  have hP := va_P_row hP 11 (g := (fun _ => (-1))) rfl hw
  have hD := va_D_row hD 11 (e2 := .inl (cA 0, 10, .inl (fun _ => (-1)))) rfl
  have hP : va_P D vwCl [(h0, .inr (5, [.ref q363, .ref q366, .ref q369, .ref q372, .ref q375, .ref q378, .ref q390, .int 0, .int 0, .int 0, .int 0, .int 0, .int 0])), (q363, .inl (cA 3, 10, .inr (.inr (.inr (.inr (fun _ => none)))))), (q366, .inl (cA 4, 20, .inr (.inr (.inr (.inr (fun _ => none)))))), (q369, .inl (cA 5, 20, .inr (.inr (.inr (.inr (fun _ => none)))))), (q372, .inl (cA 6, 20, .inr (.inr (.inr (.inr (fun _ => none)))))), (q375, .inl (cA 7, 8, .inr (.inr (.inr (.inr (fun _ => none)))))), (q378, .inl (cA 2, 4, .inr (.inr (.inr (.inr (fun i => ([q386, q387, q388, q389] : List Nat)[i]?)))))), (q389, .inl (cA 0, 10, .inl (fun _ => 0))), (q390, .inl (cA 0, 10, .inl (fun _ => 0))), (q386, .inl (cA 0, 10, .inl (fun _ => (-1)))), (q387, .inl (cA 0, 10, .inl (fun _ => (-1)))), (q388, .inl (cA 0, 10, .inl (fun _ => (-1))))] H := hP
  have hD : va_D A [(h0, .inr (5, [.ref q363, .ref q366, .ref q369, .ref q372, .ref q375, .ref q378, .ref q390, .int 0, .int 0, .int 0, .int 0, .int 0, .int 0])), (q363, .inl (cA 3, 10, .inr (.inr (.inr (.inr (fun _ => none)))))), (q366, .inl (cA 4, 20, .inr (.inr (.inr (.inr (fun _ => none)))))), (q369, .inl (cA 5, 20, .inr (.inr (.inr (.inr (fun _ => none)))))), (q372, .inl (cA 6, 20, .inr (.inr (.inr (.inr (fun _ => none)))))), (q375, .inl (cA 7, 8, .inr (.inr (.inr (.inr (fun _ => none)))))), (q378, .inl (cA 2, 4, .inr (.inr (.inr (.inr (fun i => ([q386, q387, q388, q389] : List Nat)[i]?)))))), (q389, .inl (cA 0, 10, .inl (fun _ => 0))), (q390, .inl (cA 0, 10, .inl (fun _ => 0))), (q386, .inl (cA 0, 10, .inl (fun _ => (-1)))), (q387, .inl (cA 0, 10, .inl (fun _ => (-1)))), (q388, .inl (cA 0, 10, .inl (fun _ => (-1))))] := hD
  refine lv_iinc (v := 3) (lv' := [(1, .int 3), (0, .ref h0)]) hx hb dX5_init_115 hl (k := 0) rfl (by decide) (by decide) rfl (fun ls hl => ?_)
  refine lv_goto (tgt := 100) hx hb dX5_init_118 (by decide) ?_
  refine lv_iload_n hx hb dX5_init_100 rfl (lv_at hl 0 rfl) ?_
  refine lv_iconst (v := 4) hx hb dX5_init_101 (by decide) ?_
  refine lv_icmp_ge (tgt := 121) hx hb dX5_init_102 (by decide) (fun c408 => absurd c408 (by decide)) (fun _ => ?_)
  refine lv_aload_n hx hb dX5_init_105 rfl (lv_at hl 1 rfl) ?_
  refine va_get (D := D) (ci := 5) (v := .ref q378) (C := RX5) (T := TX5) (N := 13) hx hb hts (by decide +kernel) hown hX.1 hP 0 rfl rfl 5 (by decide) (hts (.fieldLink RX5 41 "DraftsmanOffice" "crewHas" "[[I") (by decide +kernel)) (fun _ h9 => h9) rfl dX5_init_106 ?_
  refine lv_iload_n hx hb dX5_init_109 rfl (lv_at hl 0 rfl) ?_
  refine ll_aald (r := .ref q389) hx hb hX.1 hP 6 2 rfl rfl rfl (vp_in_nI (n := 3) (by decide) (by decide)) rfl dX5_init_110 ?_
  refine lv_iconst (v := -1) hx hb dX5_init_111 (by decide) ?_
  have hPc := hP.sub (ws' := [(q389, .inl (cA 0, 10, .inl (fun _ => 0)))]) [7] rfl
  have hDc := (hD.sub (ws' := [(q389, .inl (cA 0, 10, .inl (fun _ => 0)))]) [7] (by decide) rfl).self (sz := H.size)
  have hFc := va_free (wc := [(q389, .inl (cA 0, 10, .inl (fun _ => 0)))]) hD hS hA [7] rfl
  refine va_callv (va_runS (As := [.ref q389, .int (-1)]) (rest := []) ⟨hx, hb, hml, hown, hts⟩ (l_J7_fill_53178 l D cA (va_A [(q389, .inl (cA 0, 10, .inl (fun _ => 0)))] H.size) q389 10 (fun _ => 0) (-1) (by decide)) (va_cwS 2 hts gX5_init_J7_fill_53178 rfl rfl rfl (by decide +kernel) ⟨Nat.le_of_ble_eq_true rfl, Nat.le_of_ble_eq_true rfl⟩) (pc_preS pcN_ok hX ⟨hPc, hDc, fun q h => Or.inr h⟩) rfl rfl hl.1 rfl (lv_room (Nat.le_of_ble_eq_true rfl)) dX5_init_112 ⟨Nat.le_of_ble_eq_true rfl, Nat.le_of_ble_eq_true rfl⟩) hS (fun q _ h => hFc q h) hFc (fun u409 t H1 locs ht hvm hw hB hz1 hk1 hS => ?_)
  obtain ⟨hP1, hD1⟩ := hB
  rw [ht] at hP1
  obtain ⟨hP, hD⟩ := va_join (wr := [(h0, .inr (5, [.ref q363, .ref q366, .ref q369, .ref q372, .ref q375, .ref q378, .ref q390, .int 0, .int 0, .int 0, .int 0, .int 0, .int 0])), (q363, .inl (cA 3, 10, .inr (.inr (.inr (.inr (fun _ => none)))))), (q366, .inl (cA 4, 20, .inr (.inr (.inr (.inr (fun _ => none)))))), (q369, .inl (cA 5, 20, .inr (.inr (.inr (.inr (fun _ => none)))))), (q372, .inl (cA 6, 20, .inr (.inr (.inr (.inr (fun _ => none)))))), (q375, .inl (cA 7, 8, .inr (.inr (.inr (.inr (fun _ => none)))))), (q378, .inl (cA 2, 4, .inr (.inr (.inr (.inr (fun i => ([q386, q387, q388, q389] : List Nat)[i]?)))))), (q390, .inl (cA 0, 10, .inl (fun _ => 0))), (q386, .inl (cA 0, 10, .inl (fun _ => (-1)))), (q387, .inl (cA 0, 10, .inl (fun _ => (-1)))), (q388, .inl (cA 0, 10, .inl (fun _ => (-1))))]) (w1 := [(q389, .inl (cA 0, 10, .inl u409))]) hP hD [7] [0, 1, 2, 3, 4, 5, 6, 8, 9, 10, 11] rfl rfl (by decide) (by decide) hk1 hFc hP1 hD1
  generalize H1 = H at hP hS ⊢
  have hP : va_P D vwCl [(h0, .inr (5, [.ref q363, .ref q366, .ref q369, .ref q372, .ref q375, .ref q378, .ref q390, .int 0, .int 0, .int 0, .int 0, .int 0, .int 0])), (q363, .inl (cA 3, 10, .inr (.inr (.inr (.inr (fun _ => none)))))), (q366, .inl (cA 4, 20, .inr (.inr (.inr (.inr (fun _ => none)))))), (q369, .inl (cA 5, 20, .inr (.inr (.inr (.inr (fun _ => none)))))), (q372, .inl (cA 6, 20, .inr (.inr (.inr (.inr (fun _ => none)))))), (q375, .inl (cA 7, 8, .inr (.inr (.inr (.inr (fun _ => none)))))), (q378, .inl (cA 2, 4, .inr (.inr (.inr (.inr (fun i => ([q386, q387, q388, q389] : List Nat)[i]?)))))), (q390, .inl (cA 0, 10, .inl (fun _ => 0))), (q386, .inl (cA 0, 10, .inl (fun _ => (-1)))), (q387, .inl (cA 0, 10, .inl (fun _ => (-1)))), (q388, .inl (cA 0, 10, .inl (fun _ => (-1)))), (q389, .inl (cA 0, 10, .inl u409))] H := hP
  have hD : va_D A [(h0, .inr (5, [.ref q363, .ref q366, .ref q369, .ref q372, .ref q375, .ref q378, .ref q390, .int 0, .int 0, .int 0, .int 0, .int 0, .int 0])), (q363, .inl (cA 3, 10, .inr (.inr (.inr (.inr (fun _ => none)))))), (q366, .inl (cA 4, 20, .inr (.inr (.inr (.inr (fun _ => none)))))), (q369, .inl (cA 5, 20, .inr (.inr (.inr (.inr (fun _ => none)))))), (q372, .inl (cA 6, 20, .inr (.inr (.inr (.inr (fun _ => none)))))), (q375, .inl (cA 7, 8, .inr (.inr (.inr (.inr (fun _ => none)))))), (q378, .inl (cA 2, 4, .inr (.inr (.inr (.inr (fun i => ([q386, q387, q388, q389] : List Nat)[i]?)))))), (q390, .inl (cA 0, 10, .inl (fun _ => 0))), (q386, .inl (cA 0, 10, .inl (fun _ => (-1)))), (q387, .inl (cA 0, 10, .inl (fun _ => (-1)))), (q388, .inl (cA 0, 10, .inl (fun _ => (-1)))), (q389, .inl (cA 0, 10, .inl u409))] := hD
  refine W.widen (k := 11) (n := 132) (Nat.le_of_ble_eq_true rfl) (Nat.le_of_ble_eq_true rfl) ?_
  have hP := va_P_row hP 11 (g := (fun _ => (-1))) rfl hw
  have hD := va_D_row hD 11 (e2 := .inl (cA 0, 10, .inl (fun _ => (-1)))) rfl
  have hP : va_P D vwCl [(h0, .inr (5, [.ref q363, .ref q366, .ref q369, .ref q372, .ref q375, .ref q378, .ref q390, .int 0, .int 0, .int 0, .int 0, .int 0, .int 0])), (q363, .inl (cA 3, 10, .inr (.inr (.inr (.inr (fun _ => none)))))), (q366, .inl (cA 4, 20, .inr (.inr (.inr (.inr (fun _ => none)))))), (q369, .inl (cA 5, 20, .inr (.inr (.inr (.inr (fun _ => none)))))), (q372, .inl (cA 6, 20, .inr (.inr (.inr (.inr (fun _ => none)))))), (q375, .inl (cA 7, 8, .inr (.inr (.inr (.inr (fun _ => none)))))), (q378, .inl (cA 2, 4, .inr (.inr (.inr (.inr (fun i => ([q386, q387, q388, q389] : List Nat)[i]?)))))), (q390, .inl (cA 0, 10, .inl (fun _ => 0))), (q386, .inl (cA 0, 10, .inl (fun _ => (-1)))), (q387, .inl (cA 0, 10, .inl (fun _ => (-1)))), (q388, .inl (cA 0, 10, .inl (fun _ => (-1)))), (q389, .inl (cA 0, 10, .inl (fun _ => (-1))))] H := hP
  have hD : va_D A [(h0, .inr (5, [.ref q363, .ref q366, .ref q369, .ref q372, .ref q375, .ref q378, .ref q390, .int 0, .int 0, .int 0, .int 0, .int 0, .int 0])), (q363, .inl (cA 3, 10, .inr (.inr (.inr (.inr (fun _ => none)))))), (q366, .inl (cA 4, 20, .inr (.inr (.inr (.inr (fun _ => none)))))), (q369, .inl (cA 5, 20, .inr (.inr (.inr (.inr (fun _ => none)))))), (q372, .inl (cA 6, 20, .inr (.inr (.inr (.inr (fun _ => none)))))), (q375, .inl (cA 7, 8, .inr (.inr (.inr (.inr (fun _ => none)))))), (q378, .inl (cA 2, 4, .inr (.inr (.inr (.inr (fun i => ([q386, q387, q388, q389] : List Nat)[i]?)))))), (q390, .inl (cA 0, 10, .inl (fun _ => 0))), (q386, .inl (cA 0, 10, .inl (fun _ => (-1)))), (q387, .inl (cA 0, 10, .inl (fun _ => (-1)))), (q388, .inl (cA 0, 10, .inl (fun _ => (-1)))), (q389, .inl (cA 0, 10, .inl (fun _ => (-1))))] := hD
  refine lv_iinc (v := 4) (lv' := [(1, .int 4), (0, .ref h0)]) hx hb dX5_init_115 hl (k := 0) rfl (by decide) (by decide) rfl (fun ls hl => ?_)
  refine lv_goto (tgt := 100) hx hb dX5_init_118 (by decide) ?_
  refine lv_iload_n hx hb dX5_init_100 rfl (lv_at hl 0 rfl) ?_
  refine lv_iconst (v := 4) hx hb dX5_init_101 (by decide) ?_
  refine lv_icmp_ge (tgt := 121) hx hb dX5_init_102 (by decide) (fun _ => ?_) (fun c413 => absurd (by decide) c413)
  have hP9 := hP.sub (ws' := [(h0, .inr (5, [.ref q363, .ref q366, .ref q369, .ref q372, .ref q375, .ref q378, .ref q390, .int 0, .int 0, .int 0, .int 0, .int 0, .int 0])), (q363, .inl (cA 3, 10, .inr (.inr (.inr (.inr (fun _ => none)))))), (q366, .inl (cA 4, 20, .inr (.inr (.inr (.inr (fun _ => none)))))), (q369, .inl (cA 5, 20, .inr (.inr (.inr (.inr (fun _ => none)))))), (q372, .inl (cA 6, 20, .inr (.inr (.inr (.inr (fun _ => none)))))), (q375, .inl (cA 7, 8, .inr (.inr (.inr (.inr (fun _ => none)))))), (q378, .inl (cA 2, 4, .inr (.inr (.inr (.inr (fun i => ([q386, q387, q388, q389] : List Nat)[i]?)))))), (q390, .inl (cA 0, 10, .inl (fun _ => 0))), (q386, .inl (cA 0, 10, .inl (fun _ => (-1)))), (q387, .inl (cA 0, 10, .inl (fun _ => (-1)))), (q388, .inl (cA 0, 10, .inl (fun _ => (-1)))), (q389, .inl (cA 0, 10, .inl (fun _ => (-1))))]) [0, 1, 2, 3, 4, 5, 6, 7, 8, 9, 10, 11] rfl
  have hD9 := hD.sub (ws' := [(h0, .inr (5, [.ref q363, .ref q366, .ref q369, .ref q372, .ref q375, .ref q378, .ref q390, .int 0, .int 0, .int 0, .int 0, .int 0, .int 0])), (q363, .inl (cA 3, 10, .inr (.inr (.inr (.inr (fun _ => none)))))), (q366, .inl (cA 4, 20, .inr (.inr (.inr (.inr (fun _ => none)))))), (q369, .inl (cA 5, 20, .inr (.inr (.inr (.inr (fun _ => none)))))), (q372, .inl (cA 6, 20, .inr (.inr (.inr (.inr (fun _ => none)))))), (q375, .inl (cA 7, 8, .inr (.inr (.inr (.inr (fun _ => none)))))), (q378, .inl (cA 2, 4, .inr (.inr (.inr (.inr (fun i => ([q386, q387, q388, q389] : List Nat)[i]?)))))), (q390, .inl (cA 0, 10, .inl (fun _ => 0))), (q386, .inl (cA 0, 10, .inl (fun _ => (-1)))), (q387, .inl (cA 0, 10, .inl (fun _ => (-1)))), (q388, .inl (cA 0, 10, .inl (fun _ => (-1)))), (q389, .inl (cA 0, 10, .inl (fun _ => (-1))))]) [0, 1, 2, 3, 4, 5, 6, 7, 8, 9, 10, 11] (by decide) rfl
  refine W.widen (k := 11) (n := 132) (Nat.le_of_ble_eq_true rfl) (Nat.le_of_ble_eq_true rfl) ?_
  exact W.vret hx hb hr (fun t ht hW9 => ⟨⟨(), rfl, trivial, ⟨q363, q366, q369, q372, q375, q378, q390, q386, q387, q388, q389, by show va_P _ _ _ t.heap; rw [ht]; exact hP9, hD9⟩⟩, hS.F ht⟩) hS.2.2 dX5_init_121

theorem pc_new2 {p : Program} {l : Launch} {e : Env} {R : Room} {s : State} {m : MethodId} {args : Array Value} {below : List Frame} {meth : Method} {c : Code} {H : Heap} {locs : List Loc} {cells slots : Nat} {Q : State → Prop}
    {cc : ByteArray} {pc : Nat} {ls : Array Slot} {rest : List Value} {D : va_G} {cl : List vw_C} {A : Nat → Prop} {tys : List (ClassId × FieldType)} {H0 : Heap} {NL : List (Nat × Nat)} {ad : Nat → Nat → Nat} {ct : Nat → Nat → va_E}
    (hexec : p.tables.exec = Jvm.exec) (hb : c.code = cc) {own C : String} {T : u_T} {N ci index : Nat} {Ts : List Cond} (hts : ∀ w ∈ Ts, w.before args s = true) (hin : ∀ w ∈ u_ws C T N, w ∈ Ts) (ty : Nat → FieldType) (hty : ∀ k, k < N → parseFieldDescriptor (T k).2.2.1 = some (ty k)) (hown : s.vm.findClass own = some m.cls) (hcl : (Cond.classLink own index C).before args s = true) (hinst : (Cond.instantiable C N).before args s = true) (hini : (Cond.initialized C).before args s = true)
    (hK : va_K D cl tys s) (hW : pcS D cl A H0 NL ad ct H locs) (hA : ∀ q, H0.size ≤ q → A q) (k0 i0 : Nat) (hm : (k0, i0) ∉ NL) (hc : cl[ci]? = some (C, T, N)) {fs : List Value} (hfs : ∀ j, j < N → defaultValue (ty j) = vp_V fs j) (hcells : cells + 1 ≤ R.cells) (hslots : slots + N ≤ R.slots) (hdg : decode cc pc = .ok (.new index, 3))
    (kk : ∀ (q : Nat) (H1 : Heap), pcS D cl A H0 (NL ++ [(k0, i0)]) (pcV ad k0 i0 q) (pcU ct k0 i0 (.inr (ci, fs))) H1 locs →
      W p l e R s m args below meth c H1 locs (cells + 1) (slots + N) Q (F0 m (pc + 3) ls (.ref (pcV ad k0 i0 q k0 i0) :: rest))) : W p l e R s m args below meth c H locs cells slots Q (F0 m pc ls rest) :=
  pc_new hexec hb hts hin ty hty hown hcl hinst hini hK hW hA k0 i0 hm hc hfs hcells hslots hdg (fun q H1 h => by have h2 := kk q H1 h; rw [pcV_self] at h2; exact h2)
theorem pcU_twice {ct : Nat → Nat → va_E} {k i : Nat} {e e2 : va_E} : pcU (pcU ct k i e) k i e2 = pcU ct k i e2 := by
  funext a b
  by_cases h : a = k ∧ b = i <;> simp [pcU, h]
theorem va_D_one {x : Nat × va_E} {sz : Nat} : va_D (va_A [x] sz) [x] := by
  refine ⟨fun i j p q hi hj _ => ?_, fun k q hk => va_A.in hk⟩
  have h1 := (List.getElem?_eq_some_iff.mp hi).1
  have h2 := (List.getElem?_eq_some_iff.mp hj).1
  simp only [List.length_cons, List.length_nil] at h1 h2
  omega
theorem pc_one {D : va_G} {cl : List vw_C} {NL : List (Nat × Nat)} {ad : Nat → Nat → Nat} {ct : Nat → Nat → va_E} {H : Heap} (hP : va_P D cl (pcW NL ad ct) H) {k i : Nat} (hm : (k, i) ∈ NL) {e0 : va_E} (he : ct k i = e0) : va_P D cl [(ad k i, e0)] H := by
  intro j q hj
  have h1 := (List.getElem?_eq_some_iff.mp hj).1
  simp only [List.length_cons, List.length_nil] at h1
  obtain rfl : j = 0 := by omega
  obtain rfl := Option.some.inj hj
  rw [← he]
  exact pcP_at hP hm
theorem pc_oneF {D : va_G} {cl : List vw_C} {A : Nat → Prop} {H0 H : Heap} {locs : List Loc} {NL : List (Nat × Nat)} {ad : Nat → Nat → Nat} {ct : Nat → Nat → va_E} (hW : pcS D cl A H0 NL ad ct H locs) (hA : ∀ q, H0.size ≤ q → A q) {k i : Nat} (hm : (k, i) ∈ NL) {e0 : va_E} : ∀ q, va_A [(ad k i, e0)] H.size q → A q := by
  rintro q (⟨j, e, hj⟩ | h)
  · have h1 := (List.getElem?_eq_some_iff.mp hj).1
    simp only [List.length_cons, List.length_nil] at h1
    obtain rfl : j = 0 := by omega
    have h2 := Option.some.inj hj
    rw [← congrArg Prod.fst h2]
    exact pcD_in hW.2.1 hm
  · exact hA q (Nat.le_trans hW.2.2.1 h)
/-- behind a call that had one cell and may have made others: back among the names -/
theorem pc_join1 {D : va_G} {cl : List vw_C} {A : Nat → Prop} {H0 H H1 : Heap} {locs : List Loc} {NL : List (Nat × Nat)} {ad : Nat → Nat → Nat} {ct : Nat → Nat → va_E} (hW : pcS D cl A H0 NL ad ct H locs) (hA : ∀ q, H0.size ≤ q → A q) (k i : Nat) (hm : (k, i) ∈ NL) {e0 e1 : va_E} {ws1 : va_W}
    (hk : ∀ q : Nat, q < H.size → ¬ va_A [(ad k i, e0)] H.size q → H1[q]? = H[q]?) (hP1 : va_P D cl ((ad k i, e1) :: ws1) H1) (hD1 : va_D (va_A [(ad k i, e0)] H.size) ((ad k i, e1) :: ws1)) : va_P D cl (pcW NL ad (pcU ct k i e1) ++ ws1) H1 ∧ va_D A (pcW NL ad (pcU ct k i e1) ++ ws1) := by
  have hF := pc_oneF (e0 := e0) hW hA hm
  have hD2 := pcD_ct (ct' := pcU ct k i e1) hW.2.1
  have hlt : ∀ k' i', (k', i') ∈ NL → ad k' i' < H.size := by
    intro k' i' h
    obtain ⟨j, -, hj⟩ := pc_place (ad := ad) (ct := ct) h
    exact (hW.1 j _ hj).lt
  have hnew : ∀ (b : Nat) (q : Nat × va_E), ws1[b]? = some q → va_A [(ad k i, e0)] H.size q.1 ∧ q.1 ≠ ad k i := by
    intro b q hb
    refine ⟨hD1.2 (b + 1) q hb, fun he => ?_⟩
    have := hD1.1 (b + 1) 0 q (ad k i, e1) hb rfl he
    omega
  have hap : ∀ k' i', (k', i') ∈ NL → ¬ (k' = k ∧ i' = i) → ¬ va_A [(ad k i, e0)] H.size (ad k' i') := by
    rintro k' i' h hne (⟨j, e, hj⟩ | h2)
    · have h1 := (List.getElem?_eq_some_iff.mp hj).1
      simp only [List.length_cons, List.length_nil] at h1
      obtain rfl : j = 0 := by omega
      have h3 := congrArg Prod.fst (Option.some.inj hj)
      exact hne (pcD_inj hW.2.1 h hm h3.symm)
    · exact absurd (hlt k' i' h) (Nat.not_lt.mpr h2)
  have hmix : ∀ (a b : Nat) (p q : Nat × va_E), (pcW NL ad (pcU ct k i e1))[a]? = some p → ws1[b]? = some q → p.1 = q.1 → False := by
    intro a b p q ha hb he
    obtain ⟨k', i', h, -, rfl⟩ := pc_mem ha
    obtain ⟨h1, h2⟩ := hnew b q hb
    by_cases hne : k' = k ∧ i' = i
    · obtain ⟨rfl, rfl⟩ := hne
      exact h2 he.symm
    · exact hap k' i' h hne (by rw [show ad k' i' = q.1 from he]; exact h1)
  refine ⟨fun j q hj => ?_, fun a b p q ha hb he => ?_, fun j q hj => ?_⟩
  · rcases Nat.lt_or_ge j (pcW NL ad (pcU ct k i e1)).length with h | h
    · rw [List.getElem?_append_left h] at hj
      obtain ⟨k', i', hm', -, rfl⟩ := pc_mem hj
      by_cases hne : k' = k ∧ i' = i
      · obtain ⟨rfl, rfl⟩ := hne
        show va_at D cl (ad k' i', pcU ct k' i' e1 k' i') H1
        rw [pcU_self]
        exact hP1 0 _ rfl
      · have e2 : pcU ct k i e1 k' i' = ct k' i' := by simp [pcU, hne]
        show va_at D cl (ad k' i', pcU ct k i e1 k' i') H1
        rw [e2]
        have h3 : va_P D cl [(ad k' i', ct k' i')] H := pc_one hW.1 hm' rfl
        exact (h3.kept (H1 := H1) (fun j q hj => by
          have h1 := (List.getElem?_eq_some_iff.mp hj).1
          simp only [List.length_cons, List.length_nil] at h1
          obtain rfl : j = 0 := by omega
          obtain rfl := Option.some.inj hj
          exact hk _ (hlt k' i' hm') (hap k' i' hm' hne))) 0 _ rfl
    · rw [List.getElem?_append_right h] at hj
      exact hP1 (j - (pcW NL ad (pcU ct k i e1)).length + 1) q hj
  · rcases Nat.lt_or_ge a (pcW NL ad (pcU ct k i e1)).length with h | h <;> rcases Nat.lt_or_ge b (pcW NL ad (pcU ct k i e1)).length with h' | h'
    · rw [List.getElem?_append_left h] at ha
      rw [List.getElem?_append_left h'] at hb
      exact hD2.1 a b p q ha hb he
    · rw [List.getElem?_append_left h] at ha
      rw [List.getElem?_append_right h'] at hb
      exact (hmix _ _ p q ha hb he).elim
    · rw [List.getElem?_append_right h] at ha
      rw [List.getElem?_append_left h'] at hb
      exact (hmix _ _ q p hb ha he.symm).elim
    · rw [List.getElem?_append_right h] at ha
      rw [List.getElem?_append_right h'] at hb
      have := hD1.1 (a - (pcW NL ad (pcU ct k i e1)).length + 1) (b - (pcW NL ad (pcU ct k i e1)).length + 1) p q ha hb he
      omega
  · rcases Nat.lt_or_ge j (pcW NL ad (pcU ct k i e1)).length with h | h
    · rw [List.getElem?_append_left h] at hj
      exact hD2.2 j q hj
    · rw [List.getElem?_append_right h] at hj
      exact hF _ (hD1.2 (j - (pcW NL ad (pcU ct k i e1)).length + 1) q hj)
theorem pcS_push0 {D : va_G} {cl : List vw_C} {A : Nat → Prop} {H0 H : Heap} {locs : List Loc} {NL : List (Nat × Nat)} {ad : Nat → Nat → Nat} {ct : Nat → Nat → va_E} (h : va_P D cl (pcW NL ad ct ++ []) H ∧ va_D A (pcW NL ad ct ++ [])) (hS : va_S A H0 H locs) : pcS D cl A H0 NL ad ct H locs := by
  rw [List.append_nil] at h
  exact ⟨h.1, h.2, hS⟩
theorem pcS_push1 {D : va_G} {cl : List vw_C} {A : Nat → Prop} {H0 H : Heap} {locs : List Loc} {NL : List (Nat × Nat)} {ad : Nat → Nat → Nat} {ct : Nat → Nat → va_E} {k1 i1 q1 : Nat} {a1 : va_E} (h1 : (k1, i1) ∉ NL) (h : va_P D cl (pcW NL ad ct ++ [(q1, a1)]) H ∧ va_D A (pcW NL ad ct ++ [(q1, a1)])) (hS : va_S A H0 H locs) : pcS D cl A H0 (NL ++ [(k1, i1)]) (pcV ad k1 i1 q1) (pcU ct k1 i1 a1) H locs := by
  rw [pc_push h1] at h
  exact ⟨h.1, h.2, hS⟩
theorem pcS_push2 {D : va_G} {cl : List vw_C} {A : Nat → Prop} {H0 H : Heap} {locs : List Loc} {NL : List (Nat × Nat)} {ad : Nat → Nat → Nat} {ct : Nat → Nat → va_E} {k1 i1 q1 k2 i2 q2 : Nat} {a1 a2 : va_E} (h1 : (k1, i1) ∉ NL) (h2 : (k2, i2) ∉ NL ++ [(k1, i1)]) (h : va_P D cl (pcW NL ad ct ++ [(q1, a1), (q2, a2)]) H ∧ va_D A (pcW NL ad ct ++ [(q1, a1), (q2, a2)])) (hS : va_S A H0 H locs) : pcS D cl A H0 (NL ++ [(k1, i1)] ++ [(k2, i2)]) (pcV (pcV ad k1 i1 q1) k2 i2 q2) (pcU (pcU ct k1 i1 a1) k2 i2 a2) H locs := by
  have e : pcW NL ad ct ++ [(q1, a1), (q2, a2)] = (pcW NL ad ct ++ [(q1, a1)]) ++ [(q2, a2)] := by simp
  rw [e, pc_push h1, pc_push h2] at h
  exact ⟨h.1, h.2, hS⟩
theorem MEM_app {c : SC} {NL L : List (Nat × Nat)} (h : MEM c NL) : MEM c (NL ++ L) := by
  have hm : ∀ p, p ∈ NL → p ∈ NL ++ L := fun p hp => List.mem_append_left _ hp
  exact ⟨hm _ h.1, fun k a b => hm _ (h.2.1 k a b), fun i hi => hm _ (h.2.2.1 i hi), fun i hi => ⟨hm _ (h.2.2.2.1 i hi).1, hm _ (h.2.2.2.1 i hi).2.1, hm _ (h.2.2.2.1 i hi).2.2⟩, fun i hi => hm _ (h.2.2.2.2.1 i hi), fun i hi => ⟨hm _ (h.2.2.2.2.2.1 i hi).1, hm _ (h.2.2.2.2.2.1 i hi).2⟩, fun i hi => hm _ (h.2.2.2.2.2.2.1 i hi), fun i hi => hm _ (h.2.2.2.2.2.2.2 i hi)⟩
theorem nmem_app {NL : List (Nat × Nat)} {a b : Nat × Nat} (h : a ∉ NL) (hne : a ≠ b) : a ∉ NL ++ [b] := by
  intro hm
  rcases List.mem_append.mp hm with h1 | h1
  · exact h h1
  · exact hne (List.mem_singleton.mp h1)
theorem uC_lt {c : SC} {k i : Nat} (h : i < uC c k (c k + 1) k) : i < c k ∨ i = c k := by
  have h2 : i < c k + 1 := by simpa [uC] using h
  omega
theorem sRf_up {n : Nat} {f : Nat → Nat} {q : Nat} (hq : f n = q) : va_up (sRf n f) n (some q) = sRf (n + 1) f := by
  funext j
  unfold va_up sRf
  by_cases h : j = n
  · subst h
    simp [hq]
  · by_cases h2 : j < n
    · simp [h, h2, Nat.lt_succ_of_lt h2]
    · have h3 : ¬ j < n + 1 := by omega
      simp [h, h2, h3]
theorem sRf_V {n : Nat} {ad : Nat → Nat → Nat} {k q : Nat} : sRf n (pcV ad k n q k) = sRf n (ad k) := by
  funext j
  unfold sRf
  by_cases h : j < n
  · rw [if_pos h, if_pos h, pcV_i (by omega)]
  · rw [if_neg h, if_neg h]

def newV_1 (v : SV) (n : Nat) (x1 : Int32) : SV := fun a b d => if b = n ∧ (a = 1 ∨ a = 12) then (if a = 1 then (if d = 0 then x1 else if d = 3 then -1 else 0) else 0) else v a b d
def newW_1 (w : SW) (n : Nat) : SW := fun a b d => if b = n ∧ (a = 1 ∨ a = 11) then (if a = 11 then vp_updL (fun _ => 0) 0 1048577 d else 0) else w a b d
set_option maxHeartbeats 4000000 in
theorem ctO_new_1 {cA : Nat → ClassId} {c : SC} {v : SV} {w : SW} {u : Nat → Int32} {ad : Nat → Nat → Nat} {n q q1 q2 : Nat} {x1 : Int32} (hn : n = c 0) : (pcU (pcU (pcU (ctO cA c v w u ad) 1 n (.inr (3, [.int x1, .ref q1, .ref q2, .int 0, .int 0, .int (-1), .long 0, .int 0, .int 0, .int 0]))) 11 n (.inl (cA 1, 6, .inr (.inl (vp_updL (fun _ => 0) 0 1048577))))) 12 n (.inl (cA 0, 6, .inl (fun _ => 0)))) = ctO cA c (newV_1 v n x1) (newW_1 w n) u (pcV (pcV (pcV ad 1 n q) 11 n q1) 12 n q2) := by
  funext a b
  by_cases h12 : a = 12 ∧ b = n
  · obtain ⟨rfl, rfl⟩ := h12
    simp [pcU, pcV, ctO, newV_1, newW_1, vp_updL]
  by_cases h11 : a = 11 ∧ b = n
  · obtain ⟨rfl, rfl⟩ := h11
    simp [pcU, pcV, ctO, newV_1, newW_1, vp_updL]
  by_cases h1 : a = 1 ∧ b = n
  · obtain ⟨rfl, rfl⟩ := h1
    simp [pcU, pcV, ctO, newV_1, newW_1, vp_updL]
  have e : (pcU (pcU (pcU (ctO cA c v w u ad) 1 n (.inr (3, [.int x1, .ref q1, .ref q2, .int 0, .int 0, .int (-1), .long 0, .int 0, .int 0, .int 0]))) 11 n (.inl (cA 1, 6, .inr (.inl (vp_updL (fun _ => 0) 0 1048577))))) 12 n (.inl (cA 0, 6, .inl (fun _ => 0)))) a b = (ctO cA c v w u ad) a b := by simp [pcU, h1, h11, h12]
  rw [e]
  by_cases g1 : a = 1
  · subst g1
    simp [pcV, ctO, newV_1, newW_1, vp_updL, show b ≠ n from fun hb => h1 ⟨rfl, hb⟩]
  by_cases g11 : a = 11
  · subst g11
    simp [pcV, ctO, newV_1, newW_1, vp_updL, show b ≠ n from fun hb => h11 ⟨rfl, hb⟩]
  by_cases g12 : a = 12
  · subst g12
    simp [pcV, ctO, newV_1, newW_1, vp_updL, show b ≠ n from fun hb => h12 ⟨rfl, hb⟩]
  by_cases g2 : a = 2
  · subst g2
    simp [pcV, ctO, newV_1, newW_1, vp_updL]
  by_cases g3 : a = 3
  · subst g3
    simp [pcV, ctO, newV_1, newW_1, vp_updL]
  by_cases g13 : a = 13
  · subst g13
    simp [pcV, ctO, newV_1, newW_1, vp_updL]
  by_cases g4 : a = 4
  · subst g4
    simp [pcV, ctO, newV_1, newW_1, vp_updL]
  by_cases g7 : a = 7
  · subst g7
    simp [pcV, ctO, newV_1, newW_1, vp_updL]
  by_cases g57 : a = 57
  · subst g57
    simp [pcV, ctO, newV_1, newW_1, vp_updL]
  by_cases g56 : a = 56
  · subst g56
    simp [pcV, ctO, newV_1, newW_1, vp_updL]
  by_cases g55 : a = 55
  · subst g55
    simp [pcV, ctO, newV_1, newW_1, vp_updL]
  by_cases g50 : a = 50
  · subst g50
    have e2 : sRf (c 0) ((pcV (pcV (pcV ad 1 n q) 11 n q1) 12 n q2) 1) = sRf (c 0) (ad 1) := by
      subst hn
      exact sRf_V
    rw [ctO_50, ctO_50, e2]
  by_cases g51 : a = 51
  · subst g51
    simp [pcV, ctO, newV_1, newW_1, vp_updL]
  by_cases g52 : a = 52
  · subst g52
    simp [pcV, ctO, newV_1, newW_1, vp_updL]
  by_cases g53 : a = 53
  · subst g53
    simp [pcV, ctO, newV_1, newW_1, vp_updL]
  by_cases g54 : a = 54
  · subst g54
    simp [pcV, ctO, newV_1, newW_1, vp_updL]
  by_cases g5 : a = 5 ∧ b = 0
  · obtain ⟨rfl, rfl⟩ := g5
    simp [ctO, pcV]
  simp [ctO, g1, g11, g12, g2, g3, g13, g4, g7, g57, g56, g55, g50, g51, g52, g53, g54, g5]
set_option maxHeartbeats 4000000 in
theorem ctO_add_1 {cA : Nat → ClassId} {c : SC} {v : SV} {w : SW} {u : Nat → Int32} {ad : Nat → Nat → Nat} : pcU (pcU (ctO cA c v w u ad) 50 0 (.inl (cA 3, 10, .inr (.inr (.inr (.inr (va_up (sRf (c 0) (ad 1)) (c 0) (some (ad 1 (c 0)))))))))) 5 0 (.inr (5, [.ref (ad 50 0), .ref (ad 51 0), .ref (ad 52 0), .ref (ad 53 0), .ref (ad 54 0), .ref (ad 55 0), .ref (ad 56 0), .int (nI (c 0 + 1)), .int (nI (c 1)), .int (nI (c 2)), .int (nI (c 3)), .int (nI (c 4)), .int (nI (c 5))])) = ctO cA (uC c 0 (c 0 + 1)) v w u ad := by
  funext a b
  by_cases h5 : a = 5 ∧ b = 0
  · obtain ⟨rfl, rfl⟩ := h5
    simp [pcU, ctO, uC]
  by_cases hk : a = 50 ∧ b = 0
  · obtain ⟨rfl, rfl⟩ := hk
    simp [pcU, ctO, uC, sRf_up]
  have e : pcU (pcU (ctO cA c v w u ad) 50 0 (.inl (cA 3, 10, .inr (.inr (.inr (.inr (va_up (sRf (c 0) (ad 1)) (c 0) (some (ad 1 (c 0)))))))))) 5 0 (.inr (5, [.ref (ad 50 0), .ref (ad 51 0), .ref (ad 52 0), .ref (ad 53 0), .ref (ad 54 0), .ref (ad 55 0), .ref (ad 56 0), .int (nI (c 0 + 1)), .int (nI (c 1)), .int (nI (c 2)), .int (nI (c 3)), .int (nI (c 4)), .int (nI (c 5))])) a b = (ctO cA c v w u ad) a b := by simp [pcU, h5, hk]
  rw [e]
  by_cases g1 : a = 1
  · subst g1
    simp [ctO, uC]
  by_cases g11 : a = 11
  · subst g11
    simp [ctO, uC]
  by_cases g12 : a = 12
  · subst g12
    simp [ctO, uC]
  by_cases g2 : a = 2
  · subst g2
    simp [ctO, uC]
  by_cases g3 : a = 3
  · subst g3
    simp [ctO, uC]
  by_cases g13 : a = 13
  · subst g13
    simp [ctO, uC]
  by_cases g4 : a = 4
  · subst g4
    simp [ctO, uC]
  by_cases g7 : a = 7
  · subst g7
    simp [ctO, uC]
  by_cases g57 : a = 57
  · subst g57
    simp [ctO, uC]
  by_cases g56 : a = 56
  · subst g56
    simp [ctO, uC]
  by_cases g55 : a = 55
  · subst g55
    simp [ctO, uC]
  by_cases g50 : a = 50
  · subst g50
    simp [ctO, uC, show b ≠ 0 from fun hb => hk ⟨rfl, hb⟩]
  by_cases g51 : a = 51
  · subst g51
    simp [ctO, uC]
  by_cases g52 : a = 52
  · subst g52
    simp [ctO, uC]
  by_cases g53 : a = 53
  · subst g53
    simp [ctO, uC]
  by_cases g54 : a = 54
  · subst g54
    simp [ctO, uC]
  simp [ctO, g1, g11, g12, g2, g3, g13, g4, g7, g57, g56, g55, g50, g51, g52, g53, g54, h5]
theorem MEM_add_1 {c : SC} {NL : List (Nat × Nat)} (h : MEM c NL) : MEM (uC c 0 (c 0 + 1)) (NL ++ [(1, c 0)] ++ [(11, c 0)] ++ [(12, c 0)]) := by
  have hm : ∀ p, p ∈ NL → p ∈ (NL ++ [(1, c 0)] ++ [(11, c 0)] ++ [(12, c 0)]) := fun p hp => by simp [hp]
  exact ⟨hm _ h.1, fun k a b => hm _ (h.2.1 k a b), fun i hi => hm _ (h.2.2.1 i hi), fun i hi => (uC_lt hi).elim (fun hi => (fun i hi => ⟨hm _ (h.2.2.2.1 i hi).1, hm _ (h.2.2.2.1 i hi).2.1, hm _ (h.2.2.2.1 i hi).2.2⟩) i hi) (fun e => by subst e; simp), fun i hi => hm _ (h.2.2.2.2.1 i hi), fun i hi => ⟨hm _ (h.2.2.2.2.2.1 i hi).1, hm _ (h.2.2.2.2.2.1 i hi).2⟩, fun i hi => hm _ (h.2.2.2.2.2.2.1 i hi), fun i hi => hm _ (h.2.2.2.2.2.2.2 i hi)⟩
theorem NMEM_add_1 {c : SC} {NL : List (Nat × Nat)} (h : NMEM c NL) : NMEM (uC c 0 (c 0 + 1)) (NL ++ [(1, c 0)] ++ [(11, c 0)] ++ [(12, c 0)]) := by
  obtain ⟨h1, h2, h3, h4, h7⟩ := h
  refine ⟨fun k i hk hi => ?_, fun i hi => ?_, fun k i hk hi => ?_, fun i hi => ?_, fun i hi => ?_⟩
  · have := h1 k i hk
    rcases hk with rfl | rfl | rfl <;> (simp [uC] at hi ⊢; first | omega | (rcases hi with hi | hi <;> first | (have := this hi; omega) | omega) | (exact this hi))
  · have := h2 i
    simp [uC] at hi ⊢
    first | omega | (rcases hi with hi | hi <;> first | (have := this hi; omega) | omega) | (exact this hi)
  · have := h3 k i hk
    rcases hk with rfl | rfl <;> (simp [uC] at hi ⊢; first | omega | (rcases hi with hi | hi <;> first | (have := this hi; omega) | omega) | (exact this hi))
  · have := h4 i
    simp [uC] at hi ⊢
    first | omega | (rcases hi with hi | hi <;> first | (have := this hi; omega) | omega) | (exact this hi)
  · have := h7 i
    simp [uC] at hi ⊢
    first | omega | (rcases hi with hi | hi <;> first | (have := this hi; omega) | omega) | (exact this hi)
def newV_2 (v : SV) (n : Nat) (x1 : Int32) (x2 : Int32) (x3 : Int32) : SV := fun a b d => if b = n ∧ a = 2 then (if d = 0 then x1 else if d = 1 then x2 else x3) else v a b d
set_option maxHeartbeats 4000000 in
theorem ctO_new_2 {cA : Nat → ClassId} {c : SC} {v : SV} {w : SW} {u : Nat → Int32} {ad : Nat → Nat → Nat} {n q : Nat} {x1 : Int32} {x2 : Int32} {x3 : Int32} (hn : n = c 1) : (pcU (ctO cA c v w u ad) 2 n (.inr (1, [.int x1, .int x2, .int x3]))) = ctO cA c (newV_2 v n x1 x2 x3) w u (pcV ad 2 n q) := by
  funext a b
  by_cases h2 : a = 2 ∧ b = n
  · obtain ⟨rfl, rfl⟩ := h2
    simp [pcU, pcV, ctO, newV_2, vp_updL]
  have e : (pcU (ctO cA c v w u ad) 2 n (.inr (1, [.int x1, .int x2, .int x3]))) a b = (ctO cA c v w u ad) a b := by simp [pcU, h2]
  rw [e]
  by_cases g1 : a = 1
  · subst g1
    simp [pcV, ctO, newV_2, vp_updL]
  by_cases g11 : a = 11
  · subst g11
    simp [pcV, ctO, newV_2, vp_updL]
  by_cases g12 : a = 12
  · subst g12
    simp [pcV, ctO, newV_2, vp_updL]
  by_cases g2 : a = 2
  · subst g2
    simp [pcV, ctO, newV_2, vp_updL, show b ≠ n from fun hb => h2 ⟨rfl, hb⟩]
  by_cases g3 : a = 3
  · subst g3
    simp [pcV, ctO, newV_2, vp_updL]
  by_cases g13 : a = 13
  · subst g13
    simp [pcV, ctO, newV_2, vp_updL]
  by_cases g4 : a = 4
  · subst g4
    simp [pcV, ctO, newV_2, vp_updL]
  by_cases g7 : a = 7
  · subst g7
    simp [pcV, ctO, newV_2, vp_updL]
  by_cases g57 : a = 57
  · subst g57
    simp [pcV, ctO, newV_2, vp_updL]
  by_cases g56 : a = 56
  · subst g56
    simp [pcV, ctO, newV_2, vp_updL]
  by_cases g55 : a = 55
  · subst g55
    simp [pcV, ctO, newV_2, vp_updL]
  by_cases g50 : a = 50
  · subst g50
    simp [pcV, ctO, newV_2, vp_updL]
  by_cases g51 : a = 51
  · subst g51
    have e2 : sRf (c 1) ((pcV ad 2 n q) 2) = sRf (c 1) (ad 2) := by
      subst hn
      exact sRf_V
    rw [ctO_51, ctO_51, e2]
  by_cases g52 : a = 52
  · subst g52
    simp [pcV, ctO, newV_2, vp_updL]
  by_cases g53 : a = 53
  · subst g53
    simp [pcV, ctO, newV_2, vp_updL]
  by_cases g54 : a = 54
  · subst g54
    simp [pcV, ctO, newV_2, vp_updL]
  by_cases g5 : a = 5 ∧ b = 0
  · obtain ⟨rfl, rfl⟩ := g5
    simp [ctO, pcV]
  simp [ctO, g1, g11, g12, g2, g3, g13, g4, g7, g57, g56, g55, g50, g51, g52, g53, g54, g5]
set_option maxHeartbeats 4000000 in
theorem ctO_add_2 {cA : Nat → ClassId} {c : SC} {v : SV} {w : SW} {u : Nat → Int32} {ad : Nat → Nat → Nat} : pcU (pcU (ctO cA c v w u ad) 51 0 (.inl (cA 4, 20, .inr (.inr (.inr (.inr (va_up (sRf (c 1) (ad 2)) (c 1) (some (ad 2 (c 1)))))))))) 5 0 (.inr (5, [.ref (ad 50 0), .ref (ad 51 0), .ref (ad 52 0), .ref (ad 53 0), .ref (ad 54 0), .ref (ad 55 0), .ref (ad 56 0), .int (nI (c 0)), .int (nI (c 1 + 1)), .int (nI (c 2)), .int (nI (c 3)), .int (nI (c 4)), .int (nI (c 5))])) = ctO cA (uC c 1 (c 1 + 1)) v w u ad := by
  funext a b
  by_cases h5 : a = 5 ∧ b = 0
  · obtain ⟨rfl, rfl⟩ := h5
    simp [pcU, ctO, uC]
  by_cases hk : a = 51 ∧ b = 0
  · obtain ⟨rfl, rfl⟩ := hk
    simp [pcU, ctO, uC, sRf_up]
  have e : pcU (pcU (ctO cA c v w u ad) 51 0 (.inl (cA 4, 20, .inr (.inr (.inr (.inr (va_up (sRf (c 1) (ad 2)) (c 1) (some (ad 2 (c 1)))))))))) 5 0 (.inr (5, [.ref (ad 50 0), .ref (ad 51 0), .ref (ad 52 0), .ref (ad 53 0), .ref (ad 54 0), .ref (ad 55 0), .ref (ad 56 0), .int (nI (c 0)), .int (nI (c 1 + 1)), .int (nI (c 2)), .int (nI (c 3)), .int (nI (c 4)), .int (nI (c 5))])) a b = (ctO cA c v w u ad) a b := by simp [pcU, h5, hk]
  rw [e]
  by_cases g1 : a = 1
  · subst g1
    simp [ctO, uC]
  by_cases g11 : a = 11
  · subst g11
    simp [ctO, uC]
  by_cases g12 : a = 12
  · subst g12
    simp [ctO, uC]
  by_cases g2 : a = 2
  · subst g2
    simp [ctO, uC]
  by_cases g3 : a = 3
  · subst g3
    simp [ctO, uC]
  by_cases g13 : a = 13
  · subst g13
    simp [ctO, uC]
  by_cases g4 : a = 4
  · subst g4
    simp [ctO, uC]
  by_cases g7 : a = 7
  · subst g7
    simp [ctO, uC]
  by_cases g57 : a = 57
  · subst g57
    simp [ctO, uC]
  by_cases g56 : a = 56
  · subst g56
    simp [ctO, uC]
  by_cases g55 : a = 55
  · subst g55
    simp [ctO, uC]
  by_cases g50 : a = 50
  · subst g50
    simp [ctO, uC]
  by_cases g51 : a = 51
  · subst g51
    simp [ctO, uC, show b ≠ 0 from fun hb => hk ⟨rfl, hb⟩]
  by_cases g52 : a = 52
  · subst g52
    simp [ctO, uC]
  by_cases g53 : a = 53
  · subst g53
    simp [ctO, uC]
  by_cases g54 : a = 54
  · subst g54
    simp [ctO, uC]
  simp [ctO, g1, g11, g12, g2, g3, g13, g4, g7, g57, g56, g55, g50, g51, g52, g53, g54, h5]
theorem MEM_add_2 {c : SC} {NL : List (Nat × Nat)} (h : MEM c NL) : MEM (uC c 1 (c 1 + 1)) (NL ++ [(2, c 1)]) := by
  have hm : ∀ p, p ∈ NL → p ∈ (NL ++ [(2, c 1)]) := fun p hp => by simp [hp]
  exact ⟨hm _ h.1, fun k a b => hm _ (h.2.1 k a b), fun i hi => hm _ (h.2.2.1 i hi), fun i hi => ⟨hm _ (h.2.2.2.1 i hi).1, hm _ (h.2.2.2.1 i hi).2.1, hm _ (h.2.2.2.1 i hi).2.2⟩, fun i hi => (uC_lt hi).elim (fun hi => (fun i hi => hm _ (h.2.2.2.2.1 i hi)) i hi) (fun e => by subst e; simp), fun i hi => ⟨hm _ (h.2.2.2.2.2.1 i hi).1, hm _ (h.2.2.2.2.2.1 i hi).2⟩, fun i hi => hm _ (h.2.2.2.2.2.2.1 i hi), fun i hi => hm _ (h.2.2.2.2.2.2.2 i hi)⟩
theorem NMEM_add_2 {c : SC} {NL : List (Nat × Nat)} (h : NMEM c NL) : NMEM (uC c 1 (c 1 + 1)) (NL ++ [(2, c 1)]) := by
  obtain ⟨h1, h2, h3, h4, h7⟩ := h
  refine ⟨fun k i hk hi => ?_, fun i hi => ?_, fun k i hk hi => ?_, fun i hi => ?_, fun i hi => ?_⟩
  · have := h1 k i hk
    rcases hk with rfl | rfl | rfl <;> (simp [uC] at hi ⊢; first | omega | (rcases hi with hi | hi <;> first | (have := this hi; omega) | omega) | (exact this hi))
  · have := h2 i
    simp [uC] at hi ⊢
    first | omega | (rcases hi with hi | hi <;> first | (have := this hi; omega) | omega) | (exact this hi)
  · have := h3 k i hk
    rcases hk with rfl | rfl <;> (simp [uC] at hi ⊢; first | omega | (rcases hi with hi | hi <;> first | (have := this hi; omega) | omega) | (exact this hi))
  · have := h4 i
    simp [uC] at hi ⊢
    first | omega | (rcases hi with hi | hi <;> first | (have := this hi; omega) | omega) | (exact this hi)
  · have := h7 i
    simp [uC] at hi ⊢
    first | omega | (rcases hi with hi | hi <;> first | (have := this hi; omega) | omega) | (exact this hi)
def newV_3 (v : SV) (n : Nat) (x1 : Int32) (x2 : Int32) : SV := fun a b d => if b = n ∧ (a = 3 ∨ a = 13) then (if a = 3 then (if d = 0 then x2 else x1) else -1) else v a b d
set_option maxHeartbeats 4000000 in
theorem ctO_new_3 {cA : Nat → ClassId} {c : SC} {v : SV} {w : SW} {u : Nat → Int32} {ad : Nat → Nat → Nat} {n q q1 : Nat} {x1 : Int32} {x2 : Int32} (hn : n = c 2) : (pcU (pcU (ctO cA c v w u ad) 3 n (.inr (2, [.int x2, .ref q1, .int x1]))) 13 n (.inl (cA 0, 10, .inl (fun _ => (-1))))) = ctO cA c (newV_3 v n x1 x2) w u (pcV (pcV ad 3 n q) 13 n q1) := by
  funext a b
  by_cases h13 : a = 13 ∧ b = n
  · obtain ⟨rfl, rfl⟩ := h13
    simp [pcU, pcV, ctO, newV_3, vp_updL]
  by_cases h3 : a = 3 ∧ b = n
  · obtain ⟨rfl, rfl⟩ := h3
    simp [pcU, pcV, ctO, newV_3, vp_updL]
  have e : (pcU (pcU (ctO cA c v w u ad) 3 n (.inr (2, [.int x2, .ref q1, .int x1]))) 13 n (.inl (cA 0, 10, .inl (fun _ => (-1))))) a b = (ctO cA c v w u ad) a b := by simp [pcU, h3, h13]
  rw [e]
  by_cases g1 : a = 1
  · subst g1
    simp [pcV, ctO, newV_3, vp_updL]
  by_cases g11 : a = 11
  · subst g11
    simp [pcV, ctO, newV_3, vp_updL]
  by_cases g12 : a = 12
  · subst g12
    simp [pcV, ctO, newV_3, vp_updL]
  by_cases g2 : a = 2
  · subst g2
    simp [pcV, ctO, newV_3, vp_updL]
  by_cases g3 : a = 3
  · subst g3
    simp [pcV, ctO, newV_3, vp_updL, show b ≠ n from fun hb => h3 ⟨rfl, hb⟩]
  by_cases g13 : a = 13
  · subst g13
    simp [pcV, ctO, newV_3, vp_updL, show b ≠ n from fun hb => h13 ⟨rfl, hb⟩]
  by_cases g4 : a = 4
  · subst g4
    simp [pcV, ctO, newV_3, vp_updL]
  by_cases g7 : a = 7
  · subst g7
    simp [pcV, ctO, newV_3, vp_updL]
  by_cases g57 : a = 57
  · subst g57
    simp [pcV, ctO, newV_3, vp_updL]
  by_cases g56 : a = 56
  · subst g56
    simp [pcV, ctO, newV_3, vp_updL]
  by_cases g55 : a = 55
  · subst g55
    simp [pcV, ctO, newV_3, vp_updL]
  by_cases g50 : a = 50
  · subst g50
    simp [pcV, ctO, newV_3, vp_updL]
  by_cases g51 : a = 51
  · subst g51
    simp [pcV, ctO, newV_3, vp_updL]
  by_cases g52 : a = 52
  · subst g52
    have e2 : sRf (c 2) ((pcV (pcV ad 3 n q) 13 n q1) 3) = sRf (c 2) (ad 3) := by
      subst hn
      exact sRf_V
    rw [ctO_52, ctO_52, e2]
  by_cases g53 : a = 53
  · subst g53
    simp [pcV, ctO, newV_3, vp_updL]
  by_cases g54 : a = 54
  · subst g54
    simp [pcV, ctO, newV_3, vp_updL]
  by_cases g5 : a = 5 ∧ b = 0
  · obtain ⟨rfl, rfl⟩ := g5
    simp [ctO, pcV]
  simp [ctO, g1, g11, g12, g2, g3, g13, g4, g7, g57, g56, g55, g50, g51, g52, g53, g54, g5]
set_option maxHeartbeats 4000000 in
theorem ctO_add_3 {cA : Nat → ClassId} {c : SC} {v : SV} {w : SW} {u : Nat → Int32} {ad : Nat → Nat → Nat} : pcU (pcU (ctO cA c v w u ad) 52 0 (.inl (cA 5, 20, .inr (.inr (.inr (.inr (va_up (sRf (c 2) (ad 3)) (c 2) (some (ad 3 (c 2)))))))))) 5 0 (.inr (5, [.ref (ad 50 0), .ref (ad 51 0), .ref (ad 52 0), .ref (ad 53 0), .ref (ad 54 0), .ref (ad 55 0), .ref (ad 56 0), .int (nI (c 0)), .int (nI (c 1)), .int (nI (c 2 + 1)), .int (nI (c 3)), .int (nI (c 4)), .int (nI (c 5))])) = ctO cA (uC c 2 (c 2 + 1)) v w u ad := by
  funext a b
  by_cases h5 : a = 5 ∧ b = 0
  · obtain ⟨rfl, rfl⟩ := h5
    simp [pcU, ctO, uC]
  by_cases hk : a = 52 ∧ b = 0
  · obtain ⟨rfl, rfl⟩ := hk
    simp [pcU, ctO, uC, sRf_up]
  have e : pcU (pcU (ctO cA c v w u ad) 52 0 (.inl (cA 5, 20, .inr (.inr (.inr (.inr (va_up (sRf (c 2) (ad 3)) (c 2) (some (ad 3 (c 2)))))))))) 5 0 (.inr (5, [.ref (ad 50 0), .ref (ad 51 0), .ref (ad 52 0), .ref (ad 53 0), .ref (ad 54 0), .ref (ad 55 0), .ref (ad 56 0), .int (nI (c 0)), .int (nI (c 1)), .int (nI (c 2 + 1)), .int (nI (c 3)), .int (nI (c 4)), .int (nI (c 5))])) a b = (ctO cA c v w u ad) a b := by simp [pcU, h5, hk]
  rw [e]
  by_cases g1 : a = 1
  · subst g1
    simp [ctO, uC]
  by_cases g11 : a = 11
  · subst g11
    simp [ctO, uC]
  by_cases g12 : a = 12
  · subst g12
    simp [ctO, uC]
  by_cases g2 : a = 2
  · subst g2
    simp [ctO, uC]
  by_cases g3 : a = 3
  · subst g3
    simp [ctO, uC]
  by_cases g13 : a = 13
  · subst g13
    simp [ctO, uC]
  by_cases g4 : a = 4
  · subst g4
    simp [ctO, uC]
  by_cases g7 : a = 7
  · subst g7
    simp [ctO, uC]
  by_cases g57 : a = 57
  · subst g57
    simp [ctO, uC]
  by_cases g56 : a = 56
  · subst g56
    simp [ctO, uC]
  by_cases g55 : a = 55
  · subst g55
    simp [ctO, uC]
  by_cases g50 : a = 50
  · subst g50
    simp [ctO, uC]
  by_cases g51 : a = 51
  · subst g51
    simp [ctO, uC]
  by_cases g52 : a = 52
  · subst g52
    simp [ctO, uC, show b ≠ 0 from fun hb => hk ⟨rfl, hb⟩]
  by_cases g53 : a = 53
  · subst g53
    simp [ctO, uC]
  by_cases g54 : a = 54
  · subst g54
    simp [ctO, uC]
  simp [ctO, g1, g11, g12, g2, g3, g13, g4, g7, g57, g56, g55, g50, g51, g52, g53, g54, h5]
theorem MEM_add_3 {c : SC} {NL : List (Nat × Nat)} (h : MEM c NL) : MEM (uC c 2 (c 2 + 1)) (NL ++ [(3, c 2)] ++ [(13, c 2)]) := by
  have hm : ∀ p, p ∈ NL → p ∈ (NL ++ [(3, c 2)] ++ [(13, c 2)]) := fun p hp => by simp [hp]
  exact ⟨hm _ h.1, fun k a b => hm _ (h.2.1 k a b), fun i hi => hm _ (h.2.2.1 i hi), fun i hi => ⟨hm _ (h.2.2.2.1 i hi).1, hm _ (h.2.2.2.1 i hi).2.1, hm _ (h.2.2.2.1 i hi).2.2⟩, fun i hi => hm _ (h.2.2.2.2.1 i hi), fun i hi => (uC_lt hi).elim (fun hi => (fun i hi => ⟨hm _ (h.2.2.2.2.2.1 i hi).1, hm _ (h.2.2.2.2.2.1 i hi).2⟩) i hi) (fun e => by subst e; simp), fun i hi => hm _ (h.2.2.2.2.2.2.1 i hi), fun i hi => hm _ (h.2.2.2.2.2.2.2 i hi)⟩
theorem NMEM_add_3 {c : SC} {NL : List (Nat × Nat)} (h : NMEM c NL) : NMEM (uC c 2 (c 2 + 1)) (NL ++ [(3, c 2)] ++ [(13, c 2)]) := by
  obtain ⟨h1, h2, h3, h4, h7⟩ := h
  refine ⟨fun k i hk hi => ?_, fun i hi => ?_, fun k i hk hi => ?_, fun i hi => ?_, fun i hi => ?_⟩
  · have := h1 k i hk
    rcases hk with rfl | rfl | rfl <;> (simp [uC] at hi ⊢; first | omega | (rcases hi with hi | hi <;> first | (have := this hi; omega) | omega) | (exact this hi))
  · have := h2 i
    simp [uC] at hi ⊢
    first | omega | (rcases hi with hi | hi <;> first | (have := this hi; omega) | omega) | (exact this hi)
  · have := h3 k i hk
    rcases hk with rfl | rfl <;> (simp [uC] at hi ⊢; first | omega | (rcases hi with hi | hi <;> first | (have := this hi; omega) | omega) | (exact this hi))
  · have := h4 i
    simp [uC] at hi ⊢
    first | omega | (rcases hi with hi | hi <;> first | (have := this hi; omega) | omega) | (exact this hi)
  · have := h7 i
    simp [uC] at hi ⊢
    first | omega | (rcases hi with hi | hi <;> first | (have := this hi; omega) | omega) | (exact this hi)
def newV_4 (v : SV) (n : Nat) (x1 : Int32) (x2 : Int64) : SV := fun a b d => if b = n ∧ a = 4 then (if d = 0 then x1 else 0) else v a b d
def newW_4 (w : SW) (n : Nat) (x2 : Int64) : SW := fun a b d => if b = n ∧ a = 4 then x2 else w a b d
set_option maxHeartbeats 4000000 in
theorem ctO_new_4 {cA : Nat → ClassId} {c : SC} {v : SV} {w : SW} {u : Nat → Int32} {ad : Nat → Nat → Nat} {n q : Nat} {x1 : Int32} {x2 : Int64} (hn : n = c 3) : (pcU (ctO cA c v w u ad) 4 n (.inr (0, [.int x1, .long x2, .int 0]))) = ctO cA c (newV_4 v n x1 x2) (newW_4 w n x2) u (pcV ad 4 n q) := by
  funext a b
  by_cases h4 : a = 4 ∧ b = n
  · obtain ⟨rfl, rfl⟩ := h4
    simp [pcU, pcV, ctO, newV_4, newW_4, vp_updL]
  have e : (pcU (ctO cA c v w u ad) 4 n (.inr (0, [.int x1, .long x2, .int 0]))) a b = (ctO cA c v w u ad) a b := by simp [pcU, h4]
  rw [e]
  by_cases g1 : a = 1
  · subst g1
    simp [pcV, ctO, newV_4, newW_4, vp_updL]
  by_cases g11 : a = 11
  · subst g11
    simp [pcV, ctO, newV_4, newW_4, vp_updL]
  by_cases g12 : a = 12
  · subst g12
    simp [pcV, ctO, newV_4, newW_4, vp_updL]
  by_cases g2 : a = 2
  · subst g2
    simp [pcV, ctO, newV_4, newW_4, vp_updL]
  by_cases g3 : a = 3
  · subst g3
    simp [pcV, ctO, newV_4, newW_4, vp_updL]
  by_cases g13 : a = 13
  · subst g13
    simp [pcV, ctO, newV_4, newW_4, vp_updL]
  by_cases g4 : a = 4
  · subst g4
    simp [pcV, ctO, newV_4, newW_4, vp_updL, show b ≠ n from fun hb => h4 ⟨rfl, hb⟩]
  by_cases g7 : a = 7
  · subst g7
    simp [pcV, ctO, newV_4, newW_4, vp_updL]
  by_cases g57 : a = 57
  · subst g57
    simp [pcV, ctO, newV_4, newW_4, vp_updL]
  by_cases g56 : a = 56
  · subst g56
    simp [pcV, ctO, newV_4, newW_4, vp_updL]
  by_cases g55 : a = 55
  · subst g55
    simp [pcV, ctO, newV_4, newW_4, vp_updL]
  by_cases g50 : a = 50
  · subst g50
    simp [pcV, ctO, newV_4, newW_4, vp_updL]
  by_cases g51 : a = 51
  · subst g51
    simp [pcV, ctO, newV_4, newW_4, vp_updL]
  by_cases g52 : a = 52
  · subst g52
    simp [pcV, ctO, newV_4, newW_4, vp_updL]
  by_cases g53 : a = 53
  · subst g53
    have e2 : sRf (c 3) ((pcV ad 4 n q) 4) = sRf (c 3) (ad 4) := by
      subst hn
      exact sRf_V
    rw [ctO_53, ctO_53, e2]
  by_cases g54 : a = 54
  · subst g54
    simp [pcV, ctO, newV_4, newW_4, vp_updL]
  by_cases g5 : a = 5 ∧ b = 0
  · obtain ⟨rfl, rfl⟩ := g5
    simp [ctO, pcV]
  simp [ctO, g1, g11, g12, g2, g3, g13, g4, g7, g57, g56, g55, g50, g51, g52, g53, g54, g5]
set_option maxHeartbeats 4000000 in
theorem ctO_add_4 {cA : Nat → ClassId} {c : SC} {v : SV} {w : SW} {u : Nat → Int32} {ad : Nat → Nat → Nat} : pcU (pcU (ctO cA c v w u ad) 53 0 (.inl (cA 6, 20, .inr (.inr (.inr (.inr (va_up (sRf (c 3) (ad 4)) (c 3) (some (ad 4 (c 3)))))))))) 5 0 (.inr (5, [.ref (ad 50 0), .ref (ad 51 0), .ref (ad 52 0), .ref (ad 53 0), .ref (ad 54 0), .ref (ad 55 0), .ref (ad 56 0), .int (nI (c 0)), .int (nI (c 1)), .int (nI (c 2)), .int (nI (c 3 + 1)), .int (nI (c 4)), .int (nI (c 5))])) = ctO cA (uC c 3 (c 3 + 1)) v w u ad := by
  funext a b
  by_cases h5 : a = 5 ∧ b = 0
  · obtain ⟨rfl, rfl⟩ := h5
    simp [pcU, ctO, uC]
  by_cases hk : a = 53 ∧ b = 0
  · obtain ⟨rfl, rfl⟩ := hk
    simp [pcU, ctO, uC, sRf_up]
  have e : pcU (pcU (ctO cA c v w u ad) 53 0 (.inl (cA 6, 20, .inr (.inr (.inr (.inr (va_up (sRf (c 3) (ad 4)) (c 3) (some (ad 4 (c 3)))))))))) 5 0 (.inr (5, [.ref (ad 50 0), .ref (ad 51 0), .ref (ad 52 0), .ref (ad 53 0), .ref (ad 54 0), .ref (ad 55 0), .ref (ad 56 0), .int (nI (c 0)), .int (nI (c 1)), .int (nI (c 2)), .int (nI (c 3 + 1)), .int (nI (c 4)), .int (nI (c 5))])) a b = (ctO cA c v w u ad) a b := by simp [pcU, h5, hk]
  rw [e]
  by_cases g1 : a = 1
  · subst g1
    simp [ctO, uC]
  by_cases g11 : a = 11
  · subst g11
    simp [ctO, uC]
  by_cases g12 : a = 12
  · subst g12
    simp [ctO, uC]
  by_cases g2 : a = 2
  · subst g2
    simp [ctO, uC]
  by_cases g3 : a = 3
  · subst g3
    simp [ctO, uC]
  by_cases g13 : a = 13
  · subst g13
    simp [ctO, uC]
  by_cases g4 : a = 4
  · subst g4
    simp [ctO, uC]
  by_cases g7 : a = 7
  · subst g7
    simp [ctO, uC]
  by_cases g57 : a = 57
  · subst g57
    simp [ctO, uC]
  by_cases g56 : a = 56
  · subst g56
    simp [ctO, uC]
  by_cases g55 : a = 55
  · subst g55
    simp [ctO, uC]
  by_cases g50 : a = 50
  · subst g50
    simp [ctO, uC]
  by_cases g51 : a = 51
  · subst g51
    simp [ctO, uC]
  by_cases g52 : a = 52
  · subst g52
    simp [ctO, uC]
  by_cases g53 : a = 53
  · subst g53
    simp [ctO, uC, show b ≠ 0 from fun hb => hk ⟨rfl, hb⟩]
  by_cases g54 : a = 54
  · subst g54
    simp [ctO, uC]
  simp [ctO, g1, g11, g12, g2, g3, g13, g4, g7, g57, g56, g55, g50, g51, g52, g53, g54, h5]
theorem MEM_add_4 {c : SC} {NL : List (Nat × Nat)} (h : MEM c NL) : MEM (uC c 3 (c 3 + 1)) (NL ++ [(4, c 3)]) := by
  have hm : ∀ p, p ∈ NL → p ∈ (NL ++ [(4, c 3)]) := fun p hp => by simp [hp]
  exact ⟨hm _ h.1, fun k a b => hm _ (h.2.1 k a b), fun i hi => hm _ (h.2.2.1 i hi), fun i hi => ⟨hm _ (h.2.2.2.1 i hi).1, hm _ (h.2.2.2.1 i hi).2.1, hm _ (h.2.2.2.1 i hi).2.2⟩, fun i hi => hm _ (h.2.2.2.2.1 i hi), fun i hi => ⟨hm _ (h.2.2.2.2.2.1 i hi).1, hm _ (h.2.2.2.2.2.1 i hi).2⟩, fun i hi => (uC_lt hi).elim (fun hi => (fun i hi => hm _ (h.2.2.2.2.2.2.1 i hi)) i hi) (fun e => by subst e; simp), fun i hi => hm _ (h.2.2.2.2.2.2.2 i hi)⟩
theorem NMEM_add_4 {c : SC} {NL : List (Nat × Nat)} (h : NMEM c NL) : NMEM (uC c 3 (c 3 + 1)) (NL ++ [(4, c 3)]) := by
  obtain ⟨h1, h2, h3, h4, h7⟩ := h
  refine ⟨fun k i hk hi => ?_, fun i hi => ?_, fun k i hk hi => ?_, fun i hi => ?_, fun i hi => ?_⟩
  · have := h1 k i hk
    rcases hk with rfl | rfl | rfl <;> (simp [uC] at hi ⊢; first | omega | (rcases hi with hi | hi <;> first | (have := this hi; omega) | omega) | (exact this hi))
  · have := h2 i
    simp [uC] at hi ⊢
    first | omega | (rcases hi with hi | hi <;> first | (have := this hi; omega) | omega) | (exact this hi)
  · have := h3 k i hk
    rcases hk with rfl | rfl <;> (simp [uC] at hi ⊢; first | omega | (rcases hi with hi | hi <;> first | (have := this hi; omega) | omega) | (exact this hi))
  · have := h4 i
    simp [uC] at hi ⊢
    first | omega | (rcases hi with hi | hi <;> first | (have := this hi; omega) | omega) | (exact this hi)
  · have := h7 i
    simp [uC] at hi ⊢
    first | omega | (rcases hi with hi | hi <;> first | (have := this hi; omega) | omega) | (exact this hi)
def newV_7 (v : SV) (n : Nat) (x1 : Int32) (x2 : Int32) (x3 : Int32) : SV := fun a b d => if b = n ∧ a = 7 then (if d = 0 then x1 else if d = 1 then x2 else if d = 2 then x3 else 0) else v a b d
def newW_7 (w : SW) (n : Nat) : SW := fun a b d => if b = n ∧ a = 7 then 1099511627775 else w a b d
set_option maxHeartbeats 4000000 in
theorem ctO_new_7 {cA : Nat → ClassId} {c : SC} {v : SV} {w : SW} {u : Nat → Int32} {ad : Nat → Nat → Nat} {n q : Nat} {x1 : Int32} {x2 : Int32} {x3 : Int32} (hn : n = c 4) : (pcU (ctO cA c v w u ad) 7 n (.inr (4, [.int x1, .int x2, .int x3, .long 1099511627775, .int 0, .int 0]))) = ctO cA c (newV_7 v n x1 x2 x3) (newW_7 w n) u (pcV ad 7 n q) := by
  funext a b
  by_cases h7 : a = 7 ∧ b = n
  · obtain ⟨rfl, rfl⟩ := h7
    simp [pcU, pcV, ctO, newV_7, newW_7, vp_updL]
  have e : (pcU (ctO cA c v w u ad) 7 n (.inr (4, [.int x1, .int x2, .int x3, .long 1099511627775, .int 0, .int 0]))) a b = (ctO cA c v w u ad) a b := by simp [pcU, h7]
  rw [e]
  by_cases g1 : a = 1
  · subst g1
    simp [pcV, ctO, newV_7, newW_7, vp_updL]
  by_cases g11 : a = 11
  · subst g11
    simp [pcV, ctO, newV_7, newW_7, vp_updL]
  by_cases g12 : a = 12
  · subst g12
    simp [pcV, ctO, newV_7, newW_7, vp_updL]
  by_cases g2 : a = 2
  · subst g2
    simp [pcV, ctO, newV_7, newW_7, vp_updL]
  by_cases g3 : a = 3
  · subst g3
    simp [pcV, ctO, newV_7, newW_7, vp_updL]
  by_cases g13 : a = 13
  · subst g13
    simp [pcV, ctO, newV_7, newW_7, vp_updL]
  by_cases g4 : a = 4
  · subst g4
    simp [pcV, ctO, newV_7, newW_7, vp_updL]
  by_cases g7 : a = 7
  · subst g7
    simp [pcV, ctO, newV_7, newW_7, vp_updL, show b ≠ n from fun hb => h7 ⟨rfl, hb⟩]
  by_cases g57 : a = 57
  · subst g57
    simp [pcV, ctO, newV_7, newW_7, vp_updL]
  by_cases g56 : a = 56
  · subst g56
    simp [pcV, ctO, newV_7, newW_7, vp_updL]
  by_cases g55 : a = 55
  · subst g55
    simp [pcV, ctO, newV_7, newW_7, vp_updL]
  by_cases g50 : a = 50
  · subst g50
    simp [pcV, ctO, newV_7, newW_7, vp_updL]
  by_cases g51 : a = 51
  · subst g51
    simp [pcV, ctO, newV_7, newW_7, vp_updL]
  by_cases g52 : a = 52
  · subst g52
    simp [pcV, ctO, newV_7, newW_7, vp_updL]
  by_cases g53 : a = 53
  · subst g53
    simp [pcV, ctO, newV_7, newW_7, vp_updL]
  by_cases g54 : a = 54
  · subst g54
    have e2 : sRf (c 4) ((pcV ad 7 n q) 7) = sRf (c 4) (ad 7) := by
      subst hn
      exact sRf_V
    rw [ctO_54, ctO_54, e2]
  by_cases g5 : a = 5 ∧ b = 0
  · obtain ⟨rfl, rfl⟩ := g5
    simp [ctO, pcV]
  simp [ctO, g1, g11, g12, g2, g3, g13, g4, g7, g57, g56, g55, g50, g51, g52, g53, g54, g5]
set_option maxHeartbeats 4000000 in
theorem ctO_add_7 {cA : Nat → ClassId} {c : SC} {v : SV} {w : SW} {u : Nat → Int32} {ad : Nat → Nat → Nat} : pcU (pcU (ctO cA c v w u ad) 54 0 (.inl (cA 7, 8, .inr (.inr (.inr (.inr (va_up (sRf (c 4) (ad 7)) (c 4) (some (ad 7 (c 4)))))))))) 5 0 (.inr (5, [.ref (ad 50 0), .ref (ad 51 0), .ref (ad 52 0), .ref (ad 53 0), .ref (ad 54 0), .ref (ad 55 0), .ref (ad 56 0), .int (nI (c 0)), .int (nI (c 1)), .int (nI (c 2)), .int (nI (c 3)), .int (nI (c 4 + 1)), .int (nI (c 5))])) = ctO cA (uC c 4 (c 4 + 1)) v w u ad := by
  funext a b
  by_cases h5 : a = 5 ∧ b = 0
  · obtain ⟨rfl, rfl⟩ := h5
    simp [pcU, ctO, uC]
  by_cases hk : a = 54 ∧ b = 0
  · obtain ⟨rfl, rfl⟩ := hk
    simp [pcU, ctO, uC, sRf_up]
  have e : pcU (pcU (ctO cA c v w u ad) 54 0 (.inl (cA 7, 8, .inr (.inr (.inr (.inr (va_up (sRf (c 4) (ad 7)) (c 4) (some (ad 7 (c 4)))))))))) 5 0 (.inr (5, [.ref (ad 50 0), .ref (ad 51 0), .ref (ad 52 0), .ref (ad 53 0), .ref (ad 54 0), .ref (ad 55 0), .ref (ad 56 0), .int (nI (c 0)), .int (nI (c 1)), .int (nI (c 2)), .int (nI (c 3)), .int (nI (c 4 + 1)), .int (nI (c 5))])) a b = (ctO cA c v w u ad) a b := by simp [pcU, h5, hk]
  rw [e]
  by_cases g1 : a = 1
  · subst g1
    simp [ctO, uC]
  by_cases g11 : a = 11
  · subst g11
    simp [ctO, uC]
  by_cases g12 : a = 12
  · subst g12
    simp [ctO, uC]
  by_cases g2 : a = 2
  · subst g2
    simp [ctO, uC]
  by_cases g3 : a = 3
  · subst g3
    simp [ctO, uC]
  by_cases g13 : a = 13
  · subst g13
    simp [ctO, uC]
  by_cases g4 : a = 4
  · subst g4
    simp [ctO, uC]
  by_cases g7 : a = 7
  · subst g7
    simp [ctO, uC]
  by_cases g57 : a = 57
  · subst g57
    simp [ctO, uC]
  by_cases g56 : a = 56
  · subst g56
    simp [ctO, uC]
  by_cases g55 : a = 55
  · subst g55
    simp [ctO, uC]
  by_cases g50 : a = 50
  · subst g50
    simp [ctO, uC]
  by_cases g51 : a = 51
  · subst g51
    simp [ctO, uC]
  by_cases g52 : a = 52
  · subst g52
    simp [ctO, uC]
  by_cases g53 : a = 53
  · subst g53
    simp [ctO, uC]
  by_cases g54 : a = 54
  · subst g54
    simp [ctO, uC, show b ≠ 0 from fun hb => hk ⟨rfl, hb⟩]
  simp [ctO, g1, g11, g12, g2, g3, g13, g4, g7, g57, g56, g55, g50, g51, g52, g53, g54, h5]
theorem MEM_add_7 {c : SC} {NL : List (Nat × Nat)} (h : MEM c NL) : MEM (uC c 4 (c 4 + 1)) (NL ++ [(7, c 4)]) := by
  have hm : ∀ p, p ∈ NL → p ∈ (NL ++ [(7, c 4)]) := fun p hp => by simp [hp]
  exact ⟨hm _ h.1, fun k a b => hm _ (h.2.1 k a b), fun i hi => hm _ (h.2.2.1 i hi), fun i hi => ⟨hm _ (h.2.2.2.1 i hi).1, hm _ (h.2.2.2.1 i hi).2.1, hm _ (h.2.2.2.1 i hi).2.2⟩, fun i hi => hm _ (h.2.2.2.2.1 i hi), fun i hi => ⟨hm _ (h.2.2.2.2.2.1 i hi).1, hm _ (h.2.2.2.2.2.1 i hi).2⟩, fun i hi => hm _ (h.2.2.2.2.2.2.1 i hi), fun i hi => (uC_lt hi).elim (fun hi => (fun i hi => hm _ (h.2.2.2.2.2.2.2 i hi)) i hi) (fun e => by subst e; simp)⟩
theorem NMEM_add_7 {c : SC} {NL : List (Nat × Nat)} (h : NMEM c NL) : NMEM (uC c 4 (c 4 + 1)) (NL ++ [(7, c 4)]) := by
  obtain ⟨h1, h2, h3, h4, h7⟩ := h
  refine ⟨fun k i hk hi => ?_, fun i hi => ?_, fun k i hk hi => ?_, fun i hi => ?_, fun i hi => ?_⟩
  · have := h1 k i hk
    rcases hk with rfl | rfl | rfl <;> (simp [uC] at hi ⊢; first | omega | (rcases hi with hi | hi <;> first | (have := this hi; omega) | omega) | (exact this hi))
  · have := h2 i
    simp [uC] at hi ⊢
    first | omega | (rcases hi with hi | hi <;> first | (have := this hi; omega) | omega) | (exact this hi)
  · have := h3 k i hk
    rcases hk with rfl | rfl <;> (simp [uC] at hi ⊢; first | omega | (rcases hi with hi | hi <;> first | (have := this hi; omega) | omega) | (exact this hi))
  · have := h4 i
    simp [uC] at hi ⊢
    first | omega | (rcases hi with hi | hi <;> first | (have := this hi; omega) | omega) | (exact this hi)
  · have := h7 i
    simp [uC] at hi ⊢
    first | omega | (rcases hi with hi | hi <;> first | (have := this hi; omega) | omega) | (exact this hi)
theorem nI_lt8 {i : Nat} (h : i < 8) : nI i < 8 := nI_lt h (by decide)
theorem nI_lt10 {i : Nat} (h : i < 10) : nI i < 10 := nI_lt h (by decide)
theorem nI_lt20 {i : Nat} (h : i < 20) : nI i < 20 := nI_lt h (by decide)
theorem BND_0 {c : SC} (h : BND c) (hk : c 0 < 10) : BND (uC c 0 (c 0 + 1)) := ⟨(show c 0 + 1 ≤ 10 by omega), h.2.1, h.2.2.1, h.2.2.2.1, h.2.2.2.2⟩
theorem BND_1 {c : SC} (h : BND c) (hk : c 1 < 20) : BND (uC c 1 (c 1 + 1)) := ⟨h.1, (show c 1 + 1 ≤ 20 by omega), h.2.2.1, h.2.2.2.1, h.2.2.2.2⟩
theorem BND_2 {c : SC} (h : BND c) (hk : c 2 < 20) : BND (uC c 2 (c 2 + 1)) := ⟨h.1, h.2.1, (show c 2 + 1 ≤ 20 by omega), h.2.2.2.1, h.2.2.2.2⟩
theorem BND_3 {c : SC} (h : BND c) (hk : c 3 < 20) : BND (uC c 3 (c 3 + 1)) := ⟨h.1, h.2.1, h.2.2.1, (show c 3 + 1 ≤ 20 by omega), h.2.2.2.2⟩
theorem BND_4 {c : SC} (h : BND c) (hk : c 4 < 8) : BND (uC c 4 (c 4 + 1)) := ⟨h.1, h.2.1, h.2.2.1, h.2.2.2.1, (show c 4 + 1 ≤ 8 by omega)⟩
theorem WF_add_2 {c : SC} {v : SV} {x1 x2 x3 : Int32} (h : WF c v) (hn : ¬ x2 < 0) (h2 : x2.toNatClampNeg < c 0) : WF (uC c 1 (c 1 + 1)) (newV_2 v (c 1) x1 x2 x3) := by
  refine ⟨fun i hi => ?_, fun i hi => ?_, fun i hi => ?_⟩
  · by_cases e : i = c 1
    · subst e
      have e2 : newV_2 v (c 1) x1 x2 x3 2 (c 1) 1 = x2 := by simp [newV_2]
      rw [e2]; exact ⟨hn, h2⟩
    · have e2 : newV_2 v (c 1) x1 x2 x3 2 i 1 = v 2 i 1 := by simp [newV_2, e]
      rw [e2]; exact h.1 i ((uC_lt hi).elim id (fun q => absurd q e))
  · have e2 : newV_2 v (c 1) x1 x2 x3 7 i 0 = v 7 i 0 := by simp [newV_2]
    rw [e2]; exact h.2.1 i hi
  · have e2 : newV_2 v (c 1) x1 x2 x3 1 i 1 = v 1 i 1 := by simp [newV_2]
    rw [e2]; exact h.2.2 i hi
theorem WF_add_4 {c : SC} {v : SV} {x1 : Int32} {x2 : Int64} (h : WF c v) : WF (uC c 3 (c 3 + 1)) (newV_4 v (c 3) x1 x2) := by
  refine ⟨fun i hi => ?_, fun i hi => ?_, fun i hi => ?_⟩
  · have e2 : newV_4 v (c 3) x1 x2 2 i 1 = v 2 i 1 := by simp [newV_4]
    rw [e2]; exact h.1 i hi
  · have e2 : newV_4 v (c 3) x1 x2 7 i 0 = v 7 i 0 := by simp [newV_4]
    rw [e2]; exact h.2.1 i hi
  · have e2 : newV_4 v (c 3) x1 x2 1 i 1 = v 1 i 1 := by simp [newV_4]
    rw [e2]; exact h.2.2 i hi

/-! WHAT THE NUMBERS MEAN: the class's functions over a state, without the machine. -/
theorem cl {i : Nat} (h : i < 100) : (nI i).toNatClampNeg = i := nI_clamp (by omega)
def REG (x : Int64) : Prop := ∃ a b a2 b2 : Nat, a ≤ a2 ∧ a2 < 20 ∧ b ≤ b2 ∧ b2 < 20 ∧ x = F_X5_regionOf (nI a) (nI b) (nI a2) (nI b2)
def SHT (v : SV) (w : SW) (i : Nat) : Prop := ∃ L K : Nat, L ≤ 5 ∧ K ≤ L ∧ L ≤ K + 1 ∧ v 1 i 1 = nI L ∧ v 1 i 3 = nI K ∧ v 1 i 6 = 0 ∧ w 1 i 0 = w 11 i K ∧ v 1 i 4 = v 12 i K ∧ ∀ r, r ≤ L → REG (w 11 i r)
def PKG (c : SC) (v : SV) (w : SW) (i : Nat) : Prop := ∃ cr s d st : Nat, cr < 4 ∧ s < c 0 ∧ d ≤ 4 ∧ st ≤ 3 ∧ v 7 i 0 = nI cr ∧ v 7 i 1 = (1 : Int32) <<< (nI s &&& 31) ∧ v 7 i 2 = nI d ∧ v 7 i 3 = nI st ∧ (st = 3 ↔ d = 0) ∧ (st = 1 → F_X5_firstUnfit c v w i (v 57 cr) = -1)
def INV (c : SC) (v : SV) (w : SW) : Prop := (c 0 ≤ 5 ∧ c 1 ≤ 20 ∧ c 2 ≤ 20 ∧ c 3 ≤ 20 ∧ c 4 ≤ 8) ∧ (∀ i, i < c 0 → SHT v w i) ∧ (∀ i, i < c 1 → ∃ t, t < c 0 ∧ v 2 i 1 = nI t) ∧ (∀ i, i < c 3 → v 4 i 1 = 0) ∧ ∀ i, i < c 4 → PKG c v w i
theorem INV_bnd {c : SC} {v : SV} {w : SW} (h : INV c v w) : BND c := by
  obtain ⟨⟨h0, h1, h2, h3, h4⟩, -⟩ := h
  exact ⟨by omega, h1, h2, h3, h4⟩
theorem INV_wf {c : SC} {v : SV} {w : SW} (h : INV c v w) : WF c v := by
  obtain ⟨⟨h0, h1, h2, h3, h4⟩, hs, hr, hq, hp⟩ := h
  refine ⟨fun i hi => ?_, fun i hi => ?_, fun i hi => ?_⟩
  · obtain ⟨t, ht, e⟩ := hr i hi
    rw [e]
    exact ⟨nI_pos (by omega), by rw [cl (by omega)]; exact ht⟩
  · obtain ⟨cr, s, d, st, hcr, -, -, -, e, -⟩ := hp i hi
    rw [e]
    exact ⟨nI_pos (by omega), by rw [cl (by omega)]; exact hcr⟩
  · obtain ⟨L, K, hL, -, -, e, -⟩ := hs i hi
    rw [e]
    exact ⟨nI_pos (by omega), by rw [cl (by omega)]; omega⟩
theorem INV_ri {c : SC} {v : SV} {w : SW} (h : INV c v w) : RI c v w := by
  intro j hj
  obtain ⟨L, K, hL, hK, -, -, e, -, e1, e2, -⟩ := h.2.1 j hj
  have hc : (nI K).toNatClampNeg = K := cl (by omega)
  rw [e, hc]
  exact ⟨⟨nI_pos (by omega), by omega⟩, e1, e2⟩
/-! bits -/
theorem isIn_1 {s j : Nat} (hs : s < 10) (hj : j < 10) : (F_X5_isIn ((1 : Int32) <<< (nI s &&& 31)) (nI j) = 0 ↔ s ≠ j) :=
  (by decide +kernel : ∀ s, s < 10 → ∀ j, j < 10 → (F_X5_isIn ((1 : Int32) <<< (nI s &&& 31)) (nI j) = 0 ↔ s ≠ j)) s hs j hj
theorem bit_1 {s j : Nat} (hs : s < 10) (hj : j < 10) : ((((1 : Int32) <<< (nI s &&& 31)) >>> (nI j &&& 31)) &&& (1 : Int32) = (1 : Int32) ↔ s = j) :=
  (by decide +kernel : ∀ s, s < 10 → ∀ j, j < 10 → ((((1 : Int32) <<< (nI s &&& 31)) >>> (nI j &&& 31)) &&& (1 : Int32) = (1 : Int32) ↔ s = j)) s hs j hj
theorem setOk {s n : Nat} (hn : n < 10) (hs : s < n) : ¬ ((1 : Int32) <<< (nI s &&& 31)) < 1 ∧ ¬ ((1 : Int32) <<< (nI n &&& 31)) ≤ ((1 : Int32) <<< (nI s &&& 31)) :=
  (by decide +kernel : ∀ n, n < 10 → ∀ s, s < n → ¬ ((1 : Int32) <<< (nI s &&& 31)) < 1 ∧ ¬ ((1 : Int32) <<< (nI n &&& 31)) ≤ ((1 : Int32) <<< (nI s &&& 31))) n hn s hs
theorem setAll {n : Nat} (h1 : 1 ≤ n) (hn : n < 10) : ¬ (((1 : Int32) <<< (nI n &&& 31)) - (1 : Int32)) < 1 ∧ ¬ ((1 : Int32) <<< (nI n &&& 31)) ≤ (((1 : Int32) <<< (nI n &&& 31)) - (1 : Int32)) :=
  (by decide +kernel : ∀ n, n < 10 → 1 ≤ n → ¬ (((1 : Int32) <<< (nI n &&& 31)) - (1 : Int32)) < 1 ∧ ¬ ((1 : Int32) <<< (nI n &&& 31)) ≤ (((1 : Int32) <<< (nI n &&& 31)) - (1 : Int32))) n hn h1
theorem isIn_all {n j : Nat} (hn : n < 10) (hj : j < 10) : (F_X5_isIn (((1 : Int32) <<< (nI n &&& 31)) - (1 : Int32)) (nI j) = 0 ↔ n ≤ j) :=
  (by decide +kernel : ∀ n, n < 10 → ∀ j, j < 10 → (F_X5_isIn (((1 : Int32) <<< (nI n &&& 31)) - (1 : Int32)) (nI j) = 0 ↔ n ≤ j)) n hn j hj
/-- a mask of the first n, one more bit -/
theorem msk_step {n m : Nat} (hn : n < 8) (hm : m < 2 ^ n) : (nI m ||| ((1 : Int32) <<< (nI n &&& 31))) = nI (m + 2 ^ n) ∧ F_J6_bitCount_0f7a4 (nI (m + 2 ^ n)) = F_J6_bitCount_0f7a4 (nI m) + 1 ∧ ∀ i, i < 8 → (F_X5_isIn (nI (m + 2 ^ n)) (nI i) = 0 ↔ (F_X5_isIn (nI m) (nI i) = 0 ∧ i ≠ n)) :=
  (by decide +kernel : ∀ n, n < 8 → ∀ m, m < 2 ^ n → (nI m ||| ((1 : Int32) <<< (nI n &&& 31))) = nI (m + 2 ^ n) ∧ F_J6_bitCount_0f7a4 (nI (m + 2 ^ n)) = F_J6_bitCount_0f7a4 (nI m) + 1 ∧ ∀ i, i < 8 → (F_X5_isIn (nI (m + 2 ^ n)) (nI i) = 0 ↔ (F_X5_isIn (nI m) (nI i) = 0 ∧ i ≠ n))) n hn m hm
theorem msk_0 : F_J6_bitCount_0f7a4 (nI 0) = nI 0 ∧ ∀ i, i < 8 → F_X5_isIn (nI 0) (nI i) = 0 := by decide +kernel
/-- how many of the first n -/
def cnt (P : Nat → Bool) : Nat → Nat
  | 0 => 0
  | n + 1 => if P n = true then cnt P n + 1 else cnt P n
theorem cnt_le {P : Nat → Bool} : ∀ n, cnt P n ≤ n
  | 0 => Nat.le_refl 0
  | n + 1 => by
    have := cnt_le (P := P) n
    unfold cnt
    split <;> omega
theorem cnt_congr {P Q : Nat → Bool} : ∀ n, (∀ i, i < n → P i = Q i) → cnt P n = cnt Q n
  | 0, _ => rfl
  | n + 1, h => by
    have h1 := cnt_congr n (fun i hi => h i (Nat.lt_succ_of_lt hi))
    unfold cnt
    rw [h1, h n (Nat.lt_succ_self n)]
theorem cnt_add {P Q R : Nat → Bool} : ∀ n, (∀ i, i < n → P i = (Q i || R i) ∧ ¬ (Q i = true ∧ R i = true)) → cnt P n = cnt Q n + cnt R n
  | 0, _ => rfl
  | n + 1, h => by
    have h1 := cnt_add n (fun i hi => h i (Nat.lt_succ_of_lt hi))
    obtain ⟨h2, h3⟩ := h n (Nat.lt_succ_self n)
    unfold cnt
    rw [h1, h2]
    cases hq : Q n <;> cases hr : R n
    · simp
    · simp <;> omega
    · simp <;> omega
    · exact absurd ⟨hq, hr⟩ h3
theorem cnt_mono {P Q : Nat → Bool} : ∀ n, (∀ i, i < n → P i = true → Q i = true) → cnt P n ≤ cnt Q n
  | 0, _ => Nat.le_refl 0
  | n + 1, h => by
    have h1 := cnt_mono n (fun i hi => h i (Nat.lt_succ_of_lt hi))
    have h2 := h n (Nat.lt_succ_self n)
    unfold cnt
    by_cases hp : P n = true
    · rw [if_pos hp, if_pos (h2 hp)]; omega
    · rw [if_neg hp]; split <;> omega
/-! what is broken, clouded, worn: of what it speaks -/
def AGS (c : SC) (v v2 : SV) (w w2 : SW) : Prop := (∀ i, i < c 0 → v2 1 i 0 = v 1 i 0 ∧ v2 1 i 3 = v 1 i 3 ∧ v2 1 i 4 = v 1 i 4 ∧ v2 1 i 6 = v 1 i 6 ∧ w2 1 i 0 = w 1 i 0) ∧ (∀ i f, i < c 1 → v2 2 i f = v 2 i f) ∧ (∀ i, i < c 3 → v2 4 i 0 = v 4 i 0 ∧ v2 4 i 1 = v 4 i 1 ∧ w2 4 i 0 = w 4 i 0)
/-- the counts that it speaks of -/
def CC (c c2 : SC) : Prop := c2 0 = c 0 ∧ c2 1 = c 1 ∧ c2 3 = c 3
theorem FL_brokenFrom_congr {c c2 : SC} {v v2 : SV} {w w2 : SW} {x1 : Int32} (hg : ∀ i, i < c 1 → v2 2 i 0 = v 2 i 0 ∧ F_X5_isBroken c2 v2 w2 i = F_X5_isBroken c v w i) : ∀ k i a, i + k = c 1 → FL_X5_brokenFrom c2 v2 w2 x1 k i a = FL_X5_brokenFrom c v w x1 k i a := by
  intro k
  induction k with
  | zero => intro i a _; rfl
  | succ k ih =>
    intro i a hi
    have h1 := hg i (by omega)
    show FL_X5_brokenFrom c2 v2 w2 x1 k (i + 1) _ = FL_X5_brokenFrom c v w x1 k (i + 1) _
    rw [h1.1, h1.2]
    exact ih (i + 1) _ (by omega)
theorem isBroken_congr {c c2 : SC} {v v2 : SV} {w w2 : SW} (hF : WF c v) (hcc : CC c c2) (h : AGS c v v2 w w2) {i : Nat} (hi : i < c 1) : F_X5_isBroken c2 v2 w2 i = F_X5_isBroken c v w i := by
  unfold F_X5_isBroken
  rw [h.2.1 i 1 hi, h.2.1 i 2 hi, (h.1 _ (hF.1 i hi).2).2.2.1]
theorem brokenFrom_congr {c c2 : SC} {v v2 : SV} {w w2 : SW} (hF : WF c v) (hcc : CC c c2) (h : AGS c v v2 w w2) (x1 : Int32) : F_X5_brokenFrom c2 v2 w2 x1 = F_X5_brokenFrom c v w x1 := by
  unfold F_X5_brokenFrom
  rw [hcc.2.1]
  exact FL_brokenFrom_congr (fun i hi => ⟨h.2.1 i 0 hi, isBroken_congr hF hcc h hi⟩) _ _ _ (by omega)
theorem clashRegion_congr {c c2 : SC} {v v2 : SV} {w w2 : SW} (hcc : CC c c2) (h : AGS c v v2 w w2) {i j : Nat} (hi : i < c 0) (hj : j < c 0) (hc : c 0 ≤ 5) : F_X5_clashRegion c2 v2 w2 (nI i) (nI j) = F_X5_clashRegion c v w (nI i) (nI j) := by
  unfold F_X5_clashRegion
  rw [cl (by omega), cl (by omega)]
  obtain ⟨a1, -, -, a4, a5⟩ := h.1 i hi
  obtain ⟨b1, -, -, -, b5⟩ := h.1 j hj
  rw [a1, b1, a4, a5, b5]
theorem cloudsOver_congr {c c2 : SC} {v v2 : SV} {w w2 : SW} (hcc : CC c c2) (h : AGS c v v2 w w2) {i : Nat} (hi : i < c 0) (hc : c 0 ≤ 5) (x2 : Int64) : F_X5_cloudsOver c2 v2 w2 (nI i) x2 = F_X5_cloudsOver c v w (nI i) x2 := by
  have h1 : ∀ k j a, j + k = c 3 → FL_X5_cloudsOver c2 v2 w2 (nI i) x2 k j a = FL_X5_cloudsOver c v w (nI i) x2 k j a := by
    intro k
    induction k with
    | zero => intro j a _; rfl
    | succ k ih =>
      intro j a hj
      obtain ⟨q1, q2, q3⟩ := h.2.2 j (by omega)
      show FL_X5_cloudsOver c2 v2 w2 (nI i) x2 k (j + 1) _ = FL_X5_cloudsOver c v w (nI i) x2 k (j + 1) _
      rw [q1, q2, q3]
      exact ih (j + 1) _ (by omega)
  have h2 : ∀ k j a, j + k = c 0 → FL2_X5_cloudsOver c2 v2 w2 (nI i) x2 k j a = FL2_X5_cloudsOver c v w (nI i) x2 k j a := by
    intro k
    induction k with
    | zero => intro j a _; rfl
    | succ k ih =>
      intro j a hj
      show FL2_X5_cloudsOver c2 v2 w2 (nI i) x2 k (j + 1) _ = FL2_X5_cloudsOver c v w (nI i) x2 k (j + 1) _
      rw [clashRegion_congr hcc h hi (by omega : j < c 0) hc]
      exact ih (j + 1) _ (by omega)
  unfold F_X5_cloudsOver
  rw [hcc.1, hcc.2.2]
  rw [h1 _ _ _ (by omega), h2 _ _ _ (by omega)]
/-- good stays good: what a package's sheet is judged by is the same, and its marks are no more -/
theorem wrongWith_good {c c2 : SC} {v v2 : SV} {w w2 : SW} (hF : WF c v) (hcc : CC c c2) (h : AGS c v v2 w w2) (hc : c 0 ≤ 5) {i j : Nat} {row row2 : Nat → Int32} (hj : j < c 0) (hw : w2 7 i 0 = w 7 i 0) (hr : row2 j = row j) (hm : v 1 j 5 < 3 → v2 1 j 5 < 3) (h0 : F_X5_wrongWith c v w i row (nI j) = 0) : F_X5_wrongWith c2 v2 w2 i row2 (nI j) = 0 := by
  unfold F_X5_wrongWith at h0 ⊢
  rw [cl (by omega)] at h0 ⊢
  rw [(h.1 j hj).2.1, hr, brokenFrom_congr hF hcc h, hw, cloudsOver_congr hcc h hj hc]
  by_cases p1 : v 1 j 3 = (-1 : Int32)
  · rw [if_pos p1] at h0
    exact absurd h0 (by decide)
  · rw [if_neg p1] at h0 ⊢
    by_cases p2 : row j = v 1 j 3
    · rw [if_pos p2] at h0 ⊢
      by_cases p3 : F_X5_brokenFrom c v w (nI j) ≤ 0
      · rw [if_pos p3] at h0 ⊢
        by_cases p4 : F_X5_cloudsOver c v w (nI j) (w 7 i 0) ≤ 0
        · rw [if_pos p4] at h0 ⊢
          by_cases p5 : v 1 j 5 < (3 : Int32)
          · rw [if_pos (hm p5)]
          · rw [if_neg p5] at h0
            exact absurd h0 (by decide)
        · rw [if_neg p4] at h0
          exact absurd h0 (by decide)
      · rw [if_neg p3] at h0
        exact absurd h0 (by decide)
    · rw [if_neg p2] at h0
      exact absurd h0 (by decide)
theorem FL_firstUnfit_iff {c : SC} {v : SV} {w : SW} {i : Nat} {row : Nat → Int32} (hc : c 0 ≤ 5) : ∀ k j, j + k = c 0 → (FL_X5_firstUnfit c v w i row k j = -1 ↔ ∀ q, j ≤ q → q < c 0 → F_X5_isIn (v 7 i 1) (nI q) = 0 ∨ F_X5_wrongWith c v w i row (nI q) = 0) := by
  intro k
  induction k with
  | zero => intro j hj; exact ⟨fun _ q h1 h2 => absurd h2 (by omega), fun _ => rfl⟩
  | succ k ih =>
    intro j hj
    have h1 := ih (j + 1) (by omega)
    have hne : ¬ nI j = -1 := ne_m1 (nI_pos (by omega))
    have e : FL_X5_firstUnfit c v w i row (k + 1) j = (if (F_X5_isIn (v 7 i 1) (nI j)) = 0 then (FL_X5_firstUnfit c v w i row k (j + 1)) else (if (F_X5_wrongWith c v w i row (nI j)) = 0 then (FL_X5_firstUnfit c v w i row k (j + 1)) else (nI j))) := rfl
    rw [e]
    by_cases a : F_X5_isIn (v 7 i 1) (nI j) = 0
    · rw [if_pos a, h1]
      refine ⟨fun h q hq hq2 => ?_, fun h q hq hq2 => h q (by omega) hq2⟩
      rcases Nat.eq_or_lt_of_le hq with rfl | hlt
      · exact Or.inl a
      · exact h q (by omega) hq2
    · rw [if_neg a]
      by_cases b : F_X5_wrongWith c v w i row (nI j) = 0
      · rw [if_pos b, h1]
        refine ⟨fun h q hq hq2 => ?_, fun h q hq hq2 => h q (by omega) hq2⟩
        rcases Nat.eq_or_lt_of_le hq with rfl | hlt
        · exact Or.inr b
        · exact h q (by omega) hq2
      · rw [if_neg b]
        refine ⟨fun h => absurd h hne, fun h => ?_⟩
        rcases h j (Nat.le_refl j) (by omega) with h2 | h2
        · exact absurd h2 a
        · exact absurd h2 b
theorem firstUnfit_iff {c : SC} {v : SV} {w : SW} {i : Nat} {row : Nat → Int32} (hc : c 0 ≤ 5) : F_X5_firstUnfit c v w i row = -1 ↔ ∀ q, q < c 0 → F_X5_isIn (v 7 i 1) (nI q) = 0 ∨ F_X5_wrongWith c v w i row (nI q) = 0 := by
  unfold F_X5_firstUnfit
  rw [FL_firstUnfit_iff hc (c 0) 0 (by omega)]
  exact ⟨fun h q hq => h q (Nat.zero_le q) hq, fun h q _ hq => h q hq⟩
theorem firstUnfit_good {c c2 : SC} {v v2 : SV} {w w2 : SW} (hF : WF c v) (hcc : CC c c2) (h : AGS c v v2 w w2) (hc : c 0 ≤ 5) {i : Nat} {row row2 : Nat → Int32} (hp : v2 7 i 1 = v 7 i 1) (hw : w2 7 i 0 = w 7 i 0) (hr : ∀ j, j < c 0 → row2 j = row j) (hm : ∀ j, j < c 0 → v 1 j 5 < 3 → v2 1 j 5 < 3) (h0 : F_X5_firstUnfit c v w i row = -1) : F_X5_firstUnfit c2 v2 w2 i row2 = -1 := by
  rw [firstUnfit_iff hc] at h0
  rw [firstUnfit_iff (by rw [hcc.1]; exact hc)]
  intro q hq
  rw [hcc.1] at hq
  rw [hp]
  exact (h0 q hq).imp id (fun h1 => wrongWith_good hF hcc h hc hq hw (hr q hq) (hm q hq) h1)
/-- the same both ways, where the marks are the same -/
theorem firstUnfit_same {c : SC} {v v2 : SV} {w w2 : SW} (hF : WF c v) (hF2 : WF c v2) (h : AGS c v v2 w w2) (hc : c 0 ≤ 5) {i : Nat} {row row2 : Nat → Int32} (hp : v2 7 i 1 = v 7 i 1) (hw : w2 7 i 0 = w 7 i 0) (hr : ∀ j, j < c 0 → row2 j = row j) (hm : ∀ j, j < c 0 → v2 1 j 5 = v 1 j 5) : F_X5_firstUnfit c v2 w2 i row2 = -1 ↔ F_X5_firstUnfit c v w i row = -1 := by
  refine ⟨fun h0 => ?_, fun h0 => firstUnfit_good hF ⟨rfl, rfl, rfl⟩ h hc hp hw hr (fun j hj hlt => by rw [hm j hj]; exact hlt) h0⟩
  have h2 : AGS c v2 v w2 w := ⟨fun i hi => by obtain ⟨a, b, d, e, f⟩ := h.1 i hi; exact ⟨a.symm, b.symm, d.symm, e.symm, f.symm⟩, fun i f hi => (h.2.1 i f hi).symm, fun i hi => by obtain ⟨a, b, d⟩ := h.2.2 i hi; exact ⟨a.symm, b.symm, d.symm⟩⟩
  exact firstUnfit_good hF2 ⟨rfl, rfl, rfl⟩ h2 hc hp.symm hw.symm (fun j hj => (hr j hj).symm) (fun j hj hlt => by rw [← hm j hj]; exact hlt) h0
/-! stopping -/
def UNF (c : SC) (v : SV) (w : SW) (i : Nat) : Bool := decide (v 7 i 3 = 1) && !decide (F_X5_firstUnfit c v w i (v 57 (v 7 i 0).toNatClampNeg) = -1)
theorem UNF_iff {c : SC} {v : SV} {w : SW} {i : Nat} : UNF c v w i = true ↔ v 7 i 3 = 1 ∧ ¬ F_X5_firstUnfit c v w i (v 57 (v 7 i 0).toNatClampNeg) = -1 := by
  unfold UNF
  simp
theorem unfit_mask {c : SC} {v : SV} {w : SW} (hc : c 4 ≤ 8) : ∃ m, m < 2 ^ (c 4) ∧ F_X5_unfitRunning c v w = nI m ∧ F_J6_bitCount_0f7a4 (nI m) = nI (cnt (UNF c v w) (c 4)) ∧ ∀ j, j < 8 → (F_X5_isIn (nI m) (nI j) = 0 ↔ ¬ (j < c 4 ∧ UNF c v w j = true)) := by
  have key : ∀ k i m, i + k = c 4 → m < 2 ^ i → F_J6_bitCount_0f7a4 (nI m) = nI (cnt (UNF c v w) i) → (∀ j, j < 8 → (F_X5_isIn (nI m) (nI j) = 0 ↔ ¬ (j < i ∧ UNF c v w j = true))) →
      ∃ m2, m2 < 2 ^ (c 4) ∧ FL_X5_unfitRunning c v w k i (nI m) = nI m2 ∧ F_J6_bitCount_0f7a4 (nI m2) = nI (cnt (UNF c v w) (c 4)) ∧ ∀ j, j < 8 → (F_X5_isIn (nI m2) (nI j) = 0 ↔ ¬ (j < c 4 ∧ UNF c v w j = true)) := by
    intro k
    induction k with
    | zero =>
      intro i m hi hm hb hj
      obtain rfl : i = c 4 := by omega
      exact ⟨m, hm, rfl, hb, hj⟩
    | succ k ih =>
      intro i m hi hm hb hj
      have hp : 2 ^ i < 2 ^ (i + 1) := Nat.pow_lt_pow_right (by decide) (Nat.lt_succ_self i)
      have hp2 : 2 ^ (i + 1) = 2 ^ i + 2 ^ i := by rw [Nat.pow_succ]; omega
      by_cases hu : UNF c v w i = true
      · obtain ⟨e1, e2, e3⟩ := msk_step (n := i) (m := m) (by omega) hm
        have e4 : FL_X5_unfitRunning c v w (k + 1) i (nI m) = FL_X5_unfitRunning c v w k (i + 1) (nI (m + 2 ^ i)) := by
          show FL_X5_unfitRunning c v w k (i + 1) _ = _
          rw [if_pos (UNF_iff.mp hu).1, if_neg (UNF_iff.mp hu).2, e1]
        rw [e4]
        refine ih (i + 1) (m + 2 ^ i) (by omega) (by omega) ?_ (fun j hj8 => ?_)
        · rw [e2, hb, nI_1]
          show _ = nI (if UNF c v w i = true then cnt (UNF c v w) i + 1 else cnt (UNF c v w) i)
          rw [if_pos hu]
        · rw [e3 j hj8, hj j hj8]
          constructor
          · rintro ⟨h1, h2⟩ ⟨h3, h4⟩
            exact h1 ⟨by omega, h4⟩
          · intro h1
            refine ⟨fun h2 => h1 ⟨by omega, h2.2⟩, fun h2 => h1 ⟨by omega, h2 ▸ hu⟩⟩
      · have e4 : FL_X5_unfitRunning c v w (k + 1) i (nI m) = FL_X5_unfitRunning c v w k (i + 1) (nI m) := by
          show FL_X5_unfitRunning c v w k (i + 1) _ = _
          by_cases h1 : v 7 i 3 = 1
          · rw [if_pos h1]
            by_cases h2 : F_X5_firstUnfit c v w i (v 57 (v 7 i 0).toNatClampNeg) = -1
            · rw [if_pos h2]
            · exact absurd (UNF_iff.mpr ⟨h1, h2⟩) hu
          · rw [if_neg h1]
        rw [e4]
        refine ih (i + 1) m (by omega) (by omega) ?_ (fun j hj8 => ?_)
        · rw [hb]
          show _ = nI (if UNF c v w i = true then cnt (UNF c v w) i + 1 else cnt (UNF c v w) i)
          rw [if_neg hu]
        · rw [hj j hj8]
          constructor
          · rintro h1 ⟨h3, h4⟩
            rcases Nat.lt_or_ge j i with h5 | h5
            · exact h1 ⟨h5, h4⟩
            · obtain rfl : j = i := by omega
              exact hu h4
          · rintro h1 ⟨h3, h4⟩
            exact h1 ⟨by omega, h4⟩
  exact key (c 4) 0 0 (by omega) (by decide) (by rw [msk_0.1]; rfl) (fun j hj => ⟨fun _ h => absurd h.1 (by omega), fun _ => msk_0.2 j hj⟩)
theorem mask_in {c : SC} {v : SV} {w : SW} (hc : c 4 ≤ 8) {j : Nat} (hj : j < c 4) : F_X5_isIn (F_X5_unfitRunning c v w) (nI j) = 0 ↔ ¬ UNF c v w j = true := by
  obtain ⟨m, -, e, -, h⟩ := unfit_mask (c := c) (v := v) (w := w) hc
  rw [e, h j (by omega)]
  exact ⟨fun q h2 => q ⟨hj, h2⟩, fun q h2 => q h2.2⟩
theorem stop_count {c : SC} {v : SV} {w : SW} (hc : c 4 ≤ 8) : F_X5_stopUnfit c v w = nI (cnt (UNF c v w) (c 4)) := by
  obtain ⟨m, -, e, e2, -⟩ := unfit_mask (c := c) (v := v) (w := w) hc
  unfold F_X5_stopUnfit
  rw [e, e2]
theorem VL_stop {c : SC} {v : SV} {w : SW} (hc : c 4 ≤ 8) : ∀ (k i : Nat) (V : SV), i + k = c 4 → (∀ a b f, ¬ (a = 7 ∧ (f = 3 ∨ f = 4)) → VL_X5_stopUnfit c v w k i V a b f = V a b f) ∧ ∀ j, VL_X5_stopUnfit c v w k i V 7 j 3 = if i ≤ j ∧ j < c 4 ∧ UNF c v w j = true then 2 else V 7 j 3 := by
  intro k
  induction k with
  | zero =>
    intro i V hi
    refine ⟨fun _ _ _ _ => rfl, fun j => ?_⟩
    rw [if_neg (by omega)]
    rfl
  | succ k ih =>
    intro i V hi
    have hm := mask_in (c := c) (v := v) (w := w) hc (j := i) (by omega)
    by_cases hu : UNF c v w i = true
    · have e : VL_X5_stopUnfit c v w (k + 1) i V = VL_X5_stopUnfit c v w k (i + 1) (uV (uV V 7 i 3 2) 7 i 4 ((V 7 i 4) + (1 : Int32))) := by
        show VL_X5_stopUnfit c v w k (i + 1) _ = _
        rw [if_neg (fun q => hm.mp q hu)]
      rw [e]
      obtain ⟨h1, h2⟩ := ih (i + 1) (uV (uV V 7 i 3 2) 7 i 4 ((V 7 i 4) + (1 : Int32))) (by omega)
      refine ⟨fun a b f h => ?_, fun j => ?_⟩
      · rw [h1 a b f h]
        have e1 : ¬ (a = 7 ∧ f = 4 ∧ b = i) := fun q => h ⟨q.1, Or.inr q.2.1⟩
        have e2 : ¬ (a = 7 ∧ f = 3 ∧ b = i) := fun q => h ⟨q.1, Or.inl q.2.1⟩
        simp only [uV, if_neg e1, if_neg e2]
      · rw [h2 j]
        by_cases hj : j = i
        · subst hj
          rw [if_neg (by omega), if_pos ⟨Nat.le_refl j, by omega, hu⟩]
          simp [uV]
        · have e3 : uV (uV V 7 i 3 2) 7 i 4 ((V 7 i 4) + (1 : Int32)) 7 j 3 = V 7 j 3 := by simp [uV, hj]
          rw [e3]
          by_cases h5 : i + 1 ≤ j ∧ j < c 4 ∧ UNF c v w j = true
          · rw [if_pos h5, if_pos ⟨by omega, h5.2⟩]
          · rw [if_neg h5, if_neg (fun q => h5 ⟨by omega, q.2⟩)]
    · have e : VL_X5_stopUnfit c v w (k + 1) i V = VL_X5_stopUnfit c v w k (i + 1) V := by
        show VL_X5_stopUnfit c v w k (i + 1) _ = _
        rw [if_pos (hm.mpr hu)]
      rw [e]
      obtain ⟨h1, h2⟩ := ih (i + 1) V (by omega)
      refine ⟨h1, fun j => ?_⟩
      rw [h2 j]
      by_cases h5 : i + 1 ≤ j ∧ j < c 4 ∧ UNF c v w j = true
      · rw [if_pos h5, if_pos ⟨by omega, h5.2⟩]
      · have h6 : ¬ (i ≤ j ∧ j < c 4 ∧ UNF c v w j = true) := by
          rintro ⟨q1, q2, q3⟩
          rcases Nat.eq_or_lt_of_le q1 with rfl | hlt
          · exact hu q3
          · exact h5 ⟨hlt, q2, q3⟩
        rw [if_neg h5, if_neg h6]
theorem stop_frame {c : SC} {v : SV} {w : SW} (hc : c 4 ≤ 8) {a b f : Nat} (h : ¬ (a = 7 ∧ (f = 3 ∨ f = 4))) : V_X5_stopUnfit c v w a b f = v a b f := (VL_stop (c := c) (v := v) (w := w) hc (c 4) 0 v (by omega)).1 a b f h
theorem stop_state {c : SC} {v : SV} {w : SW} (hc : c 4 ≤ 8) {j : Nat} (hj : j < c 4) : V_X5_stopUnfit c v w 7 j 3 = if UNF c v w j = true then 2 else v 7 j 3 := by
  have h := (VL_stop (c := c) (v := v) (w := w) hc (c 4) 0 v (by omega)).2 j
  rw [show V_X5_stopUnfit c v w 7 j 3 = VL_X5_stopUnfit c v w (c 4) 0 v 7 j 3 from rfl, h]
  by_cases hu : UNF c v w j = true
  · rw [if_pos ⟨Nat.zero_le j, hj, hu⟩, if_pos hu]
  · rw [if_neg (fun q => hu q.2.2), if_neg hu]
/-- as INV, but for that what works is good -/
def PKG0 (c : SC) (v : SV) (i : Nat) : Prop := ∃ cr s d st : Nat, cr < 4 ∧ s < c 0 ∧ d ≤ 4 ∧ st ≤ 3 ∧ v 7 i 0 = nI cr ∧ v 7 i 1 = (1 : Int32) <<< (nI s &&& 31) ∧ v 7 i 2 = nI d ∧ v 7 i 3 = nI st ∧ (st = 3 ↔ d = 0)
def INV0 (c : SC) (v : SV) (w : SW) : Prop := (c 0 ≤ 5 ∧ c 1 ≤ 20 ∧ c 2 ≤ 20 ∧ c 3 ≤ 20 ∧ c 4 ≤ 8) ∧ (∀ i, i < c 0 → SHT v w i) ∧ (∀ i, i < c 1 → ∃ t, t < c 0 ∧ v 2 i 1 = nI t) ∧ (∀ i, i < c 3 → v 4 i 1 = 0) ∧ ∀ i, i < c 4 → PKG0 c v i
theorem INV_0 {c : SC} {v : SV} {w : SW} (h : INV c v w) : INV0 c v w := by
  obtain ⟨h1, h2, h3, h4, h5⟩ := h
  refine ⟨h1, h2, h3, h4, fun i hi => ?_⟩
  obtain ⟨cr, s, d, st, a1, a2, a3, a4, a5, a6, a7, a8, a9, -⟩ := h5 i hi
  exact ⟨cr, s, d, st, a1, a2, a3, a4, a5, a6, a7, a8, a9⟩
theorem INV0_wf {c : SC} {v : SV} {w : SW} (h : INV0 c v w) : WF c v := by
  obtain ⟨⟨h0, h1, h2, h3, h4⟩, hs, hr, hq, hp⟩ := h
  refine ⟨fun i hi => ?_, fun i hi => ?_, fun i hi => ?_⟩
  · obtain ⟨t, ht, e⟩ := hr i hi
    rw [e]
    exact ⟨nI_pos (by omega), by rw [cl (by omega)]; exact ht⟩
  · obtain ⟨cr, s, d, st, hcr, -, -, -, e, -⟩ := hp i hi
    rw [e]
    exact ⟨nI_pos (by omega), by rw [cl (by omega)]; exact hcr⟩
  · obtain ⟨L, K, hL, -, -, e, -⟩ := hs i hi
    rw [e]
    exact ⟨nI_pos (by omega), by rw [cl (by omega)]; omega⟩
/-- a sheet is the same where its fields are -/
theorem SHT_same {v v2 : SV} {w w2 : SW} {i : Nat} (h : SHT v w i) (h1 : v2 1 i 1 = v 1 i 1) (h3 : v2 1 i 3 = v 1 i 3) (h6 : v2 1 i 6 = v 1 i 6) (h4 : v2 1 i 4 = v 1 i 4) (h12 : ∀ r, v2 12 i r = v 12 i r) (hw : w2 1 i 0 = w 1 i 0) (hw11 : ∀ r, w2 11 i r = w 11 i r) : SHT v2 w2 i := by
  obtain ⟨L, K, a1, a2, a3, a4, a5, a6, a7, a8, a9⟩ := h
  refine ⟨L, K, a1, a2, a3, h1.trans a4, h3.trans a5, h6.trans a6, ?_, ?_, fun r hr => ?_⟩
  · rw [hw, hw11]; exact a7
  · rw [h4, h12]; exact a8
  · rw [hw11]; exact a9 r hr
theorem AGS_rfl {c : SC} {v v2 : SV} {w w2 : SW} (h1 : ∀ i f, v2 1 i f = v 1 i f ∨ (f ≠ 0 ∧ f ≠ 3 ∧ f ≠ 4 ∧ f ≠ 6)) (h2 : ∀ i f, v2 2 i f = v 2 i f) (h4 : ∀ i f, i < c 3 → v2 4 i f = v 4 i f) (w1 : ∀ i, w2 1 i 0 = w 1 i 0) (w4 : ∀ i, i < c 3 → w2 4 i 0 = w 4 i 0) : AGS c v v2 w w2 :=
  ⟨fun i _ => ⟨(h1 i 0).elim id (fun q => absurd rfl q.1), (h1 i 3).elim id (fun q => absurd rfl q.2.1), (h1 i 4).elim id (fun q => absurd rfl q.2.2.1), (h1 i 6).elim id (fun q => absurd rfl q.2.2.2), w1 i⟩, fun i f _ => h2 i f, fun i hi => ⟨h4 i 0 hi, h4 i 1 hi, w4 i hi⟩⟩
theorem INV_stop {c : SC} {v : SV} {w : SW} (h : INV0 c v w) : INV c (V_X5_stopUnfit c v w) w := by
  have hF := INV0_wf h
  obtain ⟨⟨h0, h1, h2, h3, h4⟩, hs, hr, hq, hp⟩ := h
  have fr : ∀ a b f, ¬ (a = 7 ∧ (f = 3 ∨ f = 4)) → V_X5_stopUnfit c v w a b f = v a b f := fun a b f h => stop_frame h4 h
  refine ⟨⟨h0, h1, h2, h3, h4⟩, fun i hi => ?_, fun i hi => ?_, fun i hi => ?_, fun i hi => ?_⟩
  · exact SHT_same (hs i hi) (fr _ _ _ (by omega)) (fr _ _ _ (by omega)) (fr _ _ _ (by omega)) (fr _ _ _ (by omega)) (fun r => fr _ _ _ (by omega)) rfl (fun _ => rfl)
  · rw [fr _ _ _ (by omega)]; exact hr i hi
  · rw [fr _ _ _ (by omega)]; exact hq i hi
  · obtain ⟨cr, s, d, st, a1, a2, a3, a4, a5, a6, a7, a8, a9⟩ := hp i hi
    have hst := stop_state (c := c) (v := v) (w := w) h4 hi
    by_cases hu : UNF c v w i = true
    · rw [if_pos hu] at hst
      have h8 := (UNF_iff.mp hu).1
      have hst1 : st = 1 := by
        rw [a8] at h8
        exact (nI_eq (by omega) (by omega)).mp (show nI st = nI 1 from h8)
      refine ⟨cr, s, d, 2, a1, a2, a3, by omega, by rw [fr _ _ _ (by omega)]; exact a5, by rw [fr _ _ _ (by omega)]; exact a6, by rw [fr _ _ _ (by omega)]; exact a7, hst, ⟨fun q => absurd q (by omega), fun q => ?_⟩, fun q => absurd q (by omega)⟩
      have := a9.mpr q
      omega
    · rw [if_neg hu] at hst
      refine ⟨cr, s, d, st, a1, a2, a3, a4, by rw [fr _ _ _ (by omega)]; exact a5, by rw [fr _ _ _ (by omega)]; exact a6, by rw [fr _ _ _ (by omega)]; exact a7, hst.trans a8, a9, fun q => ?_⟩
      subst q
      have h9 : F_X5_firstUnfit c v w i (v 57 (v 7 i 0).toNatClampNeg) = -1 := by
        by_cases hx : F_X5_firstUnfit c v w i (v 57 (v 7 i 0).toNatClampNeg) = -1
        · exact hx
        · exact absurd (UNF_iff.mpr ⟨a8, hx⟩) hu
      rw [a5, cl (by omega)] at h9
      exact firstUnfit_good hF ⟨rfl, rfl, rfl⟩ (AGS_rfl (fun i f => Or.inl (fr _ _ _ (by omega))) (fun i f => fr _ _ _ (by omega)) (fun i f _ => fr _ _ _ (by omega)) (fun _ => rfl) (fun _ _ => rfl)) h0 (fr _ _ _ (by omega)) rfl (fun j _ => fr _ _ _ (by omega)) (fun j _ hlt => by rw [fr _ _ _ (by omega)]; exact hlt) h9
/-! how many packages are in a state -/
def IS (v : SV) (st : Int32) (i : Nat) : Bool := decide (v 7 i 3 = st)
theorem packs_cnt {c : SC} {v : SV} {w : SW} (x1 : Int32) : F_X5_packagesThatAre c v w x1 = nI (cnt (IS v x1) (c 4)) := by
  have key : ∀ k i, i + k = c 4 → FL_X5_packagesThatAre c v w x1 k i (nI (cnt (IS v x1) i)) = nI (cnt (IS v x1) (c 4)) := by
    intro k
    induction k with
    | zero =>
      intro i hi
      obtain rfl : i = c 4 := by omega
      rfl
    | succ k ih =>
      intro i hi
      rw [← ih (i + 1) (by omega)]
      show FL_X5_packagesThatAre c v w x1 k (i + 1) _ = FL_X5_packagesThatAre c v w x1 k (i + 1) _
      congr 1
      show _ = nI (if IS v x1 i = true then cnt (IS v x1) i + 1 else cnt (IS v x1) i)
      by_cases h : v 7 i 3 = x1
      · rw [if_pos h, if_pos (by unfold IS; simp [h]), nI_1]
      · rw [if_neg h, if_neg (by unfold IS; simp [h])]
  exact key (c 4) 0 (by omega)
theorem states_all {c : SC} {v : SV} {w : SW} (h : INV c v w) : F_X5_many8 c v w + F_X5_many9 c v w + F_X5_many10 c v w + F_X5_many11 c v w = nI (c 4) := by
  unfold F_X5_many8 F_X5_many9 F_X5_many10 F_X5_many11
  rw [packs_cnt, packs_cnt, packs_cnt, packs_cnt, nI_add, nI_add, nI_add]
  congr 1
  have key : ∀ n, n ≤ c 4 → cnt (IS v 0) n + cnt (IS v 1) n + cnt (IS v 2) n + cnt (IS v 3) n = n := by
    intro n
    induction n with
    | zero => intro _; rfl
    | succ n ih =>
      intro hn
      have h1 := ih (by omega)
      obtain ⟨cr, s, d, st, -, -, -, a4, -, -, -, a8, -⟩ := h.2.2.2.2 n (by omega)
      have hst : v 7 n 3 = 0 ∨ v 7 n 3 = 1 ∨ v 7 n 3 = 2 ∨ v 7 n 3 = 3 := by
        rw [a8]
        rcases (show st = 0 ∨ st = 1 ∨ st = 2 ∨ st = 3 by omega) with rfl | rfl | rfl | rfl
        · exact Or.inl rfl
        · exact Or.inr (Or.inl rfl)
        · exact Or.inr (Or.inr (Or.inl rfl))
        · exact Or.inr (Or.inr (Or.inr rfl))
      unfold cnt
      rcases hst with e | e | e | e
      · rw [if_pos (by simp [IS, e]), if_neg (by simp [IS, e]), if_neg (by simp [IS, e]), if_neg (by simp [IS, e])]; omega
      · rw [if_neg (by simp [IS, e]), if_pos (by simp [IS, e]), if_neg (by simp [IS, e]), if_neg (by simp [IS, e])]; omega
      · rw [if_neg (by simp [IS, e]), if_neg (by simp [IS, e]), if_pos (by simp [IS, e]), if_neg (by simp [IS, e])]; omega
      · rw [if_neg (by simp [IS, e]), if_neg (by simp [IS, e]), if_neg (by simp [IS, e]), if_pos (by simp [IS, e])]; omega
  exact key (c 4) (Nat.le_refl _)
/-! the single calls -/
theorem INV_check {c : SC} {v : SV} {w : SW} (h : INV c v w) {s : Nat} (hs : s < c 0) : INV c (V_X5_check c v w (nI s)) w := by
  have hF := INV_wf h
  obtain ⟨hb, hsh, hr, hq, hp⟩ := h
  have hc : (nI s).toNatClampNeg = s := cl (by omega)
  unfold V_X5_check
  rw [hc]
  have e1 : ∀ i f, f ≠ 2 → uV v 1 s 2 1 1 i f = v 1 i f := fun i f hf => uV_f hf
  refine ⟨hb, fun i hi => SHT_same (hsh i hi) (e1 _ _ (by decide)) (e1 _ _ (by decide)) (e1 _ _ (by decide)) (e1 _ _ (by decide)) (fun _ => rfl) rfl (fun _ => rfl), hr, hq, fun i hi => ?_⟩
  obtain ⟨cr, s2, d, st, a1, a2, a3, a4, a5, a6, a7, a8, a9, a10⟩ := hp i hi
  exact ⟨cr, s2, d, st, a1, a2, a3, a4, a5, a6, a7, a8, a9, fun q => firstUnfit_good hF ⟨rfl, rfl, rfl⟩ (AGS_rfl (fun i f => by by_cases hf : f = 2; exact Or.inr (by omega); exact Or.inl (e1 i f hf)) (fun _ _ => rfl) (fun _ _ _ => rfl) (fun _ => rfl) (fun _ _ => rfl)) hb.1 rfl rfl (fun _ _ => rfl) (fun j _ hlt => by rw [e1 j 5 (by decide)]; exact hlt) (a10 q)⟩
theorem check_ans {c : SC} {v : SV} {w : SW} (h : INV c v w) {s : Nat} (hs : s < c 0) : F_X5_check c v w (nI s) = F_X5_ofSheet7 c (V_X5_check c v w (nI s)) w (nI s) := by
  unfold F_X5_check F_X5_ofSheet7 V_X5_check
  rfl
theorem closePromised_id {c : SC} {v : SV} {w : SW} {x1 : Int32} (h : ∀ i, i < c 3 → v 4 i 1 = 0) : V_X5_closePromised c v w x1 = v := by
  have key : ∀ k i, i + k = c 3 → VL_X5_closePromised c v w x1 k i v = v := by
    intro k
    induction k with
    | zero => intro i _; rfl
    | succ k ih =>
      intro i hi
      show VL_X5_closePromised c v w x1 k (i + 1) _ = v
      have e : (if (v 4 i 0) = x1 then (if (v 4 i 1) = (1 : Int32) then (uV v 4 i 1 2) else v) else v) = v := by
        rw [h i (by omega), if_neg (show ¬ (0 : Int32) = 1 by decide)]
        split <;> rfl
      rw [e]
      exact ih (i + 1) (by omega)
  exact key (c 3) 0 (by omega)
/-- issued: by the sheet's own last revision, then what must stop is stopped -/
theorem INV0_set {c : SC} {v : SV} {w : SW} (h : INV c v w) {s : Nat} (hs : s < c 0) : INV0 c (V_X3_setIssued c v w s (v 1 s 1)) (W_X3_setIssued c v w s (v 1 s 1)) := by
  obtain ⟨hb, hsh, hr, hq, hp⟩ := INV_0 h
  refine ⟨hb, fun i hi => ?_, hr, hq, hp⟩
  by_cases e : i = s
  · subst e
    obtain ⟨L, K, a1, a2, a3, a4, a5, a6, a7, a8, a9⟩ := hsh i hi
    have hc : (v 1 i 1).toNatClampNeg = L := by rw [a4]; exact cl (by omega)
    refine ⟨L, L, a1, Nat.le_refl L, Nat.le_succ L, ?_, ?_, ?_, ?_, ?_, fun r hr => ?_⟩
    · show V_X3_setIssued c v w i (v 1 i 1) 1 i 1 = nI L
      exact (uV_f (by decide)).trans ((uV_f (by decide)).trans a4)
    · show V_X3_setIssued c v w i (v 1 i 1) 1 i 3 = nI L
      exact (uV_f (by decide)).trans (uV_eq.trans a4)
    · show V_X3_setIssued c v w i (v 1 i 1) 1 i 6 = 0
      exact (uV_f (by decide)).trans ((uV_f (by decide)).trans a6)
    · show W_X3_setIssued c v w i (v 1 i 1) 1 i 0 = W_X3_setIssued c v w i (v 1 i 1) 11 i L
      rw [show W_X3_setIssued c v w i (v 1 i 1) 1 i 0 = w 11 i (v 1 i 1).toNatClampNeg from uW_eq, hc]
      rfl
    · show V_X3_setIssued c v w i (v 1 i 1) 1 i 4 = V_X3_setIssued c v w i (v 1 i 1) 12 i L
      rw [show V_X3_setIssued c v w i (v 1 i 1) 1 i 4 = v 12 i (v 1 i 1).toNatClampNeg from uV_eq, hc]
      rfl
    · exact a9 r hr
  · have e1 : ∀ f, V_X3_setIssued c v w s (v 1 s 1) 1 i f = v 1 i f := fun f => (uV_ne (fun q => e q.2)).trans (uV_ne (fun q => e q.2))
    have e2 : ∀ f, W_X3_setIssued c v w s (v 1 s 1) 1 i f = w 1 i f := fun f => uW_ne (fun q => e q.2)
    exact SHT_same (hsh i hi) (e1 _) (e1 _) (e1 _) (e1 _) (fun _ => rfl) (e2 _) (fun _ => rfl)
theorem issue_eqs {c : SC} {v : SV} {w : SW} (h : INV c v w) {s : Nat} (hs : s < c 0) : V_X5_issue c v w (nI s) = V_X5_stopUnfit c (V_X3_setIssued c v w s (v 1 s 1)) (W_X3_setIssued c v w s (v 1 s 1)) ∧ W_X5_issue c v w (nI s) = W_X3_setIssued c v w s (v 1 s 1) ∧ F_X5_issue c v w (nI s) = F_X5_stopUnfit c (V_X3_setIssued c v w s (v 1 s 1)) (W_X3_setIssued c v w s (v 1 s 1)) := by
  have hc : (nI s).toNatClampNeg = s := cl (by have := h.1; omega)
  have e := closePromised_id (c := c) (v := V_X3_setIssued c v w s (v 1 s 1)) (w := W_X3_setIssued c v w s (v 1 s 1)) (x1 := nI s) h.2.2.2.1
  unfold V_X5_issue W_X5_issue F_X5_issue
  rw [hc, e]
  exact ⟨rfl, rfl, rfl⟩
theorem INV_issue {c : SC} {v : SV} {w : SW} (h : INV c v w) {s : Nat} (hs : s < c 0) : INV c (V_X5_issue c v w (nI s)) (W_X5_issue c v w (nI s)) := by
  obtain ⟨e1, e2, -⟩ := issue_eqs h hs
  rw [e1, e2]
  exact INV_stop (INV0_set h hs)
/-- what issue answers is what stoppedBy said, and so many more are stopped -/
theorem issue_ans {c : SC} {v : SV} {w : SW} (h : INV c v w) {s : Nat} (hs : s < c 0) (hr : ¬ F_X5_isReadyToIssue c v w (nI s) = 0) : F_X5_issue c v w (nI s) = F_X5_stoppedBy c v w (nI s) := by
  obtain ⟨-, -, e3⟩ := issue_eqs h hs
  have hc : (nI s).toNatClampNeg = s := cl (by have := h.1; omega)
  rw [e3]
  unfold F_X5_stoppedBy F_X5_stopUnfit
  rw [if_neg hr, hc]
theorem stop_many {c : SC} {v : SV} {w : SW} (hc : c 4 ≤ 8) : F_X5_many10 c (V_X5_stopUnfit c v w) w = F_X5_many10 c v w + F_X5_stopUnfit c v w := by
  unfold F_X5_many10
  rw [packs_cnt, packs_cnt, stop_count hc, nI_add]
  congr 1
  refine cnt_add (c 4) (fun i hi => ⟨?_, ?_⟩)
  · unfold IS
    rw [stop_state hc hi]
    cases hu : UNF c v w i
    · simp
    · simp
  · rintro ⟨h1, h2⟩
    have h3 := (UNF_iff.mp h2).1
    unfold IS at h1
    rw [h3] at h1
    exact absurd h1 (by decide)
theorem many10_w {c : SC} {v : SV} {w w2 : SW} : F_X5_many10 c v w = F_X5_many10 c v w2 := by
  unfold F_X5_many10
  rw [packs_cnt, packs_cnt]
theorem issue_many {c : SC} {v : SV} {w : SW} (h : INV c v w) {s : Nat} (hs : s < c 0) : F_X5_many10 c (V_X5_issue c v w (nI s)) (W_X5_issue c v w (nI s)) = F_X5_many10 c v w + F_X5_issue c v w (nI s) := by
  obtain ⟨e1, e2, e3⟩ := issue_eqs h hs
  rw [e1, e2, e3, stop_many h.1.2.2.2.2]
  have e4 : F_X5_many10 c (V_X3_setIssued c v w s (v 1 s 1)) (W_X3_setIssued c v w s (v 1 s 1)) = F_X5_many10 c v w := by
    unfold F_X5_many10
    rw [packs_cnt, packs_cnt]
    exact congrArg nI (cnt_congr (c 4) (fun i _ => rfl))
  rw [e4]
theorem issue_last {c : SC} {v : SV} {w : SW} (h : INV c v w) {s : Nat} (hs : s < c 0) : F_X5_ofSheet2 c (V_X5_issue c v w (nI s)) (W_X5_issue c v w (nI s)) (nI s) = F_X5_ofSheet1 c (V_X5_issue c v w (nI s)) (W_X5_issue c v w (nI s)) (nI s) - 1 := by
  obtain ⟨e1, e2, e3⟩ := issue_eqs h hs
  have h4 := h.1.2.2.2.2
  have hc : (nI s).toNatClampNeg = s := cl (by have := h.1; omega)
  unfold F_X5_ofSheet2 F_X5_ofSheet1
  rw [e1, hc, stop_frame h4 (by omega), stop_frame h4 (by omega)]
  rw [show V_X3_setIssued c v w s (v 1 s 1) 1 s 3 = v 1 s 1 from (uV_f (by decide)).trans uV_eq, show V_X3_setIssued c v w s (v 1 s 1) 1 s 1 = v 1 s 1 from (uV_f (by decide)).trans (uV_f (by decide))]
  exact (Int32.add_sub_cancel (v 1 s 1) 1).symm
/-- a new revision -/
theorem INV_revise {c : SC} {v : SV} {w : SW} (h : INV c v w) {s : Nat} (hs : s < c 0) (h2 : v 1 s 3 = v 1 s 1) (hl : v 1 s 1 + 1 < 6) : INV c (V_X5_revise c v w (nI s)) (W_X5_revise c v w (nI s)) := by
  have hF := INV_wf h
  obtain ⟨hb, hsh, hr, hq, hp⟩ := h
  have hc : (nI s).toNatClampNeg = s := cl (by omega)
  obtain ⟨L, K, a1, a2, a3, a4, a5, a6, a7, a8, a9⟩ := hsh s hs
  have hKL : K = L := by
    rw [a4, a5] at h2
    exact (nI_eq (by omega) (by omega)).mp h2
  subst hKL
  have hL : K + 1 ≤ 5 := by
    rw [a4, nI_1, Int32.lt_iff_toInt_lt, nI_toInt (by omega)] at hl
    have h7 : (6 : Int32).toInt = 6 := by decide
    omega
  have hc1 : ((v 1 s 1) + (1 : Int32)).toNatClampNeg = K + 1 := by rw [a4, nI_1]; exact cl (by omega)
  have hc0 : (v 1 s 1).toNatClampNeg = K := by rw [a4]; exact cl (by omega)
  unfold V_X5_revise W_X5_revise
  rw [hc]
  have eV : ∀ a b f, ¬ (b = s ∧ (a = 12 ∨ (a = 1 ∧ (f = 1 ∨ f = 2 ∨ f = 5)))) → V_X3_beginRevision c v w s a b f = v a b f := by
    intro a b f hn
    unfold V_X3_beginRevision
    have n1 : ¬ (a = 1 ∧ f = 5 ∧ b = s) := fun q => hn ⟨q.2.2, Or.inr ⟨q.1, by omega⟩⟩
    have n2 : ¬ (a = 1 ∧ f = 2 ∧ b = s) := fun q => hn ⟨q.2.2, Or.inr ⟨q.1, by omega⟩⟩
    have n3 : ¬ (a = 1 ∧ f = 1 ∧ b = s) := fun q => hn ⟨q.2.2, Or.inr ⟨q.1, by omega⟩⟩
    have n4 : ¬ (a = 12 ∧ f = ((v 1 s 1) + (1 : Int32)).toNatClampNeg ∧ b = s) := fun q => hn ⟨q.2.2, Or.inl q.1⟩
    simp only [uV, if_neg n1, if_neg n2, if_neg n3, if_neg n4]
  have e11 : V_X3_beginRevision c v w s 1 s 1 = nI (K + 1) := by
    unfold V_X3_beginRevision
    rw [uV_f (by decide), uV_f (by decide), uV_eq, a4, nI_1]
  have e12 : ∀ r, r ≠ K + 1 → V_X3_beginRevision c v w s 12 s r = v 12 s r := by
    intro r hr9
    unfold V_X3_beginRevision
    rw [uV_ne (by omega), uV_ne (by omega), uV_ne (by omega), hc1]
    exact uV_f hr9
  have ew : ∀ r, r ≠ K + 1 → W_X3_beginRevision c v w s 11 s r = w 11 s r := by
    intro r hr9
    unfold W_X3_beginRevision
    rw [hc1]
    exact uW_f hr9
  have ew1 : W_X3_beginRevision c v w s 11 s (K + 1) = w 11 s K := by
    unfold W_X3_beginRevision
    rw [hc1, hc0, uW_eq]
  have ewn : ∀ a b f, ¬ (a = 11 ∧ b = s) → W_X3_beginRevision c v w s a b f = w a b f := by
    intro a b f hn
    unfold W_X3_beginRevision
    exact uW_ne hn
  have e5 : V_X3_beginRevision c v w s 1 s 5 = 0 := by
    unfold V_X3_beginRevision
    rw [uV_eq]
  have hag : AGS c v (V_X3_beginRevision c v w s) w (W_X3_beginRevision c v w s) := AGS_rfl (fun i f => by
      by_cases hf : f = 1 ∨ f = 2 ∨ f = 5
      · exact Or.inr (by omega)
      · exact Or.inl (eV 1 i f (by omega))) (fun i f => eV 2 i f (by omega)) (fun i f _ => eV 4 i f (by omega)) (fun i => ewn 1 i 0 (by omega)) (fun i _ => ewn 4 i 0 (by omega))
  refine ⟨hb, fun i hi => ?_, fun i hi => ?_, fun i hi => ?_, fun i hi => ?_⟩
  · by_cases e : i = s
    · subst e
      refine ⟨K + 1, K, hL, Nat.le_succ K, Nat.le_refl _, e11, (eV 1 i 3 (by omega)).trans a5, (eV 1 i 6 (by omega)).trans a6, ?_, ?_, fun r hr9 => ?_⟩
      · rw [ewn 1 i 0 (by omega), ew K (by omega)]; exact a7
      · rw [eV 1 i 4 (by omega), e12 K (by omega)]; exact a8
      · by_cases hrr : r = K + 1
        · rw [hrr, ew1]; exact a9 K (Nat.le_refl K)
        · rw [ew r hrr]; exact a9 r (by omega)
    · exact SHT_same (hsh i hi) (eV 1 i 1 (by omega)) (eV 1 i 3 (by omega)) (eV 1 i 6 (by omega)) (eV 1 i 4 (by omega)) (fun r => eV 12 i r (by omega)) (ewn 1 i 0 (by omega)) (fun r => ewn 11 i r (by omega))
  · rw [eV 2 i 1 (by omega)]; exact hr i hi
  · rw [eV 4 i 1 (by omega)]; exact hq i hi
  · obtain ⟨cr, s2, d, st, b1, b2, b3, b4, b5, b6, b7, b8, b9, b10⟩ := hp i hi
    refine ⟨cr, s2, d, st, b1, b2, b3, b4, (eV 7 i 0 (by omega)).trans b5, (eV 7 i 1 (by omega)).trans b6, (eV 7 i 2 (by omega)).trans b7, (eV 7 i 3 (by omega)).trans b8, b9, fun q => ?_⟩
    exact firstUnfit_good hF ⟨rfl, rfl, rfl⟩ hag hb.1 (eV 7 i 1 (by omega)) (ewn 7 i 0 (by omega)) (fun j _ => eV 57 cr j (by omega)) (fun j hj hlt => by
      by_cases e : j = s
      · subst e; rw [e5]; decide
      · rw [eV 1 j 5 (by omega)]; exact hlt) (b10 q)
theorem revise_ans {c : SC} {v : SV} {w : SW} {s : Nat} : F_X5_revise c v w (nI s) = F_X5_ofSheet1 c (V_X5_revise c v w (nI s)) (W_X5_revise c v w (nI s)) (nI s) - 1 := by
  unfold F_X5_ofSheet1 F_X5_revise V_X5_revise
  exact (Int32.add_sub_cancel _ 1).symm
/-- a reference more -/
theorem INV_refer {c : SC} {v : SV} {w : SW} (h : INV c v w) {t : Nat} (ht : t < c 0) (hroom : c 1 < 20) (x1 x3 : Int32) : INV (uC c 1 (c 1 + 1)) (V_X5_refer c v w x1 (nI t) x3) w := by
  obtain ⟨hb, hsh, hr, hq, hp⟩ := INV_0 h
  unfold V_X5_refer
  have e : ∀ a b f, a ≠ 2 → newV_2 v (c 1) x1 (nI t) x3 a b f = v a b f := by
    intro a b f ha
    unfold newV_2
    rw [if_neg (fun q => ha q.2)]
  refine INV_stop ⟨⟨hb.1, ?_, hb.2.2.1, hb.2.2.2.1, hb.2.2.2.2⟩, fun i hi => ?_, fun i hi => ?_, fun i hi => ?_, fun i hi => ?_⟩
  · show c 1 + 1 ≤ 20
    omega
  · exact SHT_same (hsh i hi) (e _ _ _ (by decide)) (e _ _ _ (by decide)) (e _ _ _ (by decide)) (e _ _ _ (by decide)) (fun r => e _ _ _ (by decide)) rfl (fun _ => rfl)
  · by_cases e2 : i = c 1
    · refine ⟨t, ht, ?_⟩
      unfold newV_2
      rw [if_pos ⟨e2, rfl⟩, if_neg (by decide), if_pos rfl]
    · have hi2 : i < c 1 := (uC_lt hi).elim id (fun q => absurd q e2)
      obtain ⟨t2, h2, h3⟩ := hr i hi2
      refine ⟨t2, h2, ?_⟩
      unfold newV_2
      rw [if_neg (fun q => e2 q.1)]
      exact h3
  · rw [e 4 i 1 (by decide)]; exact hq i hi
  · obtain ⟨cr, s, d, st, a1, a2, a3, a4, a5, a6, a7, a8, a9⟩ := hp i hi
    exact ⟨cr, s, d, st, a1, a2, a3, a4, (e _ _ _ (by decide)).trans a5, (e _ _ _ (by decide)).trans a6, (e _ _ _ (by decide)).trans a7, (e _ _ _ (by decide)).trans a8, a9⟩
/-- a sending more: nothing that counts is touched -/
theorem packSheets_frame {c : SC} {v : SV} {w : SW} {n : Nat} {x1 : Int32} : ∀ (k i : Nat) (V : SV) (a b f : Nat), a ≠ 13 → VL_X5_packSheets c v w n x1 k i V a b f = V a b f := by
  intro k
  induction k with
  | zero => intro i V a b f _; rfl
  | succ k ih =>
    intro i V a b f ha
    show VL_X5_packSheets c v w n x1 k (i + 1) _ a b f = _
    rw [ih _ _ _ _ _ ha]
    split
    · rfl
    · exact uV_ne (fun q => ha q.1)
theorem send_frame {c : SC} {v : SV} {w : SW} {x1 x2 : Int32} {a b f : Nat} (h3 : a ≠ 3) (h13 : a ≠ 13) : V_X5_send c v w x1 x2 a b f = v a b f := by
  unfold V_X5_send V_X5_packSheets
  rw [packSheets_frame _ _ _ _ _ _ h13]
  unfold newV_3
  rw [if_neg (by omega)]
theorem INV_send {c : SC} {v : SV} {w : SW} (h : INV c v w) (hroom : c 2 < 20) (x1 x2 : Int32) : INV (uC c 2 (c 2 + 1)) (V_X5_send c v w x1 x2) w := by
  have hF := INV_wf h
  obtain ⟨hb, hsh, hr, hq, hp⟩ := h
  have e : ∀ a b f, a ≠ 3 → a ≠ 13 → V_X5_send c v w x1 x2 a b f = v a b f := fun a b f h1 h2 => send_frame h1 h2
  refine ⟨⟨hb.1, hb.2.1, ?_, hb.2.2.2.1, hb.2.2.2.2⟩, fun i hi => ?_, fun i hi => ?_, fun i hi => ?_, fun i hi => ?_⟩
  · show c 2 + 1 ≤ 20
    omega
  · exact SHT_same (hsh i hi) (e _ _ _ (by decide) (by decide)) (e _ _ _ (by decide) (by decide)) (e _ _ _ (by decide) (by decide)) (e _ _ _ (by decide) (by decide)) (fun r => e _ _ _ (by decide) (by decide)) rfl (fun _ => rfl)
  · rw [e 2 i 1 (by decide) (by decide)]; exact hr i hi
  · rw [e 4 i 1 (by decide) (by decide)]; exact hq i hi
  · obtain ⟨cr, s, d, st, a1, a2, a3, a4, a5, a6, a7, a8, a9, a10⟩ := hp i hi
    refine ⟨cr, s, d, st, a1, a2, a3, a4, (e _ _ _ (by decide) (by decide)).trans a5, (e _ _ _ (by decide) (by decide)).trans a6, (e _ _ _ (by decide) (by decide)).trans a7, (e _ _ _ (by decide) (by decide)).trans a8, a9, fun q => ?_⟩
    exact firstUnfit_good hF ⟨rfl, rfl, rfl⟩ (AGS_rfl (fun i f => Or.inl (e _ _ _ (by decide) (by decide))) (fun i f => e _ _ _ (by decide) (by decide)) (fun i f _ => e _ _ _ (by decide) (by decide)) (fun _ => rfl) (fun _ _ => rfl)) hb.1 (e _ _ _ (by decide) (by decide)) rfl (fun j _ => e _ _ _ (by decide) (by decide)) (fun j _ hlt => by rw [e 1 j 5 (by decide) (by decide)]; exact hlt) (a10 q)
/-- a query more -/
theorem INV_query {c : SC} {v : SV} {w : SW} (h : INV c v w) (hroom : c 3 < 20) (x1 x2 x3 x4 x5 : Int32) : INV (uC c 3 (c 3 + 1)) (V_X5_query c v w x1 x2 x3 x4 x5) (W_X5_query c v w x1 x2 x3 x4 x5) := by
  obtain ⟨hb, hsh, hr, hq, hp⟩ := INV_0 h
  unfold V_X5_query W_X5_query
  have e : ∀ a b f, a ≠ 4 → newV_4 v (c 3) x1 (F_X5_regionOf x2 x3 x4 x5) a b f = v a b f := by
    intro a b f ha
    unfold newV_4
    rw [if_neg (fun q => ha q.2)]
  have ew : ∀ a b f, a ≠ 4 → newW_4 w (c 3) (F_X5_regionOf x2 x3 x4 x5) a b f = w a b f := by
    intro a b f ha
    unfold newW_4
    rw [if_neg (fun q => ha q.2)]
  refine INV_stop ⟨⟨hb.1, hb.2.1, hb.2.2.1, ?_, hb.2.2.2.2⟩, fun i hi => ?_, fun i hi => ?_, fun i hi => ?_, fun i hi => ?_⟩
  · show c 3 + 1 ≤ 20
    omega
  · exact SHT_same (hsh i hi) (e _ _ _ (by decide)) (e _ _ _ (by decide)) (e _ _ _ (by decide)) (e _ _ _ (by decide)) (fun r => e _ _ _ (by decide)) (ew _ _ _ (by decide)) (fun r => ew _ _ _ (by decide))
  · rw [e 2 i 1 (by decide)]; exact hr i hi
  · by_cases e2 : i = c 3
    · unfold newV_4
      rw [if_pos ⟨e2, rfl⟩, if_neg (by decide)]
    · have hi2 : i < c 3 := (uC_lt hi).elim id (fun q => absurd q e2)
      unfold newV_4
      rw [if_neg (fun q => e2 q.1)]
      exact hq i hi2
  · obtain ⟨cr, s, d, st, a1, a2, a3, a4, a5, a6, a7, a8, a9⟩ := hp i hi
    exact ⟨cr, s, d, st, a1, a2, a3, a4, (e _ _ _ (by decide)).trans a5, (e _ _ _ (by decide)).trans a6, (e _ _ _ (by decide)).trans a7, (e _ _ _ (by decide)).trans a8, a9⟩
/-- a package more, waiting -/
theorem INV_pack {c : SC} {v : SV} {w : SW} (h : INV c v w) (hroom : c 4 < 8) {cr s d : Nat} (hcr : cr < 4) (hs : s < c 0) (hd0 : 0 < d) (hd : d ≤ 4) : INV (uC c 4 (c 4 + 1)) (V_X5_pack c v w (nI cr) ((1 : Int32) <<< (nI s &&& 31)) (nI d)) (W_X5_pack c v w (nI cr) ((1 : Int32) <<< (nI s &&& 31)) (nI d)) := by
  have hF := INV_wf h
  obtain ⟨hb, hsh, hr, hq, hp⟩ := h
  unfold V_X5_pack W_X5_pack
  have e : ∀ a b f, ¬ (b = c 4 ∧ a = 7) → newV_7 v (c 4) (nI cr) ((1 : Int32) <<< (nI s &&& 31)) (nI d) a b f = v a b f := by
    intro a b f ha
    unfold newV_7
    rw [if_neg ha]
  have ew : ∀ a b f, ¬ (b = c 4 ∧ a = 7) → newW_7 w (c 4) a b f = w a b f := by
    intro a b f ha
    unfold newW_7
    rw [if_neg ha]
  refine ⟨⟨hb.1, hb.2.1, hb.2.2.1, hb.2.2.2.1, ?_⟩, fun i hi => ?_, fun i hi => ?_, fun i hi => ?_, fun i hi => ?_⟩
  · show c 4 + 1 ≤ 8
    omega
  · exact SHT_same (hsh i hi) (e _ _ _ (by omega)) (e _ _ _ (by omega)) (e _ _ _ (by omega)) (e _ _ _ (by omega)) (fun r => e _ _ _ (by omega)) (ew _ _ _ (by omega)) (fun r => ew _ _ _ (by omega))
  · rw [e 2 i 1 (by omega)]; exact hr i hi
  · rw [e 4 i 1 (by omega)]; exact hq i hi
  · by_cases e2 : i = c 4
    · subst e2
      refine ⟨cr, s, d, 0, hcr, hs, hd, by omega, ?_, ?_, ?_, ?_, ⟨fun q => absurd q (by omega), fun q => absurd q (by omega)⟩, fun q => absurd q (by omega)⟩
      · simp [newV_7]
      · simp [newV_7]
      · simp [newV_7]
      · simp [newV_7]; rfl
    · have hi2 : i < c 4 := (uC_lt hi).elim id (fun q => absurd q e2)
      obtain ⟨cr2, s2, d2, st, a1, a2, a3, a4, a5, a6, a7, a8, a9, a10⟩ := hp i hi2
      refine ⟨cr2, s2, d2, st, a1, a2, a3, a4, (e _ _ _ (by omega)).trans a5, (e _ _ _ (by omega)).trans a6, (e _ _ _ (by omega)).trans a7, (e _ _ _ (by omega)).trans a8, a9, fun q => ?_⟩
      exact firstUnfit_good hF ⟨rfl, rfl, rfl⟩ (AGS_rfl (fun i f => Or.inl (e _ _ _ (by omega))) (fun i f => e _ _ _ (by omega)) (fun i f _ => e _ _ _ (by omega)) (fun i => ew _ _ _ (by omega)) (fun i _ => ew _ _ _ (by omega))) hb.1 (e _ _ _ (by omega)) (ew _ _ _ (by omega)) (fun j _ => e _ _ _ (by omega)) (fun j _ hlt => by rw [e 1 j 5 (by omega)]; exact hlt) (a10 q)
theorem INV_place {c : SC} {v : SV} {w : SW} (h : INV c v w) {p : Nat} (hp9 : p < c 4) (x2 x3 x4 x5 : Int32) : INV c (V_X5_place c v w (nI p) x2 x3 x4 x5) (W_X5_place c v w (nI p) x2 x3 x4 x5) := by
  obtain ⟨hb, hsh, hr, hq, hp⟩ := INV_0 h
  unfold V_X5_place W_X5_place
  have hc : (nI p).toNatClampNeg = p := cl (by omega)
  rw [hc]
  refine INV_stop ⟨hb, fun i hi => ?_, hr, hq, hp⟩
  exact SHT_same (hsh i hi) rfl rfl rfl rfl (fun _ => rfl) rfl (fun _ => rfl)
theorem INV_start {c : SC} {v : SV} {w : SW} (h : INV c v w) {p : Nat} (hp9 : p < c 4) (hr9 : v 7 p 3 = 0 ∨ v 7 p 3 = 2) (hu : F_X5_firstUnfit c v w p (v 57 (v 7 p 0).toNatClampNeg) = -1) : INV c (V_X5_start c v w (nI p)) w := by
  have hF := INV_wf h
  obtain ⟨hb, hsh, hr, hq, hp⟩ := h
  have hc : (nI p).toNatClampNeg = p := cl (by omega)
  unfold V_X5_start
  rw [hc]
  have e : ∀ i f, f ≠ 3 → uV v 7 p 3 1 7 i f = v 7 i f := fun i f hf => uV_f hf
  refine ⟨hb, fun i hi => SHT_same (hsh i hi) rfl rfl rfl rfl (fun _ => rfl) rfl (fun _ => rfl), hr, hq, fun i hi => ?_⟩
  obtain ⟨cr, s, d, st, a1, a2, a3, a4, a5, a6, a7, a8, a9, a10⟩ := hp i hi
  have good : ∀ cr9, F_X5_firstUnfit c v w i (v 57 cr9) = -1 → F_X5_firstUnfit c (uV v 7 p 3 1) w i (uV v 7 p 3 1 57 cr9) = -1 := fun cr9 q => firstUnfit_good hF ⟨rfl, rfl, rfl⟩ (AGS_rfl (fun _ _ => Or.inl rfl) (fun _ _ => rfl) (fun _ _ _ => rfl) (fun _ => rfl) (fun _ _ => rfl)) hb.1 rfl rfl (fun _ _ => rfl) (fun _ _ hlt => hlt) q
  by_cases e2 : i = p
  · subst e2
    have hst : st = 0 ∨ st = 2 := by
      rw [a8] at hr9
      rcases hr9 with q | q
      · exact Or.inl ((nI_eq (by omega) (by omega)).mp (show nI st = nI 0 from q))
      · exact Or.inr ((nI_eq (by omega) (by omega)).mp (show nI st = nI 2 from q))
    refine ⟨cr, s, d, 1, a1, a2, a3, by omega, a5, a6, a7, uV_eq, ⟨fun q => absurd q (by omega), fun q => ?_⟩, fun _ => ?_⟩
    · have := a9.mpr q
      omega
    · rw [a5, cl (by omega)] at hu
      exact good cr hu
  · exact ⟨cr, s, d, st, a1, a2, a3, a4, a5, a6, a7, (uV_ne (fun q => e2 q.2)).trans a8, a9, fun q => good cr (a10 q)⟩
/-! a day -/
theorem work_frame {c : SC} {v : SV} {w : SW} {i a b f : Nat} (h : ¬ (a = 7 ∧ b = i ∧ (f = 2 ∨ f = 3))) : V_X4_workADay c v w i a b f = v a b f := by
  unfold V_X4_workADay
  have n2 : ∀ x, uV v 7 i 2 x a b f = v a b f := fun x => by
    have n : ¬ (a = 7 ∧ f = 2 ∧ b = i) := fun q => h ⟨q.1, q.2.2, Or.inl q.2.1⟩
    simp only [uV, if_neg n]
  have n : ¬ (a = 7 ∧ f = 3 ∧ b = i) := fun q => h ⟨q.1, q.2.2, Or.inr q.2.1⟩
  split
  · exact n2 _
  · rw [← n2 (v 7 i 2 - 1)]
    simp only [uV, if_neg n]
theorem work_at {c : SC} {v : SV} {w : SW} {i : Nat} : V_X4_workADay c v w i 7 i 2 = v 7 i 2 - 1 ∧ V_X4_workADay c v w i 7 i 3 = if 0 < v 7 i 2 - 1 then v 7 i 3 else 3 := by
  unfold V_X4_workADay
  rw [uV_eq]
  by_cases h : 0 < v 7 i 2 - (1 : Int32)
  · rw [if_pos h, if_pos h]
    exact ⟨uV_eq, uV_f (by decide)⟩
  · rw [if_neg h, if_neg h]
    exact ⟨(uV_f (by decide)).trans uV_eq, uV_eq⟩
theorem mark_frame {c : SC} {v : SV} {w : SW} {x1 : Int32} {a b f : Nat} (h : ¬ (a = 1 ∧ f = 5)) : V_X5_mark c v w x1 a b f = v a b f := by
  have key : ∀ (k i : Nat) (V : SV), VL_X5_mark c v w x1 k i V a b f = V a b f := by
    intro k
    induction k with
    | zero => intro i V; rfl
    | succ k ih =>
      intro i V
      show VL_X5_mark c v w x1 k (i + 1) _ a b f = _
      rw [ih]
      split
      · rfl
      · have n : ¬ (a = 1 ∧ f = 5 ∧ b = i) := fun q => h ⟨q.1, q.2.1⟩
        simp only [uV, if_neg n]
  exact key _ _ _
def DN (v : SV) (j : Nat) : Bool := decide (v 7 j 3 = 1) && !decide (0 < v 7 j 2 - 1)
/-- one package's day -/
def dayStep (c : SC) (w : SW) (V : SV) (i : Nat) : SV := (if (V 7 i 3) = (1 : Int32) then (if ((V_X4_workADay (uC c 5 ((c 5) + 1)) V w i) 7 i 3) = (3 : Int32) then (V_X5_mark (uC c 5 ((c 5) + 1)) (V_X4_workADay (uC c 5 ((c 5) + 1)) V w i) w ((V_X4_workADay (uC c 5 ((c 5) + 1)) V w i) 7 i 1)) else (V_X4_workADay (uC c 5 ((c 5) + 1)) V w i)) else V)
theorem dayStep_frame {c : SC} {w : SW} {V : SV} {i a b f : Nat} (h : ¬ (a = 7 ∧ b = i ∧ (f = 2 ∨ f = 3))) (h1 : ¬ (a = 1 ∧ f = 5)) : dayStep c w V i a b f = V a b f := by
  unfold dayStep
  split
  · split
    · rw [mark_frame h1, work_frame h]
    · exact work_frame h
  · rfl
theorem dayStep_at {c : SC} {w : SW} {V : SV} {i : Nat} : (V 7 i 3 = 1 → dayStep c w V i 7 i 2 = V 7 i 2 - 1 ∧ dayStep c w V i 7 i 3 = if 0 < V 7 i 2 - 1 then 1 else 3) ∧ (¬ V 7 i 3 = 1 → dayStep c w V i = V) := by
  refine ⟨fun h => ?_, fun h => ?_⟩
  · obtain ⟨e1, e2⟩ := work_at (c := uC c 5 ((c 5) + 1)) (v := V) (w := w) (i := i)
    rw [h] at e2
    unfold dayStep
    rw [if_pos h]
    split
    · rw [mark_frame (by omega), mark_frame (by omega)]
      exact ⟨e1, e2⟩
    · exact ⟨e1, e2⟩
  · unfold dayStep
    rw [if_neg h]
theorem VL_day_step {c : SC} {v : SV} {w : SW} {k i : Nat} {V : SV} : VL_X5_day c v w (k + 1) i V = VL_X5_day c v w k (i + 1) (dayStep c w V i) := rfl
theorem VL_day {c : SC} {v : SV} {w : SW} : ∀ (k i : Nat) (V : SV), (∀ a b f, ¬ (a = 7 ∧ (f = 2 ∨ f = 3)) → ¬ (a = 1 ∧ f = 5) → VL_X5_day c v w k i V a b f = V a b f) ∧ (∀ j, ¬ (i ≤ j ∧ j < i + k) → VL_X5_day c v w k i V 7 j 2 = V 7 j 2 ∧ VL_X5_day c v w k i V 7 j 3 = V 7 j 3) ∧
    ∀ j, i ≤ j → j < i + k → (V 7 j 3 = 1 → VL_X5_day c v w k i V 7 j 2 = V 7 j 2 - 1 ∧ VL_X5_day c v w k i V 7 j 3 = if 0 < V 7 j 2 - 1 then 1 else 3) ∧ (¬ V 7 j 3 = 1 → VL_X5_day c v w k i V 7 j 2 = V 7 j 2 ∧ VL_X5_day c v w k i V 7 j 3 = V 7 j 3) := by
  intro k
  induction k with
  | zero => intro i V; exact ⟨fun _ _ _ _ _ => rfl, fun _ _ => ⟨rfl, rfl⟩, fun j h1 h2 => absurd h2 (by omega)⟩
  | succ k ih =>
    intro i V
    rw [VL_day_step]
    obtain ⟨h1, h2, h3⟩ := ih (i + 1) (dayStep c w V i)
    refine ⟨fun a b f ha hb => ?_, fun j hj => ?_, fun j hj hj2 => ?_⟩
    · rw [h1 a b f ha hb, dayStep_frame (fun q => ha ⟨q.1, q.2.2⟩) hb]
    · obtain ⟨q1, q2⟩ := h2 j (by omega)
      rw [q1, q2, dayStep_frame (by omega) (by omega), dayStep_frame (by omega) (by omega)]
      exact ⟨rfl, rfl⟩
    · by_cases e : j = i
      · subst e
        obtain ⟨q1, q2⟩ := h2 j (by omega)
        rw [q1, q2]
        obtain ⟨d1, d2⟩ := dayStep_at (c := c) (w := w) (V := V) (i := j)
        refine ⟨d1, fun q => ?_⟩
        rw [d2 q]
        exact ⟨rfl, rfl⟩
      · have e2 : dayStep c w V i 7 j 2 = V 7 j 2 := dayStep_frame (by omega) (by omega)
        have e3 : dayStep c w V i 7 j 3 = V 7 j 3 := dayStep_frame (by omega) (by omega)
        have h4 := h3 j (by omega) (by omega)
        rw [e2, e3] at h4
        exact h4
theorem FL_day {c : SC} {v : SV} {w : SW} : ∀ (k i : Nat) (V : SV), i + k = c 4 → (∀ j, i ≤ j → V 7 j 2 = v 7 j 2 ∧ V 7 j 3 = v 7 j 3) → FL_X5_day c v w k i V (nI (cnt (DN v) i)) = nI (cnt (DN v) (c 4)) := by
  intro k
  induction k with
  | zero =>
    intro i V hi _
    obtain rfl : i = c 4 := by omega
    rfl
  | succ k ih =>
    intro i V hi hV
    obtain ⟨v2, v3⟩ := hV i (Nat.le_refl i)
    rw [← ih (i + 1) (dayStep c w V i) (by omega) (fun j hj => by
      rw [dayStep_frame (by omega) (by omega), dayStep_frame (by omega) (by omega)]
      exact hV j (by omega))]
    show FL_X5_day c v w k (i + 1) (dayStep c w V i) _ = FL_X5_day c v w k (i + 1) (dayStep c w V i) _
    congr 1
    obtain ⟨e1, e2⟩ := work_at (c := uC c 5 ((c 5) + 1)) (v := V) (w := w) (i := i)
    show _ = nI (if DN v i = true then cnt (DN v) i + 1 else cnt (DN v) i)
    by_cases h : V 7 i 3 = 1
    · rw [if_pos h, e2, v2, h]
      rw [v3] at h
      by_cases h0 : 0 < v 7 i 2 - 1
      · rw [if_pos h0, if_neg (by decide), if_neg (by simp [DN, h0])]
      · rw [if_neg h0, if_pos rfl, if_pos (by simp [DN, h, h0]), nI_1]
    · rw [if_neg h]
      rw [v3] at h
      rw [if_neg (by simp [DN, h])]
theorem day_ans {c : SC} {v : SV} {w : SW} : F_X5_day c v w = nI (cnt (DN v) (c 4)) := FL_day (c 4) 0 v (by omega) (fun _ _ => ⟨rfl, rfl⟩)
theorem INV_day {c : SC} {v : SV} {w : SW} (h : INV c v w) : INV (uC c 5 (c 5 + 1)) (V_X5_day c v w) w := by
  obtain ⟨hb, hsh, hr, hq, hp⟩ := INV_0 h
  obtain ⟨f1, -, f3⟩ := VL_day (c := c) (v := v) (w := w) (c 4) 0 v
  unfold V_X5_day
  refine INV_stop ⟨hb, fun i hi => ?_, fun i hi => ?_, fun i hi => ?_, fun i hi => ?_⟩
  · exact SHT_same (hsh i hi) (f1 _ _ _ (by omega) (by omega)) (f1 _ _ _ (by omega) (by omega)) (f1 _ _ _ (by omega) (by omega)) (f1 _ _ _ (by omega) (by omega)) (fun r => f1 _ _ _ (by omega) (by omega)) rfl (fun _ => rfl)
  · rw [f1 2 i 1 (by omega) (by omega)]; exact hr i hi
  · rw [f1 4 i 1 (by omega) (by omega)]; exact hq i hi
  · obtain ⟨cr, s, d, st, a1, a2, a3, a4, a5, a6, a7, a8, a9⟩ := hp i hi
    have hi2 : i < 0 + c 4 := by have : i < c 4 := hi; omega
    obtain ⟨g1, g2⟩ := f3 i (Nat.zero_le i) hi2
    have b5 := (f1 7 i 0 (by omega) (by omega)).trans a5
    have b6 := (f1 7 i 1 (by omega) (by omega)).trans a6
    by_cases e : v 7 i 3 = 1
    · obtain ⟨q1, q2⟩ := g1 e
      have hst : st = 1 := by
        rw [a8] at e
        exact (nI_eq (by omega) (by omega)).mp (show nI st = nI 1 from e)
      have hd : d ≠ 0 := fun q => by have := a9.mpr q; omega
      obtain ⟨d', rfl⟩ : ∃ d', d = d' + 1 := ⟨d - 1, by omega⟩
      rw [a7, nI_pred] at q1 q2
      by_cases h0 : d' = 0
      · subst h0
        rw [if_neg (by decide)] at q2
        exact ⟨cr, s, 0, 3, a1, a2, by omega, by omega, b5, b6, q1, q2, ⟨fun _ => rfl, fun _ => rfl⟩⟩
      · rw [if_pos (Int32.not_le.mp (nI_nle (by omega) (by omega)))] at q2
        exact ⟨cr, s, d', 1, a1, a2, by omega, by omega, b5, b6, q1, q2, ⟨fun q => absurd q (by omega), fun q => absurd q h0⟩⟩
    · obtain ⟨q1, q2⟩ := g2 e
      exact ⟨cr, s, d, st, a1, a2, a3, a4, b5, b6, q1.trans a7, q2.trans a8, a9⟩
theorem day_many {c : SC} {v : SV} {w : SW} (h : INV c v w) : F_X5_day c v w = F_X5_many11 (uC c 5 (c 5 + 1)) (V_X5_day c v w) w - F_X5_many11 c v w := by
  have h4 := h.1.2.2.2.2
  obtain ⟨-, -, f3⟩ := VL_day (c := c) (v := v) (w := w) (c 4) 0 v
  have e : F_X5_many11 (uC c 5 (c 5 + 1)) (V_X5_day c v w) w = nI (cnt (DN v) (c 4) + cnt (IS v 3) (c 4)) := by
    unfold F_X5_many11
    rw [packs_cnt]
    show nI (cnt (IS (V_X5_day c v w) 3) (c 4)) = _
    congr 1
    refine cnt_add (c 4) (fun j hj => ?_)
    have hj2 : j < 0 + c 4 := by omega
    obtain ⟨g1, g2⟩ := f3 j (Nat.zero_le j) hj2
    have hst : V_X5_day c v w 7 j 3 = if UNF (uC c 5 (c 5 + 1)) (VL_X5_day c v w (c 4) 0 v) w j = true then 2 else VL_X5_day c v w (c 4) 0 v 7 j 3 := stop_state (c := uC c 5 (c 5 + 1)) (v := VL_X5_day c v w (c 4) 0 v) (w := w) h4 hj
    have h5 : V_X5_day c v w 7 j 3 = 3 ↔ VL_X5_day c v w (c 4) 0 v 7 j 3 = 3 := by
      rw [hst]
      by_cases hu : UNF (uC c 5 (c 5 + 1)) (VL_X5_day c v w (c 4) 0 v) w j = true
      · rw [if_pos hu, (UNF_iff.mp hu).1]
        decide
      · rw [if_neg hu]
    by_cases e1 : v 7 j 3 = 1
    · obtain ⟨q1, q2⟩ := g1 e1
      by_cases h0 : 0 < v 7 j 2 - 1
      · rw [if_pos h0] at q2
        rw [q2] at h5
        refine ⟨?_, fun q => ?_⟩
        · have h6 : ¬ V_X5_day c v w 7 j 3 = 3 := fun q => absurd (h5.mp q) (by decide)
          simp [IS, DN, e1, h0, h6]
        · simp [DN, h0] at q
      · rw [if_neg h0] at q2
        rw [q2] at h5
        refine ⟨?_, fun q => ?_⟩
        · have h6 : V_X5_day c v w 7 j 3 = 3 := h5.mpr rfl
          simp [IS, DN, e1, h0, h6]
        · simp [IS, e1] at q
    · obtain ⟨q1, q2⟩ := g2 e1
      rw [q2] at h5
      refine ⟨?_, fun q => ?_⟩
      · by_cases h6 : v 7 j 3 = 3
        · simp [IS, DN, e1, h6, h5.mpr h6]
        · have h7 : ¬ V_X5_day c v w 7 j 3 = 3 := fun q => h6 (h5.mp q)
          simp [IS, DN, e1, h6, h7]
      · simp [DN, e1] at q
  rw [e, day_ans]
  unfold F_X5_many11
  rw [packs_cnt, ← nI_add]
  exact (Int32.add_sub_cancel _ _).symm
/-! regions -/
abbrev AC : Int64 := 1048575
abbrev AR : Int64 := 1099510579200
def CB (a a2 : Nat) : Int64 := F_X5_bitsFrom (nI a) (nI a2)
def RB (b b2 : Nat) : Int64 := F_X5_bitsFrom (nI b) (nI b2) <<< ((20 : Int32).toInt64 &&& 63)
theorem CR_tab : ∀ a2, a2 < 20 → ∀ a, a < a2 + 1 → CB a a2 &&& AC = CB a a2 ∧ CB a a2 &&& AR = 0 ∧ RB a a2 &&& AC = 0 ∧ RB a a2 &&& AR = RB a a2 ∧ F_J13_bitCount_95d88 (CB a a2) = nI (a2 - a + 1) ∧ F_J13_bitCount_95d88 (RB a a2) = nI (a2 - a + 1) ∧ CB a a2 ≠ 0 ∧ RB a a2 ≠ 0 ∧ CB a a2 &&& CB a a ≠ 0 ∧ RB a a2 &&& RB a2 a2 ≠ 0 ∧ nI a2 - nI a + 1 = nI (a2 - a + 1) := by decide +kernel
theorem CR_meet : ∀ a2, a2 < 20 → ∀ a, a < a2 + 1 → ∀ c2, c2 < 20 → ∀ c, c < c2 + 1 → (CB a a2 &&& CB c c2 = if max a c ≤ min a2 c2 then CB (max a c) (min a2 c2) else 0) ∧ (RB a a2 &&& RB c c2 = if max a c ≤ min a2 c2 then RB (max a c) (min a2 c2) else 0) := by decide +kernel
theorem bc_0 : F_J13_bitCount_95d88 0 = nI 0 := by decide +kernel
theorem i64_oa (x y z : Int64) : (x ||| y) &&& z = (x &&& z) ||| (y &&& z) := Int64.toBitVec_inj.1 BitVec.and_or_distrib_right
theorem i64_ao (x y z : Int64) : x &&& (y ||| z) = (x &&& y) ||| (x &&& z) := Int64.toBitVec_inj.1 BitVec.and_or_distrib_left
theorem and3 (x y m : Int64) : (x &&& y) &&& m = (x &&& m) &&& (y &&& m) := by
  rw [Int64.and_assoc x m, Int64.and_comm y m, ← Int64.and_assoc m m y, Int64.and_self, Int64.and_comm m y, ← Int64.and_assoc]
theorem reg_eq (a b a2 b2 : Nat) : F_X5_regionOf (nI a) (nI b) (nI a2) (nI b2) = CB a a2 ||| RB b b2 := rfl
theorem reg_C {a b a2 b2 : Nat} (ha : a ≤ a2) (ha2 : a2 < 20) (hb : b ≤ b2) (hb2 : b2 < 20) : (CB a a2 ||| RB b b2) &&& AC = CB a a2 ∧ (CB a a2 ||| RB b b2) &&& AR = RB b b2 := by
  obtain ⟨h1, h2, -, -, -⟩ := CR_tab a2 ha2 a (by omega)
  obtain ⟨-, -, h3, h4, -⟩ := CR_tab b2 hb2 b (by omega)
  rw [i64_oa, i64_oa, h1, h2, h3, h4, Int64.or_zero, Int64.zero_or]
  exact ⟨rfl, rfl⟩
theorem nI_mul (a b : Nat) : nI a * nI b = nI (a * b) := (Int32.ofNat_mul a b).symm
theorem fields_reg {a b a2 b2 : Nat} (ha : a ≤ a2) (ha2 : a2 < 20) (hb : b ≤ b2) (hb2 : b2 < 20) : F_X5_fieldsOf (F_X5_regionOf (nI a) (nI b) (nI a2) (nI b2)) = nI ((a2 - a + 1) * (b2 - b + 1)) := by
  obtain ⟨h1, h2⟩ := reg_C ha ha2 hb hb2
  obtain ⟨-, -, -, -, h3, -⟩ := CR_tab a2 ha2 a (by omega)
  obtain ⟨-, -, -, -, -, h4, -⟩ := CR_tab b2 hb2 b (by omega)
  rw [reg_eq]
  unfold F_X5_fieldsOf
  rw [h1, h2, h3, h4, nI_mul]
theorem fields_law {a b a2 b2 : Nat} (ha : a ≤ a2) (ha2 : a2 < 20) (hb : b ≤ b2) (hb2 : b2 < 20) : F_X5_fieldsOf (F_X5_regionOf (nI a) (nI b) (nI a2) (nI b2)) = (nI a2 - nI a + 1) * (nI b2 - nI b + 1) := by
  obtain ⟨-, -, -, -, -, -, -, -, -, -, h3⟩ := CR_tab a2 ha2 a (by omega)
  obtain ⟨-, -, -, -, -, -, -, -, -, -, h4⟩ := CR_tab b2 hb2 b (by omega)
  rw [fields_reg ha ha2 hb hb2, h3, h4, nI_mul]
theorem fields_pos {a b a2 b2 : Nat} (ha : a ≤ a2) (ha2 : a2 < 20) (hb : b ≤ b2) (hb2 : b2 < 20) : ¬ F_X5_fieldsOf (F_X5_regionOf (nI a) (nI b) (nI a2) (nI b2)) < 1 := by
  rw [fields_reg ha ha2 hb hb2]
  have h1 : (a2 - a + 1) * (b2 - b + 1) ≤ 20 * 20 := Nat.mul_le_mul (by omega) (by omega)
  have h2 : 0 < (a2 - a + 1) * (b2 - b + 1) := Nat.mul_pos (by omega) (by omega)
  exact nI_nlt (b := 1) (by omega) (by omega)
theorem lcI_0 {x y : Int64} : lcI x y = 0 ↔ x = y := by
  unfold lcI
  by_cases h : x > y
  · rw [if_pos h]
    exact ⟨fun q => absurd q (by decide), fun q => absurd (q ▸ h) Int64.lt_irrefl⟩
  · rw [if_neg h]
    by_cases h2 : x = y
    · rw [if_pos h2]
      exact ⟨fun _ => h2, fun _ => rfl⟩
    · rw [if_neg h2]
      exact ⟨fun q => absurd q (by decide), fun q => absurd q h2⟩
theorem hasField_iff {x : Int64} : F_X5_hasField x = 0 ↔ (x &&& AC = 0 ∨ x &&& AR = 0) := by
  unfold F_X5_hasField
  by_cases h : x &&& AC = 0
  · rw [if_pos (lcI_0.mpr h)]
    exact ⟨fun _ => Or.inl h, fun _ => rfl⟩
  · rw [if_neg (fun q => h (lcI_0.mp q))]
    by_cases h2 : x &&& AR = 0
    · rw [if_pos (lcI_0.mpr h2)]
      exact ⟨fun _ => Or.inr h2, fun _ => rfl⟩
    · rw [if_neg (fun q => h2 (lcI_0.mp q))]
      exact ⟨fun q => absurd q (by decide), fun q => (q.elim h h2).elim⟩
/-- what two regions have in common: some fields, or none -/
theorem meet_fields {x y : Int64} (hx : REG x) (hy : REG y) : F_X5_hasField (x &&& y) = 0 ∧ F_X5_fieldsOf (x &&& y) = 0 ∨ ¬ F_X5_hasField (x &&& y) = 0 ∧ 0 < F_X5_fieldsOf (x &&& y) := by
  obtain ⟨a, b, a2, b2, h1, h2, h3, h4, rfl⟩ := hx
  obtain ⟨c, d, c2, d2, g1, g2, g3, g4, rfl⟩ := hy
  obtain ⟨p1, p2⟩ := reg_C h1 h2 h3 h4
  obtain ⟨q1, q2⟩ := reg_C g1 g2 g3 g4
  have eC : (F_X5_regionOf (nI a) (nI b) (nI a2) (nI b2) &&& F_X5_regionOf (nI c) (nI d) (nI c2) (nI d2)) &&& AC = CB a a2 &&& CB c c2 := by
    rw [reg_eq, reg_eq, and3, p1, q1]
  have eR : (F_X5_regionOf (nI a) (nI b) (nI a2) (nI b2) &&& F_X5_regionOf (nI c) (nI d) (nI c2) (nI d2)) &&& AR = RB b b2 &&& RB d d2 := by
    rw [reg_eq, reg_eq, and3, p2, q2]
  rw [hasField_iff, eC, eR]
  unfold F_X5_fieldsOf
  rw [eC, eR, (CR_meet a2 h2 a (by omega) c2 g2 c (by omega)).1, (CR_meet b2 h4 b (by omega) d2 g4 d (by omega)).2]
  by_cases m1 : max a c ≤ min a2 c2
  · rw [if_pos m1]
    obtain ⟨-, -, -, -, e1, -, e2, -⟩ := CR_tab (min a2 c2) (by omega) (max a c) (by omega)
    by_cases m2 : max b d ≤ min b2 d2
    · rw [if_pos m2]
      obtain ⟨-, -, -, -, -, e3, -, e4, -⟩ := CR_tab (min b2 d2) (by omega) (max b d) (by omega)
      refine Or.inr ⟨fun q => q.elim e2 e4, ?_⟩
      rw [e1, e3, nI_mul]
      have k1 : (min a2 c2 - max a c + 1) * (min b2 d2 - max b d + 1) ≤ 20 * 20 := Nat.mul_le_mul (by omega) (by omega)
      have k2 : 0 < (min a2 c2 - max a c + 1) * (min b2 d2 - max b d + 1) := Nat.mul_pos (by omega) (by omega)
      exact nI_lt (a := 0) k2 (by omega)
    · rw [if_neg m2]
      refine Or.inl ⟨Or.inr rfl, ?_⟩
      rw [bc_0, e1, nI_mul, Nat.mul_zero]
      rfl
  · rw [if_neg m1]
    refine Or.inl ⟨Or.inl rfl, ?_⟩
    rw [bc_0]
    by_cases m2 : max b d ≤ min b2 d2
    · rw [if_pos m2]
      obtain ⟨-, -, -, -, -, e3, -⟩ := CR_tab (min b2 d2) (by omega) (max b d) (by omega)
      rw [e3, nI_mul, Nat.zero_mul]
      rfl
    · rw [if_neg m2, bc_0, nI_mul]
      rfl
/-- a region and its own corner -/
theorem corner {a b a2 b2 : Nat} (ha : a ≤ a2) (ha2 : a2 < 20) (hb : b ≤ b2) (hb2 : b2 < 20) : ¬ F_X5_hasField (F_X5_regionOf (nI a) (nI b) (nI a2) (nI b2) &&& F_X5_regionOf (nI a) (nI b2) (nI a) (nI b2)) = 0 := by
  obtain ⟨p1, p2⟩ := reg_C ha ha2 hb hb2
  obtain ⟨q1, q2⟩ := reg_C (Nat.le_refl a) (by omega) (Nat.le_refl b2) hb2
  rw [hasField_iff, reg_eq, reg_eq]
  rintro (h | h)
  · rw [and3, p1, q1] at h
    exact (CR_tab a2 ha2 a (by omega)).2.2.2.2.2.2.2.2.1 h
  · rw [and3, p2, q2] at h
    exact (CR_tab b2 hb2 b (by omega)).2.2.2.2.2.2.2.2.2.1 h
/-! what isFair looks at -/
theorem fa_last {c : SC} {v : SV} {w : SW} {k : Nat} (hk : k < 100) : F_X5_ofSheet1 c v w (nI k) - 1 = v 1 k 1 := by
  unfold F_X5_ofSheet1
  rw [cl hk]
  exact Int32.add_sub_cancel _ 1
theorem fa_stat {c : SC} {v : SV} {w : SW} {k : Nat} (hk : k < 100) (x : Int32) : F_X5_status c v w (nI k) x = F_X3_statusOf c v w k x := by
  unfold F_X5_status
  rw [cl hk]
/-- the status is 2 at the issued revision alone -/
theorem st_2 {c : SC} {v : SV} {w : SW} {k : Nat} {x : Int32} : F_X3_statusOf c v w k x = 2 ↔ x = v 1 k 3 := by
  unfold F_X3_statusOf
  by_cases h : x = v 1 k 3
  · rw [if_pos h]
    exact ⟨fun _ => h, fun _ => rfl⟩
  · rw [if_neg h]
    refine ⟨fun q => ?_, fun q => absurd q h⟩
    split at q
    · split at q <;> exact absurd q (by decide)
    · exact absurd q (by decide)
theorem st_lt {c : SC} {v : SV} {w : SW} {k : Nat} {x : Int32} (h : F_X3_statusOf c v w k x < 2) : ¬ x = v 1 k 3 ∧ v 1 k 3 ≤ x := by
  unfold F_X3_statusOf at h
  by_cases h1 : x = v 1 k 3
  · rw [if_pos h1] at h
    exact absurd h (by decide)
  · rw [if_neg h1] at h
    refine ⟨h1, ?_⟩
    by_cases h2 : v 1 k 3 ≤ x
    · exact h2
    · rw [if_neg h2] at h
      exact absurd h (by decide)
theorem fa_2 {c : SC} {v : SV} {w : SW} {k r : Nat} (hk : k < 100) (h : F_X5_status c v w (nI k) (nI r) = 2) : F_X5_ofSheet2 c v w (nI k) = nI r := by
  rw [fa_stat hk, st_2] at h
  unfold F_X5_ofSheet2
  rw [cl hk]
  exact h.symm
/-- only the last is a draft -/
theorem fa_draft {c : SC} {v : SV} {w : SW} {k r : Nat} (hi : INV c v w) (hk : k < c 0) (h : F_X5_status c v w (nI k) (nI r) < 2) (hr : r < (v 1 k 1).toNatClampNeg + 1) : ¬ nI r < v 1 k 1 := by
  have h0 := hi.1.1
  obtain ⟨L, K, a1, a2, a3, a4, a5, -⟩ := hi.2.1 k hk
  rw [fa_stat (by omega)] at h
  obtain ⟨h1, h2⟩ := st_lt h
  rw [a4, cl (by omega)] at hr
  rw [a5] at h1 h2
  rw [a4]
  have h3 : K ≤ r := (nI_leI (by omega) (by omega)).mp h2
  have h4 : r ≠ K := fun q => h1 (by rw [q])
  exact nI_nlt (by omega) (by omega)
/-- how many issued revisions there are below r -/
def isu (v : SV) (k r : Nat) : Int32 := if (v 1 k 3).toNatClampNeg < r then 1 else 0
theorem isu_0 {v : SV} {k : Nat} : isu v k 0 = 0 := if_neg (by omega)
theorem isu_yes {c : SC} {v : SV} {w : SW} {k r : Nat} (hk : k < 100) (hr : r < 100) (h : F_X5_status c v w (nI k) (nI r) = 2) : isu v k r + 1 = isu v k (r + 1) := by
  rw [fa_stat hk, st_2] at h
  unfold isu
  rw [← h, cl hr, if_neg (by omega), if_pos (by omega)]
  rfl
theorem isu_no {c : SC} {v : SV} {w : SW} {k r : Nat} (hi : INV c v w) (hk : k < c 0) (hr : r < 100) (h : ¬ F_X5_status c v w (nI k) (nI r) = 2) : isu v k r + 0 = isu v k (r + 1) := by
  have h0 := hi.1.1
  obtain ⟨L, K, a1, a2, a3, a4, a5, -⟩ := hi.2.1 k hk
  rw [fa_stat (by omega), st_2, a5] at h
  have h4 : r ≠ K := fun q => h (by rw [q])
  unfold isu
  rw [a5, cl (by omega), Int32.add_zero]
  by_cases h5 : K < r
  · rw [if_pos h5, if_pos (by omega)]
  · rw [if_neg h5, if_neg (by omega)]
theorem isu_end {c : SC} {v : SV} {w : SW} {k : Nat} (hi : INV c v w) (hk : k < c 0) : isu v k ((v 1 k 1).toNatClampNeg + 1) = 1 := by
  obtain ⟨L, K, a1, a2, a3, a4, a5, -⟩ := hi.2.1 k hk
  unfold isu
  rw [a4, a5, cl (by omega), cl (by omega), if_pos (by omega)]
theorem fa_3 {c : SC} {v : SV} {w : SW} {k : Nat} (hk : k < 100) : F_X5_ofSheet3 c v w (nI k) = F_X5_status c v w (nI k) (v 1 k 1) := by
  unfold F_X5_ofSheet3 F_X3_lastStatus
  rw [fa_stat hk, cl hk]
/-! clashes -/
def CH (c : SC) (v : SV) (w : SW) (i j : Nat) : Bool := !decide (F_X5_hasField (F_X5_clashRegion c v w (nI i) (nI j)) = 0)
theorem clash_region {c : SC} {v : SV} {w : SW} (hi : INV c v w) {i j : Nat} (h1 : i < c 0) (h2 : j < c 0) : F_X5_clashRegion c v w (nI i) (nI j) = if v 1 i 0 = v 1 j 0 then 0 else w 1 i 0 &&& w 1 j 0 := by
  have h0 := hi.1.1
  obtain ⟨L, K, -, -, -, -, -, a6, -⟩ := hi.2.1 i h1
  unfold F_X5_clashRegion
  rw [cl (by omega), cl (by omega), a6]
  have e : F_X5_isIn 0 (nI j) = 0 := (by decide +kernel : ∀ j, j < 5 → F_X5_isIn 0 (nI j) = 0) j (by omega)
  rw [if_pos e]
theorem clash_comm {c : SC} {v : SV} {w : SW} (hi : INV c v w) {i j : Nat} (h1 : i < c 0) (h2 : j < c 0) : F_X5_clashRegion c v w (nI i) (nI j) = F_X5_clashRegion c v w (nI j) (nI i) := by
  rw [clash_region hi h1 h2, clash_region hi h2 h1, Int64.and_comm]
  by_cases h : v 1 i 0 = v 1 j 0
  · rw [if_pos h, if_pos h.symm]
  · rw [if_neg h, if_neg (fun q => h q.symm)]
theorem fa_clash {c : SC} {v : SV} {w : SW} (hi : INV c v w) {i j : Nat} (h1 : i < c 0) (h2 : j < c 0) : F_X5_clash c v w (nI i) (nI j) = F_X5_clash c v w (nI j) (nI i) := by
  unfold F_X5_clash
  rw [clash_comm hi h1 h2]
theorem sheet_reg {c : SC} {v : SV} {w : SW} (hi : INV c v w) {i : Nat} (h1 : i < c 0) : REG (w 1 i 0) := by
  obtain ⟨L, K, a1, a2, a3, a4, a5, a6, a7, a8, a9⟩ := hi.2.1 i h1
  rw [a7]
  exact a9 K a2
theorem clash_iff {c : SC} {v : SV} {w : SW} (hi : INV c v w) {i j : Nat} (h1 : i < c 0) (h2 : j < c 0) : F_X5_clash c v w (nI i) (nI j) ≤ 0 ↔ CH c v w i j = false := by
  unfold F_X5_clash CH
  rw [clash_region hi h1 h2]
  by_cases h : v 1 i 0 = v 1 j 0
  · rw [if_pos h]
    have e1 : F_X5_fieldsOf 0 ≤ 0 := by decide +kernel
    have e2 : F_X5_hasField 0 = 0 := by decide +kernel
    simp [e1, e2]
  · rw [if_neg h]
    rcases meet_fields (sheet_reg hi h1) (sheet_reg hi h2) with ⟨e1, e2⟩ | ⟨e1, e2⟩
    · rw [e2]
      simp [e1]
    · simp [e1, Int32.not_le.mpr e2]
theorem fa_trade {c : SC} {v : SV} {w : SW} (hi : INV c v w) {i j : Nat} (h1 : i < c 0) (h2 : j < c 0) (h : ¬ F_X5_clash c v w (nI i) (nI j) ≤ 0) : ¬ F_X5_ofSheet0 c v w (nI i) = F_X5_ofSheet0 c v w (nI j) := by
  have h0 := hi.1.1
  unfold F_X5_ofSheet0
  rw [cl (by omega), cl (by omega)]
  intro e
  apply h
  unfold F_X5_clash
  rw [clash_region hi h1 h2, if_pos e]
  decide +kernel
/-- the pairs that isFair has counted: before sheet k, and of sheet k those below o -/
def PQ (c : SC) (v : SV) (w : SW) (k o : Nat) : Nat := cnt (CH c v w k) o
def PR (c : SC) (v : SV) (w : SW) : Nat → Nat
  | 0 => 0
  | k + 1 => PR c v w k + PQ c v w k k
theorem pq_yes {c : SC} {v : SV} {w : SW} (hi : INV c v w) {k o : Nat} (h1 : k < c 0) (h2 : o < c 0) (h : ¬ F_X5_clash c v w (nI k) (nI o) ≤ 0) : nI (PR c v w k + PQ c v w k o) + 1 = nI (PR c v w k + PQ c v w k (o + 1)) := by
  have h3 : CH c v w k o = true := by
    cases e : CH c v w k o with
    | true => rfl
    | false => exact absurd ((clash_iff hi h1 h2).mpr e) h
  rw [nI_1]
  unfold PQ
  show _ = nI (_ + if CH c v w k o = true then cnt (CH c v w k) o + 1 else cnt (CH c v w k) o)
  rw [if_pos h3]
  rfl
theorem pq_no {c : SC} {v : SV} {w : SW} (hi : INV c v w) {k o : Nat} (h1 : k < c 0) (h2 : o < c 0) (h : F_X5_clash c v w (nI k) (nI o) ≤ 0) : nI (PR c v w k + PQ c v w k o) + 0 = nI (PR c v w k + PQ c v w k (o + 1)) := by
  have h3 := (clash_iff hi h1 h2).mp h
  rw [Int32.add_zero]
  unfold PQ
  show _ = nI (_ + if CH c v w k o = true then cnt (CH c v w k) o + 1 else cnt (CH c v w k) o)
  rw [if_neg (by rw [h3]; decide)]
/-- and the class counts the same -/
theorem fa_pairs {c : SC} {v : SV} {w : SW} (hi : INV c v w) : F_X5_many6 c v w = nI (PR c v w (c 0)) := by
  have h0 := hi.1.1
  have hs : ∀ i j, i < c 0 → j < c 0 → CH c v w i j = CH c v w j i := by
    intro i j h1 h2
    unfold CH
    rw [clash_comm hi h1 h2]
  -- one sheet's pairs with those behind it
  have inner : ∀ i k j (a : Nat), i < c 0 → j + k = c 0 → FL2_X5_clashingPairs c v w i k j (nI a) = nI (a + (cnt (CH c v w i) (c 0) - cnt (CH c v w i) j)) ∧ cnt (CH c v w i) j ≤ cnt (CH c v w i) (c 0) := by
    intro i k
    induction k with
    | zero =>
      intro j a _ hj
      obtain rfl : j = c 0 := by omega
      exact ⟨by rw [Nat.sub_self]; rfl, Nat.le_refl _⟩
    | succ k ih =>
      intro j a h1 hj
      have hstep : cnt (CH c v w i) (j + 1) = if CH c v w i j = true then cnt (CH c v w i) j + 1 else cnt (CH c v w i) j := rfl
      by_cases hc : CH c v w i j = true
      · rw [if_pos hc] at hstep
        have hn : ¬ F_X5_hasField (F_X5_clashRegion c v w (nI i) (nI j)) = 0 := by
          intro q
          unfold CH at hc
          rw [q] at hc
          exact absurd hc (by decide)
        obtain ⟨g1, g2⟩ := ih (j + 1) (a + 1) h1 (by omega)
        have e : FL2_X5_clashingPairs c v w i (k + 1) j (nI a) = FL2_X5_clashingPairs c v w i k (j + 1) (nI (a + 1)) := by
          show FL2_X5_clashingPairs c v w i k (j + 1) _ = _
          rw [if_neg hn, nI_1]
        rw [e, g1, hstep]
        exact ⟨by congr 1; omega, by omega⟩
      · rw [if_neg hc] at hstep
        have hn : F_X5_hasField (F_X5_clashRegion c v w (nI i) (nI j)) = 0 := by
          by_cases q : F_X5_hasField (F_X5_clashRegion c v w (nI i) (nI j)) = 0
          · exact q
          · exact absurd (by unfold CH; simp [q]) hc
        obtain ⟨g1, g2⟩ := ih (j + 1) a h1 (by omega)
        have e : FL2_X5_clashingPairs c v w i (k + 1) j (nI a) = FL2_X5_clashingPairs c v w i k (j + 1) (nI a) := by
          show FL2_X5_clashingPairs c v w i k (j + 1) _ = _
          rw [if_pos hn]
        rw [e, g1, hstep]
        exact ⟨rfl, by omega⟩
  have one : ∀ i a, i < c 0 → FL2_X5_clashingPairs c v w i (c 0 - (i + 1)) (i + 1) (nI a) = nI (a + (cnt (CH c v w i) (c 0) - cnt (CH c v w i) (i + 1))) := fun i a h => (inner i _ (i + 1) a h (by omega)).1
  have step : ∀ k i a, FL_X5_clashingPairs c v w (k + 1) i (nI a) = FL_X5_clashingPairs c v w k (i + 1) (FL2_X5_clashingPairs c v w i (c 0 - (i + 1)) (i + 1) (nI a)) := fun _ _ _ => rfl
  have z : ∀ i a, FL_X5_clashingPairs c v w 0 i (nI a) = nI a := fun _ _ => rfl
  unfold F_X5_many6 F_X5_clashingPairs
  show FL_X5_clashingPairs c v w (c 0) 0 (nI 0) = _
  -- by the number of sheets
  have key : ∀ n, n = c 0 → n ≤ 5 → FL_X5_clashingPairs c v w n 0 (nI 0) = nI (PR c v w n) := by
    intro n hn hn5
    have cs : ∀ i m, cnt (CH c v w i) (m + 1) = cnt (CH c v w i) m + (if CH c v w i m = true then 1 else 0) := by
      intro i m
      show (if CH c v w i m = true then cnt (CH c v w i) m + 1 else cnt (CH c v w i) m) = _
      split <;> rfl
    have c0 : ∀ i, cnt (CH c v w i) 0 = 0 := fun _ => rfl
    rcases (show n = 0 ∨ n = 1 ∨ n = 2 ∨ n = 3 ∨ n = 4 ∨ n = 5 by omega) with rfl | rfl | rfl | rfl | rfl | rfl
    · rfl
    · rw [step 0 0, one 0 _ (by omega), z]
      congr 1
      rw [← hn]
      simp only [PR, PQ, cs, c0, Nat.zero_add, Nat.reduceAdd]
      omega
    · rw [step 1 0, one 0 _ (by omega), step 0 (0 + 1), one (0 + 1) _ (by omega), z]
      congr 1
      rw [← hn]
      simp only [PR, PQ, cs, c0, Nat.zero_add, Nat.reduceAdd]
      rw [hs 0 1 (by omega) (by omega)]
      omega
    · rw [step 2 0, one 0 _ (by omega), step 1 (0 + 1), one (0 + 1) _ (by omega), step 0 (0 + 1 + 1), one (0 + 1 + 1) _ (by omega), z]
      congr 1
      rw [← hn]
      simp only [PR, PQ, cs, c0, Nat.zero_add, Nat.reduceAdd]
      rw [hs 0 1 (by omega) (by omega), hs 0 2 (by omega) (by omega), hs 1 2 (by omega) (by omega)]
      omega
    · rw [step 3 0, one 0 _ (by omega), step 2 (0 + 1), one (0 + 1) _ (by omega), step 1 (0 + 1 + 1), one (0 + 1 + 1) _ (by omega), step 0 (0 + 1 + 1 + 1), one (0 + 1 + 1 + 1) _ (by omega), z]
      congr 1
      rw [← hn]
      simp only [PR, PQ, cs, c0, Nat.zero_add, Nat.reduceAdd]
      rw [hs 0 1 (by omega) (by omega), hs 0 2 (by omega) (by omega), hs 1 2 (by omega) (by omega), hs 0 3 (by omega) (by omega), hs 1 3 (by omega) (by omega), hs 2 3 (by omega) (by omega)]
      omega
    · rw [step 4 0, one 0 _ (by omega), step 3 (0 + 1), one (0 + 1) _ (by omega), step 2 (0 + 1 + 1), one (0 + 1 + 1) _ (by omega), step 1 (0 + 1 + 1 + 1), one (0 + 1 + 1 + 1) _ (by omega), step 0 (0 + 1 + 1 + 1 + 1), one (0 + 1 + 1 + 1 + 1) _ (by omega), z]
      congr 1
      rw [← hn]
      simp only [PR, PQ, cs, c0, Nat.zero_add, Nat.reduceAdd]
      rw [hs 0 1 (by omega) (by omega), hs 0 2 (by omega) (by omega), hs 1 2 (by omega) (by omega), hs 0 3 (by omega) (by omega), hs 1 3 (by omega) (by omega), hs 2 3 (by omega) (by omega), hs 0 4 (by omega) (by omega), hs 1 4 (by omega) (by omega), hs 2 4 (by omega) (by omega), hs 3 4 (by omega) (by omega)]
      omega
  exact key (c 0) rfl h0
/-! packages -/
theorem FL_firstUnfit_some {c : SC} {v : SV} {w : SW} {i : Nat} {row : Nat → Int32} : ∀ k j, j + k = c 0 → ¬ FL_X5_firstUnfit c v w i row k j = -1 → ∃ q, q < c 0 ∧ FL_X5_firstUnfit c v w i row k j = nI q ∧ ¬ F_X5_wrongWith c v w i row (nI q) = 0 := by
  intro k
  induction k with
  | zero => intro j _ h; exact absurd rfl h
  | succ k ih =>
    intro j hj h
    have e : FL_X5_firstUnfit c v w i row (k + 1) j = (if (F_X5_isIn (v 7 i 1) (nI j)) = 0 then (FL_X5_firstUnfit c v w i row k (j + 1)) else (if (F_X5_wrongWith c v w i row (nI j)) = 0 then (FL_X5_firstUnfit c v w i row k (j + 1)) else (nI j))) := rfl
    rw [e] at h ⊢
    by_cases a : F_X5_isIn (v 7 i 1) (nI j) = 0
    · rw [if_pos a] at h ⊢
      exact ih (j + 1) (by omega) h
    · rw [if_neg a] at h ⊢
      by_cases b : F_X5_wrongWith c v w i row (nI j) = 0
      · rw [if_pos b] at h ⊢
        exact ih (j + 1) (by omega) h
      · rw [if_neg b] at h ⊢
        exact ⟨j, by omega, rfl, b⟩
theorem fu_cases {c : SC} {v : SV} {w : SW} {i : Nat} {row : Nat → Int32} : F_X5_firstUnfit c v w i row = -1 ∨ ∃ q, q < c 0 ∧ F_X5_firstUnfit c v w i row = nI q ∧ ¬ F_X5_wrongWith c v w i row (nI q) = 0 := by
  by_cases h : F_X5_firstUnfit c v w i row = -1
  · exact Or.inl h
  · exact Or.inr (FL_firstUnfit_some (c 0) 0 (by omega) h)
theorem fa_u {c : SC} {v : SV} {w : SW} (hi : INV c v w) {k : Nat} (hk : k < c 4) : (0 ≤ F_X5_ofPack4 c v w (nI k) → ¬ F_X5_ofPack5 c v w (nI k) = 0) ∧ (¬ 0 ≤ F_X5_ofPack4 c v w (nI k) → F_X5_ofPack5 c v w (nI k) = 0) := by
  have h4 := hi.1.2.2.2.2
  have h0 := hi.1.1
  unfold F_X5_ofPack4 F_X5_ofPack5 F_X5_wrongWithFirst
  rw [cl (by omega)]
  rcases fu_cases (c := c) (v := v) (w := w) (i := k) (row := v 57 ((v 7 k 0).toNatClampNeg)) with e | ⟨q, hq, e, hw⟩
  · rw [e]
    exact ⟨fun h => absurd h (by decide), fun _ => if_pos rfl⟩
  · rw [e, if_neg (ne_m1 (nI_pos (by omega)))]
    exact ⟨fun _ => hw, fun h => absurd (nI_pos' (by omega)) h⟩
theorem fa_run {c : SC} {v : SV} {w : SW} (hi : INV c v w) {k : Nat} (hk : k < c 4) (h : F_X5_ofPack2 c v w (nI k) = 1) : F_X5_firstUnfit c v w k (v 57 (v 7 k 0).toNatClampNeg) = -1 ∧ ¬ 0 < F_X5_ofPack5 c v w (nI k) := by
  have h4 := hi.1.2.2.2.2
  obtain ⟨cr, s, d, st, a1, a2, a3, a4, a5, a6, a7, a8, a9, a10⟩ := hi.2.2.2.2 k hk
  unfold F_X5_ofPack2 at h
  rw [cl (by omega), a8] at h
  have hst : st = 1 := (nI_eq (by omega) (by omega)).mp (show nI st = nI 1 from h)
  have e := a10 hst
  have e2 : F_X5_firstUnfit c v w k (v 57 (v 7 k 0).toNatClampNeg) = -1 := by rw [a5, cl (by omega)]; exact e
  refine ⟨e2, ?_⟩
  unfold F_X5_ofPack5 F_X5_wrongWithFirst
  rw [cl (by omega), if_pos e2]
  decide
theorem fa_done {c : SC} {v : SV} {w : SW} (hi : INV c v w) {k : Nat} (hk : k < c 4) : F_X5_ofPack2 c v w (nI k) = 3 ↔ F_X5_ofPack3 c v w (nI k) = 0 := by
  have h4 := hi.1.2.2.2.2
  obtain ⟨cr, s, d, st, a1, a2, a3, a4, a5, a6, a7, a8, a9, a10⟩ := hi.2.2.2.2 k hk
  unfold F_X5_ofPack2 F_X5_ofPack3
  rw [cl (by omega), a7, a8]
  rw [show ((3 : Int32) = nI 3) from rfl, show ((0 : Int32) = nI 0) from rfl, nI_eq (by omega) (by omega), nI_eq (by omega) (by omega)]
  exact a9
theorem fa_crew {c : SC} {v : SV} {w : SW} (hi : INV c v w) {k : Nat} (hk : k < c 4) : ¬ F_X5_ofPack0 c v w (nI k) < 0 ∧ F_X5_ofPack0 c v w (nI k) < 4 := by
  have h4 := hi.1.2.2.2.2
  obtain ⟨cr, s, d, st, a1, a2, a3, a4, a5, -⟩ := hi.2.2.2.2 k hk
  unfold F_X5_ofPack0
  rw [cl (by omega), a5]
  exact ⟨nI_pos (by omega), nI_lt (b := 4) a1 (by decide)⟩
theorem fa_sheet {c : SC} {v : SV} {w : SW} (hi : INV c v w) {k j : Nat} (hk : k < c 4) (hj : j < c 0) (h : F_X5_ofPack2 c v w (nI k) = 1) (hb : ((F_X5_ofPack1 c v w (nI k)) >>> (nI j &&& 31)) &&& (1 : Int32) = (1 : Int32)) : F_X5_has c v w (F_X5_ofPack0 c v w (nI k)) (nI j) = F_X5_ofSheet2 c v w (nI j) ∧ ¬ 0 < F_X5_ofSheet7 c v w (nI j) ∧ F_X5_ofSheet6 c v w (nI j) ≤ 2 := by
  have h4 := hi.1.2.2.2.2
  have h0 := hi.1.1
  obtain ⟨e, -⟩ := fa_run hi hk h
  obtain ⟨cr, s, d, st, a1, a2, a3, a4, a5, a6, a7, a8, a9, a10⟩ := hi.2.2.2.2 k hk
  unfold F_X5_ofPack1 at hb
  rw [cl (by omega), a6, bit_1 (by omega) (by omega)] at hb
  subst hb
  rw [firstUnfit_iff h0] at e
  have e1 := e s hj
  rw [a6, isIn_1 (by omega) (by omega)] at e1
  have e2 := e1.resolve_left (fun q => q rfl)
  unfold F_X5_wrongWith at e2
  unfold F_X5_has F_X5_ofPack0 F_X5_ofSheet2 F_X5_ofSheet7 F_X5_ofSheet6
  rw [cl (i := k) (by omega)]
  rw [cl (i := s) (by omega)] at e2 ⊢
  by_cases p1 : v 1 s 3 = (-1 : Int32)
  · rw [if_pos p1] at e2
    exact absurd e2 (by decide)
  · rw [if_neg p1] at e2
    by_cases p2 : v 57 (v 7 k 0).toNatClampNeg s = v 1 s 3
    · rw [if_pos p2] at e2
      by_cases p3 : F_X5_brokenFrom c v w (nI s) ≤ 0
      · rw [if_pos p3] at e2
        by_cases p4 : F_X5_cloudsOver c v w (nI s) (w 7 k 0) ≤ 0
        · rw [if_pos p4] at e2
          by_cases p5 : v 1 s 5 < (3 : Int32)
          · refine ⟨p2, Int32.not_lt.mpr p3, ?_⟩
            rw [Int32.le_iff_toInt_le]
            rw [Int32.lt_iff_toInt_lt] at p5
            have q3 : (3 : Int32).toInt = 3 := by decide
            have q2 : (2 : Int32).toInt = 2 := by decide
            omega
          · rw [if_neg p5] at e2
            exact absurd e2 (by decide)
        · rw [if_neg p4] at e2
          exact absurd e2 (by decide)
      · rw [if_neg p3] at e2
        exact absurd e2 (by decide)
    · rw [if_neg p2] at e2
      exact absurd e2 (by decide)
/-! the end -/
def FS (c : SC) (v : SV) (w : SW) (i : Nat) : Bool := decide (v 7 i 3 = 2) && decide (F_X5_firstUnfit c v w i (v 57 ((v 7 i 0).toNatClampNeg)) = -1)
theorem fit_cnt {c : SC} {v : SV} {w : SW} : F_X5_fitStopped c v w = nI (cnt (FS c v w) (c 4)) := by
  have key : ∀ k i, i + k = c 4 → FL_X5_fitStopped c v w k i (nI (cnt (FS c v w) i)) = nI (cnt (FS c v w) (c 4)) := by
    intro k
    induction k with
    | zero =>
      intro i hi
      obtain rfl : i = c 4 := by omega
      rfl
    | succ k ih =>
      intro i hi
      rw [← ih (i + 1) (by omega)]
      show FL_X5_fitStopped c v w k (i + 1) _ = FL_X5_fitStopped c v w k (i + 1) _
      congr 1
      show _ = nI (if FS c v w i = true then cnt (FS c v w) i + 1 else cnt (FS c v w) i)
      by_cases h : v 7 i 3 = 2
      · rw [if_pos h]
        by_cases h2 : F_X5_firstUnfit c v w i (v 57 ((v 7 i 0).toNatClampNeg)) = -1
        · rw [if_pos h2, if_pos (by simp [FS, h, h2]), nI_1]
        · rw [if_neg h2, if_neg (by simp [FS, h2])]
      · rw [if_neg h, if_neg (by simp [FS, h])]
  exact key (c 4) 0 (by omega)
theorem freed_le {c : SC} {v : SV} {w : SW} (hi : INV c v w) {q : Nat} : ¬ F_X5_many10 c v w < F_X5_freedBy c v w (nI q) := by
  have h4 := hi.1.2.2.2.2
  unfold F_X5_freedBy F_X5_many10
  rw [fit_cnt, fit_cnt, packs_cnt]
  have a1 := cnt_le (P := FS c v w) (c 4)
  have a2 := cnt_le (P := FS c (uV v 4 (nI q).toNatClampNeg 1 2) w) (c 4)
  have a3 := cnt_le (P := IS v 2) (c 4)
  have a4 : cnt (FS c (uV v 4 (nI q).toNatClampNeg 1 2) w) (c 4) ≤ cnt (IS v 2) (c 4) := by
    refine cnt_mono (c 4) (fun i _ h => ?_)
    unfold FS at h
    simp only [Bool.and_eq_true, decide_eq_true_eq] at h
    exact decide_eq_true (show v 7 i 3 = 2 from h.1)
  rw [Int32.not_lt, Int32.le_iff_toInt_le, Int32.toInt_sub, nI_toInt (by omega), nI_toInt (by omega), nI_toInt (by omega)]
  have e : ((cnt (FS c (uV v 4 (nI q).toNatClampNeg 1 2) w) (c 4) : Int) - (cnt (FS c v w) (c 4) : Int)).bmod (2 ^ 32) = (cnt (FS c (uV v 4 (nI q).toNatClampNeg 1 2) w) (c 4) : Int) - (cnt (FS c v w) (c 4) : Int) := Int.bmod_eq_of_le (by omega) (by omega)
  rw [e]
  omega
theorem query_open {c : SC} {v : SV} {w : SW} (hi : INV c v w) {q : Nat} (hq : q < c 3) : ¬ F_X5_ofQuery c v w (nI q) = 2 := by
  have h3 := hi.1.2.2.2.1
  unfold F_X5_ofQuery
  rw [cl (by omega), hi.2.2.2.1 q hq]
  decide
/-! the start: sheets drawn, checked and issued one by one -/
def INI (c : SC) (v : SV) (w : SW) (k : Nat) : Prop := (c 0 = k ∧ c 1 = 0 ∧ c 2 = 0 ∧ c 3 = 0 ∧ c 4 = 0) ∧ (∀ i, i < k → SHT v w i ∧ v 1 i 3 = 0) ∧ ∀ r j, v 57 r j = -1
def DRA (c : SC) (v : SV) (w : SW) (k : Nat) : Prop := (c 0 = k + 1 ∧ c 1 = 0 ∧ c 2 = 0 ∧ c 3 = 0 ∧ c 4 = 0) ∧ (∀ i, i < k → SHT v w i ∧ v 1 i 3 = 0) ∧ (∀ r j, v 57 r j = -1) ∧ v 1 k 1 = 0 ∧ v 1 k 3 = -1 ∧ v 1 k 6 = 0
theorem INI_inv {c : SC} {v : SV} {w : SW} {k : Nat} (h : INI c v w k) (hk : k ≤ 5) : INV c v w := by
  obtain ⟨⟨h0, h1, h2, h3, h4⟩, hs, -⟩ := h
  exact ⟨by omega, fun i hi => (hs i (by omega)).1, fun i hi => absurd hi (by omega), fun i hi => absurd hi (by omega), fun i hi => absurd hi (by omega)⟩
theorem DRA_bnd {c : SC} {v : SV} {w : SW} {k : Nat} (h : DRA c v w k) (hk : k < 5) : BND c := by
  obtain ⟨⟨h0, h1, h2, h3, h4⟩, -⟩ := h
  exact ⟨by omega, by omega, by omega, by omega, by omega⟩
theorem DRA_wf {c : SC} {v : SV} {w : SW} {k : Nat} (h : DRA c v w k) (hk : k < 5) : WF c v := by
  obtain ⟨⟨h0, h1, h2, h3, h4⟩, hs, -, e1, -⟩ := h
  refine ⟨fun i hi => absurd hi (by omega), fun i hi => absurd hi (by omega), fun i hi => ?_⟩
  by_cases e : i = k
  · rw [e, e1]
    decide
  · obtain ⟨L, K, hL, -, -, a4, -⟩ := (hs i (by omega)).1
    rw [a4]
    exact ⟨nI_pos (by omega), by rw [cl (by omega)]; omega⟩
theorem ini_sheet {c : SC} {v : SV} {w : SW} {k : Nat} (h : INI c v w k) (x1 : Int32) : DRA (uC c 0 (c 0 + 1)) (V_X5_sheet c v w x1) (W_X5_sheet c v w x1) k ∧ V_X5_sheet c v w x1 1 k 2 = 0 := by
  obtain ⟨⟨h0, h1, h2, h3, h4⟩, hs, hr⟩ := h
  unfold V_X5_sheet W_X5_sheet
  have e : ∀ a b f, ¬ (b = c 0 ∧ (a = 1 ∨ a = 12)) → newV_1 v (c 0) x1 a b f = v a b f := by
    intro a b f hn
    unfold newV_1
    rw [if_neg hn]
  have ew : ∀ a b f, ¬ (b = c 0 ∧ (a = 1 ∨ a = 11)) → newW_1 w (c 0) a b f = w a b f := by
    intro a b f hn
    unfold newW_1
    rw [if_neg hn]
  subst h0
  refine ⟨⟨⟨rfl, h1, h2, h3, h4⟩, fun i hi => ⟨?_, ?_⟩, fun r j => ?_, ?_, ?_, ?_⟩, ?_⟩
  · exact SHT_same (hs i hi).1 (e _ _ _ (by omega)) (e _ _ _ (by omega)) (e _ _ _ (by omega)) (e _ _ _ (by omega)) (fun r => e _ _ _ (by omega)) (ew _ _ _ (by omega)) (fun r => ew _ _ _ (by omega))
  · rw [e _ _ _ (by omega)]; exact (hs i hi).2
  · rw [e _ _ _ (by omega)]; exact hr r j
  · simp [newV_1]
  · simp [newV_1]
  · simp [newV_1]
  · simp [newV_1]
theorem ini_last {c : SC} {v : SV} {w : SW} {k : Nat} (h : DRA c v w k) (hk : k < 5) : (nI k).toNatClampNeg = k ∧ (v 1 k 2 = 0 → F_X3_lastStatus c v w (nI k).toNatClampNeg = 0) ∧ (v 1 k 2 = 1 → ¬ F_X5_isReadyToIssue c v w (nI k) = 0) ∧ F_X5_brokenFrom c v w (nI k) = 0 := by
  obtain ⟨⟨h0, h1, h2, h3, h4⟩, hs, -, e1, e3, -⟩ := h
  have hc : (nI k).toNatClampNeg = k := cl (by omega)
  have hb : F_X5_brokenFrom c v w (nI k) = 0 := by
    unfold F_X5_brokenFrom
    rw [h1]
    rfl
  have st : F_X3_lastStatus c v w k = if v 1 k 2 = 0 then 0 else 1 := by
    unfold F_X3_lastStatus F_X3_statusOf
    rw [e1, e3, if_neg (by decide), if_pos (by decide)]
  refine ⟨hc, fun q => ?_, fun q => ?_, hb⟩
  · rw [hc, st, if_pos q]
  · unfold F_X5_isReadyToIssue
    rw [hc, st, if_neg (show ¬ v 1 k 2 = 0 by rw [q]; decide), if_pos rfl, hb, if_pos rfl]
    decide
theorem ini_draw {c : SC} {v : SV} {w : SW} {k : Nat} (h : DRA c v w k) (hk : k < 5) (x2 x3 x4 x5 x6 : Int32) : DRA c (V_X5_draw c v w (nI k) x2 x3 x4 x5 x6) (W_X5_draw c v w (nI k) x2 x3 x4 x5 x6) k ∧ V_X5_draw c v w (nI k) x2 x3 x4 x5 x6 1 k 2 = v 1 k 2 ∧ W_X5_draw c v w (nI k) x2 x3 x4 x5 x6 11 k 0 = F_X5_regionOf x2 x3 x4 x5 := by
  have hc := (ini_last h hk).1
  obtain ⟨hcs, hs, hr, e1, e3, e6⟩ := h
  unfold V_X5_draw W_X5_draw V_X3_drawLast W_X3_drawLast
  rw [hc, e1]
  refine ⟨⟨hcs, fun i hi => ⟨?_, (hs i hi).2⟩, hr, e1, e3, e6⟩, rfl, ?_⟩
  · exact SHT_same (hs i hi).1 rfl rfl rfl rfl (fun r => uV_ne (by omega)) rfl (fun r => uW_ne (by omega))
  · exact uW_eq
theorem ini_check {c : SC} {v : SV} {w : SW} {k : Nat} (h : DRA c v w k) (hk : k < 5) : DRA c (V_X5_check c v w (nI k)) w k ∧ V_X5_check c v w (nI k) 1 k 2 = 1 ∧ F_X5_check c v w (nI k) = 0 := by
  have hc := (ini_last h hk).1
  obtain ⟨hcs, hs, hr, e1, e3, e6⟩ := h
  unfold V_X5_check F_X5_check
  rw [hc]
  have e : ∀ i f, f ≠ 2 → uV v 1 k 2 1 1 i f = v 1 i f := fun i f hf => uV_f hf
  refine ⟨⟨hcs, fun i hi => ⟨?_, (e i 3 (by decide)).trans (hs i hi).2⟩, hr, (e k 1 (by decide)).trans e1, (e k 3 (by decide)).trans e3, (e k 6 (by decide)).trans e6⟩, uV_eq, ?_⟩
  · exact SHT_same (hs i hi).1 (e _ _ (by decide)) (e _ _ (by decide)) (e _ _ (by decide)) (e _ _ (by decide)) (fun _ => rfl) rfl (fun _ => rfl)
  · unfold F_X5_brokenFrom
    rw [hcs.2.1]
    rfl
theorem ini_issue {c : SC} {v : SV} {w : SW} {k : Nat} (h : DRA c v w k) (hk : k < 5) (hR : REG (w 11 k 0)) : INI c (V_X5_issue c v w (nI k)) (W_X5_issue c v w (nI k)) (k + 1) ∧ F_X5_issue c v w (nI k) = 0 := by
  have hc := (ini_last h hk).1
  obtain ⟨⟨h0, h1, h2, h3, h4⟩, hs, hr, e1, e3, e6⟩ := h
  have ec := closePromised_id (c := c) (v := V_X3_setIssued c v w k (v 1 k 1)) (w := W_X3_setIssued c v w k (v 1 k 1)) (x1 := nI k) (fun i hi => absurd hi (by omega))
  have es : ∀ V W, V_X5_stopUnfit c V W = V := by
    intro V W
    unfold V_X5_stopUnfit
    rw [h4]
    rfl
  unfold V_X5_issue W_X5_issue F_X5_issue
  rw [hc, ec, es, e1]
  have z : (0 : Int32).toNatClampNeg = 0 := by decide
  refine ⟨⟨⟨h0, h1, h2, h3, h4⟩, fun i hi => ?_, hr⟩, ?_⟩
  · by_cases e : i = k
    · subst e
      have a3 : V_X3_setIssued c v w i 0 1 i 3 = 0 := (uV_f (by decide)).trans uV_eq
      refine ⟨⟨0, 0, by omega, by omega, by omega, (uV_f (by decide)).trans ((uV_f (by decide)).trans e1), a3, (uV_f (by decide)).trans ((uV_f (by decide)).trans e6), ?_, ?_, fun r hr0 => ?_⟩, a3⟩
      · show W_X3_setIssued c v w i 0 1 i 0 = W_X3_setIssued c v w i 0 11 i 0
        rw [show W_X3_setIssued c v w i 0 1 i 0 = w 11 i (0 : Int32).toNatClampNeg from uW_eq, z]
        rfl
      · show V_X3_setIssued c v w i 0 1 i 4 = V_X3_setIssued c v w i 0 12 i 0
        rw [show V_X3_setIssued c v w i 0 1 i 4 = v 12 i (0 : Int32).toNatClampNeg from uV_eq, z]
        rfl
      · obtain rfl : r = 0 := by omega
        exact hR
    · have n1 : ∀ f, V_X3_setIssued c v w k 0 1 i f = v 1 i f := fun f => (uV_ne (fun q => e q.2)).trans (uV_ne (fun q => e q.2))
      exact ⟨SHT_same (hs i (by omega)).1 (n1 _) (n1 _) (n1 _) (n1 _) (fun _ => rfl) (uW_ne (fun q => e q.2)) (fun _ => rfl), (n1 3).trans (hs i (by omega)).2⟩
  · unfold F_X5_stopUnfit F_X5_unfitRunning
    rw [h4]
    exact (by decide +kernel : F_J6_bitCount_0f7a4 0 = 0)
/-! all crews get the first sending -/
def SNT (c : SC) (v : SV) (w : SW) (n cr : Nat) (aw : Int32) : Prop := INV c v w ∧ c 0 = n ∧ c 2 = 1 ∧ c 3 = 0 ∧ c 4 = 0 ∧ (∀ j, j < 10 → v 13 0 j = if j < n then 0 else -1) ∧ (∀ r j, cr ≤ r → v 57 r j = -1) ∧ v 3 0 1 = aw
theorem packSheets_at {c : SC} {v : SV} {w : SW} {n : Nat} {x1 : Int32} : ∀ (k i : Nat) (V : SV), (∀ j, ¬ (i ≤ j ∧ j < i + k) → VL_X5_packSheets c v w n x1 k i V 13 n j = V 13 n j) ∧ ∀ j, i ≤ j → j < i + k → VL_X5_packSheets c v w n x1 k i V 13 n j = if F_X5_isIn x1 (nI j) = 0 then V 13 n j else V 1 j 3 := by
  intro k
  induction k with
  | zero => intro i V; exact ⟨fun _ _ => rfl, fun j h1 h2 => absurd h2 (by omega)⟩
  | succ k ih =>
    intro i V
    have e : VL_X5_packSheets c v w n x1 (k + 1) i V = VL_X5_packSheets c v w n x1 k (i + 1) (if (F_X5_isIn x1 (nI i)) = 0 then V else (uV V 13 n i (V 1 i 3))) := rfl
    obtain ⟨h1, h2⟩ := ih (i + 1) (if (F_X5_isIn x1 (nI i)) = 0 then V else (uV V 13 n i (V 1 i 3)))
    rw [e]
    have f : ∀ j, j ≠ i → (if (F_X5_isIn x1 (nI i)) = 0 then V else (uV V 13 n i (V 1 i 3))) 13 n j = V 13 n j := by
      intro j hj
      split
      · rfl
      · exact uV_f hj
    have g : ∀ j, (if (F_X5_isIn x1 (nI i)) = 0 then V else (uV V 13 n i (V 1 i 3))) 1 j 3 = V 1 j 3 := by
      intro j
      split
      · rfl
      · rfl
    refine ⟨fun j hj => ?_, fun j hj hj2 => ?_⟩
    · rw [h1 j (by omega), f j (by omega)]
    · by_cases e2 : j = i
      · subst e2
        rw [h1 j (by omega)]
        split
        · rfl
        · exact uV_eq
      · rw [h2 j (by omega) (by omega), f j e2, g j]
theorem ini_send {c : SC} {v : SV} {w : SW} {n : Nat} (h : INI c v w n) (h1 : 1 ≤ n) (hn : n ≤ 5) : SNT (uC c 2 (c 2 + 1)) (V_X5_send c v w 15 (((1 : Int32) <<< (nI n &&& 31)) - (1 : Int32))) w n 0 15 := by
  have hi := INI_inv h hn
  obtain ⟨⟨h0, k1, h2, h3, h4⟩, hs, hr⟩ := h
  refine ⟨INV_send hi (by omega) _ _, h0, by show c 2 + 1 = 1; omega, h3, h4, fun j hj => ?_, fun r j _ => ?_, ?_⟩
  · unfold V_X5_send V_X5_packSheets
    rw [h2]
    obtain ⟨q1, q2⟩ := packSheets_at (c := c) (v := newV_3 v 0 15 (nI (c 5))) (w := w) (n := 0) (x1 := ((1 : Int32) <<< (nI n &&& 31)) - (1 : Int32)) (c 0) 0 (newV_3 v 0 15 (nI (c 5)))
    have m1 : newV_3 v 0 15 (nI (c 5)) 13 0 j = -1 := by simp [newV_3]
    by_cases hjn : j < n
    · rw [q2 j (by omega) (by omega), if_pos hjn]
      have hb : ¬ F_X5_isIn (((1 : Int32) <<< (nI n &&& 31)) - (1 : Int32)) (nI j) = 0 := fun q => by
        have := (isIn_all (n := n) (j := j) (by omega) (by omega)).mp q
        omega
      rw [if_neg hb]
      have m2 : newV_3 v 0 15 (nI (c 5)) 1 j 3 = v 1 j 3 := by simp [newV_3]
      rw [m2]
      exact (hs j hjn).2
    · rw [q1 j (by omega), m1, if_neg hjn]
  · rw [send_frame (by decide) (by decide)]; exact hr r j
  · unfold V_X5_send V_X5_packSheets
    rw [packSheets_frame _ _ _ _ _ _ (by decide), h2]
    simp [newV_3]
theorem take_all {c : SC} {v : SV} {w : SW} {r n : Nat} (hn : n ≤ 10) : ∀ (k i a : Nat) (V : SV), i + k = 10 → (∀ j, i ≤ j → j < 10 → V 13 0 j = (if j < n then 0 else -1) ∧ V 57 r j = -1) → a + (n - i) < 2 ^ 31 → FL_X5_takeLater c v w 0 r k i V (nI a) = nI (a + (n - i)) := by
  intro k
  induction k with
  | zero =>
    intro i a V hi _ _
    have : n - i = 0 := by omega
    rw [this]
    rfl
  | succ k ih =>
    intro i a V hi hV ha
    obtain ⟨e1, e2⟩ := hV i (Nat.le_refl i) (by omega)
    have hs : FL_X5_takeLater c v w 0 r (k + 1) i V (nI a) = FL_X5_takeLater c v w 0 r k (i + 1) (if (V 13 0 i) ≤ (V 57 r i) then V else (uV V 57 r i (V 13 0 i))) (if (V 13 0 i) ≤ (V 57 r i) then (nI a) else ((nI a) + 1)) := rfl
    rw [hs, e1, e2]
    by_cases h : i < n
    · rw [if_pos h, if_neg (by decide), if_neg (by decide), nI_1, ih (i + 1) (a + 1) _ (by omega) (fun j hj hj2 => ?_) (by omega)]
      · congr 1
        omega
      · obtain ⟨g1, g2⟩ := hV j (by omega) hj2
        exact ⟨g1, (uV_f (by omega)).trans g2⟩
    · rw [if_neg h, if_pos (Int32.le_refl _), if_pos (Int32.le_refl _), ih (i + 1) a _ (by omega) (fun j hj hj2 => hV j (by omega) hj2) (by omega)]
      congr 1
      omega
theorem take_frame {c : SC} {v : SV} {w : SW} {i r : Nat} {a b f : Nat} (h : ¬ (a = 57 ∧ b = r)) : V_X5_takeLater c v w i r a b f = v a b f := by
  have key : ∀ (k j : Nat) (V : SV), VL_X5_takeLater c v w i r k j V a b f = V a b f := by
    intro k
    induction k with
    | zero => intro j V; rfl
    | succ k ih =>
      intro j V
      show VL_X5_takeLater c v w i r k (j + 1) _ a b f = _
      rw [ih]
      split
      · rfl
      · exact uV_ne h
  exact key _ _ _
theorem ini_receive {c : SC} {v : SV} {w : SW} {n cr : Nat} {aw : Int32} (h : SNT c v w n cr aw) (hcr : cr < 4) : SNT c (V_X5_receive c v w 0 (nI cr)) w n (cr + 1) (aw &&& (((1 : Int32) <<< (nI cr &&& 31)) ^^^ (-1 : Int32))) ∧ F_X5_receive c v w 0 (nI cr) = nI n := by
  obtain ⟨hi, h0, h2, h3, h4, hs, hr, ha⟩ := h
  have hc : (nI cr).toNatClampNeg = cr := cl (by omega)
  have hz : (0 : Int32).toNatClampNeg = 0 := by decide
  have h5 := hi.1.1
  unfold V_X5_receive F_X5_receive
  rw [hc, hz, ha]
  have fr : ∀ a b f, ¬ (a = 57 ∧ b = cr) → ¬ (a = 3 ∧ b = 0) → V_X5_takeLater c (uV v 3 0 1 (aw &&& (((1 : Int32) <<< (nI cr &&& 31)) ^^^ (-1 : Int32)))) w 0 cr a b f = v a b f := by
    intro a b f g1 g2
    rw [take_frame g1]
    exact uV_ne g2
  refine ⟨⟨⟨hi.1, fun i hi9 => ?_, fun i hi9 => ?_, fun i hi9 => absurd hi9 (by omega), fun i hi9 => absurd hi9 (by omega)⟩, h0, h2, h3, h4, fun j hj => ?_, fun r j hr9 => ?_, ?_⟩, ?_⟩
  · exact SHT_same (hi.2.1 i hi9) (fr _ _ _ (by omega) (by omega)) (fr _ _ _ (by omega) (by omega)) (fr _ _ _ (by omega) (by omega)) (fr _ _ _ (by omega) (by omega)) (fun r => fr _ _ _ (by omega) (by omega)) rfl (fun _ => rfl)
  · rw [fr _ _ _ (by omega) (by omega)]; exact hi.2.2.1 i hi9
  · rw [fr _ _ _ (by omega) (by omega)]; exact hs j hj
  · rw [fr _ _ _ (by omega) (by omega)]; exact hr r j (by omega)
  · rw [take_frame (by omega)]; exact uV_eq
  · unfold F_X5_takeLater
    have e := take_all (c := c) (v := uV v 3 0 1 (aw &&& (((1 : Int32) <<< (nI cr &&& 31)) ^^^ (-1 : Int32)))) (w := w) (r := cr) (n := n) (by omega) 10 0 0 (uV v 3 0 1 (aw &&& (((1 : Int32) <<< (nI cr &&& 31)) ^^^ (-1 : Int32)))) (by omega) (fun j _ hj => ⟨(uV_ne (by omega)).trans (hs j hj), (uV_ne (by omega)).trans (hr cr j (Nat.le_refl cr))⟩) (by omega)
    rw [show (0 + (n - 0)) = n by omega] at e
    exact e
theorem allIssued {c : SC} {v : SV} {w : SW} {x1 : Int32} (h : ∀ i, i < c 0 → ¬ v 1 i 3 = -1) : ¬ F_X5_areAllIssued c v w x1 = 0 := by
  have key : ∀ k i, i + k = c 0 → FL_X5_areAllIssued c v w x1 k i = 1 := by
    intro k
    induction k with
    | zero => intro i _; rfl
    | succ k ih =>
      intro i hi
      have e : FL_X5_areAllIssued c v w x1 (k + 1) i = (if (F_X5_isIn x1 (nI i)) = 0 then (FL_X5_areAllIssued c v w x1 k (i + 1)) else (if (v 1 i 3) = (-1 : Int32) then (0 : Int32) else (FL_X5_areAllIssued c v w x1 k (i + 1)))) := rfl
      rw [e, ih (i + 1) (by omega), if_neg (h i (by omega))]
      split <;> rfl
  unfold F_X5_areAllIssued
  rw [key (c 0) 0 (by omega)]
  decide
theorem INV_all {c : SC} {v : SV} {w : SW} (h : INV c v w) : ∀ i, i < c 0 → ¬ v 1 i 3 = -1 := by
  intro i hi
  obtain ⟨L, K, a1, a2, a3, a4, a5, -⟩ := h.2.1 i hi
  rw [a5]
  exact ne_m1 (nI_pos (by omega))
theorem isSet {c : SC} {v : SV} {w : SW} {x1 : Int32} (h : ¬ x1 < 1 ∧ ¬ ((1 : Int32) <<< (nI (c 0) &&& 31)) ≤ x1) : ¬ F_X5_isSetOfSheets c v w x1 = 0 := by
  unfold F_X5_isSetOfSheets
  rw [if_neg h.1, if_neg h.2]
  decide

