set_option maxHeartbeats 4000000 in
set_option maxRecDepth 100000 in
theorem r_J6_bitCount_0f7a4 (l : Launch) (D : va_G) (cA : Nat → ClassId) (NL : List (Nat × Nat)) (ad : Nat → Nat → Nat) (ct : Nat → Nat → va_E)   : Met l yJ6_bitCount_0f7a4 wsJ6_bitCount_0f7a4 ({ frames := 0, cells := 0, slots := 0, locals := 0 }) (pcPre D vwCl (tyL cA) [.int 0] (fun H => va_P D vwCl (pcW NL ad ct) H)) (va_Qi (fun (r : Int32) (_ : Unit) => r = 0) (fun _ _ => True) (fun _ => False)) 0 0 (fun _ => False) := by
  refine Met.ofW (cc := cJ6_bitCount_0f7a4) (maxL := 1) (ret := (some .int)) (by decide) rfl ?_
  intro p e s m args below meth c s₁ B hml hv
  obtain ⟨rfl, hX, hP0⟩ := hv
  have hx := B.exec
  have hb := B.bytes
  have hr := B.returns
  have hts := atoms_spec (ws := wsJ6_bitCount_0f7a4) B.pre
  have hown : s.vm.findClass RJ6 = some m.cls := findClass_of_methodNamed B.named
  have hlocks := B.notSynchronized
  have hW : pcQ D vwCl (fun _ => False) s.heap NL ad ct s.heap [] := ⟨hP0, va_S.rf⟩
  have hl := lv_entry ([.int 0]) (n := 1) (Nat.le_of_ble_eq_true rfl)
  rw [lg_entry_eq]
  generalize (lg_sl ([.int 0]) ++ List.replicate (1 - (lg_sl ([.int 0])).length) Slot.unset).toArray = ls at hl ⊢
  have hl : lv_has ls 1 [(0, .int 0)] := hl
  refine lv_iload_n hx hb dJ6_bitCount_0f7a4_0 rfl (lv_at hl 0 rfl) ?_
  refine lv_iload_n hx hb dJ6_bitCount_0f7a4_1 rfl (lv_at hl 0 rfl) ?_
  refine lv_iconst (v := 1) hx hb dJ6_bitCount_0f7a4_2 (by decide) ?_
  refine lv_iushr (v := 0) hx hb dJ6_bitCount_0f7a4_3 (by decide) ?_
  refine lv_ldcw (v := 1431655765) hx hb hown (hts (.constant RJ6 265 1431655765) (by decide +kernel)) dJ6_bitCount_0f7a4_4 ?_
  refine lv_iand hx hb dJ6_bitCount_0f7a4_7 ?_
  refine lv_topi (fun a28 ea28 => ?_)
  obtain rfl : a28 = 0 := ea28.trans (by decide)
  refine lv_isub hx hb dJ6_bitCount_0f7a4_8 ?_
  refine lv_topi (fun a29 ea29 => ?_)
  obtain rfl : a29 = 0 := ea29.trans (by decide)
  refine lv_istore_n (lv' := [(0, .int 0)]) hx hb dJ6_bitCount_0f7a4_9 rfl hl (by decide) rfl (fun ls hl => ?_)
  refine lv_iload_n hx hb dJ6_bitCount_0f7a4_10 rfl (lv_at hl 0 rfl) ?_
  refine lv_ldcw (v := 858993459) hx hb hown (hts (.constant RJ6 266 858993459) (by decide +kernel)) dJ6_bitCount_0f7a4_11 ?_
  refine lv_iand hx hb dJ6_bitCount_0f7a4_14 ?_
  refine lv_topi (fun a30 ea30 => ?_)
  obtain rfl : a30 = 0 := ea30.trans (by decide)
  refine lv_iload_n hx hb dJ6_bitCount_0f7a4_15 rfl (lv_at hl 0 rfl) ?_
  refine lv_iconst (v := 2) hx hb dJ6_bitCount_0f7a4_16 (by decide) ?_
  refine lv_iushr (v := 0) hx hb dJ6_bitCount_0f7a4_17 (by decide) ?_
  refine lv_ldcw (v := 858993459) hx hb hown (hts (.constant RJ6 266 858993459) (by decide +kernel)) dJ6_bitCount_0f7a4_18 ?_
  refine lv_iand hx hb dJ6_bitCount_0f7a4_21 ?_
  refine lv_topi (fun a31 ea31 => ?_)
  obtain rfl : a31 = 0 := ea31.trans (by decide)
  refine lv_iadd hx hb dJ6_bitCount_0f7a4_22 ?_
  refine lv_topi (fun a32 ea32 => ?_)
  obtain rfl : a32 = 0 := ea32.trans (by decide)
  refine lv_istore_n (lv' := [(0, .int 0)]) hx hb dJ6_bitCount_0f7a4_23 rfl hl (by decide) rfl (fun ls hl => ?_)
  refine lv_iload_n hx hb dJ6_bitCount_0f7a4_24 rfl (lv_at hl 0 rfl) ?_
  refine lv_iload_n hx hb dJ6_bitCount_0f7a4_25 rfl (lv_at hl 0 rfl) ?_
  refine lv_iconst (v := 4) hx hb dJ6_bitCount_0f7a4_26 (by decide) ?_
  refine lv_iushr (v := 0) hx hb dJ6_bitCount_0f7a4_27 (by decide) ?_
  refine lv_iadd hx hb dJ6_bitCount_0f7a4_28 ?_
  refine lv_topi (fun a33 ea33 => ?_)
  obtain rfl : a33 = 0 := ea33.trans (by decide)
  refine lv_ldcw (v := 252645135) hx hb hown (hts (.constant RJ6 267 252645135) (by decide +kernel)) dJ6_bitCount_0f7a4_29 ?_
  refine lv_iand hx hb dJ6_bitCount_0f7a4_32 ?_
  refine lv_topi (fun a34 ea34 => ?_)
  obtain rfl : a34 = 0 := ea34.trans (by decide)
  refine lv_istore_n (lv' := [(0, .int 0)]) hx hb dJ6_bitCount_0f7a4_33 rfl hl (by decide) rfl (fun ls hl => ?_)
  refine lv_iload_n hx hb dJ6_bitCount_0f7a4_34 rfl (lv_at hl 0 rfl) ?_
  refine lv_iload_n hx hb dJ6_bitCount_0f7a4_35 rfl (lv_at hl 0 rfl) ?_
  refine lv_bipush (v := 8) hx hb dJ6_bitCount_0f7a4_36 (by decide) ?_
  refine lv_iushr (v := 0) hx hb dJ6_bitCount_0f7a4_38 (by decide) ?_
  refine lv_iadd hx hb dJ6_bitCount_0f7a4_39 ?_
  refine lv_topi (fun a35 ea35 => ?_)
  obtain rfl : a35 = 0 := ea35.trans (by decide)
  refine lv_istore_n (lv' := [(0, .int 0)]) hx hb dJ6_bitCount_0f7a4_40 rfl hl (by decide) rfl (fun ls hl => ?_)
  refine lv_iload_n hx hb dJ6_bitCount_0f7a4_41 rfl (lv_at hl 0 rfl) ?_
  refine lv_iload_n hx hb dJ6_bitCount_0f7a4_42 rfl (lv_at hl 0 rfl) ?_
  refine lv_bipush (v := 16) hx hb dJ6_bitCount_0f7a4_43 (by decide) ?_
  refine lv_iushr (v := 0) hx hb dJ6_bitCount_0f7a4_45 (by decide) ?_
  refine lv_iadd hx hb dJ6_bitCount_0f7a4_46 ?_
  refine lv_topi (fun a36 ea36 => ?_)
  obtain rfl : a36 = 0 := ea36.trans (by decide)
  refine lv_istore_n (lv' := [(0, .int 0)]) hx hb dJ6_bitCount_0f7a4_47 rfl hl (by decide) rfl (fun ls hl => ?_)
  refine lv_iload_n hx hb dJ6_bitCount_0f7a4_48 rfl (lv_at hl 0 rfl) ?_
  refine lv_bipush (v := 63) hx hb dJ6_bitCount_0f7a4_49 (by decide) ?_
  refine lv_iand hx hb dJ6_bitCount_0f7a4_51 ?_
  refine lv_topi (fun a37 ea37 => ?_)
  obtain rfl : a37 = 0 := ea37.trans (by decide)
  exact W.iret (v := 0) hx hb hr (fun t ht hW9 => ⟨⟨0, (), rfl, rfl, trivial⟩, hW.2.F ht⟩) hW.2.2.2 dJ6_bitCount_0f7a4_52

set_option maxHeartbeats 4000000 in
set_option maxRecDepth 100000 in
theorem r_X5_unfitRunning (l : Launch) (D : va_G) (cA : Nat → ClassId) (NL : List (Nat × Nat)) (ad : Nat → Nat → Nat) (ct : Nat → Nat → va_E)  (td : Int32) (hm5 : (5, 0) ∈ NL) (h5 : ct 5 0 = .inr (6, [.ref (ad 50 0), .ref (ad 51 0), .ref (ad 52 0), .ref (ad 53 0), .ref (ad 54 0), .ref (ad 55 0), .ref (ad 56 0), .int 0, .int 0, .int 0, .int 0, .int 0, .int td])) : Met l yX5_unfitRunning wsX5_unfitRunning ({ frames := 0, cells := 0, slots := 0, locals := 0 }) (pcPre D vwCl (tyL cA) [.ref (ad 5 0)] (fun H => va_P D vwCl (pcW NL ad ct) H)) (va_Qi (fun (r : Int32) (_ : Unit) => r = 0) (fun _ _ => True) (fun _ => False)) 0 0 (fun _ => False) := by
  refine Met.ofW (cc := cX5_unfitRunning) (maxL := 4) (ret := (some .int)) (by decide) rfl ?_
  intro p e s m args below meth c s₁ B hml hv
  obtain ⟨rfl, hX, hP0⟩ := hv
  have hx := B.exec
  have hb := B.bytes
  have hr := B.returns
  have hts := atoms_spec (ws := wsX5_unfitRunning) B.pre
  have hown : s.vm.findClass RX5 = some m.cls := findClass_of_methodNamed B.named
  have hlocks := B.notSynchronized
  have hW : pcQ D vwCl (fun _ => False) s.heap NL ad ct s.heap [] := ⟨hP0, va_S.rf⟩
  have hl := lv_entry ([.ref (ad 5 0)]) (n := 4) (Nat.le_of_ble_eq_true rfl)
  rw [lg_entry_eq]
  generalize (lg_sl ([.ref (ad 5 0)]) ++ List.replicate (4 - (lg_sl ([.ref (ad 5 0)])).length) Slot.unset).toArray = ls at hl ⊢
  have hl : lv_has ls 4 [(0, .ref (ad 5 0))] := hl
  refine lv_iconst (v := 0) hx hb dX5_unfitRunning_0 (by decide) ?_
  refine lv_istore_n (lv' := [(1, .int 0), (0, .ref (ad 5 0))]) hx hb dX5_unfitRunning_1 rfl hl (by decide) rfl (fun ls hl => ?_)
  refine lv_iconst (v := 0) hx hb dX5_unfitRunning_2 (by decide) ?_
  refine lv_istore_n (lv' := [(2, .int 0), (1, .int 0), (0, .ref (ad 5 0))]) hx hb dX5_unfitRunning_3 rfl hl (by decide) rfl (fun ls hl => ?_)
  refine lv_iload_n hx hb dX5_unfitRunning_4 rfl (lv_at hl 0 rfl) ?_
  refine lv_aload_n hx hb dX5_unfitRunning_5 rfl (lv_at hl 2 rfl) ?_
  refine pc_get (C := RX5) (T := TX5) (N := 13) (ci := 6) hx hb hts (by decide +kernel) hown hX.1 hW.1 5 0 hm5 h5 rfl 11 (by decide) (hts (.fieldLink RX5 61 "DraftsmanOffice" "packageCount" "I") (by decide +kernel)) (fun _ h9 => h9) rfl dX5_unfitRunning_6 ?_
  refine lv_icmp_ge (tgt := 57) hx hb dX5_unfitRunning_9 (by decide) (fun _ => ?_) (fun c38 => absurd (by decide) c38)
  refine lv_iload_n hx hb dX5_unfitRunning_57 rfl (lv_at hl 1 rfl) ?_
  exact W.iret (v := 0) hx hb hr (fun t ht hW9 => ⟨⟨0, (), rfl, rfl, trivial⟩, hW.2.F ht⟩) hW.2.2.2 dX5_unfitRunning_58

set_option maxHeartbeats 4000000 in
set_option maxRecDepth 100000 in
theorem r_X5_stopUnfit (l : Launch) (D : va_G) (cA : Nat → ClassId) (NL : List (Nat × Nat)) (ad : Nat → Nat → Nat) (ct : Nat → Nat → va_E)  (td : Int32) (hm5 : (5, 0) ∈ NL) (h5 : ct 5 0 = .inr (6, [.ref (ad 50 0), .ref (ad 51 0), .ref (ad 52 0), .ref (ad 53 0), .ref (ad 54 0), .ref (ad 55 0), .ref (ad 56 0), .int 0, .int 0, .int 0, .int 0, .int 0, .int td])) : Met l yX5_stopUnfit wsX5_stopUnfit ({ frames := 1, cells := 0, slots := 0, locals := 23 }) (pcPre D vwCl (tyL cA) [.ref (ad 5 0)] (fun H => va_P D vwCl (pcW NL ad ct) H)) (va_Qi (fun (r : Int32) (_ : Unit) => r = 0) (fun _ _ => True) (fun _ => False)) 0 0 (fun _ => False) := by
  refine Met.ofW (cc := cX5_stopUnfit) (maxL := 3) (ret := (some .int)) (by decide) rfl ?_
  intro p e s m args below meth c s₁ B hml hv
  obtain ⟨rfl, hX, hP0⟩ := hv
  have hx := B.exec
  have hb := B.bytes
  have hr := B.returns
  have hts := atoms_spec (ws := wsX5_stopUnfit) B.pre
  have hown : s.vm.findClass RX5 = some m.cls := findClass_of_methodNamed B.named
  have hlocks := B.notSynchronized
  have hW : pcQ D vwCl (fun _ => False) s.heap NL ad ct s.heap [] := ⟨hP0, va_S.rf⟩
  have hl := lv_entry ([.ref (ad 5 0)]) (n := 3) (Nat.le_of_ble_eq_true rfl)
  rw [lg_entry_eq]
  generalize (lg_sl ([.ref (ad 5 0)]) ++ List.replicate (3 - (lg_sl ([.ref (ad 5 0)])).length) Slot.unset).toArray = ls at hl ⊢
  have hl : lv_has ls 3 [(0, .ref (ad 5 0))] := hl
  refine lv_aload_n hx hb dX5_stopUnfit_0 rfl (lv_at hl 0 rfl) ?_
  refine pc_qcalli (va_runV (As := []) (rest := []) ⟨hx, hb, hml, hown, hts⟩ (r_X5_unfitRunning l D cA NL ad ct  td hm5 h5) (cwV 0 hts gX5_stopUnfit_X5_unfitRunning rfl rfl rfl (by decide +kernel) ⟨Nat.le_of_ble_eq_true rfl, Nat.le_of_ble_eq_true rfl⟩) (pc_preV pcN_ok hX hW.1 hm5 h5 rfl hW.1) rfl rfl hl.1 rfl (lv_room (Nat.le_of_ble_eq_true rfl)) dX5_stopUnfit_1 ⟨Nat.le_of_ble_eq_true rfl, Nat.le_of_ble_eq_true rfl⟩) hW (fun r39 H locs hwr39 hW => ?_)
  subst hwr39
  refine lv_istore_n (lv' := [(1, .int 0), (0, .ref (ad 5 0))]) hx hb dX5_stopUnfit_4 rfl hl (by decide) rfl (fun ls hl => ?_)
  refine lv_iconst (v := 0) hx hb dX5_stopUnfit_5 (by decide) ?_
  refine lv_istore_n (lv' := [(2, .int 0), (1, .int 0), (0, .ref (ad 5 0))]) hx hb dX5_stopUnfit_6 rfl hl (by decide) rfl (fun ls hl => ?_)
  refine lv_iload_n hx hb dX5_stopUnfit_7 rfl (lv_at hl 0 rfl) ?_
  refine lv_aload_n hx hb dX5_stopUnfit_8 rfl (lv_at hl 2 rfl) ?_
  refine pc_get (C := RX5) (T := TX5) (N := 13) (ci := 6) hx hb hts (by decide +kernel) hown hX.1 hW.1 5 0 hm5 h5 rfl 11 (by decide) (hts (.fieldLink RX5 61 "DraftsmanOffice" "packageCount" "I") (by decide +kernel)) (fun _ h9 => h9) rfl dX5_stopUnfit_9 ?_
  refine lv_icmp_ge (tgt := 54) hx hb dX5_stopUnfit_12 (by decide) (fun _ => ?_) (fun c40 => absurd (by decide) c40)
  refine lv_iload_n hx hb dX5_stopUnfit_54 rfl (lv_at hl 1 rfl) ?_
  refine pc_qcalli (va_runS (As := [.int 0]) (rest := []) ⟨hx, hb, hml, hown, hts⟩ (r_J6_bitCount_0f7a4 l D cA NL ad ct ) (va_cwS 1 hts gX5_stopUnfit_J6_bitCount_0f7a4 rfl rfl rfl (by decide +kernel) ⟨Nat.le_of_ble_eq_true rfl, Nat.le_of_ble_eq_true rfl⟩) (pc_preS pcN_ok hX hW.1) rfl rfl hl.1 rfl (lv_room (Nat.le_of_ble_eq_true rfl)) dX5_stopUnfit_55 ⟨Nat.le_of_ble_eq_true rfl, Nat.le_of_ble_eq_true rfl⟩) hW (fun r41 H locs hwr41 hW => ?_)
  subst hwr41
  exact W.iret (v := 0) hx hb hr (fun t ht hW9 => ⟨⟨0, (), rfl, rfl, trivial⟩, hW.2.F ht⟩) hW.2.2.2 dX5_stopUnfit_58

set_option maxHeartbeats 4000000 in
set_option maxRecDepth 100000 in
theorem r_X5_packagesThatAre (l : Launch) (D : va_G) (cA : Nat → ClassId) (NL : List (Nat × Nat)) (ad : Nat → Nat → Nat) (ct : Nat → Nat → va_E) (x1 : Int32) (td : Int32) (hm5 : (5, 0) ∈ NL) (h5 : ct 5 0 = .inr (6, [.ref (ad 50 0), .ref (ad 51 0), .ref (ad 52 0), .ref (ad 53 0), .ref (ad 54 0), .ref (ad 55 0), .ref (ad 56 0), .int 0, .int 0, .int 0, .int 0, .int 0, .int td])) : Met l yX5_packagesThatAre wsX5_packagesThatAre ({ frames := 0, cells := 0, slots := 0, locals := 0 }) (pcPre D vwCl (tyL cA) [.ref (ad 5 0), .int x1] (fun H => va_P D vwCl (pcW NL ad ct) H)) (va_Qi (fun (r : Int32) (_ : Unit) => r = 0) (fun _ _ => True) (fun _ => False)) 0 0 (fun _ => False) := by
  refine Met.ofW (cc := cX5_packagesThatAre) (maxL := 4) (ret := (some .int)) (by decide) rfl ?_
  intro p e s m args below meth c s₁ B hml hv
  obtain ⟨rfl, hX, hP0⟩ := hv
  have hx := B.exec
  have hb := B.bytes
  have hr := B.returns
  have hts := atoms_spec (ws := wsX5_packagesThatAre) B.pre
  have hown : s.vm.findClass RX5 = some m.cls := findClass_of_methodNamed B.named
  have hlocks := B.notSynchronized
  have hW : pcQ D vwCl (fun _ => False) s.heap NL ad ct s.heap [] := ⟨hP0, va_S.rf⟩
  have hl := lv_entry ([.ref (ad 5 0), .int x1]) (n := 4) (Nat.le_of_ble_eq_true rfl)
  rw [lg_entry_eq]
  generalize (lg_sl ([.ref (ad 5 0), .int x1]) ++ List.replicate (4 - (lg_sl ([.ref (ad 5 0), .int x1])).length) Slot.unset).toArray = ls at hl ⊢
  have hl : lv_has ls 4 [(0, .ref (ad 5 0)), (1, .int x1)] := hl
  refine lv_iconst (v := 0) hx hb dX5_packagesThatAre_0 (by decide) ?_
  refine lv_istore_n (lv' := [(2, .int 0), (0, .ref (ad 5 0)), (1, .int x1)]) hx hb dX5_packagesThatAre_1 rfl hl (by decide) rfl (fun ls hl => ?_)
  refine lv_iconst (v := 0) hx hb dX5_packagesThatAre_2 (by decide) ?_
  refine lv_istore_n (lv' := [(3, .int 0), (2, .int 0), (0, .ref (ad 5 0)), (1, .int x1)]) hx hb dX5_packagesThatAre_3 rfl hl (by decide) rfl (fun ls hl => ?_)
  refine lv_iload_n hx hb dX5_packagesThatAre_4 rfl (lv_at hl 0 rfl) ?_
  refine lv_aload_n hx hb dX5_packagesThatAre_5 rfl (lv_at hl 2 rfl) ?_
  refine pc_get (C := RX5) (T := TX5) (N := 13) (ci := 6) hx hb hts (by decide +kernel) hown hX.1 hW.1 5 0 hm5 h5 rfl 11 (by decide) (hts (.fieldLink RX5 61 "DraftsmanOffice" "packageCount" "I") (by decide +kernel)) (fun _ h9 => h9) rfl dX5_packagesThatAre_6 ?_
  refine lv_icmp_ge (tgt := 34) hx hb dX5_packagesThatAre_9 (by decide) (fun _ => ?_) (fun c42 => absurd (by decide) c42)
  refine lv_iload_n hx hb dX5_packagesThatAre_34 rfl (lv_at hl 1 rfl) ?_
  exact W.iret (v := 0) hx hb hr (fun t ht hW9 => ⟨⟨0, (), rfl, rfl, trivial⟩, hW.2.F ht⟩) hW.2.2.2 dX5_packagesThatAre_35

set_option maxHeartbeats 4000000 in
set_option maxRecDepth 100000 in
theorem r_X5_brokenOfAll (l : Launch) (D : va_G) (cA : Nat → ClassId) (NL : List (Nat × Nat)) (ad : Nat → Nat → Nat) (ct : Nat → Nat → va_E)  (td : Int32) (hm5 : (5, 0) ∈ NL) (h5 : ct 5 0 = .inr (6, [.ref (ad 50 0), .ref (ad 51 0), .ref (ad 52 0), .ref (ad 53 0), .ref (ad 54 0), .ref (ad 55 0), .ref (ad 56 0), .int 0, .int 0, .int 0, .int 0, .int 0, .int td])) : Met l yX5_brokenOfAll wsX5_brokenOfAll ({ frames := 0, cells := 0, slots := 0, locals := 0 }) (pcPre D vwCl (tyL cA) [.ref (ad 5 0)] (fun H => va_P D vwCl (pcW NL ad ct) H)) (va_Qi (fun (r : Int32) (_ : Unit) => r = 0) (fun _ _ => True) (fun _ => False)) 0 0 (fun _ => False) := by
  refine Met.ofW (cc := cX5_brokenOfAll) (maxL := 3) (ret := (some .int)) (by decide) rfl ?_
  intro p e s m args below meth c s₁ B hml hv
  obtain ⟨rfl, hX, hP0⟩ := hv
  have hx := B.exec
  have hb := B.bytes
  have hr := B.returns
  have hts := atoms_spec (ws := wsX5_brokenOfAll) B.pre
  have hown : s.vm.findClass RX5 = some m.cls := findClass_of_methodNamed B.named
  have hlocks := B.notSynchronized
  have hW : pcQ D vwCl (fun _ => False) s.heap NL ad ct s.heap [] := ⟨hP0, va_S.rf⟩
  have hl := lv_entry ([.ref (ad 5 0)]) (n := 3) (Nat.le_of_ble_eq_true rfl)
  rw [lg_entry_eq]
  generalize (lg_sl ([.ref (ad 5 0)]) ++ List.replicate (3 - (lg_sl ([.ref (ad 5 0)])).length) Slot.unset).toArray = ls at hl ⊢
  have hl : lv_has ls 3 [(0, .ref (ad 5 0))] := hl
  refine lv_iconst (v := 0) hx hb dX5_brokenOfAll_0 (by decide) ?_
  refine lv_istore_n (lv' := [(1, .int 0), (0, .ref (ad 5 0))]) hx hb dX5_brokenOfAll_1 rfl hl (by decide) rfl (fun ls hl => ?_)
  refine lv_iconst (v := 0) hx hb dX5_brokenOfAll_2 (by decide) ?_
  refine lv_istore_n (lv' := [(2, .int 0), (1, .int 0), (0, .ref (ad 5 0))]) hx hb dX5_brokenOfAll_3 rfl hl (by decide) rfl (fun ls hl => ?_)
  refine lv_iload_n hx hb dX5_brokenOfAll_4 rfl (lv_at hl 0 rfl) ?_
  refine lv_aload_n hx hb dX5_brokenOfAll_5 rfl (lv_at hl 2 rfl) ?_
  refine pc_get (C := RX5) (T := TX5) (N := 13) (ci := 6) hx hb hts (by decide +kernel) hown hX.1 hW.1 5 0 hm5 h5 rfl 8 (by decide) (hts (.fieldLink RX5 52 "DraftsmanOffice" "referenceCount" "I") (by decide +kernel)) (fun _ h9 => h9) rfl dX5_brokenOfAll_6 ?_
  refine lv_icmp_ge (tgt := 34) hx hb dX5_brokenOfAll_9 (by decide) (fun _ => ?_) (fun c43 => absurd (by decide) c43)
  refine lv_iload_n hx hb dX5_brokenOfAll_34 rfl (lv_at hl 1 rfl) ?_
  exact W.iret (v := 0) hx hb hr (fun t ht hW9 => ⟨⟨0, (), rfl, rfl, trivial⟩, hW.2.F ht⟩) hW.2.2.2 dX5_brokenOfAll_35

set_option maxHeartbeats 4000000 in
set_option maxRecDepth 100000 in
theorem r_X5_queriesNotClosed (l : Launch) (D : va_G) (cA : Nat → ClassId) (NL : List (Nat × Nat)) (ad : Nat → Nat → Nat) (ct : Nat → Nat → va_E)  (td : Int32) (hm5 : (5, 0) ∈ NL) (h5 : ct 5 0 = .inr (6, [.ref (ad 50 0), .ref (ad 51 0), .ref (ad 52 0), .ref (ad 53 0), .ref (ad 54 0), .ref (ad 55 0), .ref (ad 56 0), .int 0, .int 0, .int 0, .int 0, .int 0, .int td])) : Met l yX5_queriesNotClosed wsX5_queriesNotClosed ({ frames := 0, cells := 0, slots := 0, locals := 0 }) (pcPre D vwCl (tyL cA) [.ref (ad 5 0)] (fun H => va_P D vwCl (pcW NL ad ct) H)) (va_Qi (fun (r : Int32) (_ : Unit) => r = 0) (fun _ _ => True) (fun _ => False)) 0 0 (fun _ => False) := by
  refine Met.ofW (cc := cX5_queriesNotClosed) (maxL := 3) (ret := (some .int)) (by decide) rfl ?_
  intro p e s m args below meth c s₁ B hml hv
  obtain ⟨rfl, hX, hP0⟩ := hv
  have hx := B.exec
  have hb := B.bytes
  have hr := B.returns
  have hts := atoms_spec (ws := wsX5_queriesNotClosed) B.pre
  have hown : s.vm.findClass RX5 = some m.cls := findClass_of_methodNamed B.named
  have hlocks := B.notSynchronized
  have hW : pcQ D vwCl (fun _ => False) s.heap NL ad ct s.heap [] := ⟨hP0, va_S.rf⟩
  have hl := lv_entry ([.ref (ad 5 0)]) (n := 3) (Nat.le_of_ble_eq_true rfl)
  rw [lg_entry_eq]
  generalize (lg_sl ([.ref (ad 5 0)]) ++ List.replicate (3 - (lg_sl ([.ref (ad 5 0)])).length) Slot.unset).toArray = ls at hl ⊢
  have hl : lv_has ls 3 [(0, .ref (ad 5 0))] := hl
  refine lv_iconst (v := 0) hx hb dX5_queriesNotClosed_0 (by decide) ?_
  refine lv_istore_n (lv' := [(1, .int 0), (0, .ref (ad 5 0))]) hx hb dX5_queriesNotClosed_1 rfl hl (by decide) rfl (fun ls hl => ?_)
  refine lv_iconst (v := 0) hx hb dX5_queriesNotClosed_2 (by decide) ?_
  refine lv_istore_n (lv' := [(2, .int 0), (1, .int 0), (0, .ref (ad 5 0))]) hx hb dX5_queriesNotClosed_3 rfl hl (by decide) rfl (fun ls hl => ?_)
  refine lv_iload_n hx hb dX5_queriesNotClosed_4 rfl (lv_at hl 0 rfl) ?_
  refine lv_aload_n hx hb dX5_queriesNotClosed_5 rfl (lv_at hl 2 rfl) ?_
  refine pc_get (C := RX5) (T := TX5) (N := 13) (ci := 6) hx hb hts (by decide +kernel) hown hX.1 hW.1 5 0 hm5 h5 rfl 10 (by decide) (hts (.fieldLink RX5 58 "DraftsmanOffice" "queryCount" "I") (by decide +kernel)) (fun _ h9 => h9) rfl dX5_queriesNotClosed_6 ?_
  refine lv_icmp_ge (tgt := 34) hx hb dX5_queriesNotClosed_9 (by decide) (fun _ => ?_) (fun c44 => absurd (by decide) c44)
  refine lv_iload_n hx hb dX5_queriesNotClosed_34 rfl (lv_at hl 1 rfl) ?_
  exact W.iret (v := 0) hx hb hr (fun t ht hW9 => ⟨⟨0, (), rfl, rfl, trivial⟩, hW.2.F ht⟩) hW.2.2.2 dX5_queriesNotClosed_35

set_option maxHeartbeats 4000000 in
set_option maxRecDepth 100000 in
theorem r_X5_clashingPairs (l : Launch) (D : va_G) (cA : Nat → ClassId) (NL : List (Nat × Nat)) (ad : Nat → Nat → Nat) (ct : Nat → Nat → va_E)  (td : Int32) (hm5 : (5, 0) ∈ NL) (h5 : ct 5 0 = .inr (6, [.ref (ad 50 0), .ref (ad 51 0), .ref (ad 52 0), .ref (ad 53 0), .ref (ad 54 0), .ref (ad 55 0), .ref (ad 56 0), .int 0, .int 0, .int 0, .int 0, .int 0, .int td])) : Met l yX5_clashingPairs wsX5_clashingPairs ({ frames := 0, cells := 0, slots := 0, locals := 0 }) (pcPre D vwCl (tyL cA) [.ref (ad 5 0)] (fun H => va_P D vwCl (pcW NL ad ct) H)) (va_Qi (fun (r : Int32) (_ : Unit) => r = 0) (fun _ _ => True) (fun _ => False)) 0 0 (fun _ => False) := by
  refine Met.ofW (cc := cX5_clashingPairs) (maxL := 4) (ret := (some .int)) (by decide) rfl ?_
  intro p e s m args below meth c s₁ B hml hv
  obtain ⟨rfl, hX, hP0⟩ := hv
  have hx := B.exec
  have hb := B.bytes
  have hr := B.returns
  have hts := atoms_spec (ws := wsX5_clashingPairs) B.pre
  have hown : s.vm.findClass RX5 = some m.cls := findClass_of_methodNamed B.named
  have hlocks := B.notSynchronized
  have hW : pcQ D vwCl (fun _ => False) s.heap NL ad ct s.heap [] := ⟨hP0, va_S.rf⟩
  have hl := lv_entry ([.ref (ad 5 0)]) (n := 4) (Nat.le_of_ble_eq_true rfl)
  rw [lg_entry_eq]
  generalize (lg_sl ([.ref (ad 5 0)]) ++ List.replicate (4 - (lg_sl ([.ref (ad 5 0)])).length) Slot.unset).toArray = ls at hl ⊢
  have hl : lv_has ls 4 [(0, .ref (ad 5 0))] := hl
  refine lv_iconst (v := 0) hx hb dX5_clashingPairs_0 (by decide) ?_
  refine lv_istore_n (lv' := [(1, .int 0), (0, .ref (ad 5 0))]) hx hb dX5_clashingPairs_1 rfl hl (by decide) rfl (fun ls hl => ?_)
  refine lv_iconst (v := 0) hx hb dX5_clashingPairs_2 (by decide) ?_
  refine lv_istore_n (lv' := [(2, .int 0), (1, .int 0), (0, .ref (ad 5 0))]) hx hb dX5_clashingPairs_3 rfl hl (by decide) rfl (fun ls hl => ?_)
  refine lv_iload_n hx hb dX5_clashingPairs_4 rfl (lv_at hl 0 rfl) ?_
  refine lv_aload_n hx hb dX5_clashingPairs_5 rfl (lv_at hl 2 rfl) ?_
  refine pc_get (C := RX5) (T := TX5) (N := 13) (ci := 6) hx hb hts (by decide +kernel) hown hX.1 hW.1 5 0 hm5 h5 rfl 7 (by decide) (hts (.fieldLink RX5 48 "DraftsmanOffice" "sheetCount" "I") (by decide +kernel)) (fun _ h9 => h9) rfl dX5_clashingPairs_6 ?_
  refine lv_icmp_ge (tgt := 51) hx hb dX5_clashingPairs_9 (by decide) (fun _ => ?_) (fun c45 => absurd (by decide) c45)
  refine lv_iload_n hx hb dX5_clashingPairs_51 rfl (lv_at hl 1 rfl) ?_
  exact W.iret (v := 0) hx hb hr (fun t ht hW9 => ⟨⟨0, (), rfl, rfl, trivial⟩, hW.2.F ht⟩) hW.2.2.2 dX5_clashingPairs_52

set_option maxHeartbeats 4000000 in
set_option maxRecDepth 100000 in
theorem t_X5_has (l : Launch) (hl0 : l.stackTraces = false) (D : va_G) (cA : Nat → ClassId) (z : Nat) (NL : List (Nat × Nat)) (ad : Nat → Nat → Nat) (ct : Nat → Nat → va_E) (x1 : Int32) (x2 : Int32) (td : Int32) (hm5 : (5, 0) ∈ NL) (h5 : ct 5 0 = .inr (6, [.ref (ad 50 0), .ref (ad 51 0), .ref (ad 52 0), .ref (ad 53 0), .ref (ad 54 0), .ref (ad 55 0), .ref (ad 56 0), .int 0, .int 0, .int 0, .int 0, .int 0, .int td])) : vx_Met l yX5_has wsX5_has ({ frames := 7, cells := 2, slots := 12, locals := 111 }) (pcPreT D vwCl (tyL cA) z [.ref (ad 5 0), .int x1, .int x2] (fun H => va_P D vwCl (pcW NL ad ct) H)) (va_Qi (fun (r : Int32) (_ : Unit) => False) (fun _ _ => True) (fun _ => False)) (pxX (fun E => E = R_IO)) 2 12 (fun _ => False) := by
  refine vx_ofW (cc := cX5_has) (maxL := 3) (ret := (some .int)) (by decide) rfl ?_
  intro p e s m args below meth c s₁ B hml hex hv
  obtain ⟨rfl, hX, hT, ⟨hZ, hz⟩, hP0⟩ := hv
  have hx := B.exec
  have hb := B.bytes
  have hr := B.returns
  have hts := atoms_spec (ws := wsX5_has) B.pre
  have hown : s.vm.findClass RX5 = some m.cls := findClass_of_methodNamed B.named
  have hlocks := B.notSynchronized
  have hW : pcQ D vwCl (fun _ => False) s.heap NL ad ct s.heap [] := ⟨hP0, va_S.rf⟩
  have hl := lv_entry ([.ref (ad 5 0), .int x1, .int x2]) (n := 3) (Nat.le_of_ble_eq_true rfl)
  rw [lg_entry_eq]
  generalize (lg_sl ([.ref (ad 5 0), .int x1, .int x2]) ++ List.replicate (3 - (lg_sl ([.ref (ad 5 0), .int x1, .int x2])).length) Slot.unset).toArray = ls at hl ⊢
  have hl : lv_has ls 3 [(0, .ref (ad 5 0)), (1, .int x1), (2, .int x2)] := hl
  refine lv_iload_n hx hb dX5_has_0 rfl (lv_at hl 1 rfl) ?_
  refine vx_callv (vx_runS (As := [.int x1]) (rest := []) ⟨hx, hb, hml, hown, hts⟩ (t_X5_requireCrew l hl0 D cA z NL ad ct x1) (va_cwS 1 hts gX5_has_X5_requireCrew rfl rfl rfl (by decide +kernel) ⟨Nat.le_of_ble_eq_true rfl, Nat.le_of_ble_eq_true rfl⟩) (pcT_preS hX hT (pcZ_kept hZ (fun _ h => h.elim) hW.2) (Nat.le_trans hz hW.2.1) hW.1) rfl rfl hl.1 rfl (lv_room (Nat.le_of_ble_eq_true rfl)) dX5_has_1 ⟨Nat.le_of_ble_eq_true rfl, Nat.le_of_ble_eq_true rfl⟩) hW.2 (fun _ _ h => h.elim) (fun _ h => h.elim) (fun _ _ h => h.elim) (fun E ce q9 _ t H1 locs1 ht hvm hpx hE _ hk9 hS9 hq9 hce hcl => ?_) (fun _ t H locs ht hvm hw hB _ hk9 hS9 => ?_)
  · exact vx_out (fun x hx => (hex x hx).elim) hlocks hq9 hce hcl (fun t9 ht9 hal9 => ⟨(), trivial, hE.1, hS9.F ht9⟩) (fun q hq => (hS9.2.2 q hq).elim) (Nat.le_of_ble_eq_true rfl) (Nat.le_of_ble_eq_true rfl)
  · have hW : pcQ D vwCl (fun _ => False) s.heap NL ad ct H locs := ⟨pcP_keep hW.1 (fun q hq => hk9 q hq id), hS9⟩
    refine lv_aload_n hx hb dX5_has_4 rfl (lv_at hl 0 rfl) ?_
    refine lv_iload_n hx hb dX5_has_5 rfl (lv_at hl 2 rfl) ?_
    refine vx_callv (vx_runV (As := [.int x2]) (rest := []) ⟨hx, hb, hml, hown, hts⟩ (t_X5_requireSheet l hl0 D cA z NL ad ct x2 td hm5 h5) (cwV 1 hts gX5_has_X5_requireSheet rfl rfl rfl (by decide +kernel) ⟨Nat.le_of_ble_eq_true rfl, Nat.le_of_ble_eq_true rfl⟩) (pcT_preV hX hT (pcZ_kept hZ (fun _ h => h.elim) hW.2) (Nat.le_trans hz hW.2.1) hW.1 hm5 h5 rfl hW.1) rfl rfl hl.1 rfl (lv_room (Nat.le_of_ble_eq_true rfl)) dX5_has_6 ⟨Nat.le_of_ble_eq_true rfl, Nat.le_of_ble_eq_true rfl⟩) hW.2 (fun _ _ h => h.elim) (fun _ h => h.elim) (fun _ _ h => h.elim) (fun E ce q9 _ t H1 locs1 ht hvm hpx hE _ hk9 hS9 hq9 hce hcl => ?_) (fun _ t H locs ht hvm hw hB _ hk9 hS9 => ?_)
    · exact vx_out (fun x hx => (hex x hx).elim) hlocks hq9 hce hcl (fun t9 ht9 hal9 => ⟨(), trivial, hE, hS9.F ht9⟩) (fun q hq => (hS9.2.2 q hq).elim) (Nat.le_of_ble_eq_true rfl) (Nat.le_of_ble_eq_true rfl)
    · exact hw.elim

set_option maxHeartbeats 4000000 in
set_option maxRecDepth 100000 in
theorem t_X5_send (l : Launch) (hl0 : l.stackTraces = false) (D : va_G) (cA : Nat → ClassId) (z : Nat) (NL : List (Nat × Nat)) (ad : Nat → Nat → Nat) (ct : Nat → Nat → va_E) (x1 : Int32) (x2 : Int32) (td : Int32) (hm5 : (5, 0) ∈ NL) (h5 : ct 5 0 = .inr (6, [.ref (ad 50 0), .ref (ad 51 0), .ref (ad 52 0), .ref (ad 53 0), .ref (ad 54 0), .ref (ad 55 0), .ref (ad 56 0), .int 0, .int 0, .int 0, .int 0, .int 0, .int td])) : vx_Met l yX5_send wsX5_send ({ frames := 6, cells := 1, slots := 6, locals := 90 }) (pcPreT D vwCl (tyL cA) z [.ref (ad 5 0), .int x1, .int x2] (fun H => va_P D vwCl (pcW NL ad ct) H)) (va_Qi (fun (r : Int32) (_ : Unit) => False) (fun _ _ => True) (fun _ => False)) (pxX (fun E => E = R_IA)) 1 6 (fun _ => False) := by
  refine vx_ofW (cc := cX5_send) (maxL := 5) (ret := (some .int)) (by decide) rfl ?_
  intro p e s m args below meth c s₁ B hml hex hv
  obtain ⟨rfl, hX, hT, ⟨hZ, hz⟩, hP0⟩ := hv
  have hx := B.exec
  have hb := B.bytes
  have hr := B.returns
  have hts := atoms_spec (ws := wsX5_send) B.pre
  have hown : s.vm.findClass RX5 = some m.cls := findClass_of_methodNamed B.named
  have hlocks := B.notSynchronized
  have hW : pcQ D vwCl (fun _ => False) s.heap NL ad ct s.heap [] := ⟨hP0, va_S.rf⟩
  have hl := lv_entry ([.ref (ad 5 0), .int x1, .int x2]) (n := 5) (Nat.le_of_ble_eq_true rfl)
  rw [lg_entry_eq]
  generalize (lg_sl ([.ref (ad 5 0), .int x1, .int x2]) ++ List.replicate (5 - (lg_sl ([.ref (ad 5 0), .int x1, .int x2])).length) Slot.unset).toArray = ls at hl ⊢
  have hl : lv_has ls 5 [(0, .ref (ad 5 0)), (1, .int x1), (2, .int x2)] := hl
  refine lv_iload_n hx hb dX5_send_0 rfl (lv_at hl 1 rfl) ?_
  refine lv_iconst (v := 1) hx hb dX5_send_1 (by decide) ?_
  refine lv_icmp_lt (tgt := 19) hx hb dX5_send_2 (by decide) (fun c46 => ?_) (fun c46 => ?_)
  · obtain ⟨sa47, hsa47⟩ := hT.2.2 (RX5, 194, "the crews are not 1 to 15, or the sheets are no set of sheets") (by decide +kernel)
    have hat : ∀ w ∈ vx_atS RX5 77 "java/lang/IllegalArgumentException" ["java/lang/RuntimeException", "java/lang/Exception"], w.before _ s = true := vx_hat (fun w hw => hts w (List.mem_cons_of_mem _ (List.mem_append_left _ (List.mem_append_right _ hw)))) (B := [.castable "java/lang/IllegalArgumentException" "java/lang/IllegalArgumentException", .declares (Bundle.initS "java/lang/RuntimeException"), .declares (Bundle.initS "java/lang/Exception"), .declares (Bundle.initS Bundle.tN)]) (by decide +kernel) (vx_c (va_Nw.use rfl (hT.1 _ (by decide +kernel))) (vx_c (va_Nw.use rfl (hT.1 _ (by decide +kernel))) (vx_c (va_Nw.use rfl (hT.1 _ (by decide +kernel))) (vx_c (va_Nw.use rfl (hT.1 _ (by decide +kernel))) vx_n))))
    have hSz : va_S (fun q => z ≤ q) s.heap _ _ := ⟨hW.2.1, fun q h1 _ => hW.2.2.1 q h1 id, fun q hq => (hW.2.2.2 q hq).elim⟩
    exact vx_throwS (text := "the crews are not 1 to 15, or the sheets are no set of sheets") (names := ["java/lang/RuntimeException", "java/lang/Exception"]) hx hb hl0 hown (by decide +kernel) (by decide +kernel) (hts (.classLink RX5 73 "java/lang/IllegalArgumentException") (by decide +kernel)) (hts (.initialized "java/lang/IllegalArgumentException") (by decide +kernel)) hsa47 hat (by decide +kernel) hZ.1 hZ.2 hSz (hl.1.trans hml.symm) dX5_send_19 dX5_send_22 dX5_send_23 dX5_send_25 dX5_send_28 (fun x hx => (hex x hx).elim) (by decide) (Nat.le_of_ble_eq_true rfl) (Nat.le_of_ble_eq_true rfl) (Nat.le_of_ble_eq_true rfl) hlocks (fun t hal hsz hk => ⟨(), trivial, rfl, Nat.le_trans hW.2.1 hsz, fun q h1 _ => (hk q (Nat.lt_of_lt_of_le h1 hW.2.1)).trans (hW.2.2.1 q h1 id)⟩) (fun q hq => (hW.2.2.2 q hq).elim) (Nat.le_of_ble_eq_true rfl) (Nat.le_of_ble_eq_true rfl)
  · refine lv_iload_n hx hb dX5_send_5 rfl (lv_at hl 1 rfl) ?_
    refine lv_bipush (v := 15) hx hb dX5_send_6 (by decide) ?_
    refine lv_icmp_gt (tgt := 19) hx hb dX5_send_8 (by decide) (fun c48 => ?_) (fun c48 => ?_)
    · obtain ⟨sa49, hsa49⟩ := hT.2.2 (RX5, 194, "the crews are not 1 to 15, or the sheets are no set of sheets") (by decide +kernel)
      have hat : ∀ w ∈ vx_atS RX5 77 "java/lang/IllegalArgumentException" ["java/lang/RuntimeException", "java/lang/Exception"], w.before _ s = true := vx_hat (fun w hw => hts w (List.mem_cons_of_mem _ (List.mem_append_left _ (List.mem_append_right _ hw)))) (B := [.castable "java/lang/IllegalArgumentException" "java/lang/IllegalArgumentException", .declares (Bundle.initS "java/lang/RuntimeException"), .declares (Bundle.initS "java/lang/Exception"), .declares (Bundle.initS Bundle.tN)]) (by decide +kernel) (vx_c (va_Nw.use rfl (hT.1 _ (by decide +kernel))) (vx_c (va_Nw.use rfl (hT.1 _ (by decide +kernel))) (vx_c (va_Nw.use rfl (hT.1 _ (by decide +kernel))) (vx_c (va_Nw.use rfl (hT.1 _ (by decide +kernel))) vx_n))))
      have hSz : va_S (fun q => z ≤ q) s.heap _ _ := ⟨hW.2.1, fun q h1 _ => hW.2.2.1 q h1 id, fun q hq => (hW.2.2.2 q hq).elim⟩
      exact vx_throwS (text := "the crews are not 1 to 15, or the sheets are no set of sheets") (names := ["java/lang/RuntimeException", "java/lang/Exception"]) hx hb hl0 hown (by decide +kernel) (by decide +kernel) (hts (.classLink RX5 73 "java/lang/IllegalArgumentException") (by decide +kernel)) (hts (.initialized "java/lang/IllegalArgumentException") (by decide +kernel)) hsa49 hat (by decide +kernel) hZ.1 hZ.2 hSz (hl.1.trans hml.symm) dX5_send_19 dX5_send_22 dX5_send_23 dX5_send_25 dX5_send_28 (fun x hx => (hex x hx).elim) (by decide) (Nat.le_of_ble_eq_true rfl) (Nat.le_of_ble_eq_true rfl) (Nat.le_of_ble_eq_true rfl) hlocks (fun t hal hsz hk => ⟨(), trivial, rfl, Nat.le_trans hW.2.1 hsz, fun q h1 _ => (hk q (Nat.lt_of_lt_of_le h1 hW.2.1)).trans (hW.2.2.1 q h1 id)⟩) (fun q hq => (hW.2.2.2 q hq).elim) (Nat.le_of_ble_eq_true rfl) (Nat.le_of_ble_eq_true rfl)
    · refine lv_aload_n hx hb dX5_send_11 rfl (lv_at hl 0 rfl) ?_
      refine lv_iload_n hx hb dX5_send_12 rfl (lv_at hl 2 rfl) ?_
      refine pc_qcalli (va_runV (As := [.int x2]) (rest := []) ⟨hx, hb, hml, hown, hts⟩ (r_X5_isSetOfSheets l D cA NL ad ct x2 td hm5 h5) (cwV 1 hts gX5_send_X5_isSetOfSheets rfl rfl rfl (by decide +kernel) ⟨Nat.le_of_ble_eq_true rfl, Nat.le_of_ble_eq_true rfl⟩) (pc_preV pcN_ok hX hW.1 hm5 h5 rfl hW.1) rfl rfl hl.1 rfl (lv_room (Nat.le_of_ble_eq_true rfl)) dX5_send_13 ⟨Nat.le_of_ble_eq_true rfl, Nat.le_of_ble_eq_true rfl⟩) hW (fun r50 H locs hwr50 hW => ?_)
      subst hwr50
      refine lv_if_ne (tgt := 29) hx hb dX5_send_16 (by decide) (fun c51 => absurd c51 (by decide)) (fun _ => ?_)
      obtain ⟨sa52, hsa52⟩ := hT.2.2 (RX5, 194, "the crews are not 1 to 15, or the sheets are no set of sheets") (by decide +kernel)
      have hat : ∀ w ∈ vx_atS RX5 77 "java/lang/IllegalArgumentException" ["java/lang/RuntimeException", "java/lang/Exception"], w.before _ s = true := vx_hat (fun w hw => hts w (List.mem_cons_of_mem _ (List.mem_append_left _ (List.mem_append_right _ hw)))) (B := [.castable "java/lang/IllegalArgumentException" "java/lang/IllegalArgumentException", .declares (Bundle.initS "java/lang/RuntimeException"), .declares (Bundle.initS "java/lang/Exception"), .declares (Bundle.initS Bundle.tN)]) (by decide +kernel) (vx_c (va_Nw.use rfl (hT.1 _ (by decide +kernel))) (vx_c (va_Nw.use rfl (hT.1 _ (by decide +kernel))) (vx_c (va_Nw.use rfl (hT.1 _ (by decide +kernel))) (vx_c (va_Nw.use rfl (hT.1 _ (by decide +kernel))) vx_n))))
      have hSz : va_S (fun q => z ≤ q) s.heap _ _ := ⟨hW.2.1, fun q h1 _ => hW.2.2.1 q h1 id, fun q hq => (hW.2.2.2 q hq).elim⟩
      exact vx_throwS (text := "the crews are not 1 to 15, or the sheets are no set of sheets") (names := ["java/lang/RuntimeException", "java/lang/Exception"]) hx hb hl0 hown (by decide +kernel) (by decide +kernel) (hts (.classLink RX5 73 "java/lang/IllegalArgumentException") (by decide +kernel)) (hts (.initialized "java/lang/IllegalArgumentException") (by decide +kernel)) hsa52 hat (by decide +kernel) hZ.1 hZ.2 hSz (hl.1.trans hml.symm) dX5_send_19 dX5_send_22 dX5_send_23 dX5_send_25 dX5_send_28 (fun x hx => (hex x hx).elim) (by decide) (Nat.le_of_ble_eq_true rfl) (Nat.le_of_ble_eq_true rfl) (Nat.le_of_ble_eq_true rfl) hlocks (fun t hal hsz hk => ⟨(), trivial, rfl, Nat.le_trans hW.2.1 hsz, fun q h1 _ => (hk q (Nat.lt_of_lt_of_le h1 hW.2.1)).trans (hW.2.2.1 q h1 id)⟩) (fun q hq => (hW.2.2.2 q hq).elim) (Nat.le_of_ble_eq_true rfl) (Nat.le_of_ble_eq_true rfl)

set_option maxHeartbeats 4000000 in
set_option maxRecDepth 100000 in
theorem t_X5_pack (l : Launch) (hl0 : l.stackTraces = false) (D : va_G) (cA : Nat → ClassId) (z : Nat) (NL : List (Nat × Nat)) (ad : Nat → Nat → Nat) (ct : Nat → Nat → va_E) (x1 : Int32) (x2 : Int32) (x3 : Int32) (td : Int32) (hm5 : (5, 0) ∈ NL) (h5 : ct 5 0 = .inr (6, [.ref (ad 50 0), .ref (ad 51 0), .ref (ad 52 0), .ref (ad 53 0), .ref (ad 54 0), .ref (ad 55 0), .ref (ad 56 0), .int 0, .int 0, .int 0, .int 0, .int 0, .int td])) : vx_Met l yX5_pack wsX5_pack ({ frames := 7, cells := 2, slots := 12, locals := 110 }) (pcPreT D vwCl (tyL cA) z [.ref (ad 5 0), .int x1, .int x2, .int x3] (fun H => va_P D vwCl (pcW NL ad ct) H)) (va_Qi (fun (r : Int32) (_ : Unit) => False) (fun _ _ => True) (fun _ => False)) (pxX (fun E => (E = R_IO ∧ ¬ (¬ x1 < 0 ∧ x1 < 4)) ∨ (E = R_IA ∧ (¬ x1 < 0 ∧ x1 < 4)))) 2 12 (fun _ => False) := by
  refine vx_ofW (cc := cX5_pack) (maxL := 5) (ret := (some .int)) (by decide) rfl ?_
  intro p e s m args below meth c s₁ B hml hex hv
  obtain ⟨rfl, hX, hT, ⟨hZ, hz⟩, hP0⟩ := hv
  have hx := B.exec
  have hb := B.bytes
  have hr := B.returns
  have hts := atoms_spec (ws := wsX5_pack) B.pre
  have hown : s.vm.findClass RX5 = some m.cls := findClass_of_methodNamed B.named
  have hlocks := B.notSynchronized
  have hW : pcQ D vwCl (fun _ => False) s.heap NL ad ct s.heap [] := ⟨hP0, va_S.rf⟩
  have hl := lv_entry ([.ref (ad 5 0), .int x1, .int x2, .int x3]) (n := 5) (Nat.le_of_ble_eq_true rfl)
  rw [lg_entry_eq]
  generalize (lg_sl ([.ref (ad 5 0), .int x1, .int x2, .int x3]) ++ List.replicate (5 - (lg_sl ([.ref (ad 5 0), .int x1, .int x2, .int x3])).length) Slot.unset).toArray = ls at hl ⊢
  have hl : lv_has ls 5 [(0, .ref (ad 5 0)), (1, .int x1), (2, .int x2), (3, .int x3)] := hl
  refine lv_iload_n hx hb dX5_pack_0 rfl (lv_at hl 1 rfl) ?_
  refine vx_callv (vx_runS (As := [.int x1]) (rest := []) ⟨hx, hb, hml, hown, hts⟩ (t_X5_requireCrew l hl0 D cA z NL ad ct x1) (va_cwS 1 hts gX5_pack_X5_requireCrew rfl rfl rfl (by decide +kernel) ⟨Nat.le_of_ble_eq_true rfl, Nat.le_of_ble_eq_true rfl⟩) (pcT_preS hX hT (pcZ_kept hZ (fun _ h => h.elim) hW.2) (Nat.le_trans hz hW.2.1) hW.1) rfl rfl hl.1 rfl (lv_room (Nat.le_of_ble_eq_true rfl)) dX5_pack_1 ⟨Nat.le_of_ble_eq_true rfl, Nat.le_of_ble_eq_true rfl⟩) hW.2 (fun _ _ h => h.elim) (fun _ h => h.elim) (fun _ _ h => h.elim) (fun E ce q9 _ t H1 locs1 ht hvm hpx hE _ hk9 hS9 hq9 hce hcl => ?_) (fun _ t H locs ht hvm hw hB _ hk9 hS9 => ?_)
  · exact vx_out (fun x hx => (hex x hx).elim) hlocks hq9 hce hcl (fun t9 ht9 hal9 => ⟨(), trivial, Or.inl hE, hS9.F ht9⟩) (fun q hq => (hS9.2.2 q hq).elim) (Nat.le_of_ble_eq_true rfl) (Nat.le_of_ble_eq_true rfl)
  · have hW : pcQ D vwCl (fun _ => False) s.heap NL ad ct H locs := ⟨pcP_keep hW.1 (fun q hq => hk9 q hq id), hS9⟩
    refine lv_aload_n hx hb dX5_pack_4 rfl (lv_at hl 0 rfl) ?_
    refine lv_iload_n hx hb dX5_pack_5 rfl (lv_at hl 2 rfl) ?_
    refine pc_qcalli (va_runV (As := [.int x2]) (rest := []) ⟨hx, hb, hml, hown, hts⟩ (r_X5_isSetOfSheets l D cA NL ad ct x2 td hm5 h5) (cwV 1 hts gX5_pack_X5_isSetOfSheets rfl rfl rfl (by decide +kernel) ⟨Nat.le_of_ble_eq_true rfl, Nat.le_of_ble_eq_true rfl⟩) (pc_preV pcN_ok hX hW.1 hm5 h5 rfl hW.1) rfl rfl hl.1 rfl (lv_room (Nat.le_of_ble_eq_true rfl)) dX5_pack_6 ⟨Nat.le_of_ble_eq_true rfl, Nat.le_of_ble_eq_true rfl⟩) hW (fun r53 H locs hwr53 hW => ?_)
    subst hwr53
    refine lv_if_eq (tgt := 23) hx hb dX5_pack_9 (by decide) (fun _ => ?_) (fun c54 => absurd (by decide) c54)
    obtain ⟨sa55, hsa55⟩ := hT.2.2 (RX5, 256, "the sheets are no set of sheets, or the days are not 1 to 9") (by decide +kernel)
    have hat : ∀ w ∈ vx_atS RX5 77 "java/lang/IllegalArgumentException" ["java/lang/RuntimeException", "java/lang/Exception"], w.before _ s = true := vx_hat (fun w hw => hts w (List.mem_cons_of_mem _ (List.mem_append_left _ (List.mem_append_left _ (List.mem_append_right _ hw))))) (B := [.castable "java/lang/IllegalArgumentException" "java/lang/IllegalArgumentException", .declares (Bundle.initS "java/lang/RuntimeException"), .declares (Bundle.initS "java/lang/Exception"), .declares (Bundle.initS Bundle.tN)]) (by decide +kernel) (vx_c (va_Nw.use rfl (hT.1 _ (by decide +kernel))) (vx_c (va_Nw.use rfl (hT.1 _ (by decide +kernel))) (vx_c (va_Nw.use rfl (hT.1 _ (by decide +kernel))) (vx_c (va_Nw.use rfl (hT.1 _ (by decide +kernel))) vx_n))))
    have hSz : va_S (fun q => z ≤ q) s.heap _ _ := ⟨hW.2.1, fun q h1 _ => hW.2.2.1 q h1 id, fun q hq => (hW.2.2.2 q hq).elim⟩
    exact vx_throwSW (text := "the sheets are no set of sheets, or the days are not 1 to 9") (names := ["java/lang/RuntimeException", "java/lang/Exception"]) hx hb hl0 hown (by decide +kernel) (by decide +kernel) (hts (.classLink RX5 73 "java/lang/IllegalArgumentException") (by decide +kernel)) (hts (.initialized "java/lang/IllegalArgumentException") (by decide +kernel)) hsa55 hat (by decide +kernel) hZ.1 hZ.2 hSz (hl.1.trans hml.symm) dX5_pack_23 dX5_pack_26 dX5_pack_27 dX5_pack_30 dX5_pack_33 (fun x hx => (hex x hx).elim) (by decide) (Nat.le_of_ble_eq_true rfl) (Nat.le_of_ble_eq_true rfl) (Nat.le_of_ble_eq_true rfl) hlocks (fun t hal hsz hk => ⟨(), trivial, Or.inr ⟨rfl, hw⟩, Nat.le_trans hW.2.1 hsz, fun q h1 _ => (hk q (Nat.lt_of_lt_of_le h1 hW.2.1)).trans (hW.2.2.1 q h1 id)⟩) (fun q hq => (hW.2.2.2 q hq).elim) (Nat.le_of_ble_eq_true rfl) (Nat.le_of_ble_eq_true rfl)

set_option maxHeartbeats 4000000 in
set_option maxRecDepth 100000 in
theorem t_X5_owes (l : Launch) (hl0 : l.stackTraces = false) (D : va_G) (cA : Nat → ClassId) (z : Nat) (NL : List (Nat × Nat)) (ad : Nat → Nat → Nat) (ct : Nat → Nat → va_E) (x1 : Int32) (td : Int32) (hm5 : (5, 0) ∈ NL) (h5 : ct 5 0 = .inr (6, [.ref (ad 50 0), .ref (ad 51 0), .ref (ad 52 0), .ref (ad 53 0), .ref (ad 54 0), .ref (ad 55 0), .ref (ad 56 0), .int 0, .int 0, .int 0, .int 0, .int 0, .int td])) : vx_Met l yX5_owes wsX5_owes ({ frames := 7, cells := 1, slots := 6, locals := 110 }) (pcPreT D vwCl (tyL cA) z [.ref (ad 5 0), .int x1] (fun H => va_P D vwCl (pcW NL ad ct) H)) (va_Qi (fun (r : Int32) (_ : Unit) => r = 0 ∧ (¬ x1 < 0 ∧ x1 < 4)) (fun _ _ => True) (fun _ => False)) (pxX (fun E => E = R_IO ∧ ¬ (¬ x1 < 0 ∧ x1 < 4))) 1 6 (fun _ => False) := by
  refine vx_ofW (cc := cX5_owes) (maxL := 5) (ret := (some .int)) (by decide) rfl ?_
  intro p e s m args below meth c s₁ B hml hex hv
  obtain ⟨rfl, hX, hT, ⟨hZ, hz⟩, hP0⟩ := hv
  have hx := B.exec
  have hb := B.bytes
  have hr := B.returns
  have hts := atoms_spec (ws := wsX5_owes) B.pre
  have hown : s.vm.findClass RX5 = some m.cls := findClass_of_methodNamed B.named
  have hlocks := B.notSynchronized
  have hW : pcQ D vwCl (fun _ => False) s.heap NL ad ct s.heap [] := ⟨hP0, va_S.rf⟩
  have hl := lv_entry ([.ref (ad 5 0), .int x1]) (n := 5) (Nat.le_of_ble_eq_true rfl)
  rw [lg_entry_eq]
  generalize (lg_sl ([.ref (ad 5 0), .int x1]) ++ List.replicate (5 - (lg_sl ([.ref (ad 5 0), .int x1])).length) Slot.unset).toArray = ls at hl ⊢
  have hl : lv_has ls 5 [(0, .ref (ad 5 0)), (1, .int x1)] := hl
  refine lv_iload_n hx hb dX5_owes_0 rfl (lv_at hl 1 rfl) ?_
  refine vx_callv (vx_runS (As := [.int x1]) (rest := []) ⟨hx, hb, hml, hown, hts⟩ (t_X5_requireCrew l hl0 D cA z NL ad ct x1) (va_cwS 1 hts gX5_owes_X5_requireCrew rfl rfl rfl (by decide +kernel) ⟨Nat.le_of_ble_eq_true rfl, Nat.le_of_ble_eq_true rfl⟩) (pcT_preS hX hT (pcZ_kept hZ (fun _ h => h.elim) hW.2) (Nat.le_trans hz hW.2.1) hW.1) rfl rfl hl.1 rfl (lv_room (Nat.le_of_ble_eq_true rfl)) dX5_owes_1 ⟨Nat.le_of_ble_eq_true rfl, Nat.le_of_ble_eq_true rfl⟩) hW.2 (fun _ _ h => h.elim) (fun _ h => h.elim) (fun _ _ h => h.elim) (fun E ce q9 _ t H1 locs1 ht hvm hpx hE _ hk9 hS9 hq9 hce hcl => ?_) (fun _ t H locs ht hvm hw hB _ hk9 hS9 => ?_)
  · exact vx_out (fun x hx => (hex x hx).elim) hlocks hq9 hce hcl (fun t9 ht9 hal9 => ⟨(), trivial, hE, hS9.F ht9⟩) (fun q hq => (hS9.2.2 q hq).elim) (Nat.le_of_ble_eq_true rfl) (Nat.le_of_ble_eq_true rfl)
  · have hW : pcQ D vwCl (fun _ => False) s.heap NL ad ct H locs := ⟨pcP_keep hW.1 (fun q hq => hk9 q hq id), hS9⟩
    refine lv_iconst (v := 0) hx hb dX5_owes_4 (by decide) ?_
    refine lv_istore_n (lv' := [(2, .int 0), (0, .ref (ad 5 0)), (1, .int x1)]) hx hb dX5_owes_5 rfl hl (by decide) rfl (fun ls hl => ?_)
    refine lv_iconst (v := 0) hx hb dX5_owes_6 (by decide) ?_
    refine lv_istore_n (lv' := [(3, .int 0), (2, .int 0), (0, .ref (ad 5 0)), (1, .int x1)]) hx hb dX5_owes_7 rfl hl (by decide) rfl (fun ls hl => ?_)
    refine lv_iload_n hx hb dX5_owes_8 rfl (lv_at hl 0 rfl) ?_
    refine lv_aload_n hx hb dX5_owes_9 rfl (lv_at hl 2 rfl) ?_
    refine pc_get (C := RX5) (T := TX5) (N := 13) (ci := 6) hx hb hts (by decide +kernel) hown hX.1 hW.1 5 0 hm5 h5 rfl 9 (by decide) (hts (.fieldLink RX5 55 "DraftsmanOffice" "sendingCount" "I") (by decide +kernel)) (fun _ h9 => h9) rfl dX5_owes_10 ?_
    refine lv_icmp_ge (tgt := 59) hx hb dX5_owes_13 (by decide) (fun _ => ?_) (fun c56 => absurd (by decide) c56)
    refine lv_iload_n hx hb dX5_owes_59 rfl (lv_at hl 1 rfl) ?_
    refine W.widen (k := 1) (n := 6) (Nat.le_of_ble_eq_true rfl) (Nat.le_of_ble_eq_true rfl) ?_
    refine vx_ret ?_
    exact W.iret (v := 0) hx hb hr (fun t ht hW9 => ⟨⟨0, (), rfl, ⟨rfl, hw⟩, trivial⟩, hW.2.F ht⟩) hW.2.2.2 dX5_owes_60

set_option maxHeartbeats 4000000 in
set_option maxRecDepth 100000 in
theorem t_X5_many (l : Launch) (hl0 : l.stackTraces = false) (D : va_G) (cA : Nat → ClassId) (z : Nat) (NL : List (Nat × Nat)) (ad : Nat → Nat → Nat) (ct : Nat → Nat → va_E) (x1 : Int32) (hm5 : (5, 0) ∈ NL) (h5 : ct 5 0 = .inr (6, [.ref (ad 50 0), .ref (ad 51 0), .ref (ad 52 0), .ref (ad 53 0), .ref (ad 54 0), .ref (ad 55 0), .ref (ad 56 0), .int 0, .int 0, .int 0, .int 0, .int 0, .int 0])) : vx_Met l yX5_many wsX5_many ({ frames := 6, cells := 1, slots := 6, locals := 90 }) (pcPreT D vwCl (tyL cA) z [.ref (ad 5 0), .int x1] (fun H => va_P D vwCl (pcW NL ad ct) H)) (va_Qi (fun (r : Int32) (_ : Unit) => r = 0 ∧ ¬ (x1.toInt < 0 ∨ 12 < x1.toInt)) (fun _ _ => True) (fun _ => False)) (pxX (fun E => E = R_IA ∧ (x1.toInt < 0 ∨ 12 < x1.toInt))) 1 6 (fun _ => False) := by
  refine vx_ofW (cc := cX5_many) (maxL := 2) (ret := (some .int)) (by decide) rfl ?_
  intro p e s m args below meth c s₁ B hml hex hv
  obtain ⟨rfl, hX, hT, ⟨hZ, hz⟩, hP0⟩ := hv
  have hx := B.exec
  have hb := B.bytes
  have hr := B.returns
  have hts := atoms_spec (ws := wsX5_many) B.pre
  have hown : s.vm.findClass RX5 = some m.cls := findClass_of_methodNamed B.named
  have hlocks := B.notSynchronized
  have hW : pcQ D vwCl (fun _ => False) s.heap NL ad ct s.heap [] := ⟨hP0, va_S.rf⟩
  have hl := lv_entry ([.ref (ad 5 0), .int x1]) (n := 2) (Nat.le_of_ble_eq_true rfl)
  rw [lg_entry_eq]
  generalize (lg_sl ([.ref (ad 5 0), .int x1]) ++ List.replicate (2 - (lg_sl ([.ref (ad 5 0), .int x1])).length) Slot.unset).toArray = ls at hl ⊢
  have hl : lv_has ls 2 [(0, .ref (ad 5 0)), (1, .int x1)] := hl
  refine lv_iload_n hx hb dX5_many_0 rfl (lv_at hl 1 rfl) ?_
  by_cases q57 : x1.toInt < 0 ∨ 12 < x1.toInt
  · refine lv_tableOut (tgt := 137) hx hb dX5_many_1 q57 (by decide) ?_
    obtain ⟨sa59, hsa59⟩ := hT.2.2 (RX5, 315, "what is not 0 to 12") (by decide +kernel)
    have hat : ∀ w ∈ vx_atS RX5 77 "java/lang/IllegalArgumentException" ["java/lang/RuntimeException", "java/lang/Exception"], w.before _ s = true := vx_hat (fun w hw => hts w (List.mem_cons_of_mem _ (List.mem_append_right _ hw))) (B := [.castable "java/lang/IllegalArgumentException" "java/lang/IllegalArgumentException", .declares (Bundle.initS "java/lang/RuntimeException"), .declares (Bundle.initS "java/lang/Exception"), .declares (Bundle.initS Bundle.tN)]) (by decide +kernel) (vx_c (va_Nw.use rfl (hT.1 _ (by decide +kernel))) (vx_c (va_Nw.use rfl (hT.1 _ (by decide +kernel))) (vx_c (va_Nw.use rfl (hT.1 _ (by decide +kernel))) (vx_c (va_Nw.use rfl (hT.1 _ (by decide +kernel))) vx_n))))
    have hSz : va_S (fun q => z ≤ q) s.heap _ _ := ⟨hW.2.1, fun q h1 _ => hW.2.2.1 q h1 id, fun q hq => (hW.2.2.2 q hq).elim⟩
    exact vx_throwSW (text := "what is not 0 to 12") (names := ["java/lang/RuntimeException", "java/lang/Exception"]) hx hb hl0 hown (by decide +kernel) (by decide +kernel) (hts (.classLink RX5 73 "java/lang/IllegalArgumentException") (by decide +kernel)) (hts (.initialized "java/lang/IllegalArgumentException") (by decide +kernel)) hsa59 hat (by decide +kernel) hZ.1 hZ.2 hSz (hl.1.trans hml.symm) dX5_many_137 dX5_many_140 dX5_many_141 dX5_many_144 dX5_many_147 (fun x hx => (hex x hx).elim) (by decide) (Nat.le_of_ble_eq_true rfl) (Nat.le_of_ble_eq_true rfl) (Nat.le_of_ble_eq_true rfl) hlocks (fun t hal hsz hk => ⟨(), trivial, ⟨rfl, q57⟩, Nat.le_trans hW.2.1 hsz, fun q h1 _ => (hk q (Nat.lt_of_lt_of_le h1 hW.2.1)).trans (hW.2.2.1 q h1 id)⟩) (fun q hq => (hW.2.2.2 q hq).elim) (Nat.le_of_ble_eq_true rfl) (Nat.le_of_ble_eq_true rfl)
  · obtain ⟨j58, hj58, ej58⟩ := sw_cases 12 rfl q57
    rcases (show j58 = 0 ∨ j58 = 1 ∨ j58 = 2 ∨ j58 = 3 ∨ j58 = 4 ∨ j58 = 5 ∨ j58 = 6 ∨ j58 = 7 ∨ j58 = 8 ∨ j58 = 9 ∨ j58 = 10 ∨ j58 = 11 ∨ j58 = 12 by omega) with rfl | rfl | rfl | rfl | rfl | rfl | rfl | rfl | rfl | rfl | rfl | rfl | rfl
    · obtain rfl : x1 = 0 := ej58
      refine lv_tableIn (tgt := 68) hx hb dX5_many_1 (by decide) (by decide) rfl (by decide) ?_
      refine lv_aload_n hx hb dX5_many_68 rfl (lv_at hl 0 rfl) ?_
      refine pc_get (C := RX5) (T := TX5) (N := 13) (ci := 6) hx hb hts (by decide +kernel) hown hX.1 hW.1 5 0 hm5 h5 rfl 7 (by decide) (hts (.fieldLink RX5 48 "DraftsmanOffice" "sheetCount" "I") (by decide +kernel)) (fun _ h9 => h9) rfl dX5_many_69 ?_
      refine W.widen (k := 1) (n := 6) (Nat.le_of_ble_eq_true rfl) (Nat.le_of_ble_eq_true rfl) ?_
      refine vx_ret ?_
      exact W.iret (v := 0) hx hb hr (fun t ht hW9 => ⟨⟨0, (), rfl, ⟨rfl, by decide⟩, trivial⟩, hW.2.F ht⟩) hW.2.2.2 dX5_many_72
    · obtain rfl : x1 = 1 := ej58
      refine lv_tableIn (tgt := 73) hx hb dX5_many_1 (by decide) (by decide) rfl (by decide) ?_
      refine lv_aload_n hx hb dX5_many_73 rfl (lv_at hl 0 rfl) ?_
      refine pc_get (C := RX5) (T := TX5) (N := 13) (ci := 6) hx hb hts (by decide +kernel) hown hX.1 hW.1 5 0 hm5 h5 rfl 8 (by decide) (hts (.fieldLink RX5 52 "DraftsmanOffice" "referenceCount" "I") (by decide +kernel)) (fun _ h9 => h9) rfl dX5_many_74 ?_
      refine W.widen (k := 1) (n := 6) (Nat.le_of_ble_eq_true rfl) (Nat.le_of_ble_eq_true rfl) ?_
      refine vx_ret ?_
      exact W.iret (v := 0) hx hb hr (fun t ht hW9 => ⟨⟨0, (), rfl, ⟨rfl, by decide⟩, trivial⟩, hW.2.F ht⟩) hW.2.2.2 dX5_many_77
    · obtain rfl : x1 = 2 := ej58
      refine lv_tableIn (tgt := 78) hx hb dX5_many_1 (by decide) (by decide) rfl (by decide) ?_
      refine lv_aload_n hx hb dX5_many_78 rfl (lv_at hl 0 rfl) ?_
      refine pc_qcalli (va_runV (As := []) (rest := []) ⟨hx, hb, hml, hown, hts⟩ (r_X5_brokenOfAll l D cA NL ad ct  0 hm5 h5) (cwV 0 hts gX5_many_X5_brokenOfAll rfl rfl rfl (by decide +kernel) ⟨Nat.le_of_ble_eq_true rfl, Nat.le_of_ble_eq_true rfl⟩) (pc_preV pcN_ok hX hW.1 hm5 h5 rfl hW.1) rfl rfl hl.1 rfl (lv_room (Nat.le_of_ble_eq_true rfl)) dX5_many_79 ⟨Nat.le_of_ble_eq_true rfl, Nat.le_of_ble_eq_true rfl⟩) hW (fun r60 H locs hwr60 hW => ?_)
      subst hwr60
      refine W.widen (k := 1) (n := 6) (Nat.le_of_ble_eq_true rfl) (Nat.le_of_ble_eq_true rfl) ?_
      refine vx_ret ?_
      exact W.iret (v := 0) hx hb hr (fun t ht hW9 => ⟨⟨0, (), rfl, ⟨rfl, by decide⟩, trivial⟩, hW.2.F ht⟩) hW.2.2.2 dX5_many_82
    · obtain rfl : x1 = 3 := ej58
      refine lv_tableIn (tgt := 83) hx hb dX5_many_1 (by decide) (by decide) rfl (by decide) ?_
      refine lv_aload_n hx hb dX5_many_83 rfl (lv_at hl 0 rfl) ?_
      refine pc_get (C := RX5) (T := TX5) (N := 13) (ci := 6) hx hb hts (by decide +kernel) hown hX.1 hW.1 5 0 hm5 h5 rfl 9 (by decide) (hts (.fieldLink RX5 55 "DraftsmanOffice" "sendingCount" "I") (by decide +kernel)) (fun _ h9 => h9) rfl dX5_many_84 ?_
      refine W.widen (k := 1) (n := 6) (Nat.le_of_ble_eq_true rfl) (Nat.le_of_ble_eq_true rfl) ?_
      refine vx_ret ?_
      exact W.iret (v := 0) hx hb hr (fun t ht hW9 => ⟨⟨0, (), rfl, ⟨rfl, by decide⟩, trivial⟩, hW.2.F ht⟩) hW.2.2.2 dX5_many_87
    · obtain rfl : x1 = 4 := ej58
      refine lv_tableIn (tgt := 88) hx hb dX5_many_1 (by decide) (by decide) rfl (by decide) ?_
      refine lv_aload_n hx hb dX5_many_88 rfl (lv_at hl 0 rfl) ?_
      refine pc_get (C := RX5) (T := TX5) (N := 13) (ci := 6) hx hb hts (by decide +kernel) hown hX.1 hW.1 5 0 hm5 h5 rfl 10 (by decide) (hts (.fieldLink RX5 58 "DraftsmanOffice" "queryCount" "I") (by decide +kernel)) (fun _ h9 => h9) rfl dX5_many_89 ?_
      refine W.widen (k := 1) (n := 6) (Nat.le_of_ble_eq_true rfl) (Nat.le_of_ble_eq_true rfl) ?_
      refine vx_ret ?_
      exact W.iret (v := 0) hx hb hr (fun t ht hW9 => ⟨⟨0, (), rfl, ⟨rfl, by decide⟩, trivial⟩, hW.2.F ht⟩) hW.2.2.2 dX5_many_92
    · obtain rfl : x1 = 5 := ej58
      refine lv_tableIn (tgt := 93) hx hb dX5_many_1 (by decide) (by decide) rfl (by decide) ?_
      refine lv_aload_n hx hb dX5_many_93 rfl (lv_at hl 0 rfl) ?_
      refine pc_qcalli (va_runV (As := []) (rest := []) ⟨hx, hb, hml, hown, hts⟩ (r_X5_queriesNotClosed l D cA NL ad ct  0 hm5 h5) (cwV 0 hts gX5_many_X5_queriesNotClosed rfl rfl rfl (by decide +kernel) ⟨Nat.le_of_ble_eq_true rfl, Nat.le_of_ble_eq_true rfl⟩) (pc_preV pcN_ok hX hW.1 hm5 h5 rfl hW.1) rfl rfl hl.1 rfl (lv_room (Nat.le_of_ble_eq_true rfl)) dX5_many_94 ⟨Nat.le_of_ble_eq_true rfl, Nat.le_of_ble_eq_true rfl⟩) hW (fun r61 H locs hwr61 hW => ?_)
      subst hwr61
      refine W.widen (k := 1) (n := 6) (Nat.le_of_ble_eq_true rfl) (Nat.le_of_ble_eq_true rfl) ?_
      refine vx_ret ?_
      exact W.iret (v := 0) hx hb hr (fun t ht hW9 => ⟨⟨0, (), rfl, ⟨rfl, by decide⟩, trivial⟩, hW.2.F ht⟩) hW.2.2.2 dX5_many_97
    · obtain rfl : x1 = 6 := ej58
      refine lv_tableIn (tgt := 98) hx hb dX5_many_1 (by decide) (by decide) rfl (by decide) ?_
      refine lv_aload_n hx hb dX5_many_98 rfl (lv_at hl 0 rfl) ?_
      refine pc_qcalli (va_runV (As := []) (rest := []) ⟨hx, hb, hml, hown, hts⟩ (r_X5_clashingPairs l D cA NL ad ct  0 hm5 h5) (cwV 0 hts gX5_many_X5_clashingPairs rfl rfl rfl (by decide +kernel) ⟨Nat.le_of_ble_eq_true rfl, Nat.le_of_ble_eq_true rfl⟩) (pc_preV pcN_ok hX hW.1 hm5 h5 rfl hW.1) rfl rfl hl.1 rfl (lv_room (Nat.le_of_ble_eq_true rfl)) dX5_many_99 ⟨Nat.le_of_ble_eq_true rfl, Nat.le_of_ble_eq_true rfl⟩) hW (fun r62 H locs hwr62 hW => ?_)
      subst hwr62
      refine W.widen (k := 1) (n := 6) (Nat.le_of_ble_eq_true rfl) (Nat.le_of_ble_eq_true rfl) ?_
      refine vx_ret ?_
      exact W.iret (v := 0) hx hb hr (fun t ht hW9 => ⟨⟨0, (), rfl, ⟨rfl, by decide⟩, trivial⟩, hW.2.F ht⟩) hW.2.2.2 dX5_many_102
    · obtain rfl : x1 = 7 := ej58
      refine lv_tableIn (tgt := 103) hx hb dX5_many_1 (by decide) (by decide) rfl (by decide) ?_
      refine lv_aload_n hx hb dX5_many_103 rfl (lv_at hl 0 rfl) ?_
      refine pc_get (C := RX5) (T := TX5) (N := 13) (ci := 6) hx hb hts (by decide +kernel) hown hX.1 hW.1 5 0 hm5 h5 rfl 11 (by decide) (hts (.fieldLink RX5 61 "DraftsmanOffice" "packageCount" "I") (by decide +kernel)) (fun _ h9 => h9) rfl dX5_many_104 ?_
      refine W.widen (k := 1) (n := 6) (Nat.le_of_ble_eq_true rfl) (Nat.le_of_ble_eq_true rfl) ?_
      refine vx_ret ?_
      exact W.iret (v := 0) hx hb hr (fun t ht hW9 => ⟨⟨0, (), rfl, ⟨rfl, by decide⟩, trivial⟩, hW.2.F ht⟩) hW.2.2.2 dX5_many_107
    · obtain rfl : x1 = 8 := ej58
      refine lv_tableIn (tgt := 108) hx hb dX5_many_1 (by decide) (by decide) rfl (by decide) ?_
      refine lv_aload_n hx hb dX5_many_108 rfl (lv_at hl 0 rfl) ?_
      refine lv_iconst (v := 0) hx hb dX5_many_109 (by decide) ?_
      refine pc_qcalli (va_runV (As := [.int 0]) (rest := []) ⟨hx, hb, hml, hown, hts⟩ (r_X5_packagesThatAre l D cA NL ad ct 0 0 hm5 h5) (cwV 1 hts gX5_many_X5_packagesThatAre rfl rfl rfl (by decide +kernel) ⟨Nat.le_of_ble_eq_true rfl, Nat.le_of_ble_eq_true rfl⟩) (pc_preV pcN_ok hX hW.1 hm5 h5 rfl hW.1) rfl rfl hl.1 rfl (lv_room (Nat.le_of_ble_eq_true rfl)) dX5_many_110 ⟨Nat.le_of_ble_eq_true rfl, Nat.le_of_ble_eq_true rfl⟩) hW (fun r63 H locs hwr63 hW => ?_)
      subst hwr63
      refine W.widen (k := 1) (n := 6) (Nat.le_of_ble_eq_true rfl) (Nat.le_of_ble_eq_true rfl) ?_
      refine vx_ret ?_
      exact W.iret (v := 0) hx hb hr (fun t ht hW9 => ⟨⟨0, (), rfl, ⟨rfl, by decide⟩, trivial⟩, hW.2.F ht⟩) hW.2.2.2 dX5_many_113
    · obtain rfl : x1 = 9 := ej58
      refine lv_tableIn (tgt := 114) hx hb dX5_many_1 (by decide) (by decide) rfl (by decide) ?_
      refine lv_aload_n hx hb dX5_many_114 rfl (lv_at hl 0 rfl) ?_
      refine lv_iconst (v := 1) hx hb dX5_many_115 (by decide) ?_
      refine pc_qcalli (va_runV (As := [.int 1]) (rest := []) ⟨hx, hb, hml, hown, hts⟩ (r_X5_packagesThatAre l D cA NL ad ct 1 0 hm5 h5) (cwV 1 hts gX5_many_X5_packagesThatAre rfl rfl rfl (by decide +kernel) ⟨Nat.le_of_ble_eq_true rfl, Nat.le_of_ble_eq_true rfl⟩) (pc_preV pcN_ok hX hW.1 hm5 h5 rfl hW.1) rfl rfl hl.1 rfl (lv_room (Nat.le_of_ble_eq_true rfl)) dX5_many_116 ⟨Nat.le_of_ble_eq_true rfl, Nat.le_of_ble_eq_true rfl⟩) hW (fun r64 H locs hwr64 hW => ?_)
      subst hwr64
      refine W.widen (k := 1) (n := 6) (Nat.le_of_ble_eq_true rfl) (Nat.le_of_ble_eq_true rfl) ?_
      refine vx_ret ?_
      exact W.iret (v := 0) hx hb hr (fun t ht hW9 => ⟨⟨0, (), rfl, ⟨rfl, by decide⟩, trivial⟩, hW.2.F ht⟩) hW.2.2.2 dX5_many_119
    · obtain rfl : x1 = 10 := ej58
      refine lv_tableIn (tgt := 120) hx hb dX5_many_1 (by decide) (by decide) rfl (by decide) ?_
      refine lv_aload_n hx hb dX5_many_120 rfl (lv_at hl 0 rfl) ?_
      refine lv_iconst (v := 2) hx hb dX5_many_121 (by decide) ?_
      refine pc_qcalli (va_runV (As := [.int 2]) (rest := []) ⟨hx, hb, hml, hown, hts⟩ (r_X5_packagesThatAre l D cA NL ad ct 2 0 hm5 h5) (cwV 1 hts gX5_many_X5_packagesThatAre rfl rfl rfl (by decide +kernel) ⟨Nat.le_of_ble_eq_true rfl, Nat.le_of_ble_eq_true rfl⟩) (pc_preV pcN_ok hX hW.1 hm5 h5 rfl hW.1) rfl rfl hl.1 rfl (lv_room (Nat.le_of_ble_eq_true rfl)) dX5_many_122 ⟨Nat.le_of_ble_eq_true rfl, Nat.le_of_ble_eq_true rfl⟩) hW (fun r65 H locs hwr65 hW => ?_)
      subst hwr65
      refine W.widen (k := 1) (n := 6) (Nat.le_of_ble_eq_true rfl) (Nat.le_of_ble_eq_true rfl) ?_
      refine vx_ret ?_
      exact W.iret (v := 0) hx hb hr (fun t ht hW9 => ⟨⟨0, (), rfl, ⟨rfl, by decide⟩, trivial⟩, hW.2.F ht⟩) hW.2.2.2 dX5_many_125
    · obtain rfl : x1 = 11 := ej58
      refine lv_tableIn (tgt := 126) hx hb dX5_many_1 (by decide) (by decide) rfl (by decide) ?_
      refine lv_aload_n hx hb dX5_many_126 rfl (lv_at hl 0 rfl) ?_
      refine lv_iconst (v := 3) hx hb dX5_many_127 (by decide) ?_
      refine pc_qcalli (va_runV (As := [.int 3]) (rest := []) ⟨hx, hb, hml, hown, hts⟩ (r_X5_packagesThatAre l D cA NL ad ct 3 0 hm5 h5) (cwV 1 hts gX5_many_X5_packagesThatAre rfl rfl rfl (by decide +kernel) ⟨Nat.le_of_ble_eq_true rfl, Nat.le_of_ble_eq_true rfl⟩) (pc_preV pcN_ok hX hW.1 hm5 h5 rfl hW.1) rfl rfl hl.1 rfl (lv_room (Nat.le_of_ble_eq_true rfl)) dX5_many_128 ⟨Nat.le_of_ble_eq_true rfl, Nat.le_of_ble_eq_true rfl⟩) hW (fun r66 H locs hwr66 hW => ?_)
      subst hwr66
      refine W.widen (k := 1) (n := 6) (Nat.le_of_ble_eq_true rfl) (Nat.le_of_ble_eq_true rfl) ?_
      refine vx_ret ?_
      exact W.iret (v := 0) hx hb hr (fun t ht hW9 => ⟨⟨0, (), rfl, ⟨rfl, by decide⟩, trivial⟩, hW.2.F ht⟩) hW.2.2.2 dX5_many_131
    · obtain rfl : x1 = 12 := ej58
      refine lv_tableIn (tgt := 132) hx hb dX5_many_1 (by decide) (by decide) rfl (by decide) ?_
      refine lv_aload_n hx hb dX5_many_132 rfl (lv_at hl 0 rfl) ?_
      refine pc_get (C := RX5) (T := TX5) (N := 13) (ci := 6) hx hb hts (by decide +kernel) hown hX.1 hW.1 5 0 hm5 h5 rfl 12 (by decide) (hts (.fieldLink RX5 64 "DraftsmanOffice" "today" "I") (by decide +kernel)) (fun _ h9 => h9) rfl dX5_many_133 ?_
      refine W.widen (k := 1) (n := 6) (Nat.le_of_ble_eq_true rfl) (Nat.le_of_ble_eq_true rfl) ?_
      refine vx_ret ?_
      exact W.iret (v := 0) hx hb hr (fun t ht hW9 => ⟨⟨0, (), rfl, ⟨rfl, by decide⟩, trivial⟩, hW.2.F ht⟩) hW.2.2.2 dX5_many_136

set_option maxHeartbeats 4000000 in
set_option maxRecDepth 100000 in
theorem r_X5_meanRevisions (l : Launch) (D : va_G) (cA : Nat → ClassId) (NL : List (Nat × Nat)) (ad : Nat → Nat → Nat) (ct : Nat → Nat → va_E)  (td : Int32) (hm5 : (5, 0) ∈ NL) (h5 : ct 5 0 = .inr (6, [.ref (ad 50 0), .ref (ad 51 0), .ref (ad 52 0), .ref (ad 53 0), .ref (ad 54 0), .ref (ad 55 0), .ref (ad 56 0), .int 0, .int 0, .int 0, .int 0, .int 0, .int td])) : Met l yX5_meanRevisions wsX5_meanRevisions ({ frames := 0, cells := 0, slots := 0, locals := 0 }) (pcPre D vwCl (tyL cA) [.ref (ad 5 0)] (fun H => va_P D vwCl (pcW NL ad ct) H)) (va_Qd (fun (r : UInt64) (_ : Unit) => r = 0) (fun _ _ => True) (fun _ => False)) 0 0 (fun _ => False) := by
  refine Met.ofW (cc := cX5_meanRevisions) (maxL := 3) (ret := (some .double)) (by decide) rfl ?_
  intro p e s m args below meth c s₁ B hml hv
  obtain ⟨rfl, hX, hP0⟩ := hv
  have hx := B.exec
  have hb := B.bytes
  have hr := B.returns
  have hts := atoms_spec (ws := wsX5_meanRevisions) B.pre
  have hown : s.vm.findClass RX5 = some m.cls := findClass_of_methodNamed B.named
  have hlocks := B.notSynchronized
  have hW : pcQ D vwCl (fun _ => False) s.heap NL ad ct s.heap [] := ⟨hP0, va_S.rf⟩
  have hl := lv_entry ([.ref (ad 5 0)]) (n := 3) (Nat.le_of_ble_eq_true rfl)
  rw [lg_entry_eq]
  generalize (lg_sl ([.ref (ad 5 0)]) ++ List.replicate (3 - (lg_sl ([.ref (ad 5 0)])).length) Slot.unset).toArray = ls at hl ⊢
  have hl : lv_has ls 3 [(0, .ref (ad 5 0))] := hl
  refine lv_aload_n hx hb dX5_meanRevisions_0 rfl (lv_at hl 0 rfl) ?_
  refine pc_get (C := RX5) (T := TX5) (N := 13) (ci := 6) hx hb hts (by decide +kernel) hown hX.1 hW.1 5 0 hm5 h5 rfl 7 (by decide) (hts (.fieldLink RX5 48 "DraftsmanOffice" "sheetCount" "I") (by decide +kernel)) (fun _ h9 => h9) rfl dX5_meanRevisions_1 ?_
  refine lv_if_ne (tgt := 9) hx hb dX5_meanRevisions_4 (by decide) (fun c67 => absurd c67 (by decide)) (fun _ => ?_)
  refine lv_dconst0 hx hb dX5_meanRevisions_7 ?_
  exact W.dret (v := 0) hx hb hr (fun t ht hW9 => ⟨⟨0, (), rfl, rfl, trivial⟩, hW.2.F ht⟩) hW.2.2.2 dX5_meanRevisions_8
