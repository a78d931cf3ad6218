set_option maxHeartbeats 4000000 in
set_option maxRecDepth 100000 in
theorem r_X6_owes (l : Launch) (D : va_G) (cA : Nat → ClassId) (NL : List (Nat × Nat)) (ad : Nat → Nat → Nat) (ct : Nat → Nat → va_E)  (em : Nat) (th : Int32) (x1 : Int32) (hmM : inM NL) (hf : frT th ad em ct) : Met l yX6_owes wsX6_owes ({ frames := 1, cells := 0, slots := 0, locals := 20 }) (pcPre D vwCl (tyL cA) [.ref (ad 6 0), .int x1] (fun H => va_P D vwCl (pcW NL ad ct) H)) (va_Qi (fun (r : Int32) (_ : Unit) => r = 0) (fun _ _ => True) (fun _ => False)) 0 0 (fun _ => False) := by
  refine Met.ofW (cc := cX6_owes) (maxL := 4) (ret := (some .int)) (by decide) rfl ?_
  intro p e s m args below meth c s₁ B hml hv
  obtain ⟨rfl, hX, hP0⟩ := hv
  have hx := B.exec
  have hb := B.bytes
  have hr := B.returns
  have hts := atoms_spec (ws := wsX6_owes) B.pre
  have hown : s.vm.findClass RX6 = some m.cls := findClass_of_methodNamed B.named
  have hlocks := B.notSynchronized
  have hW : pcQ D vwCl (fun _ => False) s.heap NL ad ct s.heap [] := ⟨hP0, va_S.rf⟩
  have hl := lv_entry ([.ref (ad 6 0), .int x1]) (n := 4) (Nat.le_of_ble_eq_true rfl)
  rw [lg_entry_eq]
  generalize (lg_sl ([.ref (ad 6 0), .int x1]) ++ List.replicate (4 - (lg_sl ([.ref (ad 6 0), .int x1])).length) Slot.unset).toArray = ls at hl ⊢
  have hl : lv_has ls 4 [(0, .ref (ad 6 0)), (1, .int x1)] := hl
  refine lv_iconst (v := 0) hx hb dX6_owes_0 (by decide) ?_
  refine lv_istore_n (lv' := [(2, .int 0), (0, .ref (ad 6 0)), (1, .int x1)]) hx hb dX6_owes_1 rfl hl (by decide) rfl (fun ls hl => ?_)
  refine lv_iconst (v := 0) hx hb dX6_owes_2 (by decide) ?_
  refine lv_istore_n (lv' := [(3, .int 0), (2, .int 0), (0, .ref (ad 6 0)), (1, .int x1)]) hx hb dX6_owes_3 rfl hl (by decide) rfl (fun ls hl => ?_)
  refine lv_iload_n hx hb dX6_owes_4 rfl (lv_at hl 0 rfl) ?_
  refine lv_aload_n hx hb dX6_owes_5 rfl (lv_at hl 2 rfl) ?_
  refine pc_get (C := RX6) (T := TX6) (N := 10) (ci := 7) hx hb hts (by decide +kernel) hown hX.1 hW.1 6 0 hmM.2.1 hf.2.1 rfl 3 (by decide) (hts (.fieldLink RX6 24 "DraftsmanOfficeModel$Office" "sendings" "Ljava/util/ArrayList;") (by decide +kernel)) (fun _ h9 => h9) rfl dX6_owes_6 ?_
  refine pc_qcalli (va_runV (As := []) (rest := [.int 0]) ⟨hx, hb, hml, hown, hts⟩ (r_Jx4a65c_size_8abf5 l D cA NL ad ct 60 3 em (hmM.2.2 3 (by decide)) (hf.2.2 3 (by decide))) (cwV 0 hts gX6_owes_Jx4a65c_size_8abf5 rfl rfl rfl (by decide +kernel) ⟨Nat.le_of_ble_eq_true rfl, Nat.le_of_ble_eq_true rfl⟩) (pc_preV pcN_ok hX hW.1 (hmM.2.2 3 (by decide)) (hf.2.2 3 (by decide)) rfl hW.1) rfl rfl hl.1 rfl (lv_room (Nat.le_of_ble_eq_true rfl)) dX6_owes_9 ⟨Nat.le_of_ble_eq_true rfl, Nat.le_of_ble_eq_true rfl⟩) hW (fun r432 H locs hwr432 hW => ?_)
  subst hwr432
  refine lv_icmp_ge (tgt := 60) hx hb dX6_owes_12 (by decide) (fun _ => ?_) (fun c433 => absurd (by decide) c433)
  refine lv_iload_n hx hb dX6_owes_60 rfl (lv_at hl 1 rfl) ?_
  exact W.iret (v := 0) hx hb hr (fun t ht hW9 => ⟨⟨0, (), rfl, rfl, trivial⟩, hW.2.F ht⟩) hW.2.2.2 dX6_owes_61

set_option maxHeartbeats 4000000 in
set_option maxRecDepth 100000 in
theorem r_X6_settle (l : Launch) (D : va_G) (cA : Nat → ClassId) (NL : List (Nat × Nat)) (ad : Nat → Nat → Nat) (ct : Nat → Nat → va_E)  (em : Nat) (th : Int32)  (hmM : inM NL) (hf : frT th ad em ct) : Met l yX6_settle wsX6_settle ({ frames := 1, cells := 0, slots := 0, locals := 20 }) (pcPre D vwCl (tyL cA) [.ref (ad 6 0)] (fun H => va_P D vwCl (pcW NL ad ct) H)) (va_Qi (fun (r : Int32) (_ : Unit) => r = 0) (fun _ _ => True) (fun _ => False)) 0 0 (fun _ => False) := by
  refine Met.ofW (cc := cX6_settle) (maxL := 4) (ret := (some .int)) (by decide) rfl ?_
  intro p e s m args below meth c s₁ B hml hv
  obtain ⟨rfl, hX, hP0⟩ := hv
  have hx := B.exec
  have hb := B.bytes
  have hr := B.returns
  have hts := atoms_spec (ws := wsX6_settle) B.pre
  have hown : s.vm.findClass RX6 = some m.cls := findClass_of_methodNamed B.named
  have hlocks := B.notSynchronized
  have hW : pcQ D vwCl (fun _ => False) s.heap NL ad ct s.heap [] := ⟨hP0, va_S.rf⟩
  have hl := lv_entry ([.ref (ad 6 0)]) (n := 4) (Nat.le_of_ble_eq_true rfl)
  rw [lg_entry_eq]
  generalize (lg_sl ([.ref (ad 6 0)]) ++ List.replicate (4 - (lg_sl ([.ref (ad 6 0)])).length) Slot.unset).toArray = ls at hl ⊢
  have hl : lv_has ls 4 [(0, .ref (ad 6 0))] := hl
  refine lv_iconst (v := 0) hx hb dX6_settle_0 (by decide) ?_
  refine lv_istore_n (lv' := [(1, .int 0), (0, .ref (ad 6 0))]) hx hb dX6_settle_1 rfl hl (by decide) rfl (fun ls hl => ?_)
  refine lv_iconst (v := 0) hx hb dX6_settle_2 (by decide) ?_
  refine lv_istore_n (lv' := [(2, .int 0), (1, .int 0), (0, .ref (ad 6 0))]) hx hb dX6_settle_3 rfl hl (by decide) rfl (fun ls hl => ?_)
  refine lv_iload_n hx hb dX6_settle_4 rfl (lv_at hl 0 rfl) ?_
  refine lv_aload_n hx hb dX6_settle_5 rfl (lv_at hl 2 rfl) ?_
  refine pc_get (C := RX6) (T := TX6) (N := 10) (ci := 7) hx hb hts (by decide +kernel) hown hX.1 hW.1 6 0 hmM.2.1 hf.2.1 rfl 8 (by decide) (hts (.fieldLink RX6 43 "DraftsmanOfficeModel$Office" "packs" "Ljava/util/ArrayList;") (by decide +kernel)) (fun _ h9 => h9) rfl dX6_settle_6 ?_
  refine pc_qcalli (va_runV (As := []) (rest := [.int 0]) ⟨hx, hb, hml, hown, hts⟩ (r_Jx4a65c_size_8abf5 l D cA NL ad ct 60 6 em (hmM.2.2 6 (by decide)) (hf.2.2 6 (by decide))) (cwV 0 hts gX6_settle_Jx4a65c_size_8abf5 rfl rfl rfl (by decide +kernel) ⟨Nat.le_of_ble_eq_true rfl, Nat.le_of_ble_eq_true rfl⟩) (pc_preV pcN_ok hX hW.1 (hmM.2.2 6 (by decide)) (hf.2.2 6 (by decide)) rfl hW.1) rfl rfl hl.1 rfl (lv_room (Nat.le_of_ble_eq_true rfl)) dX6_settle_9 ⟨Nat.le_of_ble_eq_true rfl, Nat.le_of_ble_eq_true rfl⟩) hW (fun r434 H locs hwr434 hW => ?_)
  subst hwr434
  refine lv_icmp_ge (tgt := 71) hx hb dX6_settle_12 (by decide) (fun _ => ?_) (fun c435 => absurd (by decide) c435)
  refine lv_iload_n hx hb dX6_settle_71 rfl (lv_at hl 1 rfl) ?_
  exact W.iret (v := 0) hx hb hr (fun t ht hW9 => ⟨⟨0, (), rfl, rfl, trivial⟩, hW.2.F ht⟩) hW.2.2.2 dX6_settle_72

set_option maxHeartbeats 4000000 in
set_option maxRecDepth 100000 in
theorem r_X11_brokenAll (l : Launch) (D : va_G) (cA : Nat → ClassId) (NL : List (Nat × Nat)) (ad : Nat → Nat → Nat) (ct : Nat → Nat → va_E)  (em : Nat) (th : Int32)  (hmM : inM NL) (hf : frT th ad em ct) : Met l yX11_brokenAll wsX11_brokenAll ({ frames := 1, cells := 0, slots := 0, locals := 20 }) (pcPre D vwCl (tyL cA) [.ref (ad 11 0)] (fun H => va_P D vwCl (pcW NL ad ct) H)) (va_Qi (fun (r : Int32) (_ : Unit) => r = 0) (fun _ _ => True) (fun _ => False)) 0 0 (fun _ => False) := by
  refine Met.ofW (cc := cX11_brokenAll) (maxL := 3) (ret := (some .int)) (by decide) rfl ?_
  intro p e s m args below meth c s₁ B hml hv
  obtain ⟨rfl, hX, hP0⟩ := hv
  have hx := B.exec
  have hb := B.bytes
  have hr := B.returns
  have hts := atoms_spec (ws := wsX11_brokenAll) B.pre
  have hown : s.vm.findClass RX11 = some m.cls := findClass_of_methodNamed B.named
  have hlocks := B.notSynchronized
  have hW : pcQ D vwCl (fun _ => False) s.heap NL ad ct s.heap [] := ⟨hP0, va_S.rf⟩
  have hl := lv_entry ([.ref (ad 11 0)]) (n := 3) (Nat.le_of_ble_eq_true rfl)
  rw [lg_entry_eq]
  generalize (lg_sl ([.ref (ad 11 0)]) ++ List.replicate (3 - (lg_sl ([.ref (ad 11 0)])).length) Slot.unset).toArray = ls at hl ⊢
  have hl : lv_has ls 3 [(0, .ref (ad 11 0))] := hl
  refine lv_iconst (v := 0) hx hb dX11_brokenAll_0 (by decide) ?_
  refine lv_istore_n (lv' := [(1, .int 0), (0, .ref (ad 11 0))]) hx hb dX11_brokenAll_1 rfl hl (by decide) rfl (fun ls hl => ?_)
  refine lv_iconst (v := 0) hx hb dX11_brokenAll_2 (by decide) ?_
  refine lv_istore_n (lv' := [(2, .int 0), (1, .int 0), (0, .ref (ad 11 0))]) hx hb dX11_brokenAll_3 rfl hl (by decide) rfl (fun ls hl => ?_)
  refine lv_iload_n hx hb dX11_brokenAll_4 rfl (lv_at hl 0 rfl) ?_
  refine lv_aload_n hx hb dX11_brokenAll_5 rfl (lv_at hl 2 rfl) ?_
  refine pc_get (C := RX11) (T := TX11) (N := 2) (ci := 12) hx hb hts (by decide +kernel) hown hX.1 hW.1 11 0 hmM.1 hf.1 rfl 1 (by decide) (hts (.fieldLink RX11 10 "DraftsmanOfficeModel" "office" "LDraftsmanOfficeModel$Office;") (by decide +kernel)) (fun _ h9 => h9) rfl dX11_brokenAll_6 ?_
  refine pc_get (C := RX6) (T := TX6) (N := 10) (ci := 7) hx hb hts (by decide +kernel) hown hX.1 hW.1 6 0 hmM.2.1 hf.2.1 rfl 1 (by decide) (hts (.fieldLink RX11 116 "DraftsmanOfficeModel$Office" "references" "Ljava/util/ArrayList;") (by decide +kernel)) (fun _ h9 => h9) rfl dX11_brokenAll_9 ?_
  refine pc_qcalli (va_runV (As := []) (rest := [.int 0]) ⟨hx, hb, hml, hown, hts⟩ (r_Jx4a65c_size_8abf5 l D cA NL ad ct 60 1 em (hmM.2.2 1 (by decide)) (hf.2.2 1 (by decide))) (cwV 0 hts gX11_brokenAll_Jx4a65c_size_8abf5 rfl rfl rfl (by decide +kernel) ⟨Nat.le_of_ble_eq_true rfl, Nat.le_of_ble_eq_true rfl⟩) (pc_preV pcN_ok hX hW.1 (hmM.2.2 1 (by decide)) (hf.2.2 1 (by decide)) rfl hW.1) rfl rfl hl.1 rfl (lv_room (Nat.le_of_ble_eq_true rfl)) dX11_brokenAll_12 ⟨Nat.le_of_ble_eq_true rfl, Nat.le_of_ble_eq_true rfl⟩) hW (fun r436 H locs hwr436 hW => ?_)
  subst hwr436
  refine lv_icmp_ge (tgt := 43) hx hb dX11_brokenAll_15 (by decide) (fun _ => ?_) (fun c437 => absurd (by decide) c437)
  refine lv_iload_n hx hb dX11_brokenAll_43 rfl (lv_at hl 1 rfl) ?_
  exact W.iret (v := 0) hx hb hr (fun t ht hW9 => ⟨⟨0, (), rfl, rfl, trivial⟩, hW.2.F ht⟩) hW.2.2.2 dX11_brokenAll_44

set_option maxHeartbeats 4000000 in
set_option maxRecDepth 100000 in
theorem r_X11_notClosed (l : Launch) (D : va_G) (cA : Nat → ClassId) (NL : List (Nat × Nat)) (ad : Nat → Nat → Nat) (ct : Nat → Nat → va_E)  (em : Nat) (th : Int32)  (hmM : inM NL) (hf : frT th ad em ct) : Met l yX11_notClosed wsX11_notClosed ({ frames := 1, cells := 0, slots := 0, locals := 20 }) (pcPre D vwCl (tyL cA) [.ref (ad 11 0)] (fun H => va_P D vwCl (pcW NL ad ct) H)) (va_Qi (fun (r : Int32) (_ : Unit) => r = 0) (fun _ _ => True) (fun _ => False)) 0 0 (fun _ => False) := by
  refine Met.ofW (cc := cX11_notClosed) (maxL := 3) (ret := (some .int)) (by decide) rfl ?_
  intro p e s m args below meth c s₁ B hml hv
  obtain ⟨rfl, hX, hP0⟩ := hv
  have hx := B.exec
  have hb := B.bytes
  have hr := B.returns
  have hts := atoms_spec (ws := wsX11_notClosed) B.pre
  have hown : s.vm.findClass RX11 = some m.cls := findClass_of_methodNamed B.named
  have hlocks := B.notSynchronized
  have hW : pcQ D vwCl (fun _ => False) s.heap NL ad ct s.heap [] := ⟨hP0, va_S.rf⟩
  have hl := lv_entry ([.ref (ad 11 0)]) (n := 3) (Nat.le_of_ble_eq_true rfl)
  rw [lg_entry_eq]
  generalize (lg_sl ([.ref (ad 11 0)]) ++ List.replicate (3 - (lg_sl ([.ref (ad 11 0)])).length) Slot.unset).toArray = ls at hl ⊢
  have hl : lv_has ls 3 [(0, .ref (ad 11 0))] := hl
  refine lv_iconst (v := 0) hx hb dX11_notClosed_0 (by decide) ?_
  refine lv_istore_n (lv' := [(1, .int 0), (0, .ref (ad 11 0))]) hx hb dX11_notClosed_1 rfl hl (by decide) rfl (fun ls hl => ?_)
  refine lv_iconst (v := 0) hx hb dX11_notClosed_2 (by decide) ?_
  refine lv_istore_n (lv' := [(2, .int 0), (1, .int 0), (0, .ref (ad 11 0))]) hx hb dX11_notClosed_3 rfl hl (by decide) rfl (fun ls hl => ?_)
  refine lv_iload_n hx hb dX11_notClosed_4 rfl (lv_at hl 0 rfl) ?_
  refine lv_aload_n hx hb dX11_notClosed_5 rfl (lv_at hl 2 rfl) ?_
  refine pc_get (C := RX11) (T := TX11) (N := 2) (ci := 12) hx hb hts (by decide +kernel) hown hX.1 hW.1 11 0 hmM.1 hf.1 rfl 1 (by decide) (hts (.fieldLink RX11 10 "DraftsmanOfficeModel" "office" "LDraftsmanOfficeModel$Office;") (by decide +kernel)) (fun _ h9 => h9) rfl dX11_notClosed_6 ?_
  refine pc_get (C := RX6) (T := TX6) (N := 10) (ci := 7) hx hb hts (by decide +kernel) hown hX.1 hW.1 6 0 hmM.2.1 hf.2.1 rfl 6 (by decide) (hts (.fieldLink RX11 170 "DraftsmanOfficeModel$Office" "asked" "Ljava/util/ArrayList;") (by decide +kernel)) (fun _ h9 => h9) rfl dX11_notClosed_9 ?_
  refine pc_qcalli (va_runV (As := []) (rest := [.int 0]) ⟨hx, hb, hml, hown, hts⟩ (r_Jx4a65c_size_8abf5 l D cA NL ad ct 60 5 em (hmM.2.2 5 (by decide)) (hf.2.2 5 (by decide))) (cwV 0 hts gX11_notClosed_Jx4a65c_size_8abf5 rfl rfl rfl (by decide +kernel) ⟨Nat.le_of_ble_eq_true rfl, Nat.le_of_ble_eq_true rfl⟩) (pc_preV pcN_ok hX hW.1 (hmM.2.2 5 (by decide)) (hf.2.2 5 (by decide)) rfl hW.1) rfl rfl hl.1 rfl (lv_room (Nat.le_of_ble_eq_true rfl)) dX11_notClosed_12 ⟨Nat.le_of_ble_eq_true rfl, Nat.le_of_ble_eq_true rfl⟩) hW (fun r438 H locs hwr438 hW => ?_)
  subst hwr438
  refine lv_icmp_ge (tgt := 52) hx hb dX11_notClosed_15 (by decide) (fun _ => ?_) (fun c439 => absurd (by decide) c439)
  refine lv_iload_n hx hb dX11_notClosed_52 rfl (lv_at hl 1 rfl) ?_
  exact W.iret (v := 0) hx hb hr (fun t ht hW9 => ⟨⟨0, (), rfl, rfl, trivial⟩, hW.2.F ht⟩) hW.2.2.2 dX11_notClosed_53

set_option maxHeartbeats 4000000 in
set_option maxRecDepth 100000 in
theorem r_X11_packsIn (l : Launch) (D : va_G) (cA : Nat → ClassId) (NL : List (Nat × Nat)) (ad : Nat → Nat → Nat) (ct : Nat → Nat → va_E)  (em : Nat) (th : Int32) (x1 : Int32) (hmM : inM NL) (hf : frT th ad em ct) : Met l yX11_packsIn wsX11_packsIn ({ frames := 1, cells := 0, slots := 0, locals := 20 }) (pcPre D vwCl (tyL cA) [.ref (ad 11 0), .int x1] (fun H => va_P D vwCl (pcW NL ad ct) H)) (va_Qi (fun (r : Int32) (_ : Unit) => r = 0) (fun _ _ => True) (fun _ => False)) 0 0 (fun _ => False) := by
  refine Met.ofW (cc := cX11_packsIn) (maxL := 4) (ret := (some .int)) (by decide) rfl ?_
  intro p e s m args below meth c s₁ B hml hv
  obtain ⟨rfl, hX, hP0⟩ := hv
  have hx := B.exec
  have hb := B.bytes
  have hr := B.returns
  have hts := atoms_spec (ws := wsX11_packsIn) B.pre
  have hown : s.vm.findClass RX11 = some m.cls := findClass_of_methodNamed B.named
  have hlocks := B.notSynchronized
  have hW : pcQ D vwCl (fun _ => False) s.heap NL ad ct s.heap [] := ⟨hP0, va_S.rf⟩
  have hl := lv_entry ([.ref (ad 11 0), .int x1]) (n := 4) (Nat.le_of_ble_eq_true rfl)
  rw [lg_entry_eq]
  generalize (lg_sl ([.ref (ad 11 0), .int x1]) ++ List.replicate (4 - (lg_sl ([.ref (ad 11 0), .int x1])).length) Slot.unset).toArray = ls at hl ⊢
  have hl : lv_has ls 4 [(0, .ref (ad 11 0)), (1, .int x1)] := hl
  refine lv_iconst (v := 0) hx hb dX11_packsIn_0 (by decide) ?_
  refine lv_istore_n (lv' := [(2, .int 0), (0, .ref (ad 11 0)), (1, .int x1)]) hx hb dX11_packsIn_1 rfl hl (by decide) rfl (fun ls hl => ?_)
  refine lv_iconst (v := 0) hx hb dX11_packsIn_2 (by decide) ?_
  refine lv_istore_n (lv' := [(3, .int 0), (2, .int 0), (0, .ref (ad 11 0)), (1, .int x1)]) hx hb dX11_packsIn_3 rfl hl (by decide) rfl (fun ls hl => ?_)
  refine lv_iload_n hx hb dX11_packsIn_4 rfl (lv_at hl 0 rfl) ?_
  refine lv_aload_n hx hb dX11_packsIn_5 rfl (lv_at hl 2 rfl) ?_
  refine pc_get (C := RX11) (T := TX11) (N := 2) (ci := 12) hx hb hts (by decide +kernel) hown hX.1 hW.1 11 0 hmM.1 hf.1 rfl 1 (by decide) (hts (.fieldLink RX11 10 "DraftsmanOfficeModel" "office" "LDraftsmanOfficeModel$Office;") (by decide +kernel)) (fun _ h9 => h9) rfl dX11_packsIn_6 ?_
  refine pc_get (C := RX6) (T := TX6) (N := 10) (ci := 7) hx hb hts (by decide +kernel) hown hX.1 hW.1 6 0 hmM.2.1 hf.2.1 rfl 8 (by decide) (hts (.fieldLink RX11 193 "DraftsmanOfficeModel$Office" "packs" "Ljava/util/ArrayList;") (by decide +kernel)) (fun _ h9 => h9) rfl dX11_packsIn_9 ?_
  refine pc_qcalli (va_runV (As := []) (rest := [.int 0]) ⟨hx, hb, hml, hown, hts⟩ (r_Jx4a65c_size_8abf5 l D cA NL ad ct 60 6 em (hmM.2.2 6 (by decide)) (hf.2.2 6 (by decide))) (cwV 0 hts gX11_packsIn_Jx4a65c_size_8abf5 rfl rfl rfl (by decide +kernel) ⟨Nat.le_of_ble_eq_true rfl, Nat.le_of_ble_eq_true rfl⟩) (pc_preV pcN_ok hX hW.1 (hmM.2.2 6 (by decide)) (hf.2.2 6 (by decide)) rfl hW.1) rfl rfl hl.1 rfl (lv_room (Nat.le_of_ble_eq_true rfl)) dX11_packsIn_12 ⟨Nat.le_of_ble_eq_true rfl, Nat.le_of_ble_eq_true rfl⟩) hW (fun r440 H locs hwr440 hW => ?_)
  subst hwr440
  refine lv_icmp_ge (tgt := 53) hx hb dX11_packsIn_15 (by decide) (fun _ => ?_) (fun c441 => absurd (by decide) c441)
  refine lv_iload_n hx hb dX11_packsIn_53 rfl (lv_at hl 1 rfl) ?_
  exact W.iret (v := 0) hx hb hr (fun t ht hW9 => ⟨⟨0, (), rfl, rfl, trivial⟩, hW.2.F ht⟩) hW.2.2.2 dX11_packsIn_54

set_option maxHeartbeats 4000000 in
set_option maxRecDepth 100000 in
theorem r_X11_thrown (l : Launch) (D : va_G) (cA : Nat → ClassId) (NL : List (Nat × Nat)) (ad : Nat → Nat → Nat) (ct : Nat → Nat → va_E)  (em : Nat) (th : Int32)  (hmM : inM NL) (hf : frT th ad em ct) : Met l yX11_thrown wsX11_thrown ({ frames := 0, cells := 0, slots := 0, locals := 0 }) (pcPre D vwCl (tyL cA) [.ref (ad 11 0)] (fun H => va_P D vwCl (pcW NL ad ct) H)) (va_Qi (fun (r : Int32) (_ : Unit) => r = th) (fun _ _ => True) (fun _ => False)) 0 0 (fun _ => False) := by
  refine Met.ofW (cc := cX11_thrown) (maxL := 1) (ret := (some .int)) (by decide) rfl ?_
  intro p e s m args below meth c s₁ B hml hv
  obtain ⟨rfl, hX, hP0⟩ := hv
  have hx := B.exec
  have hb := B.bytes
  have hr := B.returns
  have hts := atoms_spec (ws := wsX11_thrown) B.pre
  have hown : s.vm.findClass RX11 = some m.cls := findClass_of_methodNamed B.named
  have hlocks := B.notSynchronized
  have hW : pcQ D vwCl (fun _ => False) s.heap NL ad ct s.heap [] := ⟨hP0, va_S.rf⟩
  have hl := lv_entry ([.ref (ad 11 0)]) (n := 1) (Nat.le_of_ble_eq_true rfl)
  rw [lg_entry_eq]
  generalize (lg_sl ([.ref (ad 11 0)]) ++ List.replicate (1 - (lg_sl ([.ref (ad 11 0)])).length) Slot.unset).toArray = ls at hl ⊢
  have hl : lv_has ls 1 [(0, .ref (ad 11 0))] := hl
  refine lv_aload_n hx hb dX11_thrown_0 rfl (lv_at hl 0 rfl) ?_
  refine pc_get (C := RX11) (T := TX11) (N := 2) (ci := 12) hx hb hts (by decide +kernel) hown hX.1 hW.1 11 0 hmM.1 hf.1 rfl 0 (by decide) (hts (.fieldLink RX11 16 "DraftsmanOfficeModel" "thrown" "I") (by decide +kernel)) (fun _ h9 => h9) rfl dX11_thrown_1 ?_
  exact W.iret (v := th) hx hb hr (fun t ht hW9 => ⟨⟨th, (), rfl, rfl, trivial⟩, hW.2.F ht⟩) hW.2.2.2 dX11_thrown_4

set_option maxHeartbeats 4000000 in
set_option maxRecDepth 100000 in
theorem r_X11_clashesAll (l : Launch) (D : va_G) (cA : Nat → ClassId) (NL : List (Nat × Nat)) (ad : Nat → Nat → Nat) (ct : Nat → Nat → va_E)  (em : Nat) (th : Int32)  (hmM : inM NL) (hf : frT th ad em ct) : Met l yX11_clashesAll wsX11_clashesAll ({ frames := 1, cells := 0, slots := 0, locals := 20 }) (pcPre D vwCl (tyL cA) [.ref (ad 11 0)] (fun H => va_P D vwCl (pcW NL ad ct) H)) (va_Qi (fun (r : Int32) (_ : Unit) => r = 0) (fun _ _ => True) (fun _ => False)) 0 0 (fun _ => False) := by
  refine Met.ofW (cc := cX11_clashesAll) (maxL := 3) (ret := (some .int)) (by decide) rfl ?_
  intro p e s m args below meth c s₁ B hml hv
  obtain ⟨rfl, hX, hP0⟩ := hv
  have hx := B.exec
  have hb := B.bytes
  have hr := B.returns
  have hts := atoms_spec (ws := wsX11_clashesAll) B.pre
  have hown : s.vm.findClass RX11 = some m.cls := findClass_of_methodNamed B.named
  have hlocks := B.notSynchronized
  have hW : pcQ D vwCl (fun _ => False) s.heap NL ad ct s.heap [] := ⟨hP0, va_S.rf⟩
  have hl := lv_entry ([.ref (ad 11 0)]) (n := 3) (Nat.le_of_ble_eq_true rfl)
  rw [lg_entry_eq]
  generalize (lg_sl ([.ref (ad 11 0)]) ++ List.replicate (3 - (lg_sl ([.ref (ad 11 0)])).length) Slot.unset).toArray = ls at hl ⊢
  have hl : lv_has ls 3 [(0, .ref (ad 11 0))] := hl
  refine lv_iconst (v := 0) hx hb dX11_clashesAll_0 (by decide) ?_
  refine lv_istore_n (lv' := [(1, .int 0), (0, .ref (ad 11 0))]) hx hb dX11_clashesAll_1 rfl hl (by decide) rfl (fun ls hl => ?_)
  refine lv_iconst (v := 0) hx hb dX11_clashesAll_2 (by decide) ?_
  refine lv_istore_n (lv' := [(2, .int 0), (1, .int 0), (0, .ref (ad 11 0))]) hx hb dX11_clashesAll_3 rfl hl (by decide) rfl (fun ls hl => ?_)
  refine lv_iload_n hx hb dX11_clashesAll_4 rfl (lv_at hl 0 rfl) ?_
  refine lv_aload_n hx hb dX11_clashesAll_5 rfl (lv_at hl 2 rfl) ?_
  refine pc_get (C := RX11) (T := TX11) (N := 2) (ci := 12) hx hb hts (by decide +kernel) hown hX.1 hW.1 11 0 hmM.1 hf.1 rfl 1 (by decide) (hts (.fieldLink RX11 10 "DraftsmanOfficeModel" "office" "LDraftsmanOfficeModel$Office;") (by decide +kernel)) (fun _ h9 => h9) rfl dX11_clashesAll_6 ?_
  refine pc_get (C := RX6) (T := TX6) (N := 10) (ci := 7) hx hb hts (by decide +kernel) hown hX.1 hW.1 6 0 hmM.2.1 hf.2.1 rfl 0 (by decide) (hts (.fieldLink RX11 24 "DraftsmanOfficeModel$Office" "sheets" "Ljava/util/ArrayList;") (by decide +kernel)) (fun _ h9 => h9) rfl dX11_clashesAll_9 ?_
  refine pc_qcalli (va_runV (As := []) (rest := [.int 0]) ⟨hx, hb, hml, hown, hts⟩ (r_Jx4a65c_size_8abf5 l D cA NL ad ct 60 0 em (hmM.2.2 0 (by decide)) (hf.2.2 0 (by decide))) (cwV 0 hts gX11_clashesAll_Jx4a65c_size_8abf5 rfl rfl rfl (by decide +kernel) ⟨Nat.le_of_ble_eq_true rfl, Nat.le_of_ble_eq_true rfl⟩) (pc_preV pcN_ok hX hW.1 (hmM.2.2 0 (by decide)) (hf.2.2 0 (by decide)) rfl hW.1) rfl rfl hl.1 rfl (lv_room (Nat.le_of_ble_eq_true rfl)) dX11_clashesAll_12 ⟨Nat.le_of_ble_eq_true rfl, Nat.le_of_ble_eq_true rfl⟩) hW (fun r442 H locs hwr442 hW => ?_)
  subst hwr442
  refine lv_icmp_ge (tgt := 35) hx hb dX11_clashesAll_15 (by decide) (fun _ => ?_) (fun c443 => absurd (by decide) c443)
  refine lv_iload_n hx hb dX11_clashesAll_35 rfl (lv_at hl 1 rfl) ?_
  refine lv_iconst (v := 2) hx hb dX11_clashesAll_36 (by decide) ?_
  refine lv_idiv hx hb dX11_clashesAll_37 (by decide) ?_
  refine lv_topi (fun a444 ea444 => ?_)
  obtain rfl : a444 = 0 := ea444.trans (by decide)
  exact W.iret (v := 0) hx hb hr (fun t ht hW9 => ⟨⟨0, (), rfl, rfl, trivial⟩, hW.2.F ht⟩) hW.2.2.2 dX11_clashesAll_38

set_option maxHeartbeats 4000000 in
set_option maxRecDepth 100000 in
theorem r_X11_count (l : Launch) (D : va_G) (cA : Nat → ClassId) (NL : List (Nat × Nat)) (ad : Nat → Nat → Nat) (ct : Nat → Nat → va_E)  (em : Nat) (th : Int32) (x1 : Int32) (hmM : inM NL) (hf : frT th ad em ct) : Met l yX11_count wsX11_count ({ frames := 2, cells := 0, slots := 0, locals := 43 }) (pcPre D vwCl (tyL cA) [.ref (ad 11 0), .int x1] (fun H => va_P D vwCl (pcW NL ad ct) H)) (va_Qi (fun (r : Int32) (_ : Unit) => r = 0) (fun _ _ => True) (fun _ => False)) 0 0 (fun _ => False) := by
  refine Met.ofW (cc := cX11_count) (maxL := 2) (ret := (some .int)) (by decide) rfl ?_
  intro p e s m args below meth c s₁ B hml hv
  obtain ⟨rfl, hX, hP0⟩ := hv
  have hx := B.exec
  have hb := B.bytes
  have hr := B.returns
  have hts := atoms_spec (ws := wsX11_count) B.pre
  have hown : s.vm.findClass RX11 = some m.cls := findClass_of_methodNamed B.named
  have hlocks := B.notSynchronized
  have hW : pcQ D vwCl (fun _ => False) s.heap NL ad ct s.heap [] := ⟨hP0, va_S.rf⟩
  have hl := lv_entry ([.ref (ad 11 0), .int x1]) (n := 2) (Nat.le_of_ble_eq_true rfl)
  rw [lg_entry_eq]
  generalize (lg_sl ([.ref (ad 11 0), .int x1]) ++ List.replicate (2 - (lg_sl ([.ref (ad 11 0), .int x1])).length) Slot.unset).toArray = ls at hl ⊢
  have hl : lv_has ls 2 [(0, .ref (ad 11 0)), (1, .int x1)] := hl
  refine lv_iload_n hx hb dX11_count_0 rfl (lv_at hl 1 rfl) ?_
  by_cases q445 : x1.toInt < 0 ∨ 12 < x1.toInt
  · refine lv_tableOut (tgt := 146) hx hb dX11_count_1 q445 (by decide) ?_
    refine lv_aload_n hx hb dX11_count_146 rfl (lv_at hl 0 rfl) ?_
    refine lv_iload_n hx hb dX11_count_147 rfl (lv_at hl 1 rfl) ?_
    refine lv_bipush (v := 8) hx hb dX11_count_148 (by decide) ?_
    refine lv_isub hx hb dX11_count_150 ?_
    refine lv_topi (fun a447 ea447 => ?_)
    refine pc_qcalli (va_runV (As := [.int a447]) (rest := []) ⟨hx, hb, hml, hown, hts⟩ (r_X11_packsIn l D cA NL ad ct em th a447 hmM hf) (cwV 1 hts gX11_count_X11_packsIn rfl rfl rfl (by decide +kernel) ⟨Nat.le_of_ble_eq_true rfl, Nat.le_of_ble_eq_true rfl⟩) (pc_preV pcN_ok hX hW.1 hmM.1 hf.1 rfl hW.1) rfl rfl hl.1 rfl (lv_room (Nat.le_of_ble_eq_true rfl)) dX11_count_151 ⟨Nat.le_of_ble_eq_true rfl, Nat.le_of_ble_eq_true rfl⟩) hW (fun r448 H locs hwr448 hW => ?_)
    subst hwr448
    exact W.iret (v := 0) hx hb hr (fun t ht hW9 => ⟨⟨0, (), rfl, rfl, trivial⟩, hW.2.F ht⟩) hW.2.2.2 dX11_count_154
  · obtain ⟨j446, hj446, ej446⟩ := sw_cases 12 rfl q445
    rcases (show j446 = 0 ∨ j446 = 1 ∨ j446 = 2 ∨ j446 = 3 ∨ j446 = 4 ∨ j446 = 5 ∨ j446 = 6 ∨ j446 = 7 ∨ j446 = 8 ∨ j446 = 9 ∨ j446 = 10 ∨ j446 = 11 ∨ j446 = 12 by omega) with rfl | rfl | rfl | rfl | rfl | rfl | rfl | rfl | rfl | rfl | rfl | rfl | rfl
    · obtain rfl : x1 = 0 := ej446
      refine lv_tableIn (tgt := 68) hx hb dX11_count_1 (by decide) (by decide) rfl (by decide) ?_
      refine lv_aload_n hx hb dX11_count_68 rfl (lv_at hl 0 rfl) ?_
      refine pc_get (C := RX11) (T := TX11) (N := 2) (ci := 12) hx hb hts (by decide +kernel) hown hX.1 hW.1 11 0 hmM.1 hf.1 rfl 1 (by decide) (hts (.fieldLink RX11 10 "DraftsmanOfficeModel" "office" "LDraftsmanOfficeModel$Office;") (by decide +kernel)) (fun _ h9 => h9) rfl dX11_count_69 ?_
      refine pc_get (C := RX6) (T := TX6) (N := 10) (ci := 7) hx hb hts (by decide +kernel) hown hX.1 hW.1 6 0 hmM.2.1 hf.2.1 rfl 0 (by decide) (hts (.fieldLink RX11 24 "DraftsmanOfficeModel$Office" "sheets" "Ljava/util/ArrayList;") (by decide +kernel)) (fun _ h9 => h9) rfl dX11_count_72 ?_
      refine pc_qcalli (va_runV (As := []) (rest := []) ⟨hx, hb, hml, hown, hts⟩ (r_Jx4a65c_size_8abf5 l D cA NL ad ct 60 0 em (hmM.2.2 0 (by decide)) (hf.2.2 0 (by decide))) (cwV 0 hts gX11_count_Jx4a65c_size_8abf5 rfl rfl rfl (by decide +kernel) ⟨Nat.le_of_ble_eq_true rfl, Nat.le_of_ble_eq_true rfl⟩) (pc_preV pcN_ok hX hW.1 (hmM.2.2 0 (by decide)) (hf.2.2 0 (by decide)) rfl hW.1) rfl rfl hl.1 rfl (lv_room (Nat.le_of_ble_eq_true rfl)) dX11_count_75 ⟨Nat.le_of_ble_eq_true rfl, Nat.le_of_ble_eq_true rfl⟩) hW (fun r449 H locs hwr449 hW => ?_)
      subst hwr449
      exact W.iret (v := 0) hx hb hr (fun t ht hW9 => ⟨⟨0, (), rfl, rfl, trivial⟩, hW.2.F ht⟩) hW.2.2.2 dX11_count_78
    · obtain rfl : x1 = 1 := ej446
      refine lv_tableIn (tgt := 79) hx hb dX11_count_1 (by decide) (by decide) rfl (by decide) ?_
      refine lv_aload_n hx hb dX11_count_79 rfl (lv_at hl 0 rfl) ?_
      refine pc_get (C := RX11) (T := TX11) (N := 2) (ci := 12) hx hb hts (by decide +kernel) hown hX.1 hW.1 11 0 hmM.1 hf.1 rfl 1 (by decide) (hts (.fieldLink RX11 10 "DraftsmanOfficeModel" "office" "LDraftsmanOfficeModel$Office;") (by decide +kernel)) (fun _ h9 => h9) rfl dX11_count_80 ?_
      refine pc_get (C := RX6) (T := TX6) (N := 10) (ci := 7) hx hb hts (by decide +kernel) hown hX.1 hW.1 6 0 hmM.2.1 hf.2.1 rfl 1 (by decide) (hts (.fieldLink RX11 116 "DraftsmanOfficeModel$Office" "references" "Ljava/util/ArrayList;") (by decide +kernel)) (fun _ h9 => h9) rfl dX11_count_83 ?_
      refine pc_qcalli (va_runV (As := []) (rest := []) ⟨hx, hb, hml, hown, hts⟩ (r_Jx4a65c_size_8abf5 l D cA NL ad ct 60 1 em (hmM.2.2 1 (by decide)) (hf.2.2 1 (by decide))) (cwV 0 hts gX11_count_Jx4a65c_size_8abf5 rfl rfl rfl (by decide +kernel) ⟨Nat.le_of_ble_eq_true rfl, Nat.le_of_ble_eq_true rfl⟩) (pc_preV pcN_ok hX hW.1 (hmM.2.2 1 (by decide)) (hf.2.2 1 (by decide)) rfl hW.1) rfl rfl hl.1 rfl (lv_room (Nat.le_of_ble_eq_true rfl)) dX11_count_86 ⟨Nat.le_of_ble_eq_true rfl, Nat.le_of_ble_eq_true rfl⟩) hW (fun r450 H locs hwr450 hW => ?_)
      subst hwr450
      exact W.iret (v := 0) hx hb hr (fun t ht hW9 => ⟨⟨0, (), rfl, rfl, trivial⟩, hW.2.F ht⟩) hW.2.2.2 dX11_count_89
    · obtain rfl : x1 = 2 := ej446
      refine lv_tableIn (tgt := 90) hx hb dX11_count_1 (by decide) (by decide) rfl (by decide) ?_
      refine lv_aload_n hx hb dX11_count_90 rfl (lv_at hl 0 rfl) ?_
      refine pc_qcalli (va_runV (As := []) (rest := []) ⟨hx, hb, hml, hown, hts⟩ (r_X11_brokenAll l D cA NL ad ct em th  hmM hf) (cwV 0 hts gX11_count_X11_brokenAll rfl rfl rfl (by decide +kernel) ⟨Nat.le_of_ble_eq_true rfl, Nat.le_of_ble_eq_true rfl⟩) (pc_preV pcN_ok hX hW.1 hmM.1 hf.1 rfl hW.1) rfl rfl hl.1 rfl (lv_room (Nat.le_of_ble_eq_true rfl)) dX11_count_91 ⟨Nat.le_of_ble_eq_true rfl, Nat.le_of_ble_eq_true rfl⟩) hW (fun r451 H locs hwr451 hW => ?_)
      subst hwr451
      exact W.iret (v := 0) hx hb hr (fun t ht hW9 => ⟨⟨0, (), rfl, rfl, trivial⟩, hW.2.F ht⟩) hW.2.2.2 dX11_count_94
    · obtain rfl : x1 = 3 := ej446
      refine lv_tableIn (tgt := 95) hx hb dX11_count_1 (by decide) (by decide) rfl (by decide) ?_
      refine lv_aload_n hx hb dX11_count_95 rfl (lv_at hl 0 rfl) ?_
      refine pc_get (C := RX11) (T := TX11) (N := 2) (ci := 12) hx hb hts (by decide +kernel) hown hX.1 hW.1 11 0 hmM.1 hf.1 rfl 1 (by decide) (hts (.fieldLink RX11 10 "DraftsmanOfficeModel" "office" "LDraftsmanOfficeModel$Office;") (by decide +kernel)) (fun _ h9 => h9) rfl dX11_count_96 ?_
      refine pc_get (C := RX6) (T := TX6) (N := 10) (ci := 7) hx hb hts (by decide +kernel) hown hX.1 hW.1 6 0 hmM.2.1 hf.2.1 rfl 3 (by decide) (hts (.fieldLink RX11 141 "DraftsmanOfficeModel$Office" "sendings" "Ljava/util/ArrayList;") (by decide +kernel)) (fun _ h9 => h9) rfl dX11_count_99 ?_
      refine pc_qcalli (va_runV (As := []) (rest := []) ⟨hx, hb, hml, hown, hts⟩ (r_Jx4a65c_size_8abf5 l D cA NL ad ct 60 3 em (hmM.2.2 3 (by decide)) (hf.2.2 3 (by decide))) (cwV 0 hts gX11_count_Jx4a65c_size_8abf5 rfl rfl rfl (by decide +kernel) ⟨Nat.le_of_ble_eq_true rfl, Nat.le_of_ble_eq_true rfl⟩) (pc_preV pcN_ok hX hW.1 (hmM.2.2 3 (by decide)) (hf.2.2 3 (by decide)) rfl hW.1) rfl rfl hl.1 rfl (lv_room (Nat.le_of_ble_eq_true rfl)) dX11_count_102 ⟨Nat.le_of_ble_eq_true rfl, Nat.le_of_ble_eq_true rfl⟩) hW (fun r452 H locs hwr452 hW => ?_)
      subst hwr452
      exact W.iret (v := 0) hx hb hr (fun t ht hW9 => ⟨⟨0, (), rfl, rfl, trivial⟩, hW.2.F ht⟩) hW.2.2.2 dX11_count_105
    · obtain rfl : x1 = 4 := ej446
      refine lv_tableIn (tgt := 106) hx hb dX11_count_1 (by decide) (by decide) rfl (by decide) ?_
      refine lv_aload_n hx hb dX11_count_106 rfl (lv_at hl 0 rfl) ?_
      refine pc_get (C := RX11) (T := TX11) (N := 2) (ci := 12) hx hb hts (by decide +kernel) hown hX.1 hW.1 11 0 hmM.1 hf.1 rfl 1 (by decide) (hts (.fieldLink RX11 10 "DraftsmanOfficeModel" "office" "LDraftsmanOfficeModel$Office;") (by decide +kernel)) (fun _ h9 => h9) rfl dX11_count_107 ?_
      refine pc_get (C := RX6) (T := TX6) (N := 10) (ci := 7) hx hb hts (by decide +kernel) hown hX.1 hW.1 6 0 hmM.2.1 hf.2.1 rfl 5 (by decide) (hts (.fieldLink RX11 167 "DraftsmanOfficeModel$Office" "queries" "Ljava/util/ArrayList;") (by decide +kernel)) (fun _ h9 => h9) rfl dX11_count_110 ?_
      refine pc_qcalli (va_runV (As := []) (rest := []) ⟨hx, hb, hml, hown, hts⟩ (r_Jx4a65c_size_8abf5 l D cA NL ad ct 60 4 em (hmM.2.2 4 (by decide)) (hf.2.2 4 (by decide))) (cwV 0 hts gX11_count_Jx4a65c_size_8abf5 rfl rfl rfl (by decide +kernel) ⟨Nat.le_of_ble_eq_true rfl, Nat.le_of_ble_eq_true rfl⟩) (pc_preV pcN_ok hX hW.1 (hmM.2.2 4 (by decide)) (hf.2.2 4 (by decide)) rfl hW.1) rfl rfl hl.1 rfl (lv_room (Nat.le_of_ble_eq_true rfl)) dX11_count_113 ⟨Nat.le_of_ble_eq_true rfl, Nat.le_of_ble_eq_true rfl⟩) hW (fun r453 H locs hwr453 hW => ?_)
      subst hwr453
      exact W.iret (v := 0) hx hb hr (fun t ht hW9 => ⟨⟨0, (), rfl, rfl, trivial⟩, hW.2.F ht⟩) hW.2.2.2 dX11_count_116
    · obtain rfl : x1 = 5 := ej446
      refine lv_tableIn (tgt := 117) hx hb dX11_count_1 (by decide) (by decide) rfl (by decide) ?_
      refine lv_aload_n hx hb dX11_count_117 rfl (lv_at hl 0 rfl) ?_
      refine pc_qcalli (va_runV (As := []) (rest := []) ⟨hx, hb, hml, hown, hts⟩ (r_X11_notClosed l D cA NL ad ct em th  hmM hf) (cwV 0 hts gX11_count_X11_notClosed rfl rfl rfl (by decide +kernel) ⟨Nat.le_of_ble_eq_true rfl, Nat.le_of_ble_eq_true rfl⟩) (pc_preV pcN_ok hX hW.1 hmM.1 hf.1 rfl hW.1) rfl rfl hl.1 rfl (lv_room (Nat.le_of_ble_eq_true rfl)) dX11_count_118 ⟨Nat.le_of_ble_eq_true rfl, Nat.le_of_ble_eq_true rfl⟩) hW (fun r454 H locs hwr454 hW => ?_)
      subst hwr454
      exact W.iret (v := 0) hx hb hr (fun t ht hW9 => ⟨⟨0, (), rfl, rfl, trivial⟩, hW.2.F ht⟩) hW.2.2.2 dX11_count_121
    · obtain rfl : x1 = 6 := ej446
      refine lv_tableIn (tgt := 122) hx hb dX11_count_1 (by decide) (by decide) rfl (by decide) ?_
      refine lv_aload_n hx hb dX11_count_122 rfl (lv_at hl 0 rfl) ?_
      refine pc_qcalli (va_runV (As := []) (rest := []) ⟨hx, hb, hml, hown, hts⟩ (r_X11_clashesAll l D cA NL ad ct em th  hmM hf) (cwV 0 hts gX11_count_X11_clashesAll rfl rfl rfl (by decide +kernel) ⟨Nat.le_of_ble_eq_true rfl, Nat.le_of_ble_eq_true rfl⟩) (pc_preV pcN_ok hX hW.1 hmM.1 hf.1 rfl hW.1) rfl rfl hl.1 rfl (lv_room (Nat.le_of_ble_eq_true rfl)) dX11_count_123 ⟨Nat.le_of_ble_eq_true rfl, Nat.le_of_ble_eq_true rfl⟩) hW (fun r455 H locs hwr455 hW => ?_)
      subst hwr455
      exact W.iret (v := 0) hx hb hr (fun t ht hW9 => ⟨⟨0, (), rfl, rfl, trivial⟩, hW.2.F ht⟩) hW.2.2.2 dX11_count_126
    · obtain rfl : x1 = 7 := ej446
      refine lv_tableIn (tgt := 127) hx hb dX11_count_1 (by decide) (by decide) rfl (by decide) ?_
      refine lv_aload_n hx hb dX11_count_127 rfl (lv_at hl 0 rfl) ?_
      refine pc_get (C := RX11) (T := TX11) (N := 2) (ci := 12) hx hb hts (by decide +kernel) hown hX.1 hW.1 11 0 hmM.1 hf.1 rfl 1 (by decide) (hts (.fieldLink RX11 10 "DraftsmanOfficeModel" "office" "LDraftsmanOfficeModel$Office;") (by decide +kernel)) (fun _ h9 => h9) rfl dX11_count_128 ?_
      refine pc_get (C := RX6) (T := TX6) (N := 10) (ci := 7) hx hb hts (by decide +kernel) hown hX.1 hW.1 6 0 hmM.2.1 hf.2.1 rfl 8 (by decide) (hts (.fieldLink RX11 193 "DraftsmanOfficeModel$Office" "packs" "Ljava/util/ArrayList;") (by decide +kernel)) (fun _ h9 => h9) rfl dX11_count_131 ?_
      refine pc_qcalli (va_runV (As := []) (rest := []) ⟨hx, hb, hml, hown, hts⟩ (r_Jx4a65c_size_8abf5 l D cA NL ad ct 60 6 em (hmM.2.2 6 (by decide)) (hf.2.2 6 (by decide))) (cwV 0 hts gX11_count_Jx4a65c_size_8abf5 rfl rfl rfl (by decide +kernel) ⟨Nat.le_of_ble_eq_true rfl, Nat.le_of_ble_eq_true rfl⟩) (pc_preV pcN_ok hX hW.1 (hmM.2.2 6 (by decide)) (hf.2.2 6 (by decide)) rfl hW.1) rfl rfl hl.1 rfl (lv_room (Nat.le_of_ble_eq_true rfl)) dX11_count_134 ⟨Nat.le_of_ble_eq_true rfl, Nat.le_of_ble_eq_true rfl⟩) hW (fun r456 H locs hwr456 hW => ?_)
      subst hwr456
      exact W.iret (v := 0) hx hb hr (fun t ht hW9 => ⟨⟨0, (), rfl, rfl, trivial⟩, hW.2.F ht⟩) hW.2.2.2 dX11_count_137
    · obtain rfl : x1 = 8 := ej446
      refine lv_tableIn (tgt := 146) hx hb dX11_count_1 (by decide) (by decide) rfl (by decide) ?_
      refine lv_aload_n hx hb dX11_count_146 rfl (lv_at hl 0 rfl) ?_
      refine lv_iload_n hx hb dX11_count_147 rfl (lv_at hl 1 rfl) ?_
      refine lv_bipush (v := 8) hx hb dX11_count_148 (by decide) ?_
      refine lv_isub hx hb dX11_count_150 ?_
      refine lv_topi (fun a457 ea457 => ?_)
      obtain rfl : a457 = 0 := ea457.trans (by decide)
      refine pc_qcalli (va_runV (As := [.int 0]) (rest := []) ⟨hx, hb, hml, hown, hts⟩ (r_X11_packsIn l D cA NL ad ct em th 0 hmM hf) (cwV 1 hts gX11_count_X11_packsIn rfl rfl rfl (by decide +kernel) ⟨Nat.le_of_ble_eq_true rfl, Nat.le_of_ble_eq_true rfl⟩) (pc_preV pcN_ok hX hW.1 hmM.1 hf.1 rfl hW.1) rfl rfl hl.1 rfl (lv_room (Nat.le_of_ble_eq_true rfl)) dX11_count_151 ⟨Nat.le_of_ble_eq_true rfl, Nat.le_of_ble_eq_true rfl⟩) hW (fun r458 H locs hwr458 hW => ?_)
      subst hwr458
      exact W.iret (v := 0) hx hb hr (fun t ht hW9 => ⟨⟨0, (), rfl, rfl, trivial⟩, hW.2.F ht⟩) hW.2.2.2 dX11_count_154
    · obtain rfl : x1 = 9 := ej446
      refine lv_tableIn (tgt := 146) hx hb dX11_count_1 (by decide) (by decide) rfl (by decide) ?_
      refine lv_aload_n hx hb dX11_count_146 rfl (lv_at hl 0 rfl) ?_
      refine lv_iload_n hx hb dX11_count_147 rfl (lv_at hl 1 rfl) ?_
      refine lv_bipush (v := 8) hx hb dX11_count_148 (by decide) ?_
      refine lv_isub hx hb dX11_count_150 ?_
      refine lv_topi (fun a459 ea459 => ?_)
      obtain rfl : a459 = 1 := ea459.trans (by decide)
      refine pc_qcalli (va_runV (As := [.int 1]) (rest := []) ⟨hx, hb, hml, hown, hts⟩ (r_X11_packsIn l D cA NL ad ct em th 1 hmM hf) (cwV 1 hts gX11_count_X11_packsIn rfl rfl rfl (by decide +kernel) ⟨Nat.le_of_ble_eq_true rfl, Nat.le_of_ble_eq_true rfl⟩) (pc_preV pcN_ok hX hW.1 hmM.1 hf.1 rfl hW.1) rfl rfl hl.1 rfl (lv_room (Nat.le_of_ble_eq_true rfl)) dX11_count_151 ⟨Nat.le_of_ble_eq_true rfl, Nat.le_of_ble_eq_true rfl⟩) hW (fun r460 H locs hwr460 hW => ?_)
      subst hwr460
      exact W.iret (v := 0) hx hb hr (fun t ht hW9 => ⟨⟨0, (), rfl, rfl, trivial⟩, hW.2.F ht⟩) hW.2.2.2 dX11_count_154
    · obtain rfl : x1 = 10 := ej446
      refine lv_tableIn (tgt := 146) hx hb dX11_count_1 (by decide) (by decide) rfl (by decide) ?_
      refine lv_aload_n hx hb dX11_count_146 rfl (lv_at hl 0 rfl) ?_
      refine lv_iload_n hx hb dX11_count_147 rfl (lv_at hl 1 rfl) ?_
      refine lv_bipush (v := 8) hx hb dX11_count_148 (by decide) ?_
      refine lv_isub hx hb dX11_count_150 ?_
      refine lv_topi (fun a461 ea461 => ?_)
      obtain rfl : a461 = 2 := ea461.trans (by decide)
      refine pc_qcalli (va_runV (As := [.int 2]) (rest := []) ⟨hx, hb, hml, hown, hts⟩ (r_X11_packsIn l D cA NL ad ct em th 2 hmM hf) (cwV 1 hts gX11_count_X11_packsIn rfl rfl rfl (by decide +kernel) ⟨Nat.le_of_ble_eq_true rfl, Nat.le_of_ble_eq_true rfl⟩) (pc_preV pcN_ok hX hW.1 hmM.1 hf.1 rfl hW.1) rfl rfl hl.1 rfl (lv_room (Nat.le_of_ble_eq_true rfl)) dX11_count_151 ⟨Nat.le_of_ble_eq_true rfl, Nat.le_of_ble_eq_true rfl⟩) hW (fun r462 H locs hwr462 hW => ?_)
      subst hwr462
      exact W.iret (v := 0) hx hb hr (fun t ht hW9 => ⟨⟨0, (), rfl, rfl, trivial⟩, hW.2.F ht⟩) hW.2.2.2 dX11_count_154
    · obtain rfl : x1 = 11 := ej446
      refine lv_tableIn (tgt := 146) hx hb dX11_count_1 (by decide) (by decide) rfl (by decide) ?_
      refine lv_aload_n hx hb dX11_count_146 rfl (lv_at hl 0 rfl) ?_
      refine lv_iload_n hx hb dX11_count_147 rfl (lv_at hl 1 rfl) ?_
      refine lv_bipush (v := 8) hx hb dX11_count_148 (by decide) ?_
      refine lv_isub hx hb dX11_count_150 ?_
      refine lv_topi (fun a463 ea463 => ?_)
      obtain rfl : a463 = 3 := ea463.trans (by decide)
      refine pc_qcalli (va_runV (As := [.int 3]) (rest := []) ⟨hx, hb, hml, hown, hts⟩ (r_X11_packsIn l D cA NL ad ct em th 3 hmM hf) (cwV 1 hts gX11_count_X11_packsIn rfl rfl rfl (by decide +kernel) ⟨Nat.le_of_ble_eq_true rfl, Nat.le_of_ble_eq_true rfl⟩) (pc_preV pcN_ok hX hW.1 hmM.1 hf.1 rfl hW.1) rfl rfl hl.1 rfl (lv_room (Nat.le_of_ble_eq_true rfl)) dX11_count_151 ⟨Nat.le_of_ble_eq_true rfl, Nat.le_of_ble_eq_true rfl⟩) hW (fun r464 H locs hwr464 hW => ?_)
      subst hwr464
      exact W.iret (v := 0) hx hb hr (fun t ht hW9 => ⟨⟨0, (), rfl, rfl, trivial⟩, hW.2.F ht⟩) hW.2.2.2 dX11_count_154
    · obtain rfl : x1 = 12 := ej446
      refine lv_tableIn (tgt := 138) hx hb dX11_count_1 (by decide) (by decide) rfl (by decide) ?_
      refine lv_aload_n hx hb dX11_count_138 rfl (lv_at hl 0 rfl) ?_
      refine pc_get (C := RX11) (T := TX11) (N := 2) (ci := 12) hx hb hts (by decide +kernel) hown hX.1 hW.1 11 0 hmM.1 hf.1 rfl 1 (by decide) (hts (.fieldLink RX11 10 "DraftsmanOfficeModel" "office" "LDraftsmanOfficeModel$Office;") (by decide +kernel)) (fun _ h9 => h9) rfl dX11_count_139 ?_
      refine pc_get (C := RX6) (T := TX6) (N := 10) (ci := 7) hx hb hts (by decide +kernel) hown hX.1 hW.1 6 0 hmM.2.1 hf.2.1 rfl 9 (by decide) (hts (.fieldLink RX11 147 "DraftsmanOfficeModel$Office" "day" "I") (by decide +kernel)) (fun _ h9 => h9) rfl dX11_count_142 ?_
      exact W.iret (v := 0) hx hb hr (fun t ht hW9 => ⟨⟨0, (), rfl, rfl, trivial⟩, hW.2.F ht⟩) hW.2.2.2 dX11_count_145

set_option maxHeartbeats 4000000 in
set_option maxRecDepth 100000 in
theorem m_X11_owes (l : Launch) (D : va_G) (cA : Nat → ClassId) (NL : List (Nat × Nat)) (ad : Nat → Nat → Nat) (ct : Nat → Nat → va_E) (A : Nat → Prop)  (em : Nat) (th : Int32) (x1 : Int32) (hmM : inM NL) (hf : frT th ad em ct) : Met l yX11_owes wsX11_owes ({ frames := 2, cells := 0, slots := 0, locals := 44 }) (pcPre D vwCl (tyL cA) [.ref (ad 11 0), .int x1] (fun H => va_P D vwCl (pcW NL ad ct) H ∧ va_D A (pcW NL ad ct) ∧ ∀ q, H.size ≤ q → A q)) (va_Qi (fun (r : Int32) (u : Nat → Nat → va_E) => r = 0 ∧ (((¬ x1 < 0 ∧ x1 < 4) ∧ frT 0 ad em u) ∨ (¬ (¬ x1 < 0 ∧ x1 < 4) ∧ frT 1 ad em u))) (fun u t => va_P D vwCl (pcW NL ad u) t.heap) A) 0 0 A := by
  refine Met.ofW (cc := cX11_owes) (maxL := 2) (ret := (some .int)) (by decide) rfl ?_
  intro p e s m args below meth c s₁ B hml hv
  obtain ⟨rfl, hX, ⟨hP0, hD, hA⟩⟩ := hv
  have hx := B.exec
  have hb := B.bytes
  have hr := B.returns
  have hts := atoms_spec (ws := wsX11_owes) B.pre
  have hown : s.vm.findClass RX11 = some m.cls := findClass_of_methodNamed B.named
  have hlocks := B.notSynchronized
  have hW : pcQ D vwCl (fun _ => False) s.heap NL ad ct s.heap [] := ⟨hP0, va_S.rf⟩
  have hl := lv_entry ([.ref (ad 11 0), .int x1]) (n := 2) (Nat.le_of_ble_eq_true rfl)
  rw [lg_entry_eq]
  generalize (lg_sl ([.ref (ad 11 0), .int x1]) ++ List.replicate (2 - (lg_sl ([.ref (ad 11 0), .int x1])).length) Slot.unset).toArray = ls at hl ⊢
  have hl : lv_has ls 2 [(0, .ref (ad 11 0)), (1, .int x1)] := hl
  refine lv_aload_n hx hb dX11_owes_0 rfl (lv_at hl 0 rfl) ?_
  refine lv_iload_n hx hb dX11_owes_1 rfl (lv_at hl 1 rfl) ?_
  refine pc_qcalli (va_runS (As := [.int x1]) (rest := [.ref (ad 11 0)]) ⟨hx, hb, hml, hown, hts⟩ (r_X11_isNoCrew l D cA NL ad ct x1) (va_cwS 1 hts gX11_owes_X11_isNoCrew rfl rfl rfl (by decide +kernel) ⟨Nat.le_of_ble_eq_true rfl, Nat.le_of_ble_eq_true rfl⟩) (pc_preS pcN_ok hX hW.1) rfl rfl hl.1 rfl (lv_room (Nat.le_of_ble_eq_true rfl)) dX11_owes_2 ⟨Nat.le_of_ble_eq_true rfl, Nat.le_of_ble_eq_true rfl⟩) hW (fun r465 H locs hwr465 hW => ?_)
  rcases hwr465 with ⟨rfl, b466⟩ | ⟨rfl, b466⟩
  · refine lv_iconst (v := 1) hx hb dX11_owes_5 (by decide) ?_
    have hW : pcS D vwCl A s.heap NL ad ct _ _ := ⟨hW.1, hD, vaS_mono hW.2⟩
    refine pc_mcalli (va_runV (As := [.int 0, .int 1]) (rest := []) ⟨hx, hb, hml, hown, hts⟩ (m_X11_start0 l D cA NL ad ct A em th 1 hmM hf ) (cwV 2 hts gX11_owes_X11_start rfl rfl rfl (by decide +kernel) ⟨Nat.le_of_ble_eq_true rfl, Nat.le_of_ble_eq_true rfl⟩) (pc_preV pcN_ok hX hW.1 hmM.1 hf.1 rfl ⟨hW.1, hW.2.1, fun q h => hA q (Nat.le_trans hW.2.2.1 h)⟩) rfl rfl hl.1 rfl (lv_room (Nat.le_of_ble_eq_true rfl)) dX11_owes_6 ⟨Nat.le_of_ble_eq_true rfl, Nat.le_of_ble_eq_true rfl⟩) hW.2.2 (fun r467 u468 H locs hwr467 hB hS => ?_)
    obtain ⟨rfl, h469⟩ := hwr467
    have hD := pcD_ct (ct' := u468) hW.2.1
    have hW : pcS D vwCl A s.heap NL ad u468 H locs := ⟨hB, hD, hS⟩
    refine lv_if_eq (tgt := 16) hx hb dX11_owes_9 (by decide) (fun _ => ?_) (fun c470 => absurd (by decide) c470)
    refine lv_aload_n hx hb dX11_owes_16 rfl (lv_at hl 0 rfl) ?_
    refine pc_get (C := RX11) (T := TX11) (N := 2) (ci := 12) hx hb hts (by decide +kernel) hown hX.1 hW.1 11 0 hmM.1 h469.1 rfl 1 (by decide) (hts (.fieldLink RX11 10 "DraftsmanOfficeModel" "office" "LDraftsmanOfficeModel$Office;") (by decide +kernel)) (fun _ h9 => h9) rfl dX11_owes_17 ?_
    refine lv_iload_n hx hb dX11_owes_20 rfl (lv_at hl 1 rfl) ?_
    refine pc_rcalli (va_runV (As := [.int x1]) (rest := []) ⟨hx, hb, hml, hown, hts⟩ (r_X6_owes l D cA NL ad u468 em 0 x1 hmM h469) (cwV 1 hts gX11_owes_X6_owes rfl rfl rfl (by decide +kernel) ⟨Nat.le_of_ble_eq_true rfl, Nat.le_of_ble_eq_true rfl⟩) (pc_preV pcN_ok hX hW.1 hmM.2.1 h469.2.1 rfl hW.1) rfl rfl hl.1 rfl (lv_room (Nat.le_of_ble_eq_true rfl)) dX11_owes_21 ⟨Nat.le_of_ble_eq_true rfl, Nat.le_of_ble_eq_true rfl⟩) hW (fun r471 H locs hwr471 hW => ?_)
    subst hwr471
    refine W.widen (k := 0) (n := 0) (Nat.le_of_ble_eq_true rfl) (Nat.le_of_ble_eq_true rfl) ?_
    exact W.iret (v := 0) hx hb hr (fun t ht hW9 => ⟨⟨0, u468, rfl, ⟨rfl, Or.inl ⟨b466, h469⟩⟩, by show va_P _ _ _ t.heap; rw [ht]; exact hW.1⟩, hW.2.2.F ht⟩) hW.2.2.2.2 dX11_owes_24
  · refine lv_iconst (v := 1) hx hb dX11_owes_5 (by decide) ?_
    have hW : pcS D vwCl A s.heap NL ad ct _ _ := ⟨hW.1, hD, vaS_mono hW.2⟩
    refine pc_mcalli (va_runV (As := [.int 1, .int 1]) (rest := []) ⟨hx, hb, hml, hown, hts⟩ (m_X11_start1 l D cA NL ad ct A em th 1 hmM hf (by decide)) (cwV 2 hts gX11_owes_X11_start rfl rfl rfl (by decide +kernel) ⟨Nat.le_of_ble_eq_true rfl, Nat.le_of_ble_eq_true rfl⟩) (pc_preV pcN_ok hX hW.1 hmM.1 hf.1 rfl ⟨hW.1, hW.2.1, fun q h => hA q (Nat.le_trans hW.2.2.1 h)⟩) rfl rfl hl.1 rfl (lv_room (Nat.le_of_ble_eq_true rfl)) dX11_owes_6 ⟨Nat.le_of_ble_eq_true rfl, Nat.le_of_ble_eq_true rfl⟩) hW.2.2 (fun r472 u473 H locs hwr472 hB hS => ?_)
    obtain ⟨rfl, h474⟩ := hwr472
    have hD := pcD_ct (ct' := u473) hW.2.1
    have hW : pcS D vwCl A s.heap NL ad u473 H locs := ⟨hB, hD, hS⟩
    refine lv_if_eq (tgt := 16) hx hb dX11_owes_9 (by decide) (fun c475 => absurd c475 (by decide)) (fun _ => ?_)
    refine lv_iconst (v := 0) hx hb dX11_owes_12 (by decide) ?_
    refine lv_goto (tgt := 24) hx hb dX11_owes_13 (by decide) ?_
    refine W.widen (k := 0) (n := 0) (Nat.le_of_ble_eq_true rfl) (Nat.le_of_ble_eq_true rfl) ?_
    exact W.iret (v := 0) hx hb hr (fun t ht hW9 => ⟨⟨0, u473, rfl, ⟨rfl, Or.inr ⟨b466, h474⟩⟩, by show va_P _ _ _ t.heap; rw [ht]; exact hW.1⟩, hW.2.2.F ht⟩) hW.2.2.2.2 dX11_owes_24

set_option maxHeartbeats 4000000 in
set_option maxRecDepth 100000 in
theorem m_X11_many (l : Launch) (D : va_G) (cA : Nat → ClassId) (NL : List (Nat × Nat)) (ad : Nat → Nat → Nat) (ct : Nat → Nat → va_E) (A : Nat → Prop)  (em : Nat) (th : Int32) (x1 : Int32) (hmM : inM NL) (hf : frT th ad em ct) : Met l yX11_many wsX11_many ({ frames := 3, cells := 0, slots := 0, locals := 64 }) (pcPre D vwCl (tyL cA) [.ref (ad 11 0), .int x1] (fun H => va_P D vwCl (pcW NL ad ct) H ∧ va_D A (pcW NL ad ct) ∧ ∀ q, H.size ≤ q → A q)) (va_Qi (fun (r : Int32) (u : Nat → Nat → va_E) => r = 0 ∧ (((¬ x1 < 0 ∧ ¬ 12 < x1) ∧ frT 0 ad em u) ∨ (¬ (¬ x1 < 0 ∧ ¬ 12 < x1) ∧ frT 1 ad em u))) (fun u t => va_P D vwCl (pcW NL ad u) t.heap) A) 0 0 A := by
  refine Met.ofW (cc := cX11_many) (maxL := 2) (ret := (some .int)) (by decide) rfl ?_
  intro p e s m args below meth c s₁ B hml hv
  obtain ⟨rfl, hX, ⟨hP0, hD, hA⟩⟩ := hv
  have hx := B.exec
  have hb := B.bytes
  have hr := B.returns
  have hts := atoms_spec (ws := wsX11_many) B.pre
  have hown : s.vm.findClass RX11 = some m.cls := findClass_of_methodNamed B.named
  have hlocks := B.notSynchronized
  have hW : pcQ D vwCl (fun _ => False) s.heap NL ad ct s.heap [] := ⟨hP0, va_S.rf⟩
  have hl := lv_entry ([.ref (ad 11 0), .int x1]) (n := 2) (Nat.le_of_ble_eq_true rfl)
  rw [lg_entry_eq]
  generalize (lg_sl ([.ref (ad 11 0), .int x1]) ++ List.replicate (2 - (lg_sl ([.ref (ad 11 0), .int x1])).length) Slot.unset).toArray = ls at hl ⊢
  have hl : lv_has ls 2 [(0, .ref (ad 11 0)), (1, .int x1)] := hl
  refine lv_aload_n hx hb dX11_many_0 rfl (lv_at hl 0 rfl) ?_
  refine lv_iload_n hx hb dX11_many_1 rfl (lv_at hl 1 rfl) ?_
  refine lv_iconst (v := 0) hx hb dX11_many_2 (by decide) ?_
  refine lv_bipush (v := 12) hx hb dX11_many_3 (by decide) ?_
  refine pc_qcalli (va_runS (As := [.int x1, .int 0, .int 12]) (rest := [.ref (ad 11 0)]) ⟨hx, hb, hml, hown, hts⟩ (r_X11_isIn l D cA NL ad ct x1 0 12) (va_cwS 3 hts gX11_many_X11_isIn rfl rfl rfl (by decide +kernel) ⟨Nat.le_of_ble_eq_true rfl, Nat.le_of_ble_eq_true rfl⟩) (pc_preS pcN_ok hX hW.1) rfl rfl hl.1 rfl (lv_room (Nat.le_of_ble_eq_true rfl)) dX11_many_5 ⟨Nat.le_of_ble_eq_true rfl, Nat.le_of_ble_eq_true rfl⟩) hW (fun r476 H locs hwr476 hW => ?_)
  rcases hwr476 with ⟨rfl, b477a, b477b⟩ | ⟨rfl, b477c⟩
  · refine lv_if_ne (tgt := 15) hx hb dX11_many_8 (by decide) (fun _ => ?_) (fun c478 => absurd c478 (by decide))
    refine lv_iconst (v := 0) hx hb dX11_many_15 (by decide) ?_
    refine lv_iconst (v := 1) hx hb dX11_many_16 (by decide) ?_
    have hW : pcS D vwCl A s.heap NL ad ct _ _ := ⟨hW.1, hD, vaS_mono hW.2⟩
    refine pc_mcalli (va_runV (As := [.int 0, .int 1]) (rest := []) ⟨hx, hb, hml, hown, hts⟩ (m_X11_start0 l D cA NL ad ct A em th 1 hmM hf ) (cwV 2 hts gX11_many_X11_start rfl rfl rfl (by decide +kernel) ⟨Nat.le_of_ble_eq_true rfl, Nat.le_of_ble_eq_true rfl⟩) (pc_preV pcN_ok hX hW.1 hmM.1 hf.1 rfl ⟨hW.1, hW.2.1, fun q h => hA q (Nat.le_trans hW.2.2.1 h)⟩) rfl rfl hl.1 rfl (lv_room (Nat.le_of_ble_eq_true rfl)) dX11_many_17 ⟨Nat.le_of_ble_eq_true rfl, Nat.le_of_ble_eq_true rfl⟩) hW.2.2 (fun r479 u480 H locs hwr479 hB hS => ?_)
    obtain ⟨rfl, h481⟩ := hwr479
    have hD := pcD_ct (ct' := u480) hW.2.1
    have hW : pcS D vwCl A s.heap NL ad u480 H locs := ⟨hB, hD, hS⟩
    refine lv_if_eq (tgt := 27) hx hb dX11_many_20 (by decide) (fun _ => ?_) (fun c482 => absurd (by decide) c482)
    refine lv_aload_n hx hb dX11_many_27 rfl (lv_at hl 0 rfl) ?_
    refine lv_iload_n hx hb dX11_many_28 rfl (lv_at hl 1 rfl) ?_
    refine pc_rcalli (va_runV (As := [.int x1]) (rest := []) ⟨hx, hb, hml, hown, hts⟩ (r_X11_count l D cA NL ad u480 em 0 x1 hmM h481) (cwV 1 hts gX11_many_X11_count rfl rfl rfl (by decide +kernel) ⟨Nat.le_of_ble_eq_true rfl, Nat.le_of_ble_eq_true rfl⟩) (pc_preV pcN_ok hX hW.1 hmM.1 h481.1 rfl hW.1) rfl rfl hl.1 rfl (lv_room (Nat.le_of_ble_eq_true rfl)) dX11_many_29 ⟨Nat.le_of_ble_eq_true rfl, Nat.le_of_ble_eq_true rfl⟩) hW (fun r483 H locs hwr483 hW => ?_)
    subst hwr483
    refine W.widen (k := 0) (n := 0) (Nat.le_of_ble_eq_true rfl) (Nat.le_of_ble_eq_true rfl) ?_
    exact W.iret (v := 0) hx hb hr (fun t ht hW9 => ⟨⟨0, u480, rfl, ⟨rfl, Or.inl ⟨⟨b477a, b477b⟩, h481⟩⟩, by show va_P _ _ _ t.heap; rw [ht]; exact hW.1⟩, hW.2.2.F ht⟩) hW.2.2.2.2 dX11_many_32
  · refine lv_if_ne (tgt := 15) hx hb dX11_many_8 (by decide) (fun c484 => absurd c484 (by decide)) (fun _ => ?_)
    refine lv_iconst (v := 1) hx hb dX11_many_11 (by decide) ?_
    refine lv_goto (tgt := 16) hx hb dX11_many_12 (by decide) ?_
    refine lv_iconst (v := 1) hx hb dX11_many_16 (by decide) ?_
    have hW : pcS D vwCl A s.heap NL ad ct _ _ := ⟨hW.1, hD, vaS_mono hW.2⟩
    refine pc_mcalli (va_runV (As := [.int 1, .int 1]) (rest := []) ⟨hx, hb, hml, hown, hts⟩ (m_X11_start1 l D cA NL ad ct A em th 1 hmM hf (by decide)) (cwV 2 hts gX11_many_X11_start rfl rfl rfl (by decide +kernel) ⟨Nat.le_of_ble_eq_true rfl, Nat.le_of_ble_eq_true rfl⟩) (pc_preV pcN_ok hX hW.1 hmM.1 hf.1 rfl ⟨hW.1, hW.2.1, fun q h => hA q (Nat.le_trans hW.2.2.1 h)⟩) rfl rfl hl.1 rfl (lv_room (Nat.le_of_ble_eq_true rfl)) dX11_many_17 ⟨Nat.le_of_ble_eq_true rfl, Nat.le_of_ble_eq_true rfl⟩) hW.2.2 (fun r485 u486 H locs hwr485 hB hS => ?_)
    obtain ⟨rfl, h487⟩ := hwr485
    have hD := pcD_ct (ct' := u486) hW.2.1
    have hW : pcS D vwCl A s.heap NL ad u486 H locs := ⟨hB, hD, hS⟩
    refine lv_if_eq (tgt := 27) hx hb dX11_many_20 (by decide) (fun c488 => absurd c488 (by decide)) (fun _ => ?_)
    refine lv_iconst (v := 0) hx hb dX11_many_23 (by decide) ?_
    refine lv_goto (tgt := 32) hx hb dX11_many_24 (by decide) ?_
    refine W.widen (k := 0) (n := 0) (Nat.le_of_ble_eq_true rfl) (Nat.le_of_ble_eq_true rfl) ?_
    exact W.iret (v := 0) hx hb hr (fun t ht hW9 => ⟨⟨0, u486, rfl, ⟨rfl, Or.inr ⟨(fun h => b477c.elim h.1 h.2), h487⟩⟩, by show va_P _ _ _ t.heap; rw [ht]; exact hW.1⟩, hW.2.2.F ht⟩) hW.2.2.2.2 dX11_many_32

set_option maxHeartbeats 4000000 in
set_option maxRecDepth 100000 in
theorem m_X11_pack (l : Launch) (D : va_G) (cA : Nat → ClassId) (NL : List (Nat × Nat)) (ad : Nat → Nat → Nat) (ct : Nat → Nat → va_E) (A : Nat → Prop)  (em : Nat) (th : Int32) (x1 : Int32) (x2 : Int32) (x3 : Int32) (hmM : inM NL) (hf : frT th ad em ct) : Met l yX11_pack wsX11_pack ({ frames := 2, cells := 0, slots := 0, locals := 44 }) (pcPre D vwCl (tyL cA) [.ref (ad 11 0), .int x1, .int x2, .int x3] (fun H => va_P D vwCl (pcW NL ad ct) H ∧ va_D A (pcW NL ad ct) ∧ ∀ q, H.size ≤ q → A q)) (va_Qi (fun (r : Int32) (u : Nat → Nat → va_E) => r = 0 ∧ ((¬ (¬ x1 < 0 ∧ x1 < 4) ∧ frT 1 ad em u) ∨ ((¬ x1 < 0 ∧ x1 < 4) ∧ frT 2 ad em u))) (fun u t => va_P D vwCl (pcW NL ad u) t.heap) A) 0 0 A := by
  refine Met.ofW (cc := cX11_pack) (maxL := 4) (ret := (some .int)) (by decide) rfl ?_
  intro p e s m args below meth c s₁ B hml hv
  obtain ⟨rfl, hX, ⟨hP0, hD, hA⟩⟩ := hv
  have hx := B.exec
  have hb := B.bytes
  have hr := B.returns
  have hts := atoms_spec (ws := wsX11_pack) B.pre
  have hown : s.vm.findClass RX11 = some m.cls := findClass_of_methodNamed B.named
  have hlocks := B.notSynchronized
  have hW : pcQ D vwCl (fun _ => False) s.heap NL ad ct s.heap [] := ⟨hP0, va_S.rf⟩
  have hl := lv_entry ([.ref (ad 11 0), .int x1, .int x2, .int x3]) (n := 4) (Nat.le_of_ble_eq_true rfl)
  rw [lg_entry_eq]
  generalize (lg_sl ([.ref (ad 11 0), .int x1, .int x2, .int x3]) ++ List.replicate (4 - (lg_sl ([.ref (ad 11 0), .int x1, .int x2, .int x3])).length) Slot.unset).toArray = ls at hl ⊢
  have hl : lv_has ls 4 [(0, .ref (ad 11 0)), (1, .int x1), (2, .int x2), (3, .int x3)] := hl
  refine lv_aload_n hx hb dX11_pack_0 rfl (lv_at hl 0 rfl) ?_
  refine lv_iload_n hx hb dX11_pack_1 rfl (lv_at hl 1 rfl) ?_
  refine pc_qcalli (va_runS (As := [.int x1]) (rest := [.ref (ad 11 0)]) ⟨hx, hb, hml, hown, hts⟩ (r_X11_isNoCrew l D cA NL ad ct x1) (va_cwS 1 hts gX11_pack_X11_isNoCrew rfl rfl rfl (by decide +kernel) ⟨Nat.le_of_ble_eq_true rfl, Nat.le_of_ble_eq_true rfl⟩) (pc_preS pcN_ok hX hW.1) rfl rfl hl.1 rfl (lv_room (Nat.le_of_ble_eq_true rfl)) dX11_pack_2 ⟨Nat.le_of_ble_eq_true rfl, Nat.le_of_ble_eq_true rfl⟩) hW (fun r489 H locs hwr489 hW => ?_)
  rcases hwr489 with ⟨rfl, b490⟩ | ⟨rfl, b490⟩
  · refine lv_iconst (v := 1) hx hb dX11_pack_5 (by decide) ?_
    have hW : pcS D vwCl A s.heap NL ad ct _ _ := ⟨hW.1, hD, vaS_mono hW.2⟩
    refine pc_mcalli (va_runV (As := [.int 0, .int 1]) (rest := []) ⟨hx, hb, hml, hown, hts⟩ (m_X11_start0 l D cA NL ad ct A em th 1 hmM hf ) (cwV 2 hts gX11_pack_X11_start rfl rfl rfl (by decide +kernel) ⟨Nat.le_of_ble_eq_true rfl, Nat.le_of_ble_eq_true rfl⟩) (pc_preV pcN_ok hX hW.1 hmM.1 hf.1 rfl ⟨hW.1, hW.2.1, fun q h => hA q (Nat.le_trans hW.2.2.1 h)⟩) rfl rfl hl.1 rfl (lv_room (Nat.le_of_ble_eq_true rfl)) dX11_pack_6 ⟨Nat.le_of_ble_eq_true rfl, Nat.le_of_ble_eq_true rfl⟩) hW.2.2 (fun r491 u492 H locs hwr491 hB hS => ?_)
    obtain ⟨rfl, h493⟩ := hwr491
    have hD := pcD_ct (ct' := u492) hW.2.1
    have hW : pcS D vwCl A s.heap NL ad u492 H locs := ⟨hB, hD, hS⟩
    refine lv_if_ne (tgt := 71) hx hb dX11_pack_9 (by decide) (fun c494 => absurd c494 (by decide)) (fun _ => ?_)
    refine lv_aload_n hx hb dX11_pack_12 rfl (lv_at hl 0 rfl) ?_
    refine lv_aload_n hx hb dX11_pack_13 rfl (lv_at hl 0 rfl) ?_
    refine lv_iload_n hx hb dX11_pack_14 rfl (lv_at hl 2 rfl) ?_
    refine pc_rcalli (va_runV (As := [.int x2]) (rest := [.ref (ad 11 0)]) ⟨hx, hb, hml, hown, hts⟩ (r_X11_isNoSet l D cA NL ad u492 em 0 x2 hmM h493) (cwV 1 hts gX11_pack_X11_isNoSet rfl rfl rfl (by decide +kernel) ⟨Nat.le_of_ble_eq_true rfl, Nat.le_of_ble_eq_true rfl⟩) (pc_preV pcN_ok hX hW.1 hmM.1 h493.1 rfl hW.1) rfl rfl hl.1 rfl (lv_room (Nat.le_of_ble_eq_true rfl)) dX11_pack_15 ⟨Nat.le_of_ble_eq_true rfl, Nat.le_of_ble_eq_true rfl⟩) hW (fun r495 H locs hwr495 hW => ?_)
    subst hwr495
    refine lv_if_ne (tgt := 31) hx hb dX11_pack_18 (by decide) (fun _ => ?_) (fun c496 => absurd c496 (by decide))
    refine lv_iconst (v := 1) hx hb dX11_pack_31 (by decide) ?_
    refine lv_goto (tgt := 36) hx hb dX11_pack_32 (by decide) ?_
    refine lv_iconst (v := 2) hx hb dX11_pack_36 (by decide) ?_
    refine pc_mcalli (va_runV (As := [.int 1, .int 2]) (rest := []) ⟨hx, hb, hml, hown, hts⟩ (m_X11_refuse1 l D cA NL ad u492 A em 2 hmM h493 (by decide)) (cwV 2 hts gX11_pack_X11_refuse rfl rfl rfl (by decide +kernel) ⟨Nat.le_of_ble_eq_true rfl, Nat.le_of_ble_eq_true rfl⟩) (pc_preV pcN_ok hX hW.1 hmM.1 h493.1 rfl ⟨hW.1, hW.2.1, fun q h => hA q (Nat.le_trans hW.2.2.1 h)⟩) rfl rfl hl.1 rfl (lv_room (Nat.le_of_ble_eq_true rfl)) dX11_pack_37 ⟨Nat.le_of_ble_eq_true rfl, Nat.le_of_ble_eq_true rfl⟩) hW.2.2 (fun r497 u498 H locs hwr497 hB hS => ?_)
    obtain ⟨rfl, h499⟩ := hwr497
    have hD := pcD_ct (ct' := u498) hW.2.1
    have hW : pcS D vwCl A s.heap NL ad u498 H locs := ⟨hB, hD, hS⟩
    refine lv_if_ne (tgt := 71) hx hb dX11_pack_40 (by decide) (fun _ => ?_) (fun c500 => absurd c500 (by decide))
    refine lv_iconst (v := 0) hx hb dX11_pack_71 (by decide) ?_
    refine W.widen (k := 0) (n := 0) (Nat.le_of_ble_eq_true rfl) (Nat.le_of_ble_eq_true rfl) ?_
    exact W.iret (v := 0) hx hb hr (fun t ht hW9 => ⟨⟨0, u498, rfl, ⟨rfl, Or.inr ⟨b490, h499⟩⟩, by show va_P _ _ _ t.heap; rw [ht]; exact hW.1⟩, hW.2.2.F ht⟩) hW.2.2.2.2 dX11_pack_72
  · refine lv_iconst (v := 1) hx hb dX11_pack_5 (by decide) ?_
    have hW : pcS D vwCl A s.heap NL ad ct _ _ := ⟨hW.1, hD, vaS_mono hW.2⟩
    refine pc_mcalli (va_runV (As := [.int 1, .int 1]) (rest := []) ⟨hx, hb, hml, hown, hts⟩ (m_X11_start1 l D cA NL ad ct A em th 1 hmM hf (by decide)) (cwV 2 hts gX11_pack_X11_start rfl rfl rfl (by decide +kernel) ⟨Nat.le_of_ble_eq_true rfl, Nat.le_of_ble_eq_true rfl⟩) (pc_preV pcN_ok hX hW.1 hmM.1 hf.1 rfl ⟨hW.1, hW.2.1, fun q h => hA q (Nat.le_trans hW.2.2.1 h)⟩) rfl rfl hl.1 rfl (lv_room (Nat.le_of_ble_eq_true rfl)) dX11_pack_6 ⟨Nat.le_of_ble_eq_true rfl, Nat.le_of_ble_eq_true rfl⟩) hW.2.2 (fun r501 u502 H locs hwr501 hB hS => ?_)
    obtain ⟨rfl, h503⟩ := hwr501
    have hD := pcD_ct (ct' := u502) hW.2.1
    have hW : pcS D vwCl A s.heap NL ad u502 H locs := ⟨hB, hD, hS⟩
    refine lv_if_ne (tgt := 71) hx hb dX11_pack_9 (by decide) (fun _ => ?_) (fun c504 => absurd c504 (by decide))
    refine lv_iconst (v := 0) hx hb dX11_pack_71 (by decide) ?_
    refine W.widen (k := 0) (n := 0) (Nat.le_of_ble_eq_true rfl) (Nat.le_of_ble_eq_true rfl) ?_
    exact W.iret (v := 0) hx hb hr (fun t ht hW9 => ⟨⟨0, u502, rfl, ⟨rfl, Or.inl ⟨b490, h503⟩⟩, by show va_P _ _ _ t.heap; rw [ht]; exact hW.1⟩, hW.2.2.F ht⟩) hW.2.2.2.2 dX11_pack_72

set_option maxHeartbeats 4000000 in
set_option maxRecDepth 100000 in
theorem m_X11_meanRevisions (l : Launch) (D : va_G) (cA : Nat → ClassId) (NL : List (Nat × Nat)) (ad : Nat → Nat → Nat) (ct : Nat → Nat → va_E) (A : Nat → Prop)  (em : Nat) (th : Int32)  (hmM : inM NL) (hf : frT th ad em ct) : Met l yX11_meanRevisions wsX11_meanRevisions ({ frames := 1, cells := 0, slots := 0, locals := 20 }) (pcPre D vwCl (tyL cA) [.ref (ad 11 0)] (fun H => va_P D vwCl (pcW NL ad ct) H ∧ va_D A (pcW NL ad ct) ∧ ∀ q, H.size ≤ q → A q)) (va_Qd (fun (r : UInt64) (u : Nat → Nat → va_E) => r = 0 ∧ frT 0 ad em u) (fun u t => va_P D vwCl (pcW NL ad u) t.heap) A) 0 0 A := by
  refine Met.ofW (cc := cX11_meanRevisions) (maxL := 3) (ret := (some .double)) (by decide) rfl ?_
  intro p e s m args below meth c s₁ B hml hv
  obtain ⟨rfl, hX, ⟨hP0, hD, hA⟩⟩ := hv
  have hx := B.exec
  have hb := B.bytes
  have hr := B.returns
  have hts := atoms_spec (ws := wsX11_meanRevisions) B.pre
  have hown : s.vm.findClass RX11 = some m.cls := findClass_of_methodNamed B.named
  have hlocks := B.notSynchronized
  have hW : pcQ D vwCl (fun _ => False) s.heap NL ad ct s.heap [] := ⟨hP0, va_S.rf⟩
  have hl := lv_entry ([.ref (ad 11 0)]) (n := 3) (Nat.le_of_ble_eq_true rfl)
  rw [lg_entry_eq]
  generalize (lg_sl ([.ref (ad 11 0)]) ++ List.replicate (3 - (lg_sl ([.ref (ad 11 0)])).length) Slot.unset).toArray = ls at hl ⊢
  have hl : lv_has ls 3 [(0, .ref (ad 11 0))] := hl
  refine lv_aload_n hx hb dX11_meanRevisions_0 rfl (lv_at hl 0 rfl) ?_
  refine lv_iconst (v := 0) hx hb dX11_meanRevisions_1 (by decide) ?_
  have hW : pcS D vwCl A s.heap NL ad ct _ _ := ⟨hW.1, hD, vaS_mono hW.2⟩
  refine pc_put (C := RX11) (T := TX11) (N := 2) (ci := 12) (ty := .int) hx hb hts (by decide +kernel) tyX11 tyX11_ok nmX11 hown hX.1 hW 11 0 hmM.1 hf.1 rfl 0 (by decide) (hts (.fieldLink RX11 16 "DraftsmanOfficeModel" "thrown" "I") (by decide +kernel)) (fun _ h9 => h9) rfl (by decide +kernel) rfl rfl (Nat.le_of_ble_eq_true rfl) dX11_meanRevisions_2 (fun H locs hW => ?_)
  obtain ⟨ct505, ect505⟩ : ∃ z, z = pcU ct 11 0 (.inr (12, [.int 0, .ref (ad 6 0)])) := ⟨_, rfl⟩
  have hW : pcS D vwCl A s.heap NL ad (pcU ct 11 0 (.inr (12, [.int 0, .ref (ad 6 0)]))) H locs := hW
  rw [← ect505] at hW
  have h506 : frT 0 ad em ct505 := ⟨by rw [ect505]; exact pcU_self _ _ _ _, by rw [ect505]; exact (pcU_k (by decide)).trans hf.2.1, fun j hj => by rw [ect505]; exact (pcU_k (by decide)).trans (hf.2.2 j hj)⟩
  refine lv_iconst (v := 0) hx hb dX11_meanRevisions_5 (by decide) ?_
  refine lv_istore_n (lv' := [(1, .int 0), (0, .ref (ad 11 0))]) hx hb dX11_meanRevisions_6 rfl hl (by decide) rfl (fun ls hl => ?_)
  refine lv_iconst (v := 0) hx hb dX11_meanRevisions_7 (by decide) ?_
  refine lv_istore_n (lv' := [(2, .int 0), (1, .int 0), (0, .ref (ad 11 0))]) hx hb dX11_meanRevisions_8 rfl hl (by decide) rfl (fun ls hl => ?_)
  refine lv_iload_n hx hb dX11_meanRevisions_9 rfl (lv_at hl 0 rfl) ?_
  refine lv_aload_n hx hb dX11_meanRevisions_10 rfl (lv_at hl 2 rfl) ?_
  refine pc_get (C := RX11) (T := TX11) (N := 2) (ci := 12) hx hb hts (by decide +kernel) hown hX.1 hW.1 11 0 hmM.1 h506.1 rfl 1 (by decide) (hts (.fieldLink RX11 10 "DraftsmanOfficeModel" "office" "LDraftsmanOfficeModel$Office;") (by decide +kernel)) (fun _ h9 => h9) rfl dX11_meanRevisions_11 ?_
  refine pc_get (C := RX6) (T := TX6) (N := 10) (ci := 7) hx hb hts (by decide +kernel) hown hX.1 hW.1 6 0 hmM.2.1 h506.2.1 rfl 0 (by decide) (hts (.fieldLink RX11 24 "DraftsmanOfficeModel$Office" "sheets" "Ljava/util/ArrayList;") (by decide +kernel)) (fun _ h9 => h9) rfl dX11_meanRevisions_14 ?_
  refine pc_rcalli (va_runV (As := []) (rest := [.int 0]) ⟨hx, hb, hml, hown, hts⟩ (r_Jx4a65c_size_8abf5 l D cA NL ad ct505 60 0 em (hmM.2.2 0 (by decide)) (h506.2.2 0 (by decide))) (cwV 0 hts gX11_meanRevisions_Jx4a65c_size_8abf5 rfl rfl rfl (by decide +kernel) ⟨Nat.le_of_ble_eq_true rfl, Nat.le_of_ble_eq_true rfl⟩) (pc_preV pcN_ok hX hW.1 (hmM.2.2 0 (by decide)) (h506.2.2 0 (by decide)) rfl hW.1) rfl rfl hl.1 rfl (lv_room (Nat.le_of_ble_eq_true rfl)) dX11_meanRevisions_17 ⟨Nat.le_of_ble_eq_true rfl, Nat.le_of_ble_eq_true rfl⟩) hW (fun r507 H locs hwr507 hW => ?_)
  subst hwr507
  refine lv_icmp_ge (tgt := 43) hx hb dX11_meanRevisions_20 (by decide) (fun _ => ?_) (fun c508 => absurd (by decide) c508)
  refine lv_aload_n hx hb dX11_meanRevisions_43 rfl (lv_at hl 2 rfl) ?_
  refine pc_get (C := RX11) (T := TX11) (N := 2) (ci := 12) hx hb hts (by decide +kernel) hown hX.1 hW.1 11 0 hmM.1 h506.1 rfl 1 (by decide) (hts (.fieldLink RX11 10 "DraftsmanOfficeModel" "office" "LDraftsmanOfficeModel$Office;") (by decide +kernel)) (fun _ h9 => h9) rfl dX11_meanRevisions_44 ?_
  refine pc_get (C := RX6) (T := TX6) (N := 10) (ci := 7) hx hb hts (by decide +kernel) hown hX.1 hW.1 6 0 hmM.2.1 h506.2.1 rfl 0 (by decide) (hts (.fieldLink RX11 24 "DraftsmanOfficeModel$Office" "sheets" "Ljava/util/ArrayList;") (by decide +kernel)) (fun _ h9 => h9) rfl dX11_meanRevisions_47 ?_
  refine pc_rcalli (va_runV (As := []) (rest := []) ⟨hx, hb, hml, hown, hts⟩ (r_Jx4a65c_isEmpty_aae02 l D cA NL ad ct505 60 0 em (hmM.2.2 0 (by decide)) (h506.2.2 0 (by decide))) (cwV 0 hts gX11_meanRevisions_Jx4a65c_isEmpty_aae02 rfl rfl rfl (by decide +kernel) ⟨Nat.le_of_ble_eq_true rfl, Nat.le_of_ble_eq_true rfl⟩) (pc_preV pcN_ok hX hW.1 (hmM.2.2 0 (by decide)) (h506.2.2 0 (by decide)) rfl hW.1) rfl rfl hl.1 rfl (lv_room (Nat.le_of_ble_eq_true rfl)) dX11_meanRevisions_50 ⟨Nat.le_of_ble_eq_true rfl, Nat.le_of_ble_eq_true rfl⟩) hW (fun r509 H locs hwr509 hW => ?_)
  subst hwr509
  refine lv_if_eq (tgt := 60) hx hb dX11_meanRevisions_53 (by decide) (fun c510 => absurd c510 (by decide)) (fun _ => ?_)
  refine lv_dconst0 hx hb dX11_meanRevisions_56 ?_
  refine lv_goto (tgt := 74) hx hb dX11_meanRevisions_57 (by decide) ?_
  refine W.widen (k := 0) (n := 0) (Nat.le_of_ble_eq_true rfl) (Nat.le_of_ble_eq_true rfl) ?_
  exact W.dret (v := 0) hx hb hr (fun t ht hW9 => ⟨⟨0, ct505, rfl, ⟨rfl, h506⟩, by show va_P _ _ _ t.heap; rw [ht]; exact hW.1⟩, hW.2.2.F ht⟩) hW.2.2.2.2 dX11_meanRevisions_74
