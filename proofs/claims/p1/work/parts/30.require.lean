set_option maxHeartbeats 4000000 in
set_option maxRecDepth 100000 in
theorem t_X5_requireSheet (l : Launch) (hl0 : l.stackTraces = false) (D : va_G) (cA : Nat → ClassId) (z : Nat) (NL : List (Nat × Nat)) (ad : Nat → Nat → Nat) (ct : Nat → Nat → va_E) (x1 : Int32) (td : Int32) (hm5 : (5, 0) ∈ NL) (h5 : ct 5 0 = .inr (6, [.ref (ad 50 0), .ref (ad 51 0), .ref (ad 52 0), .ref (ad 53 0), .ref (ad 54 0), .ref (ad 55 0), .ref (ad 56 0), .int 0, .int 0, .int 0, .int 0, .int 0, .int td])) : vx_Met l yX5_requireSheet wsX5_requireSheet ({ frames := 6, cells := 1, slots := 6, locals := 90 }) (pcPreT D vwCl (tyL cA) z [.ref (ad 5 0), .int x1] (fun H => va_P D vwCl (pcW NL ad ct) H)) (va_Qv (fun (_ : Unit) => False) (fun _ _ => True) (fun _ => False)) (pxX (fun E => E = R_IO)) 1 6 (fun _ => False) := by
  refine vx_ofW (cc := cX5_requireSheet) (maxL := 2) (ret := none) (by decide) rfl ?_
  intro p e s m args below meth c s₁ B hml hex hv
  obtain ⟨rfl, hX, hT, ⟨hZ, hz⟩, hP0⟩ := hv
  have hx := B.exec
  have hb := B.bytes
  have hr := B.returns
  have hts := atoms_spec (ws := wsX5_requireSheet) B.pre
  have hown : s.vm.findClass RX5 = some m.cls := findClass_of_methodNamed B.named
  have hlocks := B.notSynchronized
  have hW : pcQ D vwCl (fun _ => False) s.heap NL ad ct s.heap [] := ⟨hP0, va_S.rf⟩
  have hl := lv_entry ([.ref (ad 5 0), .int x1]) (n := 2) (Nat.le_of_ble_eq_true rfl)
  rw [lg_entry_eq]
  generalize (lg_sl ([.ref (ad 5 0), .int x1]) ++ List.replicate (2 - (lg_sl ([.ref (ad 5 0), .int x1])).length) Slot.unset).toArray = ls at hl ⊢
  have hl : lv_has ls 2 [(0, .ref (ad 5 0)), (1, .int x1)] := hl
  refine lv_iload_n hx hb dX5_requireSheet_0 rfl (lv_at hl 1 rfl) ?_
  refine lv_if_lt (tgt := 12) hx hb dX5_requireSheet_1 (by decide) (fun c1 => ?_) (fun c1 => ?_)
  · obtain ⟨sa2, hsa2⟩ := hT.2.2 (RX5, 369, "there is no such sheet") (by decide +kernel)
    have hat : ∀ w ∈ vx_atS RX5 181 "java/lang/IndexOutOfBoundsException" ["java/lang/RuntimeException", "java/lang/Exception"], w.before _ s = true := vx_hat (fun w hw => hts w (List.mem_cons_of_mem _ (List.mem_append_right _ hw))) (B := [.castable "java/lang/IndexOutOfBoundsException" "java/lang/IndexOutOfBoundsException", .declares (Bundle.initS "java/lang/RuntimeException"), .declares (Bundle.initS "java/lang/Exception"), .declares (Bundle.initS Bundle.tN)]) (by decide +kernel) (vx_c (va_Nw.use rfl (hT.1 _ (by decide +kernel))) (vx_c (va_Nw.use rfl (hT.1 _ (by decide +kernel))) (vx_c (va_Nw.use rfl (hT.1 _ (by decide +kernel))) (vx_c (va_Nw.use rfl (hT.1 _ (by decide +kernel))) vx_n))))
    have hSz : va_S (fun q => z ≤ q) s.heap _ _ := ⟨hW.2.1, fun q h1 _ => hW.2.2.1 q h1 id, fun q hq => (hW.2.2.2 q hq).elim⟩
    exact vx_throwSW (text := "there is no such sheet") (names := ["java/lang/RuntimeException", "java/lang/Exception"]) hx hb hl0 hown (by decide +kernel) (by decide +kernel) (hts (.classLink RX5 177 "java/lang/IndexOutOfBoundsException") (by decide +kernel)) (hts (.initialized "java/lang/IndexOutOfBoundsException") (by decide +kernel)) hsa2 hat (by decide +kernel) hZ.1 hZ.2 hSz (hl.1.trans hml.symm) dX5_requireSheet_12 dX5_requireSheet_15 dX5_requireSheet_16 dX5_requireSheet_19 dX5_requireSheet_22 (fun x hx => (hex x hx).elim) (by decide) (Nat.le_of_ble_eq_true rfl) (Nat.le_of_ble_eq_true rfl) (Nat.le_of_ble_eq_true rfl) hlocks (fun t hal hsz hk => ⟨(), trivial, rfl, Nat.le_trans hW.2.1 hsz, fun q h1 _ => (hk q (Nat.lt_of_lt_of_le h1 hW.2.1)).trans (hW.2.2.1 q h1 id)⟩) (fun q hq => (hW.2.2.2 q hq).elim) (Nat.le_of_ble_eq_true rfl) (Nat.le_of_ble_eq_true rfl)
  · refine lv_iload_n hx hb dX5_requireSheet_4 rfl (lv_at hl 1 rfl) ?_
    refine lv_aload_n hx hb dX5_requireSheet_5 rfl (lv_at hl 0 rfl) ?_
    refine pc_get (C := RX5) (T := TX5) (N := 13) (ci := 6) hx hb hts (by decide +kernel) hown hX.1 hW.1 5 0 hm5 h5 rfl 7 (by decide) (hts (.fieldLink RX5 48 "DraftsmanOffice" "sheetCount" "I") (by decide +kernel)) (fun _ h9 => h9) rfl dX5_requireSheet_6 ?_
    refine lv_icmp_lt (tgt := 23) hx hb dX5_requireSheet_9 (by decide) (fun c3 => absurd c3 c1) (fun _ => ?_)
    obtain ⟨sa4, hsa4⟩ := hT.2.2 (RX5, 369, "there is no such sheet") (by decide +kernel)
    have hat : ∀ w ∈ vx_atS RX5 181 "java/lang/IndexOutOfBoundsException" ["java/lang/RuntimeException", "java/lang/Exception"], w.before _ s = true := vx_hat (fun w hw => hts w (List.mem_cons_of_mem _ (List.mem_append_right _ hw))) (B := [.castable "java/lang/IndexOutOfBoundsException" "java/lang/IndexOutOfBoundsException", .declares (Bundle.initS "java/lang/RuntimeException"), .declares (Bundle.initS "java/lang/Exception"), .declares (Bundle.initS Bundle.tN)]) (by decide +kernel) (vx_c (va_Nw.use rfl (hT.1 _ (by decide +kernel))) (vx_c (va_Nw.use rfl (hT.1 _ (by decide +kernel))) (vx_c (va_Nw.use rfl (hT.1 _ (by decide +kernel))) (vx_c (va_Nw.use rfl (hT.1 _ (by decide +kernel))) vx_n))))
    have hSz : va_S (fun q => z ≤ q) s.heap _ _ := ⟨hW.2.1, fun q h1 _ => hW.2.2.1 q h1 id, fun q hq => (hW.2.2.2 q hq).elim⟩
    exact vx_throwSW (text := "there is no such sheet") (names := ["java/lang/RuntimeException", "java/lang/Exception"]) hx hb hl0 hown (by decide +kernel) (by decide +kernel) (hts (.classLink RX5 177 "java/lang/IndexOutOfBoundsException") (by decide +kernel)) (hts (.initialized "java/lang/IndexOutOfBoundsException") (by decide +kernel)) hsa4 hat (by decide +kernel) hZ.1 hZ.2 hSz (hl.1.trans hml.symm) dX5_requireSheet_12 dX5_requireSheet_15 dX5_requireSheet_16 dX5_requireSheet_19 dX5_requireSheet_22 (fun x hx => (hex x hx).elim) (by decide) (Nat.le_of_ble_eq_true rfl) (Nat.le_of_ble_eq_true rfl) (Nat.le_of_ble_eq_true rfl) hlocks (fun t hal hsz hk => ⟨(), trivial, rfl, Nat.le_trans hW.2.1 hsz, fun q h1 _ => (hk q (Nat.lt_of_lt_of_le h1 hW.2.1)).trans (hW.2.2.1 q h1 id)⟩) (fun q hq => (hW.2.2.2 q hq).elim) (Nat.le_of_ble_eq_true rfl) (Nat.le_of_ble_eq_true rfl)

set_option maxHeartbeats 4000000 in
set_option maxRecDepth 100000 in
theorem t_X5_requireQuery (l : Launch) (hl0 : l.stackTraces = false) (D : va_G) (cA : Nat → ClassId) (z : Nat) (NL : List (Nat × Nat)) (ad : Nat → Nat → Nat) (ct : Nat → Nat → va_E) (x1 : Int32) (td : Int32) (hm5 : (5, 0) ∈ NL) (h5 : ct 5 0 = .inr (6, [.ref (ad 50 0), .ref (ad 51 0), .ref (ad 52 0), .ref (ad 53 0), .ref (ad 54 0), .ref (ad 55 0), .ref (ad 56 0), .int 0, .int 0, .int 0, .int 0, .int 0, .int td])) : vx_Met l yX5_requireQuery wsX5_requireQuery ({ frames := 6, cells := 1, slots := 6, locals := 90 }) (pcPreT D vwCl (tyL cA) z [.ref (ad 5 0), .int x1] (fun H => va_P D vwCl (pcW NL ad ct) H)) (va_Qv (fun (_ : Unit) => False) (fun _ _ => True) (fun _ => False)) (pxX (fun E => E = R_IO)) 1 6 (fun _ => False) := by
  refine vx_ofW (cc := cX5_requireQuery) (maxL := 2) (ret := none) (by decide) rfl ?_
  intro p e s m args below meth c s₁ B hml hex hv
  obtain ⟨rfl, hX, hT, ⟨hZ, hz⟩, hP0⟩ := hv
  have hx := B.exec
  have hb := B.bytes
  have hr := B.returns
  have hts := atoms_spec (ws := wsX5_requireQuery) B.pre
  have hown : s.vm.findClass RX5 = some m.cls := findClass_of_methodNamed B.named
  have hlocks := B.notSynchronized
  have hW : pcQ D vwCl (fun _ => False) s.heap NL ad ct s.heap [] := ⟨hP0, va_S.rf⟩
  have hl := lv_entry ([.ref (ad 5 0), .int x1]) (n := 2) (Nat.le_of_ble_eq_true rfl)
  rw [lg_entry_eq]
  generalize (lg_sl ([.ref (ad 5 0), .int x1]) ++ List.replicate (2 - (lg_sl ([.ref (ad 5 0), .int x1])).length) Slot.unset).toArray = ls at hl ⊢
  have hl : lv_has ls 2 [(0, .ref (ad 5 0)), (1, .int x1)] := hl
  refine lv_iload_n hx hb dX5_requireQuery_0 rfl (lv_at hl 1 rfl) ?_
  refine lv_if_lt (tgt := 12) hx hb dX5_requireQuery_1 (by decide) (fun c5 => ?_) (fun c5 => ?_)
  · obtain ⟨sa6, hsa6⟩ := hT.2.2 (RX5, 373, "there is no such query") (by decide +kernel)
    have hat : ∀ w ∈ vx_atS RX5 181 "java/lang/IndexOutOfBoundsException" ["java/lang/RuntimeException", "java/lang/Exception"], w.before _ s = true := vx_hat (fun w hw => hts w (List.mem_cons_of_mem _ (List.mem_append_right _ hw))) (B := [.castable "java/lang/IndexOutOfBoundsException" "java/lang/IndexOutOfBoundsException", .declares (Bundle.initS "java/lang/RuntimeException"), .declares (Bundle.initS "java/lang/Exception"), .declares (Bundle.initS Bundle.tN)]) (by decide +kernel) (vx_c (va_Nw.use rfl (hT.1 _ (by decide +kernel))) (vx_c (va_Nw.use rfl (hT.1 _ (by decide +kernel))) (vx_c (va_Nw.use rfl (hT.1 _ (by decide +kernel))) (vx_c (va_Nw.use rfl (hT.1 _ (by decide +kernel))) vx_n))))
    have hSz : va_S (fun q => z ≤ q) s.heap _ _ := ⟨hW.2.1, fun q h1 _ => hW.2.2.1 q h1 id, fun q hq => (hW.2.2.2 q hq).elim⟩
    exact vx_throwSW (text := "there is no such query") (names := ["java/lang/RuntimeException", "java/lang/Exception"]) hx hb hl0 hown (by decide +kernel) (by decide +kernel) (hts (.classLink RX5 177 "java/lang/IndexOutOfBoundsException") (by decide +kernel)) (hts (.initialized "java/lang/IndexOutOfBoundsException") (by decide +kernel)) hsa6 hat (by decide +kernel) hZ.1 hZ.2 hSz (hl.1.trans hml.symm) dX5_requireQuery_12 dX5_requireQuery_15 dX5_requireQuery_16 dX5_requireQuery_19 dX5_requireQuery_22 (fun x hx => (hex x hx).elim) (by decide) (Nat.le_of_ble_eq_true rfl) (Nat.le_of_ble_eq_true rfl) (Nat.le_of_ble_eq_true rfl) hlocks (fun t hal hsz hk => ⟨(), trivial, rfl, Nat.le_trans hW.2.1 hsz, fun q h1 _ => (hk q (Nat.lt_of_lt_of_le h1 hW.2.1)).trans (hW.2.2.1 q h1 id)⟩) (fun q hq => (hW.2.2.2 q hq).elim) (Nat.le_of_ble_eq_true rfl) (Nat.le_of_ble_eq_true rfl)
  · refine lv_iload_n hx hb dX5_requireQuery_4 rfl (lv_at hl 1 rfl) ?_
    refine lv_aload_n hx hb dX5_requireQuery_5 rfl (lv_at hl 0 rfl) ?_
    refine pc_get (C := RX5) (T := TX5) (N := 13) (ci := 6) hx hb hts (by decide +kernel) hown hX.1 hW.1 5 0 hm5 h5 rfl 10 (by decide) (hts (.fieldLink RX5 58 "DraftsmanOffice" "queryCount" "I") (by decide +kernel)) (fun _ h9 => h9) rfl dX5_requireQuery_6 ?_
    refine lv_icmp_lt (tgt := 23) hx hb dX5_requireQuery_9 (by decide) (fun c7 => absurd c7 c5) (fun _ => ?_)
    obtain ⟨sa8, hsa8⟩ := hT.2.2 (RX5, 373, "there is no such query") (by decide +kernel)
    have hat : ∀ w ∈ vx_atS RX5 181 "java/lang/IndexOutOfBoundsException" ["java/lang/RuntimeException", "java/lang/Exception"], w.before _ s = true := vx_hat (fun w hw => hts w (List.mem_cons_of_mem _ (List.mem_append_right _ hw))) (B := [.castable "java/lang/IndexOutOfBoundsException" "java/lang/IndexOutOfBoundsException", .declares (Bundle.initS "java/lang/RuntimeException"), .declares (Bundle.initS "java/lang/Exception"), .declares (Bundle.initS Bundle.tN)]) (by decide +kernel) (vx_c (va_Nw.use rfl (hT.1 _ (by decide +kernel))) (vx_c (va_Nw.use rfl (hT.1 _ (by decide +kernel))) (vx_c (va_Nw.use rfl (hT.1 _ (by decide +kernel))) (vx_c (va_Nw.use rfl (hT.1 _ (by decide +kernel))) vx_n))))
    have hSz : va_S (fun q => z ≤ q) s.heap _ _ := ⟨hW.2.1, fun q h1 _ => hW.2.2.1 q h1 id, fun q hq => (hW.2.2.2 q hq).elim⟩
    exact vx_throwSW (text := "there is no such query") (names := ["java/lang/RuntimeException", "java/lang/Exception"]) hx hb hl0 hown (by decide +kernel) (by decide +kernel) (hts (.classLink RX5 177 "java/lang/IndexOutOfBoundsException") (by decide +kernel)) (hts (.initialized "java/lang/IndexOutOfBoundsException") (by decide +kernel)) hsa8 hat (by decide +kernel) hZ.1 hZ.2 hSz (hl.1.trans hml.symm) dX5_requireQuery_12 dX5_requireQuery_15 dX5_requireQuery_16 dX5_requireQuery_19 dX5_requireQuery_22 (fun x hx => (hex x hx).elim) (by decide) (Nat.le_of_ble_eq_true rfl) (Nat.le_of_ble_eq_true rfl) (Nat.le_of_ble_eq_true rfl) hlocks (fun t hal hsz hk => ⟨(), trivial, rfl, Nat.le_trans hW.2.1 hsz, fun q h1 _ => (hk q (Nat.lt_of_lt_of_le h1 hW.2.1)).trans (hW.2.2.1 q h1 id)⟩) (fun q hq => (hW.2.2.2 q hq).elim) (Nat.le_of_ble_eq_true rfl) (Nat.le_of_ble_eq_true rfl)

set_option maxHeartbeats 4000000 in
set_option maxRecDepth 100000 in
theorem t_X5_requirePackage (l : Launch) (hl0 : l.stackTraces = false) (D : va_G) (cA : Nat → ClassId) (z : Nat) (NL : List (Nat × Nat)) (ad : Nat → Nat → Nat) (ct : Nat → Nat → va_E) (x1 : Int32) (td : Int32) (hm5 : (5, 0) ∈ NL) (h5 : ct 5 0 = .inr (6, [.ref (ad 50 0), .ref (ad 51 0), .ref (ad 52 0), .ref (ad 53 0), .ref (ad 54 0), .ref (ad 55 0), .ref (ad 56 0), .int 0, .int 0, .int 0, .int 0, .int 0, .int td])) : vx_Met l yX5_requirePackage wsX5_requirePackage ({ frames := 6, cells := 1, slots := 6, locals := 90 }) (pcPreT D vwCl (tyL cA) z [.ref (ad 5 0), .int x1] (fun H => va_P D vwCl (pcW NL ad ct) H)) (va_Qv (fun (_ : Unit) => False) (fun _ _ => True) (fun _ => False)) (pxX (fun E => E = R_IO)) 1 6 (fun _ => False) := by
  refine vx_ofW (cc := cX5_requirePackage) (maxL := 2) (ret := none) (by decide) rfl ?_
  intro p e s m args below meth c s₁ B hml hex hv
  obtain ⟨rfl, hX, hT, ⟨hZ, hz⟩, hP0⟩ := hv
  have hx := B.exec
  have hb := B.bytes
  have hr := B.returns
  have hts := atoms_spec (ws := wsX5_requirePackage) B.pre
  have hown : s.vm.findClass RX5 = some m.cls := findClass_of_methodNamed B.named
  have hlocks := B.notSynchronized
  have hW : pcQ D vwCl (fun _ => False) s.heap NL ad ct s.heap [] := ⟨hP0, va_S.rf⟩
  have hl := lv_entry ([.ref (ad 5 0), .int x1]) (n := 2) (Nat.le_of_ble_eq_true rfl)
  rw [lg_entry_eq]
  generalize (lg_sl ([.ref (ad 5 0), .int x1]) ++ List.replicate (2 - (lg_sl ([.ref (ad 5 0), .int x1])).length) Slot.unset).toArray = ls at hl ⊢
  have hl : lv_has ls 2 [(0, .ref (ad 5 0)), (1, .int x1)] := hl
  refine lv_iload_n hx hb dX5_requirePackage_0 rfl (lv_at hl 1 rfl) ?_
  refine lv_if_lt (tgt := 12) hx hb dX5_requirePackage_1 (by decide) (fun c9 => ?_) (fun c9 => ?_)
  · obtain ⟨sa10, hsa10⟩ := hT.2.2 (RX5, 375, "there is no such package") (by decide +kernel)
    have hat : ∀ w ∈ vx_atS RX5 181 "java/lang/IndexOutOfBoundsException" ["java/lang/RuntimeException", "java/lang/Exception"], w.before _ s = true := vx_hat (fun w hw => hts w (List.mem_cons_of_mem _ (List.mem_append_right _ hw))) (B := [.castable "java/lang/IndexOutOfBoundsException" "java/lang/IndexOutOfBoundsException", .declares (Bundle.initS "java/lang/RuntimeException"), .declares (Bundle.initS "java/lang/Exception"), .declares (Bundle.initS Bundle.tN)]) (by decide +kernel) (vx_c (va_Nw.use rfl (hT.1 _ (by decide +kernel))) (vx_c (va_Nw.use rfl (hT.1 _ (by decide +kernel))) (vx_c (va_Nw.use rfl (hT.1 _ (by decide +kernel))) (vx_c (va_Nw.use rfl (hT.1 _ (by decide +kernel))) vx_n))))
    have hSz : va_S (fun q => z ≤ q) s.heap _ _ := ⟨hW.2.1, fun q h1 _ => hW.2.2.1 q h1 id, fun q hq => (hW.2.2.2 q hq).elim⟩
    exact vx_throwSW (text := "there is no such package") (names := ["java/lang/RuntimeException", "java/lang/Exception"]) hx hb hl0 hown (by decide +kernel) (by decide +kernel) (hts (.classLink RX5 177 "java/lang/IndexOutOfBoundsException") (by decide +kernel)) (hts (.initialized "java/lang/IndexOutOfBoundsException") (by decide +kernel)) hsa10 hat (by decide +kernel) hZ.1 hZ.2 hSz (hl.1.trans hml.symm) dX5_requirePackage_12 dX5_requirePackage_15 dX5_requirePackage_16 dX5_requirePackage_19 dX5_requirePackage_22 (fun x hx => (hex x hx).elim) (by decide) (Nat.le_of_ble_eq_true rfl) (Nat.le_of_ble_eq_true rfl) (Nat.le_of_ble_eq_true rfl) hlocks (fun t hal hsz hk => ⟨(), trivial, rfl, Nat.le_trans hW.2.1 hsz, fun q h1 _ => (hk q (Nat.lt_of_lt_of_le h1 hW.2.1)).trans (hW.2.2.1 q h1 id)⟩) (fun q hq => (hW.2.2.2 q hq).elim) (Nat.le_of_ble_eq_true rfl) (Nat.le_of_ble_eq_true rfl)
  · refine lv_iload_n hx hb dX5_requirePackage_4 rfl (lv_at hl 1 rfl) ?_
    refine lv_aload_n hx hb dX5_requirePackage_5 rfl (lv_at hl 0 rfl) ?_
    refine pc_get (C := RX5) (T := TX5) (N := 13) (ci := 6) hx hb hts (by decide +kernel) hown hX.1 hW.1 5 0 hm5 h5 rfl 11 (by decide) (hts (.fieldLink RX5 61 "DraftsmanOffice" "packageCount" "I") (by decide +kernel)) (fun _ h9 => h9) rfl dX5_requirePackage_6 ?_
    refine lv_icmp_lt (tgt := 23) hx hb dX5_requirePackage_9 (by decide) (fun c11 => absurd c11 c9) (fun _ => ?_)
    obtain ⟨sa12, hsa12⟩ := hT.2.2 (RX5, 375, "there is no such package") (by decide +kernel)
    have hat : ∀ w ∈ vx_atS RX5 181 "java/lang/IndexOutOfBoundsException" ["java/lang/RuntimeException", "java/lang/Exception"], w.before _ s = true := vx_hat (fun w hw => hts w (List.mem_cons_of_mem _ (List.mem_append_right _ hw))) (B := [.castable "java/lang/IndexOutOfBoundsException" "java/lang/IndexOutOfBoundsException", .declares (Bundle.initS "java/lang/RuntimeException"), .declares (Bundle.initS "java/lang/Exception"), .declares (Bundle.initS Bundle.tN)]) (by decide +kernel) (vx_c (va_Nw.use rfl (hT.1 _ (by decide +kernel))) (vx_c (va_Nw.use rfl (hT.1 _ (by decide +kernel))) (vx_c (va_Nw.use rfl (hT.1 _ (by decide +kernel))) (vx_c (va_Nw.use rfl (hT.1 _ (by decide +kernel))) vx_n))))
    have hSz : va_S (fun q => z ≤ q) s.heap _ _ := ⟨hW.2.1, fun q h1 _ => hW.2.2.1 q h1 id, fun q hq => (hW.2.2.2 q hq).elim⟩
    exact vx_throwSW (text := "there is no such package") (names := ["java/lang/RuntimeException", "java/lang/Exception"]) hx hb hl0 hown (by decide +kernel) (by decide +kernel) (hts (.classLink RX5 177 "java/lang/IndexOutOfBoundsException") (by decide +kernel)) (hts (.initialized "java/lang/IndexOutOfBoundsException") (by decide +kernel)) hsa12 hat (by decide +kernel) hZ.1 hZ.2 hSz (hl.1.trans hml.symm) dX5_requirePackage_12 dX5_requirePackage_15 dX5_requirePackage_16 dX5_requirePackage_19 dX5_requirePackage_22 (fun x hx => (hex x hx).elim) (by decide) (Nat.le_of_ble_eq_true rfl) (Nat.le_of_ble_eq_true rfl) (Nat.le_of_ble_eq_true rfl) hlocks (fun t hal hsz hk => ⟨(), trivial, rfl, Nat.le_trans hW.2.1 hsz, fun q h1 _ => (hk q (Nat.lt_of_lt_of_le h1 hW.2.1)).trans (hW.2.2.1 q h1 id)⟩) (fun q hq => (hW.2.2.2 q hq).elim) (Nat.le_of_ble_eq_true rfl) (Nat.le_of_ble_eq_true rfl)

set_option maxHeartbeats 4000000 in
set_option maxRecDepth 100000 in
theorem t_X5_requireTwoSheets (l : Launch) (hl0 : l.stackTraces = false) (D : va_G) (cA : Nat → ClassId) (z : Nat) (NL : List (Nat × Nat)) (ad : Nat → Nat → Nat) (ct : Nat → Nat → va_E) (x1 : Int32) (x2 : Int32) (td : Int32) (hm5 : (5, 0) ∈ NL) (h5 : ct 5 0 = .inr (6, [.ref (ad 50 0), .ref (ad 51 0), .ref (ad 52 0), .ref (ad 53 0), .ref (ad 54 0), .ref (ad 55 0), .ref (ad 56 0), .int 0, .int 0, .int 0, .int 0, .int 0, .int td])) : vx_Met l yX5_requireTwoSheets wsX5_requireTwoSheets ({ frames := 7, cells := 1, slots := 6, locals := 111 }) (pcPreT D vwCl (tyL cA) z [.ref (ad 5 0), .int x1, .int x2] (fun H => va_P D vwCl (pcW NL ad ct) H)) (va_Qv (fun (_ : Unit) => False) (fun _ _ => True) (fun _ => False)) (pxX (fun E => E = R_IO)) 1 6 (fun _ => False) := by
  refine vx_ofW (cc := cX5_requireTwoSheets) (maxL := 3) (ret := none) (by decide) rfl ?_
  intro p e s m args below meth c s₁ B hml hex hv
  obtain ⟨rfl, hX, hT, ⟨hZ, hz⟩, hP0⟩ := hv
  have hx := B.exec
  have hb := B.bytes
  have hr := B.returns
  have hts := atoms_spec (ws := wsX5_requireTwoSheets) B.pre
  have hown : s.vm.findClass RX5 = some m.cls := findClass_of_methodNamed B.named
  have hlocks := B.notSynchronized
  have hW : pcQ D vwCl (fun _ => False) s.heap NL ad ct s.heap [] := ⟨hP0, va_S.rf⟩
  have hl := lv_entry ([.ref (ad 5 0), .int x1, .int x2]) (n := 3) (Nat.le_of_ble_eq_true rfl)
  rw [lg_entry_eq]
  generalize (lg_sl ([.ref (ad 5 0), .int x1, .int x2]) ++ List.replicate (3 - (lg_sl ([.ref (ad 5 0), .int x1, .int x2])).length) Slot.unset).toArray = ls at hl ⊢
  have hl : lv_has ls 3 [(0, .ref (ad 5 0)), (1, .int x1), (2, .int x2)] := hl
  refine lv_aload_n hx hb dX5_requireTwoSheets_0 rfl (lv_at hl 0 rfl) ?_
  refine lv_iload_n hx hb dX5_requireTwoSheets_1 rfl (lv_at hl 1 rfl) ?_
  refine vx_callv (vx_runV (As := [.int x1]) (rest := []) ⟨hx, hb, hml, hown, hts⟩ (t_X5_requireSheet l hl0 D cA z NL ad ct x1 td hm5 h5) (cwV 1 hts gX5_requireTwoSheets_X5_requireSheet rfl rfl rfl (by decide +kernel) ⟨Nat.le_of_ble_eq_true rfl, Nat.le_of_ble_eq_true rfl⟩) (pcT_preV hX hT (pcZ_kept hZ (fun _ h => h.elim) hW.2) (Nat.le_trans hz hW.2.1) hW.1 hm5 h5 rfl hW.1) rfl rfl hl.1 rfl (lv_room (Nat.le_of_ble_eq_true rfl)) dX5_requireTwoSheets_2 ⟨Nat.le_of_ble_eq_true rfl, Nat.le_of_ble_eq_true rfl⟩) hW.2 (fun _ _ h => h.elim) (fun _ h => h.elim) (fun _ _ h => h.elim) (fun E ce q9 _ t H1 locs1 ht hvm hpx hE _ hk9 hS9 hq9 hce hcl => ?_) (fun _ t H locs ht hvm hw hB _ hk9 hS9 => ?_)
  · exact vx_out (fun x hx => (hex x hx).elim) hlocks hq9 hce hcl (fun t9 ht9 hal9 => ⟨(), trivial, hE, hS9.F ht9⟩) (fun q hq => (hS9.2.2 q hq).elim) (Nat.le_of_ble_eq_true rfl) (Nat.le_of_ble_eq_true rfl)
  · exact hw.elim
