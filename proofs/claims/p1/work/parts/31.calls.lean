set_option maxHeartbeats 4000000 in
set_option maxRecDepth 100000 in
theorem t_X5_requireCrew (l : Launch) (hl0 : l.stackTraces = false) (D : va_G) (cA : Nat → ClassId) (z : Nat) (NL : List (Nat × Nat)) (ad : Nat → Nat → Nat) (ct : Nat → Nat → va_E) (x1 : Int32)  : vx_Met l yX5_requireCrew wsX5_requireCrew ({ frames := 6, cells := 1, slots := 6, locals := 90 }) (pcPreT D vwCl (tyL cA) z [.int x1] (fun H => va_P D vwCl (pcW NL ad ct) H)) (va_Qv (fun (_ : Unit) => (¬ x1 < 0 ∧ x1 < 4)) (fun _ _ => True) (fun _ => False)) (pxX (fun E => E = R_IO ∧ ¬ (¬ x1 < 0 ∧ x1 < 4))) 1 6 (fun _ => False) := by
  refine vx_ofW (cc := cX5_requireCrew) (maxL := 1) (ret := none) (by decide) rfl ?_
  intro p e s m args below meth c s₁ B hml hex hv
  obtain ⟨rfl, hX, hT, ⟨hZ, hz⟩, hP0⟩ := hv
  have hx := B.exec
  have hb := B.bytes
  have hr := B.returns
  have hts := atoms_spec (ws := wsX5_requireCrew) B.pre
  have hown : s.vm.findClass RX5 = some m.cls := findClass_of_methodNamed B.named
  have hlocks := B.notSynchronized
  have hW : pcQ D vwCl (fun _ => False) s.heap NL ad ct s.heap [] := ⟨hP0, va_S.rf⟩
  have hl := lv_entry ([.int x1]) (n := 1) (Nat.le_of_ble_eq_true rfl)
  rw [lg_entry_eq]
  generalize (lg_sl ([.int x1]) ++ List.replicate (1 - (lg_sl ([.int x1])).length) Slot.unset).toArray = ls at hl ⊢
  have hl : lv_has ls 1 [(0, .int x1)] := hl
  refine lv_iload_n hx hb dX5_requireCrew_0 rfl (lv_at hl 0 rfl) ?_
  refine lv_if_lt (tgt := 9) hx hb dX5_requireCrew_1 (by decide) (fun c13 => ?_) (fun c13 => ?_)
  · obtain ⟨sa14, hsa14⟩ := hT.2.2 (RX5, 377, "there is no such crew") (by decide +kernel)
    have hat : ∀ w ∈ vx_atS RX5 181 "java/lang/IndexOutOfBoundsException" ["java/lang/RuntimeException", "java/lang/Exception"], w.before _ s = true := vx_hat (fun w hw => hts w (List.mem_cons_of_mem _ (List.mem_append_right _ hw))) (B := [.castable "java/lang/IndexOutOfBoundsException" "java/lang/IndexOutOfBoundsException", .declares (Bundle.initS "java/lang/RuntimeException"), .declares (Bundle.initS "java/lang/Exception"), .declares (Bundle.initS Bundle.tN)]) (by decide +kernel) (vx_c (va_Nw.use rfl (hT.1 _ (by decide +kernel))) (vx_c (va_Nw.use rfl (hT.1 _ (by decide +kernel))) (vx_c (va_Nw.use rfl (hT.1 _ (by decide +kernel))) (vx_c (va_Nw.use rfl (hT.1 _ (by decide +kernel))) vx_n))))
    have hSz : va_S (fun q => z ≤ q) s.heap _ _ := ⟨hW.2.1, fun q h1 _ => hW.2.2.1 q h1 id, fun q hq => (hW.2.2.2 q hq).elim⟩
    exact vx_throwSW (text := "there is no such crew") (names := ["java/lang/RuntimeException", "java/lang/Exception"]) hx hb hl0 hown (by decide +kernel) (by decide +kernel) (hts (.classLink RX5 177 "java/lang/IndexOutOfBoundsException") (by decide +kernel)) (hts (.initialized "java/lang/IndexOutOfBoundsException") (by decide +kernel)) hsa14 hat (by decide +kernel) hZ.1 hZ.2 hSz (hl.1.trans hml.symm) dX5_requireCrew_9 dX5_requireCrew_12 dX5_requireCrew_13 dX5_requireCrew_16 dX5_requireCrew_19 (fun x hx => (hex x hx).elim) (by decide) (Nat.le_of_ble_eq_true rfl) (Nat.le_of_ble_eq_true rfl) (Nat.le_of_ble_eq_true rfl) hlocks (fun t hal hsz hk => ⟨(), trivial, ⟨rfl, fun h => h.1 c13⟩, Nat.le_trans hW.2.1 hsz, fun q h1 _ => (hk q (Nat.lt_of_lt_of_le h1 hW.2.1)).trans (hW.2.2.1 q h1 id)⟩) (fun q hq => (hW.2.2.2 q hq).elim) (Nat.le_of_ble_eq_true rfl) (Nat.le_of_ble_eq_true rfl)
  · refine lv_iload_n hx hb dX5_requireCrew_4 rfl (lv_at hl 0 rfl) ?_
    refine lv_iconst (v := 4) hx hb dX5_requireCrew_5 (by decide) ?_
    refine lv_icmp_lt (tgt := 20) hx hb dX5_requireCrew_6 (by decide) (fun c15 => ?_) (fun c15 => ?_)
    · refine W.widen (k := 1) (n := 6) (Nat.le_of_ble_eq_true rfl) (Nat.le_of_ble_eq_true rfl) ?_
      refine vx_ret ?_
      exact W.vret hx hb hr (fun t ht hW9 => ⟨⟨(), rfl, ⟨c13, c15⟩, trivial⟩, hW.2.F ht⟩) hW.2.2.2 dX5_requireCrew_20
    · obtain ⟨sa16, hsa16⟩ := hT.2.2 (RX5, 377, "there is no such crew") (by decide +kernel)
      have hat : ∀ w ∈ vx_atS RX5 181 "java/lang/IndexOutOfBoundsException" ["java/lang/RuntimeException", "java/lang/Exception"], w.before _ s = true := vx_hat (fun w hw => hts w (List.mem_cons_of_mem _ (List.mem_append_right _ hw))) (B := [.castable "java/lang/IndexOutOfBoundsException" "java/lang/IndexOutOfBoundsException", .declares (Bundle.initS "java/lang/RuntimeException"), .declares (Bundle.initS "java/lang/Exception"), .declares (Bundle.initS Bundle.tN)]) (by decide +kernel) (vx_c (va_Nw.use rfl (hT.1 _ (by decide +kernel))) (vx_c (va_Nw.use rfl (hT.1 _ (by decide +kernel))) (vx_c (va_Nw.use rfl (hT.1 _ (by decide +kernel))) (vx_c (va_Nw.use rfl (hT.1 _ (by decide +kernel))) vx_n))))
      have hSz : va_S (fun q => z ≤ q) s.heap _ _ := ⟨hW.2.1, fun q h1 _ => hW.2.2.1 q h1 id, fun q hq => (hW.2.2.2 q hq).elim⟩
      exact vx_throwSW (text := "there is no such crew") (names := ["java/lang/RuntimeException", "java/lang/Exception"]) hx hb hl0 hown (by decide +kernel) (by decide +kernel) (hts (.classLink RX5 177 "java/lang/IndexOutOfBoundsException") (by decide +kernel)) (hts (.initialized "java/lang/IndexOutOfBoundsException") (by decide +kernel)) hsa16 hat (by decide +kernel) hZ.1 hZ.2 hSz (hl.1.trans hml.symm) dX5_requireCrew_9 dX5_requireCrew_12 dX5_requireCrew_13 dX5_requireCrew_16 dX5_requireCrew_19 (fun x hx => (hex x hx).elim) (by decide) (Nat.le_of_ble_eq_true rfl) (Nat.le_of_ble_eq_true rfl) (Nat.le_of_ble_eq_true rfl) hlocks (fun t hal hsz hk => ⟨(), trivial, ⟨rfl, fun h => c15 h.2⟩, Nat.le_trans hW.2.1 hsz, fun q h1 _ => (hk q (Nat.lt_of_lt_of_le h1 hW.2.1)).trans (hW.2.2.1 q h1 id)⟩) (fun q hq => (hW.2.2.2 q hq).elim) (Nat.le_of_ble_eq_true rfl) (Nat.le_of_ble_eq_true rfl)

set_option maxHeartbeats 4000000 in
set_option maxRecDepth 100000 in
theorem r_X5_isSetOfSheets (l : Launch) (D : va_G) (cA : Nat → ClassId) (NL : List (Nat × Nat)) (ad : Nat → Nat → Nat) (ct : Nat → Nat → va_E) (x1 : Int32) (td : Int32) (hm5 : (5, 0) ∈ NL) (h5 : ct 5 0 = .inr (6, [.ref (ad 50 0), .ref (ad 51 0), .ref (ad 52 0), .ref (ad 53 0), .ref (ad 54 0), .ref (ad 55 0), .ref (ad 56 0), .int 0, .int 0, .int 0, .int 0, .int 0, .int td])) : Met l yX5_isSetOfSheets wsX5_isSetOfSheets ({ frames := 0, cells := 0, slots := 0, locals := 0 }) (pcPre D vwCl (tyL cA) [.ref (ad 5 0), .int x1] (fun H => va_P D vwCl (pcW NL ad ct) H)) (va_Qi (fun (r : Int32) (_ : Unit) => r = 0) (fun _ _ => True) (fun _ => False)) 0 0 (fun _ => False) := by
  refine Met.ofW (cc := cX5_isSetOfSheets) (maxL := 2) (ret := (some .boolean)) (by decide) rfl ?_
  intro p e s m args below meth c s₁ B hml hv
  obtain ⟨rfl, hX, hP0⟩ := hv
  have hx := B.exec
  have hb := B.bytes
  have hr := B.returns
  have hts := atoms_spec (ws := wsX5_isSetOfSheets) B.pre
  have hown : s.vm.findClass RX5 = some m.cls := findClass_of_methodNamed B.named
  have hlocks := B.notSynchronized
  have hW : pcQ D vwCl (fun _ => False) s.heap NL ad ct s.heap [] := ⟨hP0, va_S.rf⟩
  have hl := lv_entry ([.ref (ad 5 0), .int x1]) (n := 2) (Nat.le_of_ble_eq_true rfl)
  rw [lg_entry_eq]
  generalize (lg_sl ([.ref (ad 5 0), .int x1]) ++ List.replicate (2 - (lg_sl ([.ref (ad 5 0), .int x1])).length) Slot.unset).toArray = ls at hl ⊢
  have hl : lv_has ls 2 [(0, .ref (ad 5 0)), (1, .int x1)] := hl
  refine lv_iload_n hx hb dX5_isSetOfSheets_0 rfl (lv_at hl 1 rfl) ?_
  refine lv_iconst (v := 1) hx hb dX5_isSetOfSheets_1 (by decide) ?_
  refine lv_icmp_lt (tgt := 19) hx hb dX5_isSetOfSheets_2 (by decide) (fun c17 => ?_) (fun c17 => ?_)
  · refine lv_iconst (v := 0) hx hb dX5_isSetOfSheets_19 (by decide) ?_
    exact W.zret (v := 0) hx hb hr rfl (fun t ht hW9 => ⟨⟨0, (), rfl, rfl, trivial⟩, hW.2.F ht⟩) hW.2.2.2 dX5_isSetOfSheets_20
  · refine lv_iload_n hx hb dX5_isSetOfSheets_5 rfl (lv_at hl 1 rfl) ?_
    refine lv_iconst (v := 1) hx hb dX5_isSetOfSheets_6 (by decide) ?_
    refine lv_aload_n hx hb dX5_isSetOfSheets_7 rfl (lv_at hl 0 rfl) ?_
    refine pc_get (C := RX5) (T := TX5) (N := 13) (ci := 6) hx hb hts (by decide +kernel) hown hX.1 hW.1 5 0 hm5 h5 rfl 7 (by decide) (hts (.fieldLink RX5 48 "DraftsmanOffice" "sheetCount" "I") (by decide +kernel)) (fun _ h9 => h9) rfl dX5_isSetOfSheets_8 ?_
    refine lv_ishl hx hb dX5_isSetOfSheets_11 ?_
    refine lv_topi (fun a18 ea18 => ?_)
    obtain rfl : a18 = 1 := ea18.trans (by decide)
    refine lv_icmp_ge (tgt := 19) hx hb dX5_isSetOfSheets_12 (by decide) (fun _ => ?_) (fun c19 => absurd (Int32.not_lt.mp c17) c19)
    refine lv_iconst (v := 0) hx hb dX5_isSetOfSheets_19 (by decide) ?_
    exact W.zret (v := 0) hx hb hr rfl (fun t ht hW9 => ⟨⟨0, (), rfl, rfl, trivial⟩, hW.2.F ht⟩) hW.2.2.2 dX5_isSetOfSheets_20

set_option maxHeartbeats 4000000 in
set_option maxRecDepth 100000 in
theorem t_X5_draw (l : Launch) (hl0 : l.stackTraces = false) (D : va_G) (cA : Nat → ClassId) (z : Nat) (NL : List (Nat × Nat)) (ad : Nat → Nat → Nat) (ct : Nat → Nat → va_E) (x1 : Int32) (x2 : Int32) (x3 : Int32) (x4 : Int32) (x5 : Int32) (x6 : Int32) (td : Int32) (hm5 : (5, 0) ∈ NL) (h5 : ct 5 0 = .inr (6, [.ref (ad 50 0), .ref (ad 51 0), .ref (ad 52 0), .ref (ad 53 0), .ref (ad 54 0), .ref (ad 55 0), .ref (ad 56 0), .int 0, .int 0, .int 0, .int 0, .int 0, .int td])) : vx_Met l yX5_draw wsX5_draw ({ frames := 7, cells := 1, slots := 6, locals := 111 }) (pcPreT D vwCl (tyL cA) z [.ref (ad 5 0), .int x1, .int x2, .int x3, .int x4, .int x5, .int x6] (fun H => va_P D vwCl (pcW NL ad ct) H)) (va_Qi (fun (r : Int32) (_ : Unit) => False) (fun _ _ => True) (fun _ => False)) (pxX (fun E => E = R_IO)) 1 6 (fun _ => False) := by
  refine vx_ofW (cc := cX5_draw) (maxL := 10) (ret := (some .int)) (by decide) rfl ?_
  intro p e s m args below meth c s₁ B hml hex hv
  obtain ⟨rfl, hX, hT, ⟨hZ, hz⟩, hP0⟩ := hv
  have hx := B.exec
  have hb := B.bytes
  have hr := B.returns
  have hts := atoms_spec (ws := wsX5_draw) B.pre
  have hown : s.vm.findClass RX5 = some m.cls := findClass_of_methodNamed B.named
  have hlocks := B.notSynchronized
  have hW : pcQ D vwCl (fun _ => False) s.heap NL ad ct s.heap [] := ⟨hP0, va_S.rf⟩
  have hl := lv_entry ([.ref (ad 5 0), .int x1, .int x2, .int x3, .int x4, .int x5, .int x6]) (n := 10) (Nat.le_of_ble_eq_true rfl)
  rw [lg_entry_eq]
  generalize (lg_sl ([.ref (ad 5 0), .int x1, .int x2, .int x3, .int x4, .int x5, .int x6]) ++ List.replicate (10 - (lg_sl ([.ref (ad 5 0), .int x1, .int x2, .int x3, .int x4, .int x5, .int x6])).length) Slot.unset).toArray = ls at hl ⊢
  have hl : lv_has ls 10 [(0, .ref (ad 5 0)), (1, .int x1), (2, .int x2), (3, .int x3), (4, .int x4), (5, .int x5), (6, .int x6)] := hl
  refine lv_aload_n hx hb dX5_draw_0 rfl (lv_at hl 0 rfl) ?_
  refine lv_iload_n hx hb dX5_draw_1 rfl (lv_at hl 1 rfl) ?_
  refine vx_callv (vx_runV (As := [.int x1]) (rest := []) ⟨hx, hb, hml, hown, hts⟩ (t_X5_requireSheet l hl0 D cA z NL ad ct x1 td hm5 h5) (cwV 1 hts gX5_draw_X5_requireSheet rfl rfl rfl (by decide +kernel) ⟨Nat.le_of_ble_eq_true rfl, Nat.le_of_ble_eq_true rfl⟩) (pcT_preV hX hT (pcZ_kept hZ (fun _ h => h.elim) hW.2) (Nat.le_trans hz hW.2.1) hW.1 hm5 h5 rfl hW.1) rfl rfl hl.1 rfl (lv_room (Nat.le_of_ble_eq_true rfl)) dX5_draw_2 ⟨Nat.le_of_ble_eq_true rfl, Nat.le_of_ble_eq_true rfl⟩) hW.2 (fun _ _ h => h.elim) (fun _ h => h.elim) (fun _ _ h => h.elim) (fun E ce q9 _ t H1 locs1 ht hvm hpx hE _ hk9 hS9 hq9 hce hcl => ?_) (fun _ t H locs ht hvm hw hB _ hk9 hS9 => ?_)
  · exact vx_out (fun x hx => (hex x hx).elim) hlocks hq9 hce hcl (fun t9 ht9 hal9 => ⟨(), trivial, hE, hS9.F ht9⟩) (fun q hq => (hS9.2.2 q hq).elim) (Nat.le_of_ble_eq_true rfl) (Nat.le_of_ble_eq_true rfl)
  · exact hw.elim

set_option maxHeartbeats 4000000 in
set_option maxRecDepth 100000 in
theorem t_X5_revise (l : Launch) (hl0 : l.stackTraces = false) (D : va_G) (cA : Nat → ClassId) (z : Nat) (NL : List (Nat × Nat)) (ad : Nat → Nat → Nat) (ct : Nat → Nat → va_E) (x1 : Int32) (td : Int32) (hm5 : (5, 0) ∈ NL) (h5 : ct 5 0 = .inr (6, [.ref (ad 50 0), .ref (ad 51 0), .ref (ad 52 0), .ref (ad 53 0), .ref (ad 54 0), .ref (ad 55 0), .ref (ad 56 0), .int 0, .int 0, .int 0, .int 0, .int 0, .int td])) : vx_Met l yX5_revise wsX5_revise ({ frames := 7, cells := 1, slots := 6, locals := 111 }) (pcPreT D vwCl (tyL cA) z [.ref (ad 5 0), .int x1] (fun H => va_P D vwCl (pcW NL ad ct) H)) (va_Qi (fun (r : Int32) (_ : Unit) => False) (fun _ _ => True) (fun _ => False)) (pxX (fun E => E = R_IO)) 1 6 (fun _ => False) := by
  refine vx_ofW (cc := cX5_revise) (maxL := 3) (ret := (some .int)) (by decide) rfl ?_
  intro p e s m args below meth c s₁ B hml hex hv
  obtain ⟨rfl, hX, hT, ⟨hZ, hz⟩, hP0⟩ := hv
  have hx := B.exec
  have hb := B.bytes
  have hr := B.returns
  have hts := atoms_spec (ws := wsX5_revise) B.pre
  have hown : s.vm.findClass RX5 = some m.cls := findClass_of_methodNamed B.named
  have hlocks := B.notSynchronized
  have hW : pcQ D vwCl (fun _ => False) s.heap NL ad ct s.heap [] := ⟨hP0, va_S.rf⟩
  have hl := lv_entry ([.ref (ad 5 0), .int x1]) (n := 3) (Nat.le_of_ble_eq_true rfl)
  rw [lg_entry_eq]
  generalize (lg_sl ([.ref (ad 5 0), .int x1]) ++ List.replicate (3 - (lg_sl ([.ref (ad 5 0), .int x1])).length) Slot.unset).toArray = ls at hl ⊢
  have hl : lv_has ls 3 [(0, .ref (ad 5 0)), (1, .int x1)] := hl
  refine lv_aload_n hx hb dX5_revise_0 rfl (lv_at hl 0 rfl) ?_
  refine lv_iload_n hx hb dX5_revise_1 rfl (lv_at hl 1 rfl) ?_
  refine vx_callv (vx_runV (As := [.int x1]) (rest := []) ⟨hx, hb, hml, hown, hts⟩ (t_X5_requireSheet l hl0 D cA z NL ad ct x1 td hm5 h5) (cwV 1 hts gX5_revise_X5_requireSheet rfl rfl rfl (by decide +kernel) ⟨Nat.le_of_ble_eq_true rfl, Nat.le_of_ble_eq_true rfl⟩) (pcT_preV hX hT (pcZ_kept hZ (fun _ h => h.elim) hW.2) (Nat.le_trans hz hW.2.1) hW.1 hm5 h5 rfl hW.1) rfl rfl hl.1 rfl (lv_room (Nat.le_of_ble_eq_true rfl)) dX5_revise_2 ⟨Nat.le_of_ble_eq_true rfl, Nat.le_of_ble_eq_true rfl⟩) hW.2 (fun _ _ h => h.elim) (fun _ h => h.elim) (fun _ _ h => h.elim) (fun E ce q9 _ t H1 locs1 ht hvm hpx hE _ hk9 hS9 hq9 hce hcl => ?_) (fun _ t H locs ht hvm hw hB _ hk9 hS9 => ?_)
  · exact vx_out (fun x hx => (hex x hx).elim) hlocks hq9 hce hcl (fun t9 ht9 hal9 => ⟨(), trivial, hE, hS9.F ht9⟩) (fun q hq => (hS9.2.2 q hq).elim) (Nat.le_of_ble_eq_true rfl) (Nat.le_of_ble_eq_true rfl)
  · exact hw.elim

set_option maxHeartbeats 4000000 in
set_option maxRecDepth 100000 in
theorem t_X5_check (l : Launch) (hl0 : l.stackTraces = false) (D : va_G) (cA : Nat → ClassId) (z : Nat) (NL : List (Nat × Nat)) (ad : Nat → Nat → Nat) (ct : Nat → Nat → va_E) (x1 : Int32) (td : Int32) (hm5 : (5, 0) ∈ NL) (h5 : ct 5 0 = .inr (6, [.ref (ad 50 0), .ref (ad 51 0), .ref (ad 52 0), .ref (ad 53 0), .ref (ad 54 0), .ref (ad 55 0), .ref (ad 56 0), .int 0, .int 0, .int 0, .int 0, .int 0, .int td])) : vx_Met l yX5_check wsX5_check ({ frames := 7, cells := 1, slots := 6, locals := 111 }) (pcPreT D vwCl (tyL cA) z [.ref (ad 5 0), .int x1] (fun H => va_P D vwCl (pcW NL ad ct) H)) (va_Qi (fun (r : Int32) (_ : Unit) => False) (fun _ _ => True) (fun _ => False)) (pxX (fun E => E = R_IO)) 1 6 (fun _ => False) := by
  refine vx_ofW (cc := cX5_check) (maxL := 3) (ret := (some .int)) (by decide) rfl ?_
  intro p e s m args below meth c s₁ B hml hex hv
  obtain ⟨rfl, hX, hT, ⟨hZ, hz⟩, hP0⟩ := hv
  have hx := B.exec
  have hb := B.bytes
  have hr := B.returns
  have hts := atoms_spec (ws := wsX5_check) B.pre
  have hown : s.vm.findClass RX5 = some m.cls := findClass_of_methodNamed B.named
  have hlocks := B.notSynchronized
  have hW : pcQ D vwCl (fun _ => False) s.heap NL ad ct s.heap [] := ⟨hP0, va_S.rf⟩
  have hl := lv_entry ([.ref (ad 5 0), .int x1]) (n := 3) (Nat.le_of_ble_eq_true rfl)
  rw [lg_entry_eq]
  generalize (lg_sl ([.ref (ad 5 0), .int x1]) ++ List.replicate (3 - (lg_sl ([.ref (ad 5 0), .int x1])).length) Slot.unset).toArray = ls at hl ⊢
  have hl : lv_has ls 3 [(0, .ref (ad 5 0)), (1, .int x1)] := hl
  refine lv_aload_n hx hb dX5_check_0 rfl (lv_at hl 0 rfl) ?_
  refine lv_iload_n hx hb dX5_check_1 rfl (lv_at hl 1 rfl) ?_
  refine vx_callv (vx_runV (As := [.int x1]) (rest := []) ⟨hx, hb, hml, hown, hts⟩ (t_X5_requireSheet l hl0 D cA z NL ad ct x1 td hm5 h5) (cwV 1 hts gX5_check_X5_requireSheet rfl rfl rfl (by decide +kernel) ⟨Nat.le_of_ble_eq_true rfl, Nat.le_of_ble_eq_true rfl⟩) (pcT_preV hX hT (pcZ_kept hZ (fun _ h => h.elim) hW.2) (Nat.le_trans hz hW.2.1) hW.1 hm5 h5 rfl hW.1) rfl rfl hl.1 rfl (lv_room (Nat.le_of_ble_eq_true rfl)) dX5_check_2 ⟨Nat.le_of_ble_eq_true rfl, Nat.le_of_ble_eq_true rfl⟩) hW.2 (fun _ _ h => h.elim) (fun _ h => h.elim) (fun _ _ h => h.elim) (fun E ce q9 _ t H1 locs1 ht hvm hpx hE _ hk9 hS9 hq9 hce hcl => ?_) (fun _ t H locs ht hvm hw hB _ hk9 hS9 => ?_)
  · exact vx_out (fun x hx => (hex x hx).elim) hlocks hq9 hce hcl (fun t9 ht9 hal9 => ⟨(), trivial, hE, hS9.F ht9⟩) (fun q hq => (hS9.2.2 q hq).elim) (Nat.le_of_ble_eq_true rfl) (Nat.le_of_ble_eq_true rfl)
  · exact hw.elim

set_option maxHeartbeats 4000000 in
set_option maxRecDepth 100000 in
theorem t_X5_issue (l : Launch) (hl0 : l.stackTraces = false) (D : va_G) (cA : Nat → ClassId) (z : Nat) (NL : List (Nat × Nat)) (ad : Nat → Nat → Nat) (ct : Nat → Nat → va_E) (x1 : Int32) (td : Int32) (hm5 : (5, 0) ∈ NL) (h5 : ct 5 0 = .inr (6, [.ref (ad 50 0), .ref (ad 51 0), .ref (ad 52 0), .ref (ad 53 0), .ref (ad 54 0), .ref (ad 55 0), .ref (ad 56 0), .int 0, .int 0, .int 0, .int 0, .int 0, .int td])) : vx_Met l yX5_issue wsX5_issue ({ frames := 7, cells := 1, slots := 6, locals := 111 }) (pcPreT D vwCl (tyL cA) z [.ref (ad 5 0), .int x1] (fun H => va_P D vwCl (pcW NL ad ct) H)) (va_Qi (fun (r : Int32) (_ : Unit) => False) (fun _ _ => True) (fun _ => False)) (pxX (fun E => E = R_IO)) 1 6 (fun _ => False) := by
  refine vx_ofW (cc := cX5_issue) (maxL := 3) (ret := (some .int)) (by decide) rfl ?_
  intro p e s m args below meth c s₁ B hml hex hv
  obtain ⟨rfl, hX, hT, ⟨hZ, hz⟩, hP0⟩ := hv
  have hx := B.exec
  have hb := B.bytes
  have hr := B.returns
  have hts := atoms_spec (ws := wsX5_issue) B.pre
  have hown : s.vm.findClass RX5 = some m.cls := findClass_of_methodNamed B.named
  have hlocks := B.notSynchronized
  have hW : pcQ D vwCl (fun _ => False) s.heap NL ad ct s.heap [] := ⟨hP0, va_S.rf⟩
  have hl := lv_entry ([.ref (ad 5 0), .int x1]) (n := 3) (Nat.le_of_ble_eq_true rfl)
  rw [lg_entry_eq]
  generalize (lg_sl ([.ref (ad 5 0), .int x1]) ++ List.replicate (3 - (lg_sl ([.ref (ad 5 0), .int x1])).length) Slot.unset).toArray = ls at hl ⊢
  have hl : lv_has ls 3 [(0, .ref (ad 5 0)), (1, .int x1)] := hl
  refine lv_aload_n hx hb dX5_issue_0 rfl (lv_at hl 0 rfl) ?_
  refine lv_iload_n hx hb dX5_issue_1 rfl (lv_at hl 1 rfl) ?_
  refine vx_callv (vx_runV (As := [.int x1]) (rest := []) ⟨hx, hb, hml, hown, hts⟩ (t_X5_requireSheet l hl0 D cA z NL ad ct x1 td hm5 h5) (cwV 1 hts gX5_issue_X5_requireSheet rfl rfl rfl (by decide +kernel) ⟨Nat.le_of_ble_eq_true rfl, Nat.le_of_ble_eq_true rfl⟩) (pcT_preV hX hT (pcZ_kept hZ (fun _ h => h.elim) hW.2) (Nat.le_trans hz hW.2.1) hW.1 hm5 h5 rfl hW.1) rfl rfl hl.1 rfl (lv_room (Nat.le_of_ble_eq_true rfl)) dX5_issue_2 ⟨Nat.le_of_ble_eq_true rfl, Nat.le_of_ble_eq_true rfl⟩) hW.2 (fun _ _ h => h.elim) (fun _ h => h.elim) (fun _ _ h => h.elim) (fun E ce q9 _ t H1 locs1 ht hvm hpx hE _ hk9 hS9 hq9 hce hcl => ?_) (fun _ t H locs ht hvm hw hB _ hk9 hS9 => ?_)
  · exact vx_out (fun x hx => (hex x hx).elim) hlocks hq9 hce hcl (fun t9 ht9 hal9 => ⟨(), trivial, hE, hS9.F ht9⟩) (fun q hq => (hS9.2.2 q hq).elim) (Nat.le_of_ble_eq_true rfl) (Nat.le_of_ble_eq_true rfl)
  · exact hw.elim

set_option maxHeartbeats 4000000 in
set_option maxRecDepth 100000 in
theorem t_X5_refer (l : Launch) (hl0 : l.stackTraces = false) (D : va_G) (cA : Nat → ClassId) (z : Nat) (NL : List (Nat × Nat)) (ad : Nat → Nat → Nat) (ct : Nat → Nat → va_E) (x1 : Int32) (x2 : Int32) (x3 : Int32) (td : Int32) (hm5 : (5, 0) ∈ NL) (h5 : ct 5 0 = .inr (6, [.ref (ad 50 0), .ref (ad 51 0), .ref (ad 52 0), .ref (ad 53 0), .ref (ad 54 0), .ref (ad 55 0), .ref (ad 56 0), .int 0, .int 0, .int 0, .int 0, .int 0, .int td])) : vx_Met l yX5_refer wsX5_refer ({ frames := 7, cells := 1, slots := 6, locals := 111 }) (pcPreT D vwCl (tyL cA) z [.ref (ad 5 0), .int x1, .int x2, .int x3] (fun H => va_P D vwCl (pcW NL ad ct) H)) (va_Qi (fun (r : Int32) (_ : Unit) => False) (fun _ _ => True) (fun _ => False)) (pxX (fun E => E = R_IO)) 1 6 (fun _ => False) := by
  refine vx_ofW (cc := cX5_refer) (maxL := 5) (ret := (some .int)) (by decide) rfl ?_
  intro p e s m args below meth c s₁ B hml hex hv
  obtain ⟨rfl, hX, hT, ⟨hZ, hz⟩, hP0⟩ := hv
  have hx := B.exec
  have hb := B.bytes
  have hr := B.returns
  have hts := atoms_spec (ws := wsX5_refer) B.pre
  have hown : s.vm.findClass RX5 = some m.cls := findClass_of_methodNamed B.named
  have hlocks := B.notSynchronized
  have hW : pcQ D vwCl (fun _ => False) s.heap NL ad ct s.heap [] := ⟨hP0, va_S.rf⟩
  have hl := lv_entry ([.ref (ad 5 0), .int x1, .int x2, .int x3]) (n := 5) (Nat.le_of_ble_eq_true rfl)
  rw [lg_entry_eq]
  generalize (lg_sl ([.ref (ad 5 0), .int x1, .int x2, .int x3]) ++ List.replicate (5 - (lg_sl ([.ref (ad 5 0), .int x1, .int x2, .int x3])).length) Slot.unset).toArray = ls at hl ⊢
  have hl : lv_has ls 5 [(0, .ref (ad 5 0)), (1, .int x1), (2, .int x2), (3, .int x3)] := hl
  refine lv_aload_n hx hb dX5_refer_0 rfl (lv_at hl 0 rfl) ?_
  refine lv_iload_n hx hb dX5_refer_1 rfl (lv_at hl 1 rfl) ?_
  refine vx_callv (vx_runV (As := [.int x1]) (rest := []) ⟨hx, hb, hml, hown, hts⟩ (t_X5_requireSheet l hl0 D cA z NL ad ct x1 td hm5 h5) (cwV 1 hts gX5_refer_X5_requireSheet rfl rfl rfl (by decide +kernel) ⟨Nat.le_of_ble_eq_true rfl, Nat.le_of_ble_eq_true rfl⟩) (pcT_preV hX hT (pcZ_kept hZ (fun _ h => h.elim) hW.2) (Nat.le_trans hz hW.2.1) hW.1 hm5 h5 rfl hW.1) rfl rfl hl.1 rfl (lv_room (Nat.le_of_ble_eq_true rfl)) dX5_refer_2 ⟨Nat.le_of_ble_eq_true rfl, Nat.le_of_ble_eq_true rfl⟩) hW.2 (fun _ _ h => h.elim) (fun _ h => h.elim) (fun _ _ h => h.elim) (fun E ce q9 _ t H1 locs1 ht hvm hpx hE _ hk9 hS9 hq9 hce hcl => ?_) (fun _ t H locs ht hvm hw hB _ hk9 hS9 => ?_)
  · exact vx_out (fun x hx => (hex x hx).elim) hlocks hq9 hce hcl (fun t9 ht9 hal9 => ⟨(), trivial, hE, hS9.F ht9⟩) (fun q hq => (hS9.2.2 q hq).elim) (Nat.le_of_ble_eq_true rfl) (Nat.le_of_ble_eq_true rfl)
  · exact hw.elim

set_option maxHeartbeats 4000000 in
set_option maxRecDepth 100000 in
theorem t_X5_ofSheet (l : Launch) (hl0 : l.stackTraces = false) (D : va_G) (cA : Nat → ClassId) (z : Nat) (NL : List (Nat × Nat)) (ad : Nat → Nat → Nat) (ct : Nat → Nat → va_E) (x1 : Int32) (x2 : Int32) (td : Int32) (hm5 : (5, 0) ∈ NL) (h5 : ct 5 0 = .inr (6, [.ref (ad 50 0), .ref (ad 51 0), .ref (ad 52 0), .ref (ad 53 0), .ref (ad 54 0), .ref (ad 55 0), .ref (ad 56 0), .int 0, .int 0, .int 0, .int 0, .int 0, .int td])) : vx_Met l yX5_ofSheet wsX5_ofSheet ({ frames := 7, cells := 1, slots := 6, locals := 111 }) (pcPreT D vwCl (tyL cA) z [.ref (ad 5 0), .int x1, .int x2] (fun H => va_P D vwCl (pcW NL ad ct) H)) (va_Qi (fun (r : Int32) (_ : Unit) => False) (fun _ _ => True) (fun _ => False)) (pxX (fun E => E = R_IO)) 1 6 (fun _ => False) := by
  refine vx_ofW (cc := cX5_ofSheet) (maxL := 4) (ret := (some .int)) (by decide) rfl ?_
  intro p e s m args below meth c s₁ B hml hex hv
  obtain ⟨rfl, hX, hT, ⟨hZ, hz⟩, hP0⟩ := hv
  have hx := B.exec
  have hb := B.bytes
  have hr := B.returns
  have hts := atoms_spec (ws := wsX5_ofSheet) B.pre
  have hown : s.vm.findClass RX5 = some m.cls := findClass_of_methodNamed B.named
  have hlocks := B.notSynchronized
  have hW : pcQ D vwCl (fun _ => False) s.heap NL ad ct s.heap [] := ⟨hP0, va_S.rf⟩
  have hl := lv_entry ([.ref (ad 5 0), .int x1, .int x2]) (n := 4) (Nat.le_of_ble_eq_true rfl)
  rw [lg_entry_eq]
  generalize (lg_sl ([.ref (ad 5 0), .int x1, .int x2]) ++ List.replicate (4 - (lg_sl ([.ref (ad 5 0), .int x1, .int x2])).length) Slot.unset).toArray = ls at hl ⊢
  have hl : lv_has ls 4 [(0, .ref (ad 5 0)), (1, .int x1), (2, .int x2)] := hl
  refine lv_aload_n hx hb dX5_ofSheet_0 rfl (lv_at hl 0 rfl) ?_
  refine lv_iload_n hx hb dX5_ofSheet_1 rfl (lv_at hl 1 rfl) ?_
  refine vx_callv (vx_runV (As := [.int x1]) (rest := []) ⟨hx, hb, hml, hown, hts⟩ (t_X5_requireSheet l hl0 D cA z NL ad ct x1 td hm5 h5) (cwV 1 hts gX5_ofSheet_X5_requireSheet rfl rfl rfl (by decide +kernel) ⟨Nat.le_of_ble_eq_true rfl, Nat.le_of_ble_eq_true rfl⟩) (pcT_preV hX hT (pcZ_kept hZ (fun _ h => h.elim) hW.2) (Nat.le_trans hz hW.2.1) hW.1 hm5 h5 rfl hW.1) rfl rfl hl.1 rfl (lv_room (Nat.le_of_ble_eq_true rfl)) dX5_ofSheet_2 ⟨Nat.le_of_ble_eq_true rfl, Nat.le_of_ble_eq_true rfl⟩) hW.2 (fun _ _ h => h.elim) (fun _ h => h.elim) (fun _ _ h => h.elim) (fun E ce q9 _ t H1 locs1 ht hvm hpx hE _ hk9 hS9 hq9 hce hcl => ?_) (fun _ t H locs ht hvm hw hB _ hk9 hS9 => ?_)
  · exact vx_out (fun x hx => (hex x hx).elim) hlocks hq9 hce hcl (fun t9 ht9 hal9 => ⟨(), trivial, hE, hS9.F ht9⟩) (fun q hq => (hS9.2.2 q hq).elim) (Nat.le_of_ble_eq_true rfl) (Nat.le_of_ble_eq_true rfl)
  · exact hw.elim

set_option maxHeartbeats 4000000 in
set_option maxRecDepth 100000 in
theorem t_X5_status (l : Launch) (hl0 : l.stackTraces = false) (D : va_G) (cA : Nat → ClassId) (z : Nat) (NL : List (Nat × Nat)) (ad : Nat → Nat → Nat) (ct : Nat → Nat → va_E) (x1 : Int32) (x2 : Int32) (td : Int32) (hm5 : (5, 0) ∈ NL) (h5 : ct 5 0 = .inr (6, [.ref (ad 50 0), .ref (ad 51 0), .ref (ad 52 0), .ref (ad 53 0), .ref (ad 54 0), .ref (ad 55 0), .ref (ad 56 0), .int 0, .int 0, .int 0, .int 0, .int 0, .int td])) : vx_Met l yX5_status wsX5_status ({ frames := 7, cells := 1, slots := 6, locals := 111 }) (pcPreT D vwCl (tyL cA) z [.ref (ad 5 0), .int x1, .int x2] (fun H => va_P D vwCl (pcW NL ad ct) H)) (va_Qi (fun (r : Int32) (_ : Unit) => False) (fun _ _ => True) (fun _ => False)) (pxX (fun E => E = R_IO)) 1 6 (fun _ => False) := by
  refine vx_ofW (cc := cX5_status) (maxL := 4) (ret := (some .int)) (by decide) rfl ?_
  intro p e s m args below meth c s₁ B hml hex hv
  obtain ⟨rfl, hX, hT, ⟨hZ, hz⟩, hP0⟩ := hv
  have hx := B.exec
  have hb := B.bytes
  have hr := B.returns
  have hts := atoms_spec (ws := wsX5_status) B.pre
  have hown : s.vm.findClass RX5 = some m.cls := findClass_of_methodNamed B.named
  have hlocks := B.notSynchronized
  have hW : pcQ D vwCl (fun _ => False) s.heap NL ad ct s.heap [] := ⟨hP0, va_S.rf⟩
  have hl := lv_entry ([.ref (ad 5 0), .int x1, .int x2]) (n := 4) (Nat.le_of_ble_eq_true rfl)
  rw [lg_entry_eq]
  generalize (lg_sl ([.ref (ad 5 0), .int x1, .int x2]) ++ List.replicate (4 - (lg_sl ([.ref (ad 5 0), .int x1, .int x2])).length) Slot.unset).toArray = ls at hl ⊢
  have hl : lv_has ls 4 [(0, .ref (ad 5 0)), (1, .int x1), (2, .int x2)] := hl
  refine lv_aload_n hx hb dX5_status_0 rfl (lv_at hl 0 rfl) ?_
  refine lv_iload_n hx hb dX5_status_1 rfl (lv_at hl 1 rfl) ?_
  refine vx_callv (vx_runV (As := [.int x1]) (rest := []) ⟨hx, hb, hml, hown, hts⟩ (t_X5_requireSheet l hl0 D cA z NL ad ct x1 td hm5 h5) (cwV 1 hts gX5_status_X5_requireSheet rfl rfl rfl (by decide +kernel) ⟨Nat.le_of_ble_eq_true rfl, Nat.le_of_ble_eq_true rfl⟩) (pcT_preV hX hT (pcZ_kept hZ (fun _ h => h.elim) hW.2) (Nat.le_trans hz hW.2.1) hW.1 hm5 h5 rfl hW.1) rfl rfl hl.1 rfl (lv_room (Nat.le_of_ble_eq_true rfl)) dX5_status_2 ⟨Nat.le_of_ble_eq_true rfl, Nat.le_of_ble_eq_true rfl⟩) hW.2 (fun _ _ h => h.elim) (fun _ h => h.elim) (fun _ _ h => h.elim) (fun E ce q9 _ t H1 locs1 ht hvm hpx hE _ hk9 hS9 hq9 hce hcl => ?_) (fun _ t H locs ht hvm hw hB _ hk9 hS9 => ?_)
  · exact vx_out (fun x hx => (hex x hx).elim) hlocks hq9 hce hcl (fun t9 ht9 hal9 => ⟨(), trivial, hE, hS9.F ht9⟩) (fun q hq => (hS9.2.2 q hq).elim) (Nat.le_of_ble_eq_true rfl) (Nat.le_of_ble_eq_true rfl)
  · exact hw.elim

set_option maxHeartbeats 4000000 in
set_option maxRecDepth 100000 in
theorem t_X5_query (l : Launch) (hl0 : l.stackTraces = false) (D : va_G) (cA : Nat → ClassId) (z : Nat) (NL : List (Nat × Nat)) (ad : Nat → Nat → Nat) (ct : Nat → Nat → va_E) (x1 : Int32) (x2 : Int32) (x3 : Int32) (x4 : Int32) (x5 : Int32) (td : Int32) (hm5 : (5, 0) ∈ NL) (h5 : ct 5 0 = .inr (6, [.ref (ad 50 0), .ref (ad 51 0), .ref (ad 52 0), .ref (ad 53 0), .ref (ad 54 0), .ref (ad 55 0), .ref (ad 56 0), .int 0, .int 0, .int 0, .int 0, .int 0, .int td])) : vx_Met l yX5_query wsX5_query ({ frames := 7, cells := 1, slots := 6, locals := 111 }) (pcPreT D vwCl (tyL cA) z [.ref (ad 5 0), .int x1, .int x2, .int x3, .int x4, .int x5] (fun H => va_P D vwCl (pcW NL ad ct) H)) (va_Qi (fun (r : Int32) (_ : Unit) => False) (fun _ _ => True) (fun _ => False)) (pxX (fun E => E = R_IO)) 1 6 (fun _ => False) := by
  refine vx_ofW (cc := cX5_query) (maxL := 7) (ret := (some .int)) (by decide) rfl ?_
  intro p e s m args below meth c s₁ B hml hex hv
  obtain ⟨rfl, hX, hT, ⟨hZ, hz⟩, hP0⟩ := hv
  have hx := B.exec
  have hb := B.bytes
  have hr := B.returns
  have hts := atoms_spec (ws := wsX5_query) B.pre
  have hown : s.vm.findClass RX5 = some m.cls := findClass_of_methodNamed B.named
  have hlocks := B.notSynchronized
  have hW : pcQ D vwCl (fun _ => False) s.heap NL ad ct s.heap [] := ⟨hP0, va_S.rf⟩
  have hl := lv_entry ([.ref (ad 5 0), .int x1, .int x2, .int x3, .int x4, .int x5]) (n := 7) (Nat.le_of_ble_eq_true rfl)
  rw [lg_entry_eq]
  generalize (lg_sl ([.ref (ad 5 0), .int x1, .int x2, .int x3, .int x4, .int x5]) ++ List.replicate (7 - (lg_sl ([.ref (ad 5 0), .int x1, .int x2, .int x3, .int x4, .int x5])).length) Slot.unset).toArray = ls at hl ⊢
  have hl : lv_has ls 7 [(0, .ref (ad 5 0)), (1, .int x1), (2, .int x2), (3, .int x3), (4, .int x4), (5, .int x5)] := hl
  refine lv_aload_n hx hb dX5_query_0 rfl (lv_at hl 0 rfl) ?_
  refine lv_iload_n hx hb dX5_query_1 rfl (lv_at hl 1 rfl) ?_
  refine vx_callv (vx_runV (As := [.int x1]) (rest := []) ⟨hx, hb, hml, hown, hts⟩ (t_X5_requireSheet l hl0 D cA z NL ad ct x1 td hm5 h5) (cwV 1 hts gX5_query_X5_requireSheet rfl rfl rfl (by decide +kernel) ⟨Nat.le_of_ble_eq_true rfl, Nat.le_of_ble_eq_true rfl⟩) (pcT_preV hX hT (pcZ_kept hZ (fun _ h => h.elim) hW.2) (Nat.le_trans hz hW.2.1) hW.1 hm5 h5 rfl hW.1) rfl rfl hl.1 rfl (lv_room (Nat.le_of_ble_eq_true rfl)) dX5_query_2 ⟨Nat.le_of_ble_eq_true rfl, Nat.le_of_ble_eq_true rfl⟩) hW.2 (fun _ _ h => h.elim) (fun _ h => h.elim) (fun _ _ h => h.elim) (fun E ce q9 _ t H1 locs1 ht hvm hpx hE _ hk9 hS9 hq9 hce hcl => ?_) (fun _ t H locs ht hvm hw hB _ hk9 hS9 => ?_)
  · exact vx_out (fun x hx => (hex x hx).elim) hlocks hq9 hce hcl (fun t9 ht9 hal9 => ⟨(), trivial, hE, hS9.F ht9⟩) (fun q hq => (hS9.2.2 q hq).elim) (Nat.le_of_ble_eq_true rfl) (Nat.le_of_ble_eq_true rfl)
  · exact hw.elim

set_option maxHeartbeats 4000000 in
set_option maxRecDepth 100000 in
theorem t_X5_clouds (l : Launch) (hl0 : l.stackTraces = false) (D : va_G) (cA : Nat → ClassId) (z : Nat) (NL : List (Nat × Nat)) (ad : Nat → Nat → Nat) (ct : Nat → Nat → va_E) (x1 : Int32) (x2 : Int32) (x3 : Int32) (td : Int32) (hm5 : (5, 0) ∈ NL) (h5 : ct 5 0 = .inr (6, [.ref (ad 50 0), .ref (ad 51 0), .ref (ad 52 0), .ref (ad 53 0), .ref (ad 54 0), .ref (ad 55 0), .ref (ad 56 0), .int 0, .int 0, .int 0, .int 0, .int 0, .int td])) : vx_Met l yX5_clouds wsX5_clouds ({ frames := 7, cells := 1, slots := 6, locals := 111 }) (pcPreT D vwCl (tyL cA) z [.ref (ad 5 0), .int x1, .int x2, .int x3] (fun H => va_P D vwCl (pcW NL ad ct) H)) (va_Qi (fun (r : Int32) (_ : Unit) => False) (fun _ _ => True) (fun _ => False)) (pxX (fun E => E = R_IO)) 1 6 (fun _ => False) := by
  refine vx_ofW (cc := cX5_clouds) (maxL := 4) (ret := (some .int)) (by decide) rfl ?_
  intro p e s m args below meth c s₁ B hml hex hv
  obtain ⟨rfl, hX, hT, ⟨hZ, hz⟩, hP0⟩ := hv
  have hx := B.exec
  have hb := B.bytes
  have hr := B.returns
  have hts := atoms_spec (ws := wsX5_clouds) B.pre
  have hown : s.vm.findClass RX5 = some m.cls := findClass_of_methodNamed B.named
  have hlocks := B.notSynchronized
  have hW : pcQ D vwCl (fun _ => False) s.heap NL ad ct s.heap [] := ⟨hP0, va_S.rf⟩
  have hl := lv_entry ([.ref (ad 5 0), .int x1, .int x2, .int x3]) (n := 4) (Nat.le_of_ble_eq_true rfl)
  rw [lg_entry_eq]
  generalize (lg_sl ([.ref (ad 5 0), .int x1, .int x2, .int x3]) ++ List.replicate (4 - (lg_sl ([.ref (ad 5 0), .int x1, .int x2, .int x3])).length) Slot.unset).toArray = ls at hl ⊢
  have hl : lv_has ls 4 [(0, .ref (ad 5 0)), (1, .int x1), (2, .int x2), (3, .int x3)] := hl
  refine lv_aload_n hx hb dX5_clouds_0 rfl (lv_at hl 0 rfl) ?_
  refine lv_iload_n hx hb dX5_clouds_1 rfl (lv_at hl 1 rfl) ?_
  refine vx_callv (vx_runV (As := [.int x1]) (rest := []) ⟨hx, hb, hml, hown, hts⟩ (t_X5_requireSheet l hl0 D cA z NL ad ct x1 td hm5 h5) (cwV 1 hts gX5_clouds_X5_requireSheet rfl rfl rfl (by decide +kernel) ⟨Nat.le_of_ble_eq_true rfl, Nat.le_of_ble_eq_true rfl⟩) (pcT_preV hX hT (pcZ_kept hZ (fun _ h => h.elim) hW.2) (Nat.le_trans hz hW.2.1) hW.1 hm5 h5 rfl hW.1) rfl rfl hl.1 rfl (lv_room (Nat.le_of_ble_eq_true rfl)) dX5_clouds_2 ⟨Nat.le_of_ble_eq_true rfl, Nat.le_of_ble_eq_true rfl⟩) hW.2 (fun _ _ h => h.elim) (fun _ h => h.elim) (fun _ _ h => h.elim) (fun E ce q9 _ t H1 locs1 ht hvm hpx hE _ hk9 hS9 hq9 hce hcl => ?_) (fun _ t H locs ht hvm hw hB _ hk9 hS9 => ?_)
  · exact vx_out (fun x hx => (hex x hx).elim) hlocks hq9 hce hcl (fun t9 ht9 hal9 => ⟨(), trivial, hE, hS9.F ht9⟩) (fun q hq => (hS9.2.2 q hq).elim) (Nat.le_of_ble_eq_true rfl) (Nat.le_of_ble_eq_true rfl)
  · exact hw.elim

set_option maxHeartbeats 4000000 in
set_option maxRecDepth 100000 in
theorem t_X5_stoppedBy (l : Launch) (hl0 : l.stackTraces = false) (D : va_G) (cA : Nat → ClassId) (z : Nat) (NL : List (Nat × Nat)) (ad : Nat → Nat → Nat) (ct : Nat → Nat → va_E) (x1 : Int32) (td : Int32) (hm5 : (5, 0) ∈ NL) (h5 : ct 5 0 = .inr (6, [.ref (ad 50 0), .ref (ad 51 0), .ref (ad 52 0), .ref (ad 53 0), .ref (ad 54 0), .ref (ad 55 0), .ref (ad 56 0), .int 0, .int 0, .int 0, .int 0, .int 0, .int td])) : vx_Met l yX5_stoppedBy wsX5_stoppedBy ({ frames := 7, cells := 1, slots := 6, locals := 111 }) (pcPreT D vwCl (tyL cA) z [.ref (ad 5 0), .int x1] (fun H => va_P D vwCl (pcW NL ad ct) H)) (va_Qi (fun (r : Int32) (_ : Unit) => False) (fun _ _ => True) (fun _ => False)) (pxX (fun E => E = R_IO)) 1 6 (fun _ => False) := by
  refine vx_ofW (cc := cX5_stoppedBy) (maxL := 5) (ret := (some .int)) (by decide) rfl ?_
  intro p e s m args below meth c s₁ B hml hex hv
  obtain ⟨rfl, hX, hT, ⟨hZ, hz⟩, hP0⟩ := hv
  have hx := B.exec
  have hb := B.bytes
  have hr := B.returns
  have hts := atoms_spec (ws := wsX5_stoppedBy) B.pre
  have hown : s.vm.findClass RX5 = some m.cls := findClass_of_methodNamed B.named
  have hlocks := B.notSynchronized
  have hW : pcQ D vwCl (fun _ => False) s.heap NL ad ct s.heap [] := ⟨hP0, va_S.rf⟩
  have hl := lv_entry ([.ref (ad 5 0), .int x1]) (n := 5) (Nat.le_of_ble_eq_true rfl)
  rw [lg_entry_eq]
  generalize (lg_sl ([.ref (ad 5 0), .int x1]) ++ List.replicate (5 - (lg_sl ([.ref (ad 5 0), .int x1])).length) Slot.unset).toArray = ls at hl ⊢
  have hl : lv_has ls 5 [(0, .ref (ad 5 0)), (1, .int x1)] := hl
  refine lv_aload_n hx hb dX5_stoppedBy_0 rfl (lv_at hl 0 rfl) ?_
  refine lv_iload_n hx hb dX5_stoppedBy_1 rfl (lv_at hl 1 rfl) ?_
  refine vx_callv (vx_runV (As := [.int x1]) (rest := []) ⟨hx, hb, hml, hown, hts⟩ (t_X5_requireSheet l hl0 D cA z NL ad ct x1 td hm5 h5) (cwV 1 hts gX5_stoppedBy_X5_requireSheet rfl rfl rfl (by decide +kernel) ⟨Nat.le_of_ble_eq_true rfl, Nat.le_of_ble_eq_true rfl⟩) (pcT_preV hX hT (pcZ_kept hZ (fun _ h => h.elim) hW.2) (Nat.le_trans hz hW.2.1) hW.1 hm5 h5 rfl hW.1) rfl rfl hl.1 rfl (lv_room (Nat.le_of_ble_eq_true rfl)) dX5_stoppedBy_2 ⟨Nat.le_of_ble_eq_true rfl, Nat.le_of_ble_eq_true rfl⟩) hW.2 (fun _ _ h => h.elim) (fun _ h => h.elim) (fun _ _ h => h.elim) (fun E ce q9 _ t H1 locs1 ht hvm hpx hE _ hk9 hS9 hq9 hce hcl => ?_) (fun _ t H locs ht hvm hw hB _ hk9 hS9 => ?_)
  · exact vx_out (fun x hx => (hex x hx).elim) hlocks hq9 hce hcl (fun t9 ht9 hal9 => ⟨(), trivial, hE, hS9.F ht9⟩) (fun q hq => (hS9.2.2 q hq).elim) (Nat.le_of_ble_eq_true rfl) (Nat.le_of_ble_eq_true rfl)
  · exact hw.elim

set_option maxHeartbeats 4000000 in
set_option maxRecDepth 100000 in
theorem t_X5_clash (l : Launch) (hl0 : l.stackTraces = false) (D : va_G) (cA : Nat → ClassId) (z : Nat) (NL : List (Nat × Nat)) (ad : Nat → Nat → Nat) (ct : Nat → Nat → va_E) (x1 : Int32) (x2 : Int32) (td : Int32) (hm5 : (5, 0) ∈ NL) (h5 : ct 5 0 = .inr (6, [.ref (ad 50 0), .ref (ad 51 0), .ref (ad 52 0), .ref (ad 53 0), .ref (ad 54 0), .ref (ad 55 0), .ref (ad 56 0), .int 0, .int 0, .int 0, .int 0, .int 0, .int td])) : vx_Met l yX5_clash wsX5_clash ({ frames := 8, cells := 1, slots := 6, locals := 133 }) (pcPreT D vwCl (tyL cA) z [.ref (ad 5 0), .int x1, .int x2] (fun H => va_P D vwCl (pcW NL ad ct) H)) (va_Qi (fun (r : Int32) (_ : Unit) => False) (fun _ _ => True) (fun _ => False)) (pxX (fun E => E = R_IO)) 1 6 (fun _ => False) := by
  refine vx_ofW (cc := cX5_clash) (maxL := 3) (ret := (some .int)) (by decide) rfl ?_
  intro p e s m args below meth c s₁ B hml hex hv
  obtain ⟨rfl, hX, hT, ⟨hZ, hz⟩, hP0⟩ := hv
  have hx := B.exec
  have hb := B.bytes
  have hr := B.returns
  have hts := atoms_spec (ws := wsX5_clash) B.pre
  have hown : s.vm.findClass RX5 = some m.cls := findClass_of_methodNamed B.named
  have hlocks := B.notSynchronized
  have hW : pcQ D vwCl (fun _ => False) s.heap NL ad ct s.heap [] := ⟨hP0, va_S.rf⟩
  have hl := lv_entry ([.ref (ad 5 0), .int x1, .int x2]) (n := 3) (Nat.le_of_ble_eq_true rfl)
  rw [lg_entry_eq]
  generalize (lg_sl ([.ref (ad 5 0), .int x1, .int x2]) ++ List.replicate (3 - (lg_sl ([.ref (ad 5 0), .int x1, .int x2])).length) Slot.unset).toArray = ls at hl ⊢
  have hl : lv_has ls 3 [(0, .ref (ad 5 0)), (1, .int x1), (2, .int x2)] := hl
  refine lv_aload_n hx hb dX5_clash_0 rfl (lv_at hl 0 rfl) ?_
  refine lv_iload_n hx hb dX5_clash_1 rfl (lv_at hl 1 rfl) ?_
  refine lv_iload_n hx hb dX5_clash_2 rfl (lv_at hl 2 rfl) ?_
  refine vx_callv (vx_runV (As := [.int x1, .int x2]) (rest := []) ⟨hx, hb, hml, hown, hts⟩ (t_X5_requireTwoSheets l hl0 D cA z NL ad ct x1 x2 td hm5 h5) (cwV 2 hts gX5_clash_X5_requireTwoSheets rfl rfl rfl (by decide +kernel) ⟨Nat.le_of_ble_eq_true rfl, Nat.le_of_ble_eq_true rfl⟩) (pcT_preV hX hT (pcZ_kept hZ (fun _ h => h.elim) hW.2) (Nat.le_trans hz hW.2.1) hW.1 hm5 h5 rfl hW.1) rfl rfl hl.1 rfl (lv_room (Nat.le_of_ble_eq_true rfl)) dX5_clash_3 ⟨Nat.le_of_ble_eq_true rfl, Nat.le_of_ble_eq_true rfl⟩) hW.2 (fun _ _ h => h.elim) (fun _ h => h.elim) (fun _ _ h => h.elim) (fun E ce q9 _ t H1 locs1 ht hvm hpx hE _ hk9 hS9 hq9 hce hcl => ?_) (fun _ t H locs ht hvm hw hB _ hk9 hS9 => ?_)
  · exact vx_out (fun x hx => (hex x hx).elim) hlocks hq9 hce hcl (fun t9 ht9 hal9 => ⟨(), trivial, hE, hS9.F ht9⟩) (fun q hq => (hS9.2.2 q hq).elim) (Nat.le_of_ble_eq_true rfl) (Nat.le_of_ble_eq_true rfl)
  · exact hw.elim

set_option maxHeartbeats 4000000 in
set_option maxRecDepth 100000 in
theorem t_X5_excuse (l : Launch) (hl0 : l.stackTraces = false) (D : va_G) (cA : Nat → ClassId) (z : Nat) (NL : List (Nat × Nat)) (ad : Nat → Nat → Nat) (ct : Nat → Nat → va_E) (x1 : Int32) (x2 : Int32) (td : Int32) (hm5 : (5, 0) ∈ NL) (h5 : ct 5 0 = .inr (6, [.ref (ad 50 0), .ref (ad 51 0), .ref (ad 52 0), .ref (ad 53 0), .ref (ad 54 0), .ref (ad 55 0), .ref (ad 56 0), .int 0, .int 0, .int 0, .int 0, .int 0, .int td])) : vx_Met l yX5_excuse wsX5_excuse ({ frames := 8, cells := 1, slots := 6, locals := 133 }) (pcPreT D vwCl (tyL cA) z [.ref (ad 5 0), .int x1, .int x2] (fun H => va_P D vwCl (pcW NL ad ct) H)) (va_Qi (fun (r : Int32) (_ : Unit) => False) (fun _ _ => True) (fun _ => False)) (pxX (fun E => E = R_IO)) 1 6 (fun _ => False) := by
  refine vx_ofW (cc := cX5_excuse) (maxL := 3) (ret := (some .boolean)) (by decide) rfl ?_
  intro p e s m args below meth c s₁ B hml hex hv
  obtain ⟨rfl, hX, hT, ⟨hZ, hz⟩, hP0⟩ := hv
  have hx := B.exec
  have hb := B.bytes
  have hr := B.returns
  have hts := atoms_spec (ws := wsX5_excuse) B.pre
  have hown : s.vm.findClass RX5 = some m.cls := findClass_of_methodNamed B.named
  have hlocks := B.notSynchronized
  have hW : pcQ D vwCl (fun _ => False) s.heap NL ad ct s.heap [] := ⟨hP0, va_S.rf⟩
  have hl := lv_entry ([.ref (ad 5 0), .int x1, .int x2]) (n := 3) (Nat.le_of_ble_eq_true rfl)
  rw [lg_entry_eq]
  generalize (lg_sl ([.ref (ad 5 0), .int x1, .int x2]) ++ List.replicate (3 - (lg_sl ([.ref (ad 5 0), .int x1, .int x2])).length) Slot.unset).toArray = ls at hl ⊢
  have hl : lv_has ls 3 [(0, .ref (ad 5 0)), (1, .int x1), (2, .int x2)] := hl
  refine lv_aload_n hx hb dX5_excuse_0 rfl (lv_at hl 0 rfl) ?_
  refine lv_iload_n hx hb dX5_excuse_1 rfl (lv_at hl 1 rfl) ?_
  refine lv_iload_n hx hb dX5_excuse_2 rfl (lv_at hl 2 rfl) ?_
  refine vx_callv (vx_runV (As := [.int x1, .int x2]) (rest := []) ⟨hx, hb, hml, hown, hts⟩ (t_X5_requireTwoSheets l hl0 D cA z NL ad ct x1 x2 td hm5 h5) (cwV 2 hts gX5_excuse_X5_requireTwoSheets rfl rfl rfl (by decide +kernel) ⟨Nat.le_of_ble_eq_true rfl, Nat.le_of_ble_eq_true rfl⟩) (pcT_preV hX hT (pcZ_kept hZ (fun _ h => h.elim) hW.2) (Nat.le_trans hz hW.2.1) hW.1 hm5 h5 rfl hW.1) rfl rfl hl.1 rfl (lv_room (Nat.le_of_ble_eq_true rfl)) dX5_excuse_3 ⟨Nat.le_of_ble_eq_true rfl, Nat.le_of_ble_eq_true rfl⟩) hW.2 (fun _ _ h => h.elim) (fun _ h => h.elim) (fun _ _ h => h.elim) (fun E ce q9 _ t H1 locs1 ht hvm hpx hE _ hk9 hS9 hq9 hce hcl => ?_) (fun _ t H locs ht hvm hw hB _ hk9 hS9 => ?_)
  · exact vx_out (fun x hx => (hex x hx).elim) hlocks hq9 hce hcl (fun t9 ht9 hal9 => ⟨(), trivial, hE, hS9.F ht9⟩) (fun q hq => (hS9.2.2 q hq).elim) (Nat.le_of_ble_eq_true rfl) (Nat.le_of_ble_eq_true rfl)
  · exact hw.elim

set_option maxHeartbeats 4000000 in
set_option maxRecDepth 100000 in
theorem t_X5_answer (l : Launch) (hl0 : l.stackTraces = false) (D : va_G) (cA : Nat → ClassId) (z : Nat) (NL : List (Nat × Nat)) (ad : Nat → Nat → Nat) (ct : Nat → Nat → va_E) (x1 : Int32) (x2 : Int32) (td : Int32) (hm5 : (5, 0) ∈ NL) (h5 : ct 5 0 = .inr (6, [.ref (ad 50 0), .ref (ad 51 0), .ref (ad 52 0), .ref (ad 53 0), .ref (ad 54 0), .ref (ad 55 0), .ref (ad 56 0), .int 0, .int 0, .int 0, .int 0, .int 0, .int td])) : vx_Met l yX5_answer wsX5_answer ({ frames := 7, cells := 1, slots := 6, locals := 111 }) (pcPreT D vwCl (tyL cA) z [.ref (ad 5 0), .int x1, .int x2] (fun H => va_P D vwCl (pcW NL ad ct) H)) (va_Qi (fun (r : Int32) (_ : Unit) => False) (fun _ _ => True) (fun _ => False)) (pxX (fun E => E = R_IO)) 1 6 (fun _ => False) := by
  refine vx_ofW (cc := cX5_answer) (maxL := 4) (ret := (some .int)) (by decide) rfl ?_
  intro p e s m args below meth c s₁ B hml hex hv
  obtain ⟨rfl, hX, hT, ⟨hZ, hz⟩, hP0⟩ := hv
  have hx := B.exec
  have hb := B.bytes
  have hr := B.returns
  have hts := atoms_spec (ws := wsX5_answer) B.pre
  have hown : s.vm.findClass RX5 = some m.cls := findClass_of_methodNamed B.named
  have hlocks := B.notSynchronized
  have hW : pcQ D vwCl (fun _ => False) s.heap NL ad ct s.heap [] := ⟨hP0, va_S.rf⟩
  have hl := lv_entry ([.ref (ad 5 0), .int x1, .int x2]) (n := 4) (Nat.le_of_ble_eq_true rfl)
  rw [lg_entry_eq]
  generalize (lg_sl ([.ref (ad 5 0), .int x1, .int x2]) ++ List.replicate (4 - (lg_sl ([.ref (ad 5 0), .int x1, .int x2])).length) Slot.unset).toArray = ls at hl ⊢
  have hl : lv_has ls 4 [(0, .ref (ad 5 0)), (1, .int x1), (2, .int x2)] := hl
  refine lv_aload_n hx hb dX5_answer_0 rfl (lv_at hl 0 rfl) ?_
  refine lv_iload_n hx hb dX5_answer_1 rfl (lv_at hl 1 rfl) ?_
  refine vx_callv (vx_runV (As := [.int x1]) (rest := []) ⟨hx, hb, hml, hown, hts⟩ (t_X5_requireQuery l hl0 D cA z NL ad ct x1 td hm5 h5) (cwV 1 hts gX5_answer_X5_requireQuery rfl rfl rfl (by decide +kernel) ⟨Nat.le_of_ble_eq_true rfl, Nat.le_of_ble_eq_true rfl⟩) (pcT_preV hX hT (pcZ_kept hZ (fun _ h => h.elim) hW.2) (Nat.le_trans hz hW.2.1) hW.1 hm5 h5 rfl hW.1) rfl rfl hl.1 rfl (lv_room (Nat.le_of_ble_eq_true rfl)) dX5_answer_2 ⟨Nat.le_of_ble_eq_true rfl, Nat.le_of_ble_eq_true rfl⟩) hW.2 (fun _ _ h => h.elim) (fun _ h => h.elim) (fun _ _ h => h.elim) (fun E ce q9 _ t H1 locs1 ht hvm hpx hE _ hk9 hS9 hq9 hce hcl => ?_) (fun _ t H locs ht hvm hw hB _ hk9 hS9 => ?_)
  · exact vx_out (fun x hx => (hex x hx).elim) hlocks hq9 hce hcl (fun t9 ht9 hal9 => ⟨(), trivial, hE, hS9.F ht9⟩) (fun q hq => (hS9.2.2 q hq).elim) (Nat.le_of_ble_eq_true rfl) (Nat.le_of_ble_eq_true rfl)
  · exact hw.elim

set_option maxHeartbeats 4000000 in
set_option maxRecDepth 100000 in
theorem t_X5_ofQuery (l : Launch) (hl0 : l.stackTraces = false) (D : va_G) (cA : Nat → ClassId) (z : Nat) (NL : List (Nat × Nat)) (ad : Nat → Nat → Nat) (ct : Nat → Nat → va_E) (x1 : Int32) (td : Int32) (hm5 : (5, 0) ∈ NL) (h5 : ct 5 0 = .inr (6, [.ref (ad 50 0), .ref (ad 51 0), .ref (ad 52 0), .ref (ad 53 0), .ref (ad 54 0), .ref (ad 55 0), .ref (ad 56 0), .int 0, .int 0, .int 0, .int 0, .int 0, .int td])) : vx_Met l yX5_ofQuery wsX5_ofQuery ({ frames := 7, cells := 1, slots := 6, locals := 111 }) (pcPreT D vwCl (tyL cA) z [.ref (ad 5 0), .int x1] (fun H => va_P D vwCl (pcW NL ad ct) H)) (va_Qi (fun (r : Int32) (_ : Unit) => False) (fun _ _ => True) (fun _ => False)) (pxX (fun E => E = R_IO)) 1 6 (fun _ => False) := by
  refine vx_ofW (cc := cX5_ofQuery) (maxL := 2) (ret := (some .int)) (by decide) rfl ?_
  intro p e s m args below meth c s₁ B hml hex hv
  obtain ⟨rfl, hX, hT, ⟨hZ, hz⟩, hP0⟩ := hv
  have hx := B.exec
  have hb := B.bytes
  have hr := B.returns
  have hts := atoms_spec (ws := wsX5_ofQuery) B.pre
  have hown : s.vm.findClass RX5 = some m.cls := findClass_of_methodNamed B.named
  have hlocks := B.notSynchronized
  have hW : pcQ D vwCl (fun _ => False) s.heap NL ad ct s.heap [] := ⟨hP0, va_S.rf⟩
  have hl := lv_entry ([.ref (ad 5 0), .int x1]) (n := 2) (Nat.le_of_ble_eq_true rfl)
  rw [lg_entry_eq]
  generalize (lg_sl ([.ref (ad 5 0), .int x1]) ++ List.replicate (2 - (lg_sl ([.ref (ad 5 0), .int x1])).length) Slot.unset).toArray = ls at hl ⊢
  have hl : lv_has ls 2 [(0, .ref (ad 5 0)), (1, .int x1)] := hl
  refine lv_aload_n hx hb dX5_ofQuery_0 rfl (lv_at hl 0 rfl) ?_
  refine lv_iload_n hx hb dX5_ofQuery_1 rfl (lv_at hl 1 rfl) ?_
  refine vx_callv (vx_runV (As := [.int x1]) (rest := []) ⟨hx, hb, hml, hown, hts⟩ (t_X5_requireQuery l hl0 D cA z NL ad ct x1 td hm5 h5) (cwV 1 hts gX5_ofQuery_X5_requireQuery rfl rfl rfl (by decide +kernel) ⟨Nat.le_of_ble_eq_true rfl, Nat.le_of_ble_eq_true rfl⟩) (pcT_preV hX hT (pcZ_kept hZ (fun _ h => h.elim) hW.2) (Nat.le_trans hz hW.2.1) hW.1 hm5 h5 rfl hW.1) rfl rfl hl.1 rfl (lv_room (Nat.le_of_ble_eq_true rfl)) dX5_ofQuery_2 ⟨Nat.le_of_ble_eq_true rfl, Nat.le_of_ble_eq_true rfl⟩) hW.2 (fun _ _ h => h.elim) (fun _ h => h.elim) (fun _ _ h => h.elim) (fun E ce q9 _ t H1 locs1 ht hvm hpx hE _ hk9 hS9 hq9 hce hcl => ?_) (fun _ t H locs ht hvm hw hB _ hk9 hS9 => ?_)
  · exact vx_out (fun x hx => (hex x hx).elim) hlocks hq9 hce hcl (fun t9 ht9 hal9 => ⟨(), trivial, hE, hS9.F ht9⟩) (fun q hq => (hS9.2.2 q hq).elim) (Nat.le_of_ble_eq_true rfl) (Nat.le_of_ble_eq_true rfl)
  · exact hw.elim

set_option maxHeartbeats 4000000 in
set_option maxRecDepth 100000 in
theorem t_X5_freedBy (l : Launch) (hl0 : l.stackTraces = false) (D : va_G) (cA : Nat → ClassId) (z : Nat) (NL : List (Nat × Nat)) (ad : Nat → Nat → Nat) (ct : Nat → Nat → va_E) (x1 : Int32) (td : Int32) (hm5 : (5, 0) ∈ NL) (h5 : ct 5 0 = .inr (6, [.ref (ad 50 0), .ref (ad 51 0), .ref (ad 52 0), .ref (ad 53 0), .ref (ad 54 0), .ref (ad 55 0), .ref (ad 56 0), .int 0, .int 0, .int 0, .int 0, .int 0, .int td])) : vx_Met l yX5_freedBy wsX5_freedBy ({ frames := 7, cells := 1, slots := 6, locals := 111 }) (pcPreT D vwCl (tyL cA) z [.ref (ad 5 0), .int x1] (fun H => va_P D vwCl (pcW NL ad ct) H)) (va_Qi (fun (r : Int32) (_ : Unit) => False) (fun _ _ => True) (fun _ => False)) (pxX (fun E => E = R_IO)) 1 6 (fun _ => False) := by
  refine vx_ofW (cc := cX5_freedBy) (maxL := 6) (ret := (some .int)) (by decide) rfl ?_
  intro p e s m args below meth c s₁ B hml hex hv
  obtain ⟨rfl, hX, hT, ⟨hZ, hz⟩, hP0⟩ := hv
  have hx := B.exec
  have hb := B.bytes
  have hr := B.returns
  have hts := atoms_spec (ws := wsX5_freedBy) B.pre
  have hown : s.vm.findClass RX5 = some m.cls := findClass_of_methodNamed B.named
  have hlocks := B.notSynchronized
  have hW : pcQ D vwCl (fun _ => False) s.heap NL ad ct s.heap [] := ⟨hP0, va_S.rf⟩
  have hl := lv_entry ([.ref (ad 5 0), .int x1]) (n := 6) (Nat.le_of_ble_eq_true rfl)
  rw [lg_entry_eq]
  generalize (lg_sl ([.ref (ad 5 0), .int x1]) ++ List.replicate (6 - (lg_sl ([.ref (ad 5 0), .int x1])).length) Slot.unset).toArray = ls at hl ⊢
  have hl : lv_has ls 6 [(0, .ref (ad 5 0)), (1, .int x1)] := hl
  refine lv_aload_n hx hb dX5_freedBy_0 rfl (lv_at hl 0 rfl) ?_
  refine lv_iload_n hx hb dX5_freedBy_1 rfl (lv_at hl 1 rfl) ?_
  refine vx_callv (vx_runV (As := [.int x1]) (rest := []) ⟨hx, hb, hml, hown, hts⟩ (t_X5_requireQuery l hl0 D cA z NL ad ct x1 td hm5 h5) (cwV 1 hts gX5_freedBy_X5_requireQuery rfl rfl rfl (by decide +kernel) ⟨Nat.le_of_ble_eq_true rfl, Nat.le_of_ble_eq_true rfl⟩) (pcT_preV hX hT (pcZ_kept hZ (fun _ h => h.elim) hW.2) (Nat.le_trans hz hW.2.1) hW.1 hm5 h5 rfl hW.1) rfl rfl hl.1 rfl (lv_room (Nat.le_of_ble_eq_true rfl)) dX5_freedBy_2 ⟨Nat.le_of_ble_eq_true rfl, Nat.le_of_ble_eq_true rfl⟩) hW.2 (fun _ _ h => h.elim) (fun _ h => h.elim) (fun _ _ h => h.elim) (fun E ce q9 _ t H1 locs1 ht hvm hpx hE _ hk9 hS9 hq9 hce hcl => ?_) (fun _ t H locs ht hvm hw hB _ hk9 hS9 => ?_)
  · exact vx_out (fun x hx => (hex x hx).elim) hlocks hq9 hce hcl (fun t9 ht9 hal9 => ⟨(), trivial, hE, hS9.F ht9⟩) (fun q hq => (hS9.2.2 q hq).elim) (Nat.le_of_ble_eq_true rfl) (Nat.le_of_ble_eq_true rfl)
  · exact hw.elim

set_option maxHeartbeats 4000000 in
set_option maxRecDepth 100000 in
theorem t_X5_place (l : Launch) (hl0 : l.stackTraces = false) (D : va_G) (cA : Nat → ClassId) (z : Nat) (NL : List (Nat × Nat)) (ad : Nat → Nat → Nat) (ct : Nat → Nat → va_E) (x1 : Int32) (x2 : Int32) (x3 : Int32) (x4 : Int32) (x5 : Int32) (td : Int32) (hm5 : (5, 0) ∈ NL) (h5 : ct 5 0 = .inr (6, [.ref (ad 50 0), .ref (ad 51 0), .ref (ad 52 0), .ref (ad 53 0), .ref (ad 54 0), .ref (ad 55 0), .ref (ad 56 0), .int 0, .int 0, .int 0, .int 0, .int 0, .int td])) : vx_Met l yX5_place wsX5_place ({ frames := 7, cells := 1, slots := 6, locals := 111 }) (pcPreT D vwCl (tyL cA) z [.ref (ad 5 0), .int x1, .int x2, .int x3, .int x4, .int x5] (fun H => va_P D vwCl (pcW NL ad ct) H)) (va_Qi (fun (r : Int32) (_ : Unit) => False) (fun _ _ => True) (fun _ => False)) (pxX (fun E => E = R_IO)) 1 6 (fun _ => False) := by
  refine vx_ofW (cc := cX5_place) (maxL := 7) (ret := (some .int)) (by decide) rfl ?_
  intro p e s m args below meth c s₁ B hml hex hv
  obtain ⟨rfl, hX, hT, ⟨hZ, hz⟩, hP0⟩ := hv
  have hx := B.exec
  have hb := B.bytes
  have hr := B.returns
  have hts := atoms_spec (ws := wsX5_place) B.pre
  have hown : s.vm.findClass RX5 = some m.cls := findClass_of_methodNamed B.named
  have hlocks := B.notSynchronized
  have hW : pcQ D vwCl (fun _ => False) s.heap NL ad ct s.heap [] := ⟨hP0, va_S.rf⟩
  have hl := lv_entry ([.ref (ad 5 0), .int x1, .int x2, .int x3, .int x4, .int x5]) (n := 7) (Nat.le_of_ble_eq_true rfl)
  rw [lg_entry_eq]
  generalize (lg_sl ([.ref (ad 5 0), .int x1, .int x2, .int x3, .int x4, .int x5]) ++ List.replicate (7 - (lg_sl ([.ref (ad 5 0), .int x1, .int x2, .int x3, .int x4, .int x5])).length) Slot.unset).toArray = ls at hl ⊢
  have hl : lv_has ls 7 [(0, .ref (ad 5 0)), (1, .int x1), (2, .int x2), (3, .int x3), (4, .int x4), (5, .int x5)] := hl
  refine lv_aload_n hx hb dX5_place_0 rfl (lv_at hl 0 rfl) ?_
  refine lv_iload_n hx hb dX5_place_1 rfl (lv_at hl 1 rfl) ?_
  refine vx_callv (vx_runV (As := [.int x1]) (rest := []) ⟨hx, hb, hml, hown, hts⟩ (t_X5_requirePackage l hl0 D cA z NL ad ct x1 td hm5 h5) (cwV 1 hts gX5_place_X5_requirePackage rfl rfl rfl (by decide +kernel) ⟨Nat.le_of_ble_eq_true rfl, Nat.le_of_ble_eq_true rfl⟩) (pcT_preV hX hT (pcZ_kept hZ (fun _ h => h.elim) hW.2) (Nat.le_trans hz hW.2.1) hW.1 hm5 h5 rfl hW.1) rfl rfl hl.1 rfl (lv_room (Nat.le_of_ble_eq_true rfl)) dX5_place_2 ⟨Nat.le_of_ble_eq_true rfl, Nat.le_of_ble_eq_true rfl⟩) hW.2 (fun _ _ h => h.elim) (fun _ h => h.elim) (fun _ _ h => h.elim) (fun E ce q9 _ t H1 locs1 ht hvm hpx hE _ hk9 hS9 hq9 hce hcl => ?_) (fun _ t H locs ht hvm hw hB _ hk9 hS9 => ?_)
  · exact vx_out (fun x hx => (hex x hx).elim) hlocks hq9 hce hcl (fun t9 ht9 hal9 => ⟨(), trivial, hE, hS9.F ht9⟩) (fun q hq => (hS9.2.2 q hq).elim) (Nat.le_of_ble_eq_true rfl) (Nat.le_of_ble_eq_true rfl)
  · exact hw.elim

set_option maxHeartbeats 4000000 in
set_option maxRecDepth 100000 in
theorem t_X5_start (l : Launch) (hl0 : l.stackTraces = false) (D : va_G) (cA : Nat → ClassId) (z : Nat) (NL : List (Nat × Nat)) (ad : Nat → Nat → Nat) (ct : Nat → Nat → va_E) (x1 : Int32) (td : Int32) (hm5 : (5, 0) ∈ NL) (h5 : ct 5 0 = .inr (6, [.ref (ad 50 0), .ref (ad 51 0), .ref (ad 52 0), .ref (ad 53 0), .ref (ad 54 0), .ref (ad 55 0), .ref (ad 56 0), .int 0, .int 0, .int 0, .int 0, .int 0, .int td])) : vx_Met l yX5_start wsX5_start ({ frames := 7, cells := 1, slots := 6, locals := 111 }) (pcPreT D vwCl (tyL cA) z [.ref (ad 5 0), .int x1] (fun H => va_P D vwCl (pcW NL ad ct) H)) (va_Qi (fun (r : Int32) (_ : Unit) => False) (fun _ _ => True) (fun _ => False)) (pxX (fun E => E = R_IO)) 1 6 (fun _ => False) := by
  refine vx_ofW (cc := cX5_start) (maxL := 3) (ret := (some .int)) (by decide) rfl ?_
  intro p e s m args below meth c s₁ B hml hex hv
  obtain ⟨rfl, hX, hT, ⟨hZ, hz⟩, hP0⟩ := hv
  have hx := B.exec
  have hb := B.bytes
  have hr := B.returns
  have hts := atoms_spec (ws := wsX5_start) B.pre
  have hown : s.vm.findClass RX5 = some m.cls := findClass_of_methodNamed B.named
  have hlocks := B.notSynchronized
  have hW : pcQ D vwCl (fun _ => False) s.heap NL ad ct s.heap [] := ⟨hP0, va_S.rf⟩
  have hl := lv_entry ([.ref (ad 5 0), .int x1]) (n := 3) (Nat.le_of_ble_eq_true rfl)
  rw [lg_entry_eq]
  generalize (lg_sl ([.ref (ad 5 0), .int x1]) ++ List.replicate (3 - (lg_sl ([.ref (ad 5 0), .int x1])).length) Slot.unset).toArray = ls at hl ⊢
  have hl : lv_has ls 3 [(0, .ref (ad 5 0)), (1, .int x1)] := hl
  refine lv_aload_n hx hb dX5_start_0 rfl (lv_at hl 0 rfl) ?_
  refine lv_iload_n hx hb dX5_start_1 rfl (lv_at hl 1 rfl) ?_
  refine vx_callv (vx_runV (As := [.int x1]) (rest := []) ⟨hx, hb, hml, hown, hts⟩ (t_X5_requirePackage l hl0 D cA z NL ad ct x1 td hm5 h5) (cwV 1 hts gX5_start_X5_requirePackage rfl rfl rfl (by decide +kernel) ⟨Nat.le_of_ble_eq_true rfl, Nat.le_of_ble_eq_true rfl⟩) (pcT_preV hX hT (pcZ_kept hZ (fun _ h => h.elim) hW.2) (Nat.le_trans hz hW.2.1) hW.1 hm5 h5 rfl hW.1) rfl rfl hl.1 rfl (lv_room (Nat.le_of_ble_eq_true rfl)) dX5_start_2 ⟨Nat.le_of_ble_eq_true rfl, Nat.le_of_ble_eq_true rfl⟩) hW.2 (fun _ _ h => h.elim) (fun _ h => h.elim) (fun _ _ h => h.elim) (fun E ce q9 _ t H1 locs1 ht hvm hpx hE _ hk9 hS9 hq9 hce hcl => ?_) (fun _ t H locs ht hvm hw hB _ hk9 hS9 => ?_)
  · exact vx_out (fun x hx => (hex x hx).elim) hlocks hq9 hce hcl (fun t9 ht9 hal9 => ⟨(), trivial, hE, hS9.F ht9⟩) (fun q hq => (hS9.2.2 q hq).elim) (Nat.le_of_ble_eq_true rfl) (Nat.le_of_ble_eq_true rfl)
  · exact hw.elim

set_option maxHeartbeats 4000000 in
set_option maxRecDepth 100000 in
theorem t_X5_ofPack (l : Launch) (hl0 : l.stackTraces = false) (D : va_G) (cA : Nat → ClassId) (z : Nat) (NL : List (Nat × Nat)) (ad : Nat → Nat → Nat) (ct : Nat → Nat → va_E) (x1 : Int32) (x2 : Int32) (td : Int32) (hm5 : (5, 0) ∈ NL) (h5 : ct 5 0 = .inr (6, [.ref (ad 50 0), .ref (ad 51 0), .ref (ad 52 0), .ref (ad 53 0), .ref (ad 54 0), .ref (ad 55 0), .ref (ad 56 0), .int 0, .int 0, .int 0, .int 0, .int 0, .int td])) : vx_Met l yX5_ofPack wsX5_ofPack ({ frames := 7, cells := 1, slots := 6, locals := 111 }) (pcPreT D vwCl (tyL cA) z [.ref (ad 5 0), .int x1, .int x2] (fun H => va_P D vwCl (pcW NL ad ct) H)) (va_Qi (fun (r : Int32) (_ : Unit) => False) (fun _ _ => True) (fun _ => False)) (pxX (fun E => E = R_IO)) 1 6 (fun _ => False) := by
  refine vx_ofW (cc := cX5_ofPack) (maxL := 4) (ret := (some .int)) (by decide) rfl ?_
  intro p e s m args below meth c s₁ B hml hex hv
  obtain ⟨rfl, hX, hT, ⟨hZ, hz⟩, hP0⟩ := hv
  have hx := B.exec
  have hb := B.bytes
  have hr := B.returns
  have hts := atoms_spec (ws := wsX5_ofPack) B.pre
  have hown : s.vm.findClass RX5 = some m.cls := findClass_of_methodNamed B.named
  have hlocks := B.notSynchronized
  have hW : pcQ D vwCl (fun _ => False) s.heap NL ad ct s.heap [] := ⟨hP0, va_S.rf⟩
  have hl := lv_entry ([.ref (ad 5 0), .int x1, .int x2]) (n := 4) (Nat.le_of_ble_eq_true rfl)
  rw [lg_entry_eq]
  generalize (lg_sl ([.ref (ad 5 0), .int x1, .int x2]) ++ List.replicate (4 - (lg_sl ([.ref (ad 5 0), .int x1, .int x2])).length) Slot.unset).toArray = ls at hl ⊢
  have hl : lv_has ls 4 [(0, .ref (ad 5 0)), (1, .int x1), (2, .int x2)] := hl
  refine lv_aload_n hx hb dX5_ofPack_0 rfl (lv_at hl 0 rfl) ?_
  refine lv_iload_n hx hb dX5_ofPack_1 rfl (lv_at hl 1 rfl) ?_
  refine vx_callv (vx_runV (As := [.int x1]) (rest := []) ⟨hx, hb, hml, hown, hts⟩ (t_X5_requirePackage l hl0 D cA z NL ad ct x1 td hm5 h5) (cwV 1 hts gX5_ofPack_X5_requirePackage rfl rfl rfl (by decide +kernel) ⟨Nat.le_of_ble_eq_true rfl, Nat.le_of_ble_eq_true rfl⟩) (pcT_preV hX hT (pcZ_kept hZ (fun _ h => h.elim) hW.2) (Nat.le_trans hz hW.2.1) hW.1 hm5 h5 rfl hW.1) rfl rfl hl.1 rfl (lv_room (Nat.le_of_ble_eq_true rfl)) dX5_ofPack_2 ⟨Nat.le_of_ble_eq_true rfl, Nat.le_of_ble_eq_true rfl⟩) hW.2 (fun _ _ h => h.elim) (fun _ h => h.elim) (fun _ _ h => h.elim) (fun E ce q9 _ t H1 locs1 ht hvm hpx hE _ hk9 hS9 hq9 hce hcl => ?_) (fun _ t H locs ht hvm hw hB _ hk9 hS9 => ?_)
  · exact vx_out (fun x hx => (hex x hx).elim) hlocks hq9 hce hcl (fun t9 ht9 hal9 => ⟨(), trivial, hE, hS9.F ht9⟩) (fun q hq => (hS9.2.2 q hq).elim) (Nat.le_of_ble_eq_true rfl) (Nat.le_of_ble_eq_true rfl)
  · exact hw.elim

set_option maxHeartbeats 4000000 in
set_option maxRecDepth 100000 in
theorem t_X5_holds (l : Launch) (hl0 : l.stackTraces = false) (D : va_G) (cA : Nat → ClassId) (z : Nat) (NL : List (Nat × Nat)) (ad : Nat → Nat → Nat) (ct : Nat → Nat → va_E) (x1 : Int32) (td : Int32) (hm5 : (5, 0) ∈ NL) (h5 : ct 5 0 = .inr (6, [.ref (ad 50 0), .ref (ad 51 0), .ref (ad 52 0), .ref (ad 53 0), .ref (ad 54 0), .ref (ad 55 0), .ref (ad 56 0), .int 0, .int 0, .int 0, .int 0, .int 0, .int td])) : vx_Met l yX5_holds wsX5_holds ({ frames := 6, cells := 1, slots := 6, locals := 90 }) (pcPreT D vwCl (tyL cA) z [.ref (ad 5 0), .int x1] (fun H => va_P D vwCl (pcW NL ad ct) H)) (va_Qi (fun (r : Int32) (_ : Unit) => False) (fun _ _ => True) (fun _ => False)) (pxX (fun E => E = R_IO)) 1 6 (fun _ => False) := by
  refine vx_ofW (cc := cX5_holds) (maxL := 2) (ret := (some .boolean)) (by decide) rfl ?_
  intro p e s m args below meth c s₁ B hml hex hv
  obtain ⟨rfl, hX, hT, ⟨hZ, hz⟩, hP0⟩ := hv
  have hx := B.exec
  have hb := B.bytes
  have hr := B.returns
  have hts := atoms_spec (ws := wsX5_holds) B.pre
  have hown : s.vm.findClass RX5 = some m.cls := findClass_of_methodNamed B.named
  have hlocks := B.notSynchronized
  have hW : pcQ D vwCl (fun _ => False) s.heap NL ad ct s.heap [] := ⟨hP0, va_S.rf⟩
  have hl := lv_entry ([.ref (ad 5 0), .int x1]) (n := 2) (Nat.le_of_ble_eq_true rfl)
  rw [lg_entry_eq]
  generalize (lg_sl ([.ref (ad 5 0), .int x1]) ++ List.replicate (2 - (lg_sl ([.ref (ad 5 0), .int x1])).length) Slot.unset).toArray = ls at hl ⊢
  have hl : lv_has ls 2 [(0, .ref (ad 5 0)), (1, .int x1)] := hl
  refine lv_iload_n hx hb dX5_holds_0 rfl (lv_at hl 1 rfl) ?_
  refine lv_if_lt (tgt := 12) hx hb dX5_holds_1 (by decide) (fun c20 => ?_) (fun c20 => ?_)
  · obtain ⟨sa21, hsa21⟩ := hT.2.2 (RX5, 185, "there is no such reference") (by decide +kernel)
    have hat : ∀ w ∈ vx_atS RX5 181 "java/lang/IndexOutOfBoundsException" ["java/lang/RuntimeException", "java/lang/Exception"], w.before _ s = true := vx_hat (fun w hw => hts w (List.mem_cons_of_mem _ (List.mem_append_right _ hw))) (B := [.castable "java/lang/IndexOutOfBoundsException" "java/lang/IndexOutOfBoundsException", .declares (Bundle.initS "java/lang/RuntimeException"), .declares (Bundle.initS "java/lang/Exception"), .declares (Bundle.initS Bundle.tN)]) (by decide +kernel) (vx_c (va_Nw.use rfl (hT.1 _ (by decide +kernel))) (vx_c (va_Nw.use rfl (hT.1 _ (by decide +kernel))) (vx_c (va_Nw.use rfl (hT.1 _ (by decide +kernel))) (vx_c (va_Nw.use rfl (hT.1 _ (by decide +kernel))) vx_n))))
    have hSz : va_S (fun q => z ≤ q) s.heap _ _ := ⟨hW.2.1, fun q h1 _ => hW.2.2.1 q h1 id, fun q hq => (hW.2.2.2 q hq).elim⟩
    exact vx_throwS (text := "there is no such reference") (names := ["java/lang/RuntimeException", "java/lang/Exception"]) hx hb hl0 hown (by decide +kernel) (by decide +kernel) (hts (.classLink RX5 177 "java/lang/IndexOutOfBoundsException") (by decide +kernel)) (hts (.initialized "java/lang/IndexOutOfBoundsException") (by decide +kernel)) hsa21 hat (by decide +kernel) hZ.1 hZ.2 hSz (hl.1.trans hml.symm) dX5_holds_12 dX5_holds_15 dX5_holds_16 dX5_holds_18 dX5_holds_21 (fun x hx => (hex x hx).elim) (by decide) (Nat.le_of_ble_eq_true rfl) (Nat.le_of_ble_eq_true rfl) (Nat.le_of_ble_eq_true rfl) hlocks (fun t hal hsz hk => ⟨(), trivial, rfl, Nat.le_trans hW.2.1 hsz, fun q h1 _ => (hk q (Nat.lt_of_lt_of_le h1 hW.2.1)).trans (hW.2.2.1 q h1 id)⟩) (fun q hq => (hW.2.2.2 q hq).elim) (Nat.le_of_ble_eq_true rfl) (Nat.le_of_ble_eq_true rfl)
  · refine lv_iload_n hx hb dX5_holds_4 rfl (lv_at hl 1 rfl) ?_
    refine lv_aload_n hx hb dX5_holds_5 rfl (lv_at hl 0 rfl) ?_
    refine pc_get (C := RX5) (T := TX5) (N := 13) (ci := 6) hx hb hts (by decide +kernel) hown hX.1 hW.1 5 0 hm5 h5 rfl 8 (by decide) (hts (.fieldLink RX5 52 "DraftsmanOffice" "referenceCount" "I") (by decide +kernel)) (fun _ h9 => h9) rfl dX5_holds_6 ?_
    refine lv_icmp_lt (tgt := 22) hx hb dX5_holds_9 (by decide) (fun c22 => absurd c22 c20) (fun _ => ?_)
    obtain ⟨sa23, hsa23⟩ := hT.2.2 (RX5, 185, "there is no such reference") (by decide +kernel)
    have hat : ∀ w ∈ vx_atS RX5 181 "java/lang/IndexOutOfBoundsException" ["java/lang/RuntimeException", "java/lang/Exception"], w.before _ s = true := vx_hat (fun w hw => hts w (List.mem_cons_of_mem _ (List.mem_append_right _ hw))) (B := [.castable "java/lang/IndexOutOfBoundsException" "java/lang/IndexOutOfBoundsException", .declares (Bundle.initS "java/lang/RuntimeException"), .declares (Bundle.initS "java/lang/Exception"), .declares (Bundle.initS Bundle.tN)]) (by decide +kernel) (vx_c (va_Nw.use rfl (hT.1 _ (by decide +kernel))) (vx_c (va_Nw.use rfl (hT.1 _ (by decide +kernel))) (vx_c (va_Nw.use rfl (hT.1 _ (by decide +kernel))) (vx_c (va_Nw.use rfl (hT.1 _ (by decide +kernel))) vx_n))))
    have hSz : va_S (fun q => z ≤ q) s.heap _ _ := ⟨hW.2.1, fun q h1 _ => hW.2.2.1 q h1 id, fun q hq => (hW.2.2.2 q hq).elim⟩
    exact vx_throwS (text := "there is no such reference") (names := ["java/lang/RuntimeException", "java/lang/Exception"]) hx hb hl0 hown (by decide +kernel) (by decide +kernel) (hts (.classLink RX5 177 "java/lang/IndexOutOfBoundsException") (by decide +kernel)) (hts (.initialized "java/lang/IndexOutOfBoundsException") (by decide +kernel)) hsa23 hat (by decide +kernel) hZ.1 hZ.2 hSz (hl.1.trans hml.symm) dX5_holds_12 dX5_holds_15 dX5_holds_16 dX5_holds_18 dX5_holds_21 (fun x hx => (hex x hx).elim) (by decide) (Nat.le_of_ble_eq_true rfl) (Nat.le_of_ble_eq_true rfl) (Nat.le_of_ble_eq_true rfl) hlocks (fun t hal hsz hk => ⟨(), trivial, rfl, Nat.le_trans hW.2.1 hsz, fun q h1 _ => (hk q (Nat.lt_of_lt_of_le h1 hW.2.1)).trans (hW.2.2.1 q h1 id)⟩) (fun q hq => (hW.2.2.2 q hq).elim) (Nat.le_of_ble_eq_true rfl) (Nat.le_of_ble_eq_true rfl)

set_option maxHeartbeats 4000000 in
set_option maxRecDepth 100000 in
theorem t_X5_receive (l : Launch) (hl0 : l.stackTraces = false) (D : va_G) (cA : Nat → ClassId) (z : Nat) (NL : List (Nat × Nat)) (ad : Nat → Nat → Nat) (ct : Nat → Nat → va_E) (x1 : Int32) (x2 : Int32) (td : Int32) (hm5 : (5, 0) ∈ NL) (h5 : ct 5 0 = .inr (6, [.ref (ad 50 0), .ref (ad 51 0), .ref (ad 52 0), .ref (ad 53 0), .ref (ad 54 0), .ref (ad 55 0), .ref (ad 56 0), .int 0, .int 0, .int 0, .int 0, .int 0, .int td])) : vx_Met l yX5_receive wsX5_receive ({ frames := 6, cells := 1, slots := 6, locals := 90 }) (pcPreT D vwCl (tyL cA) z [.ref (ad 5 0), .int x1, .int x2] (fun H => va_P D vwCl (pcW NL ad ct) H)) (va_Qi (fun (r : Int32) (_ : Unit) => False) (fun _ _ => True) (fun _ => False)) (pxX (fun E => E = R_IO)) 1 6 (fun _ => False) := by
  refine vx_ofW (cc := cX5_receive) (maxL := 4) (ret := (some .int)) (by decide) rfl ?_
  intro p e s m args below meth c s₁ B hml hex hv
  obtain ⟨rfl, hX, hT, ⟨hZ, hz⟩, hP0⟩ := hv
  have hx := B.exec
  have hb := B.bytes
  have hr := B.returns
  have hts := atoms_spec (ws := wsX5_receive) B.pre
  have hown : s.vm.findClass RX5 = some m.cls := findClass_of_methodNamed B.named
  have hlocks := B.notSynchronized
  have hW : pcQ D vwCl (fun _ => False) s.heap NL ad ct s.heap [] := ⟨hP0, va_S.rf⟩
  have hl := lv_entry ([.ref (ad 5 0), .int x1, .int x2]) (n := 4) (Nat.le_of_ble_eq_true rfl)
  rw [lg_entry_eq]
  generalize (lg_sl ([.ref (ad 5 0), .int x1, .int x2]) ++ List.replicate (4 - (lg_sl ([.ref (ad 5 0), .int x1, .int x2])).length) Slot.unset).toArray = ls at hl ⊢
  have hl : lv_has ls 4 [(0, .ref (ad 5 0)), (1, .int x1), (2, .int x2)] := hl
  refine lv_iload_n hx hb dX5_receive_0 rfl (lv_at hl 1 rfl) ?_
  refine lv_if_lt (tgt := 12) hx hb dX5_receive_1 (by decide) (fun c24 => ?_) (fun c24 => ?_)
  · obtain ⟨sa25, hsa25⟩ := hT.2.2 (RX5, 208, "there is no such sending") (by decide +kernel)
    have hat : ∀ w ∈ vx_atS RX5 181 "java/lang/IndexOutOfBoundsException" ["java/lang/RuntimeException", "java/lang/Exception"], w.before _ s = true := vx_hat (fun w hw => hts w (List.mem_cons_of_mem _ (List.mem_append_left _ (List.mem_append_right _ hw)))) (B := [.castable "java/lang/IndexOutOfBoundsException" "java/lang/IndexOutOfBoundsException", .declares (Bundle.initS "java/lang/RuntimeException"), .declares (Bundle.initS "java/lang/Exception"), .declares (Bundle.initS Bundle.tN)]) (by decide +kernel) (vx_c (va_Nw.use rfl (hT.1 _ (by decide +kernel))) (vx_c (va_Nw.use rfl (hT.1 _ (by decide +kernel))) (vx_c (va_Nw.use rfl (hT.1 _ (by decide +kernel))) (vx_c (va_Nw.use rfl (hT.1 _ (by decide +kernel))) vx_n))))
    have hSz : va_S (fun q => z ≤ q) s.heap _ _ := ⟨hW.2.1, fun q h1 _ => hW.2.2.1 q h1 id, fun q hq => (hW.2.2.2 q hq).elim⟩
    exact vx_throwS (text := "there is no such sending") (names := ["java/lang/RuntimeException", "java/lang/Exception"]) hx hb hl0 hown (by decide +kernel) (by decide +kernel) (hts (.classLink RX5 177 "java/lang/IndexOutOfBoundsException") (by decide +kernel)) (hts (.initialized "java/lang/IndexOutOfBoundsException") (by decide +kernel)) hsa25 hat (by decide +kernel) hZ.1 hZ.2 hSz (hl.1.trans hml.symm) dX5_receive_12 dX5_receive_15 dX5_receive_16 dX5_receive_18 dX5_receive_21 (fun x hx => (hex x hx).elim) (by decide) (Nat.le_of_ble_eq_true rfl) (Nat.le_of_ble_eq_true rfl) (Nat.le_of_ble_eq_true rfl) hlocks (fun t hal hsz hk => ⟨(), trivial, rfl, Nat.le_trans hW.2.1 hsz, fun q h1 _ => (hk q (Nat.lt_of_lt_of_le h1 hW.2.1)).trans (hW.2.2.1 q h1 id)⟩) (fun q hq => (hW.2.2.2 q hq).elim) (Nat.le_of_ble_eq_true rfl) (Nat.le_of_ble_eq_true rfl)
  · refine lv_iload_n hx hb dX5_receive_4 rfl (lv_at hl 1 rfl) ?_
    refine lv_aload_n hx hb dX5_receive_5 rfl (lv_at hl 0 rfl) ?_
    refine pc_get (C := RX5) (T := TX5) (N := 13) (ci := 6) hx hb hts (by decide +kernel) hown hX.1 hW.1 5 0 hm5 h5 rfl 9 (by decide) (hts (.fieldLink RX5 55 "DraftsmanOffice" "sendingCount" "I") (by decide +kernel)) (fun _ h9 => h9) rfl dX5_receive_6 ?_
    refine lv_icmp_lt (tgt := 22) hx hb dX5_receive_9 (by decide) (fun c26 => absurd c26 c24) (fun _ => ?_)
    obtain ⟨sa27, hsa27⟩ := hT.2.2 (RX5, 208, "there is no such sending") (by decide +kernel)
    have hat : ∀ w ∈ vx_atS RX5 181 "java/lang/IndexOutOfBoundsException" ["java/lang/RuntimeException", "java/lang/Exception"], w.before _ s = true := vx_hat (fun w hw => hts w (List.mem_cons_of_mem _ (List.mem_append_left _ (List.mem_append_right _ hw)))) (B := [.castable "java/lang/IndexOutOfBoundsException" "java/lang/IndexOutOfBoundsException", .declares (Bundle.initS "java/lang/RuntimeException"), .declares (Bundle.initS "java/lang/Exception"), .declares (Bundle.initS Bundle.tN)]) (by decide +kernel) (vx_c (va_Nw.use rfl (hT.1 _ (by decide +kernel))) (vx_c (va_Nw.use rfl (hT.1 _ (by decide +kernel))) (vx_c (va_Nw.use rfl (hT.1 _ (by decide +kernel))) (vx_c (va_Nw.use rfl (hT.1 _ (by decide +kernel))) vx_n))))
    have hSz : va_S (fun q => z ≤ q) s.heap _ _ := ⟨hW.2.1, fun q h1 _ => hW.2.2.1 q h1 id, fun q hq => (hW.2.2.2 q hq).elim⟩
    exact vx_throwS (text := "there is no such sending") (names := ["java/lang/RuntimeException", "java/lang/Exception"]) hx hb hl0 hown (by decide +kernel) (by decide +kernel) (hts (.classLink RX5 177 "java/lang/IndexOutOfBoundsException") (by decide +kernel)) (hts (.initialized "java/lang/IndexOutOfBoundsException") (by decide +kernel)) hsa27 hat (by decide +kernel) hZ.1 hZ.2 hSz (hl.1.trans hml.symm) dX5_receive_12 dX5_receive_15 dX5_receive_16 dX5_receive_18 dX5_receive_21 (fun x hx => (hex x hx).elim) (by decide) (Nat.le_of_ble_eq_true rfl) (Nat.le_of_ble_eq_true rfl) (Nat.le_of_ble_eq_true rfl) hlocks (fun t hal hsz hk => ⟨(), trivial, rfl, Nat.le_trans hW.2.1 hsz, fun q h1 _ => (hk q (Nat.lt_of_lt_of_le h1 hW.2.1)).trans (hW.2.2.1 q h1 id)⟩) (fun q hq => (hW.2.2.2 q hq).elim) (Nat.le_of_ble_eq_true rfl) (Nat.le_of_ble_eq_true rfl)
