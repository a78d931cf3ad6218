set_option maxHeartbeats 4000000 in
set_option maxRecDepth 100000 in
theorem w_L_draw (l : Launch) (hl0 : l.stackTraces = false) (D : va_G) (cA : Nat → ClassId) (z : Nat) (NL : List (Nat × Nat)) (ad : Nat → Nat → Nat) (ct : Nat → Nat → va_E) (x1 : Int32) (x2 : Int32) (x3 : Int32) (x4 : Int32) (x5 : Int32) (x6 : Int32) (td : Int32) (hm5 : (5, 0) ∈ NL) (h5 : ct 5 0 = .inr (6, [.ref (ad 50 0), .ref (ad 51 0), .ref (ad 52 0), .ref (ad 53 0), .ref (ad 54 0), .ref (ad 55 0), .ref (ad 56 0), .int 0, .int 0, .int 0, .int 0, .int 0, .int td])) : Met l yL_draw wsL_draw ({ frames := 8, cells := 1, slots := 6, locals := 140 }) (pcPreT D vwCl (tyL cA) z [.ref (ad 5 0), .int x1, .int x2, .int x3, .int x4, .int x5, .int x6, .ref (ad 70 0)] (fun H => va_P D vwCl (pcW NL ad ct) H)) (va_Qi (fun (r : Int32) (_ : Unit) => r = 1) (fun _ _ => True) (fun _ => False)) 1 6 (fun _ => False) := by
  refine va_MetW (hh := [(0, 18, 21, 21), (0, 18, 25, 13), (0, 18, 29, 15)]) (cc := cL_draw) (maxL := 9) (ret := (some .int)) (by decide) rfl ?_
  intro p e s m args below meth c s₁ B hml hv
  obtain ⟨rfl, hX, hT, ⟨hZ, hz⟩, hP0⟩ := hv
  have hx := B.exec
  have hb := B.bytes
  have hr := B.returns
  have hts := atoms_spec (ws := wsL_draw) B.pre
  have hown : s.vm.findClass RL = some m.cls := findClass_of_methodNamed B.named
  have hlocks := B.notSynchronized
  have htab := vx_table (x := yL_draw) B (hts _ List.mem_cons_self)
  have hW : pcQ D vwCl (fun _ => False) s.heap NL ad ct s.heap [] := ⟨hP0, va_S.rf⟩
  have hl := lv_entry ([.ref (ad 5 0), .int x1, .int x2, .int x3, .int x4, .int x5, .int x6, .ref (ad 70 0)]) (n := 9) (Nat.le_of_ble_eq_true rfl)
  rw [lg_entry_eq]
  generalize (lg_sl ([.ref (ad 5 0), .int x1, .int x2, .int x3, .int x4, .int x5, .int x6, .ref (ad 70 0)]) ++ List.replicate (9 - (lg_sl ([.ref (ad 5 0), .int x1, .int x2, .int x3, .int x4, .int x5, .int x6, .ref (ad 70 0)])).length) Slot.unset).toArray = ls at hl ⊢
  have hl : lv_has ls 9 [(0, .ref (ad 5 0)), (1, .int x1), (2, .int x2), (3, .int x3), (4, .int x4), (5, .int x5), (6, .int x6), (7, .ref (ad 70 0))] := hl
  refine lv_aload hx hb dL_draw_0 (lv_at hl 7 rfl) ?_
  refine lv_iconst (v := 0) hx hb dL_draw_2 (by decide) ?_
  refine lv_aload_n hx hb dL_draw_3 rfl (lv_at hl 0 rfl) ?_
  refine lv_iload_n hx hb dL_draw_4 rfl (lv_at hl 1 rfl) ?_
  refine lv_iload_n hx hb dL_draw_5 rfl (lv_at hl 2 rfl) ?_
  refine lv_iload_n hx hb dL_draw_6 rfl (lv_at hl 3 rfl) ?_
  refine lv_iload hx hb dL_draw_7 (lv_at hl 4 rfl) ?_
  refine lv_iload hx hb dL_draw_9 (lv_at hl 5 rfl) ?_
  refine lv_iload hx hb dL_draw_11 (lv_at hl 6 rfl) ?_
  refine vx_calli (vx_runV (As := [.int x1, .int x2, .int x3, .int x4, .int x5, .int x6]) (rest := [.int 0, .ref (ad 70 0)]) ⟨hx, hb, hml, hown, hts⟩ (t_X5_draw l hl0 D cA z NL ad ct x1 x2 x3 x4 x5 x6 td hm5 h5) (cwV 6 hts gL_draw_X5_draw rfl rfl rfl (by decide +kernel) ⟨Nat.le_of_ble_eq_true rfl, Nat.le_of_ble_eq_true rfl⟩) (pcT_preV hX hT (pcZ_kept hZ (fun _ h => h.elim) hW.2) (Nat.le_trans hz hW.2.1) hW.1 hm5 h5 rfl hW.1) rfl rfl hl.1 rfl (lv_room (Nat.le_of_ble_eq_true rfl)) dL_draw_13 ⟨Nat.le_of_ble_eq_true rfl, Nat.le_of_ble_eq_true rfl⟩) hW.2 (fun _ _ h => h.elim) (fun _ h => h.elim) (fun _ _ h => h.elim) (fun E ce q9 _ t H1 locs1 ht hvm hpx hE _ hk9 hS9 hq9 hce hcl => ?_) (fun r9 _ t H locs ht hvm hw hB _ hk9 hS9 => ?_)
  · obtain rfl := hE
    have hW : pcQ D vwCl (fun _ => False) s.heap NL ad ct H1 locs1 := ⟨pcP_keep hW.1 (fun q hq => hk9 q hq id), hS9⟩
    refine vx_catch (own := RL) (name := "java/lang/IndexOutOfBoundsException") hown [] { startPc := 0, endPc := 18, handlerPc := 21, catchType := 21 } [{ startPc := 0, endPc := 18, handlerPc := 25, catchType := 13 }, { startPc := 0, endPc := 18, handlerPc := 29, catchType := 15 }] htab (fun z hz => nomatch hz) (by decide) (by decide) (hts (.classLink RL 21 "java/lang/IndexOutOfBoundsException") (by decide +kernel)) (va_Nw.use rfl (hT.1 _ (by decide +kernel))) hq9 hce hcl ?_
    refine lv_astore (lv' := [(8, .ref q9), (0, .ref (ad 5 0)), (1, .int x1), (2, .int x2), (3, .int x3), (4, .int x4), (5, .int x5), (6, .int x6), (7, .ref (ad 70 0))]) hx hb dL_draw_21 hl (by decide) rfl (fun ls hl => ?_)
    refine lv_iconst (v := 1) hx hb dL_draw_23 (by decide) ?_
    refine W.widen (k := 1) (n := 6) (Nat.le_of_ble_eq_true rfl) (Nat.le_of_ble_eq_true rfl) ?_
    exact W.iret (v := 1) hx hb hr (fun t ht hW9 => ⟨⟨1, (), rfl, rfl, trivial⟩, hW.2.F ht⟩) hW.2.2.2 dL_draw_24
  · exact hw.elim

set_option maxHeartbeats 4000000 in
set_option maxRecDepth 100000 in
theorem w_L_revise (l : Launch) (hl0 : l.stackTraces = false) (D : va_G) (cA : Nat → ClassId) (z : Nat) (NL : List (Nat × Nat)) (ad : Nat → Nat → Nat) (ct : Nat → Nat → va_E) (x1 : Int32) (td : Int32) (hm5 : (5, 0) ∈ NL) (h5 : ct 5 0 = .inr (6, [.ref (ad 50 0), .ref (ad 51 0), .ref (ad 52 0), .ref (ad 53 0), .ref (ad 54 0), .ref (ad 55 0), .ref (ad 56 0), .int 0, .int 0, .int 0, .int 0, .int 0, .int td])) : Met l yL_revise wsL_revise ({ frames := 8, cells := 1, slots := 6, locals := 133 }) (pcPreT D vwCl (tyL cA) z [.ref (ad 5 0), .int x1, .ref (ad 70 0)] (fun H => va_P D vwCl (pcW NL ad ct) H)) (va_Qi (fun (r : Int32) (_ : Unit) => r = 1) (fun _ _ => True) (fun _ => False)) 1 6 (fun _ => False) := by
  refine va_MetW (hh := [(0, 9, 12, 21), (0, 9, 15, 15)]) (cc := cL_revise) (maxL := 4) (ret := (some .int)) (by decide) rfl ?_
  intro p e s m args below meth c s₁ B hml hv
  obtain ⟨rfl, hX, hT, ⟨hZ, hz⟩, hP0⟩ := hv
  have hx := B.exec
  have hb := B.bytes
  have hr := B.returns
  have hts := atoms_spec (ws := wsL_revise) B.pre
  have hown : s.vm.findClass RL = some m.cls := findClass_of_methodNamed B.named
  have hlocks := B.notSynchronized
  have htab := vx_table (x := yL_revise) B (hts _ List.mem_cons_self)
  have hW : pcQ D vwCl (fun _ => False) s.heap NL ad ct s.heap [] := ⟨hP0, va_S.rf⟩
  have hl := lv_entry ([.ref (ad 5 0), .int x1, .ref (ad 70 0)]) (n := 4) (Nat.le_of_ble_eq_true rfl)
  rw [lg_entry_eq]
  generalize (lg_sl ([.ref (ad 5 0), .int x1, .ref (ad 70 0)]) ++ List.replicate (4 - (lg_sl ([.ref (ad 5 0), .int x1, .ref (ad 70 0)])).length) Slot.unset).toArray = ls at hl ⊢
  have hl : lv_has ls 4 [(0, .ref (ad 5 0)), (1, .int x1), (2, .ref (ad 70 0))] := hl
  refine lv_aload_n hx hb dL_revise_0 rfl (lv_at hl 2 rfl) ?_
  refine lv_iconst (v := 0) hx hb dL_revise_1 (by decide) ?_
  refine lv_aload_n hx hb dL_revise_2 rfl (lv_at hl 0 rfl) ?_
  refine lv_iload_n hx hb dL_revise_3 rfl (lv_at hl 1 rfl) ?_
  refine vx_calli (vx_runV (As := [.int x1]) (rest := [.int 0, .ref (ad 70 0)]) ⟨hx, hb, hml, hown, hts⟩ (t_X5_revise l hl0 D cA z NL ad ct x1 td hm5 h5) (cwV 1 hts gL_revise_X5_revise rfl rfl rfl (by decide +kernel) ⟨Nat.le_of_ble_eq_true rfl, Nat.le_of_ble_eq_true rfl⟩) (pcT_preV hX hT (pcZ_kept hZ (fun _ h => h.elim) hW.2) (Nat.le_trans hz hW.2.1) hW.1 hm5 h5 rfl hW.1) rfl rfl hl.1 rfl (lv_room (Nat.le_of_ble_eq_true rfl)) dL_revise_4 ⟨Nat.le_of_ble_eq_true rfl, Nat.le_of_ble_eq_true rfl⟩) hW.2 (fun _ _ h => h.elim) (fun _ h => h.elim) (fun _ _ h => h.elim) (fun E ce q9 _ t H1 locs1 ht hvm hpx hE _ hk9 hS9 hq9 hce hcl => ?_) (fun r9 _ t H locs ht hvm hw hB _ hk9 hS9 => ?_)
  · obtain rfl := hE
    have hW : pcQ D vwCl (fun _ => False) s.heap NL ad ct H1 locs1 := ⟨pcP_keep hW.1 (fun q hq => hk9 q hq id), hS9⟩
    refine vx_catch (own := RL) (name := "java/lang/IndexOutOfBoundsException") hown [] { startPc := 0, endPc := 9, handlerPc := 12, catchType := 21 } [{ startPc := 0, endPc := 9, handlerPc := 15, catchType := 15 }] htab (fun z hz => nomatch hz) (by decide) (by decide) (hts (.classLink RL 21 "java/lang/IndexOutOfBoundsException") (by decide +kernel)) (va_Nw.use rfl (hT.1 _ (by decide +kernel))) hq9 hce hcl ?_
    refine lv_astore_n (lv' := [(3, .ref q9), (0, .ref (ad 5 0)), (1, .int x1), (2, .ref (ad 70 0))]) hx hb dL_revise_12 rfl hl (by decide) rfl (fun ls hl => ?_)
    refine lv_iconst (v := 1) hx hb dL_revise_13 (by decide) ?_
    refine W.widen (k := 1) (n := 6) (Nat.le_of_ble_eq_true rfl) (Nat.le_of_ble_eq_true rfl) ?_
    exact W.iret (v := 1) hx hb hr (fun t ht hW9 => ⟨⟨1, (), rfl, rfl, trivial⟩, hW.2.F ht⟩) hW.2.2.2 dL_revise_14
  · exact hw.elim

set_option maxHeartbeats 4000000 in
set_option maxRecDepth 100000 in
theorem w_L_check (l : Launch) (hl0 : l.stackTraces = false) (D : va_G) (cA : Nat → ClassId) (z : Nat) (NL : List (Nat × Nat)) (ad : Nat → Nat → Nat) (ct : Nat → Nat → va_E) (x1 : Int32) (td : Int32) (hm5 : (5, 0) ∈ NL) (h5 : ct 5 0 = .inr (6, [.ref (ad 50 0), .ref (ad 51 0), .ref (ad 52 0), .ref (ad 53 0), .ref (ad 54 0), .ref (ad 55 0), .ref (ad 56 0), .int 0, .int 0, .int 0, .int 0, .int 0, .int td])) : Met l yL_check wsL_check ({ frames := 8, cells := 1, slots := 6, locals := 133 }) (pcPreT D vwCl (tyL cA) z [.ref (ad 5 0), .int x1, .ref (ad 70 0)] (fun H => va_P D vwCl (pcW NL ad ct) H)) (va_Qi (fun (r : Int32) (_ : Unit) => r = 1) (fun _ _ => True) (fun _ => False)) 1 6 (fun _ => False) := by
  refine va_MetW (hh := [(0, 9, 12, 21), (0, 9, 15, 15)]) (cc := cL_check) (maxL := 4) (ret := (some .int)) (by decide) rfl ?_
  intro p e s m args below meth c s₁ B hml hv
  obtain ⟨rfl, hX, hT, ⟨hZ, hz⟩, hP0⟩ := hv
  have hx := B.exec
  have hb := B.bytes
  have hr := B.returns
  have hts := atoms_spec (ws := wsL_check) B.pre
  have hown : s.vm.findClass RL = some m.cls := findClass_of_methodNamed B.named
  have hlocks := B.notSynchronized
  have htab := vx_table (x := yL_check) B (hts _ List.mem_cons_self)
  have hW : pcQ D vwCl (fun _ => False) s.heap NL ad ct s.heap [] := ⟨hP0, va_S.rf⟩
  have hl := lv_entry ([.ref (ad 5 0), .int x1, .ref (ad 70 0)]) (n := 4) (Nat.le_of_ble_eq_true rfl)
  rw [lg_entry_eq]
  generalize (lg_sl ([.ref (ad 5 0), .int x1, .ref (ad 70 0)]) ++ List.replicate (4 - (lg_sl ([.ref (ad 5 0), .int x1, .ref (ad 70 0)])).length) Slot.unset).toArray = ls at hl ⊢
  have hl : lv_has ls 4 [(0, .ref (ad 5 0)), (1, .int x1), (2, .ref (ad 70 0))] := hl
  refine lv_aload_n hx hb dL_check_0 rfl (lv_at hl 2 rfl) ?_
  refine lv_iconst (v := 0) hx hb dL_check_1 (by decide) ?_
  refine lv_aload_n hx hb dL_check_2 rfl (lv_at hl 0 rfl) ?_
  refine lv_iload_n hx hb dL_check_3 rfl (lv_at hl 1 rfl) ?_
  refine vx_calli (vx_runV (As := [.int x1]) (rest := [.int 0, .ref (ad 70 0)]) ⟨hx, hb, hml, hown, hts⟩ (t_X5_check l hl0 D cA z NL ad ct x1 td hm5 h5) (cwV 1 hts gL_check_X5_check rfl rfl rfl (by decide +kernel) ⟨Nat.le_of_ble_eq_true rfl, Nat.le_of_ble_eq_true rfl⟩) (pcT_preV hX hT (pcZ_kept hZ (fun _ h => h.elim) hW.2) (Nat.le_trans hz hW.2.1) hW.1 hm5 h5 rfl hW.1) rfl rfl hl.1 rfl (lv_room (Nat.le_of_ble_eq_true rfl)) dL_check_4 ⟨Nat.le_of_ble_eq_true rfl, Nat.le_of_ble_eq_true rfl⟩) hW.2 (fun _ _ h => h.elim) (fun _ h => h.elim) (fun _ _ h => h.elim) (fun E ce q9 _ t H1 locs1 ht hvm hpx hE _ hk9 hS9 hq9 hce hcl => ?_) (fun r9 _ t H locs ht hvm hw hB _ hk9 hS9 => ?_)
  · obtain rfl := hE
    have hW : pcQ D vwCl (fun _ => False) s.heap NL ad ct H1 locs1 := ⟨pcP_keep hW.1 (fun q hq => hk9 q hq id), hS9⟩
    refine vx_catch (own := RL) (name := "java/lang/IndexOutOfBoundsException") hown [] { startPc := 0, endPc := 9, handlerPc := 12, catchType := 21 } [{ startPc := 0, endPc := 9, handlerPc := 15, catchType := 15 }] htab (fun z hz => nomatch hz) (by decide) (by decide) (hts (.classLink RL 21 "java/lang/IndexOutOfBoundsException") (by decide +kernel)) (va_Nw.use rfl (hT.1 _ (by decide +kernel))) hq9 hce hcl ?_
    refine lv_astore_n (lv' := [(3, .ref q9), (0, .ref (ad 5 0)), (1, .int x1), (2, .ref (ad 70 0))]) hx hb dL_check_12 rfl hl (by decide) rfl (fun ls hl => ?_)
    refine lv_iconst (v := 1) hx hb dL_check_13 (by decide) ?_
    refine W.widen (k := 1) (n := 6) (Nat.le_of_ble_eq_true rfl) (Nat.le_of_ble_eq_true rfl) ?_
    exact W.iret (v := 1) hx hb hr (fun t ht hW9 => ⟨⟨1, (), rfl, rfl, trivial⟩, hW.2.F ht⟩) hW.2.2.2 dL_check_14
  · exact hw.elim

set_option maxHeartbeats 4000000 in
set_option maxRecDepth 100000 in
theorem w_L_issue (l : Launch) (hl0 : l.stackTraces = false) (D : va_G) (cA : Nat → ClassId) (z : Nat) (NL : List (Nat × Nat)) (ad : Nat → Nat → Nat) (ct : Nat → Nat → va_E) (x1 : Int32) (td : Int32) (hm5 : (5, 0) ∈ NL) (h5 : ct 5 0 = .inr (6, [.ref (ad 50 0), .ref (ad 51 0), .ref (ad 52 0), .ref (ad 53 0), .ref (ad 54 0), .ref (ad 55 0), .ref (ad 56 0), .int 0, .int 0, .int 0, .int 0, .int 0, .int td])) : Met l yL_issue wsL_issue ({ frames := 8, cells := 1, slots := 6, locals := 133 }) (pcPreT D vwCl (tyL cA) z [.ref (ad 5 0), .int x1, .ref (ad 70 0)] (fun H => va_P D vwCl (pcW NL ad ct) H)) (va_Qi (fun (r : Int32) (_ : Unit) => r = 1) (fun _ _ => True) (fun _ => False)) 1 6 (fun _ => False) := by
  refine va_MetW (hh := [(0, 9, 12, 21), (0, 9, 15, 15)]) (cc := cL_issue) (maxL := 4) (ret := (some .int)) (by decide) rfl ?_
  intro p e s m args below meth c s₁ B hml hv
  obtain ⟨rfl, hX, hT, ⟨hZ, hz⟩, hP0⟩ := hv
  have hx := B.exec
  have hb := B.bytes
  have hr := B.returns
  have hts := atoms_spec (ws := wsL_issue) B.pre
  have hown : s.vm.findClass RL = some m.cls := findClass_of_methodNamed B.named
  have hlocks := B.notSynchronized
  have htab := vx_table (x := yL_issue) B (hts _ List.mem_cons_self)
  have hW : pcQ D vwCl (fun _ => False) s.heap NL ad ct s.heap [] := ⟨hP0, va_S.rf⟩
  have hl := lv_entry ([.ref (ad 5 0), .int x1, .ref (ad 70 0)]) (n := 4) (Nat.le_of_ble_eq_true rfl)
  rw [lg_entry_eq]
  generalize (lg_sl ([.ref (ad 5 0), .int x1, .ref (ad 70 0)]) ++ List.replicate (4 - (lg_sl ([.ref (ad 5 0), .int x1, .ref (ad 70 0)])).length) Slot.unset).toArray = ls at hl ⊢
  have hl : lv_has ls 4 [(0, .ref (ad 5 0)), (1, .int x1), (2, .ref (ad 70 0))] := hl
  refine lv_aload_n hx hb dL_issue_0 rfl (lv_at hl 2 rfl) ?_
  refine lv_iconst (v := 0) hx hb dL_issue_1 (by decide) ?_
  refine lv_aload_n hx hb dL_issue_2 rfl (lv_at hl 0 rfl) ?_
  refine lv_iload_n hx hb dL_issue_3 rfl (lv_at hl 1 rfl) ?_
  refine vx_calli (vx_runV (As := [.int x1]) (rest := [.int 0, .ref (ad 70 0)]) ⟨hx, hb, hml, hown, hts⟩ (t_X5_issue l hl0 D cA z NL ad ct x1 td hm5 h5) (cwV 1 hts gL_issue_X5_issue rfl rfl rfl (by decide +kernel) ⟨Nat.le_of_ble_eq_true rfl, Nat.le_of_ble_eq_true rfl⟩) (pcT_preV hX hT (pcZ_kept hZ (fun _ h => h.elim) hW.2) (Nat.le_trans hz hW.2.1) hW.1 hm5 h5 rfl hW.1) rfl rfl hl.1 rfl (lv_room (Nat.le_of_ble_eq_true rfl)) dL_issue_4 ⟨Nat.le_of_ble_eq_true rfl, Nat.le_of_ble_eq_true rfl⟩) hW.2 (fun _ _ h => h.elim) (fun _ h => h.elim) (fun _ _ h => h.elim) (fun E ce q9 _ t H1 locs1 ht hvm hpx hE _ hk9 hS9 hq9 hce hcl => ?_) (fun r9 _ t H locs ht hvm hw hB _ hk9 hS9 => ?_)
  · obtain rfl := hE
    have hW : pcQ D vwCl (fun _ => False) s.heap NL ad ct H1 locs1 := ⟨pcP_keep hW.1 (fun q hq => hk9 q hq id), hS9⟩
    refine vx_catch (own := RL) (name := "java/lang/IndexOutOfBoundsException") hown [] { startPc := 0, endPc := 9, handlerPc := 12, catchType := 21 } [{ startPc := 0, endPc := 9, handlerPc := 15, catchType := 15 }] htab (fun z hz => nomatch hz) (by decide) (by decide) (hts (.classLink RL 21 "java/lang/IndexOutOfBoundsException") (by decide +kernel)) (va_Nw.use rfl (hT.1 _ (by decide +kernel))) hq9 hce hcl ?_
    refine lv_astore_n (lv' := [(3, .ref q9), (0, .ref (ad 5 0)), (1, .int x1), (2, .ref (ad 70 0))]) hx hb dL_issue_12 rfl hl (by decide) rfl (fun ls hl => ?_)
    refine lv_iconst (v := 1) hx hb dL_issue_13 (by decide) ?_
    refine W.widen (k := 1) (n := 6) (Nat.le_of_ble_eq_true rfl) (Nat.le_of_ble_eq_true rfl) ?_
    exact W.iret (v := 1) hx hb hr (fun t ht hW9 => ⟨⟨1, (), rfl, rfl, trivial⟩, hW.2.F ht⟩) hW.2.2.2 dL_issue_14
  · exact hw.elim

set_option maxHeartbeats 4000000 in
set_option maxRecDepth 100000 in
theorem w_L_refer (l : Launch) (hl0 : l.stackTraces = false) (D : va_G) (cA : Nat → ClassId) (z : Nat) (NL : List (Nat × Nat)) (ad : Nat → Nat → Nat) (ct : Nat → Nat → va_E) (x1 : Int32) (x2 : Int32) (x3 : Int32) (td : Int32) (hm5 : (5, 0) ∈ NL) (h5 : ct 5 0 = .inr (6, [.ref (ad 50 0), .ref (ad 51 0), .ref (ad 52 0), .ref (ad 53 0), .ref (ad 54 0), .ref (ad 55 0), .ref (ad 56 0), .int 0, .int 0, .int 0, .int 0, .int 0, .int td])) : Met l yL_refer wsL_refer ({ frames := 8, cells := 1, slots := 6, locals := 135 }) (pcPreT D vwCl (tyL cA) z [.ref (ad 5 0), .int x1, .int x2, .int x3, .ref (ad 70 0)] (fun H => va_P D vwCl (pcW NL ad ct) H)) (va_Qi (fun (r : Int32) (_ : Unit) => r = 1) (fun _ _ => True) (fun _ => False)) 1 6 (fun _ => False) := by
  refine va_MetW (hh := [(0, 12, 15, 21), (0, 12, 19, 13), (0, 12, 23, 15)]) (cc := cL_refer) (maxL := 6) (ret := (some .int)) (by decide) rfl ?_
  intro p e s m args below meth c s₁ B hml hv
  obtain ⟨rfl, hX, hT, ⟨hZ, hz⟩, hP0⟩ := hv
  have hx := B.exec
  have hb := B.bytes
  have hr := B.returns
  have hts := atoms_spec (ws := wsL_refer) B.pre
  have hown : s.vm.findClass RL = some m.cls := findClass_of_methodNamed B.named
  have hlocks := B.notSynchronized
  have htab := vx_table (x := yL_refer) B (hts _ List.mem_cons_self)
  have hW : pcQ D vwCl (fun _ => False) s.heap NL ad ct s.heap [] := ⟨hP0, va_S.rf⟩
  have hl := lv_entry ([.ref (ad 5 0), .int x1, .int x2, .int x3, .ref (ad 70 0)]) (n := 6) (Nat.le_of_ble_eq_true rfl)
  rw [lg_entry_eq]
  generalize (lg_sl ([.ref (ad 5 0), .int x1, .int x2, .int x3, .ref (ad 70 0)]) ++ List.replicate (6 - (lg_sl ([.ref (ad 5 0), .int x1, .int x2, .int x3, .ref (ad 70 0)])).length) Slot.unset).toArray = ls at hl ⊢
  have hl : lv_has ls 6 [(0, .ref (ad 5 0)), (1, .int x1), (2, .int x2), (3, .int x3), (4, .ref (ad 70 0))] := hl
  refine lv_aload hx hb dL_refer_0 (lv_at hl 4 rfl) ?_
  refine lv_iconst (v := 0) hx hb dL_refer_2 (by decide) ?_
  refine lv_aload_n hx hb dL_refer_3 rfl (lv_at hl 0 rfl) ?_
  refine lv_iload_n hx hb dL_refer_4 rfl (lv_at hl 1 rfl) ?_
  refine lv_iload_n hx hb dL_refer_5 rfl (lv_at hl 2 rfl) ?_
  refine lv_iload_n hx hb dL_refer_6 rfl (lv_at hl 3 rfl) ?_
  refine vx_calli (vx_runV (As := [.int x1, .int x2, .int x3]) (rest := [.int 0, .ref (ad 70 0)]) ⟨hx, hb, hml, hown, hts⟩ (t_X5_refer l hl0 D cA z NL ad ct x1 x2 x3 td hm5 h5) (cwV 3 hts gL_refer_X5_refer rfl rfl rfl (by decide +kernel) ⟨Nat.le_of_ble_eq_true rfl, Nat.le_of_ble_eq_true rfl⟩) (pcT_preV hX hT (pcZ_kept hZ (fun _ h => h.elim) hW.2) (Nat.le_trans hz hW.2.1) hW.1 hm5 h5 rfl hW.1) rfl rfl hl.1 rfl (lv_room (Nat.le_of_ble_eq_true rfl)) dL_refer_7 ⟨Nat.le_of_ble_eq_true rfl, Nat.le_of_ble_eq_true rfl⟩) hW.2 (fun _ _ h => h.elim) (fun _ h => h.elim) (fun _ _ h => h.elim) (fun E ce q9 _ t H1 locs1 ht hvm hpx hE _ hk9 hS9 hq9 hce hcl => ?_) (fun r9 _ t H locs ht hvm hw hB _ hk9 hS9 => ?_)
  · obtain rfl := hE
    have hW : pcQ D vwCl (fun _ => False) s.heap NL ad ct H1 locs1 := ⟨pcP_keep hW.1 (fun q hq => hk9 q hq id), hS9⟩
    refine vx_catch (own := RL) (name := "java/lang/IndexOutOfBoundsException") hown [] { startPc := 0, endPc := 12, handlerPc := 15, catchType := 21 } [{ startPc := 0, endPc := 12, handlerPc := 19, catchType := 13 }, { startPc := 0, endPc := 12, handlerPc := 23, catchType := 15 }] htab (fun z hz => nomatch hz) (by decide) (by decide) (hts (.classLink RL 21 "java/lang/IndexOutOfBoundsException") (by decide +kernel)) (va_Nw.use rfl (hT.1 _ (by decide +kernel))) hq9 hce hcl ?_
    refine lv_astore (lv' := [(5, .ref q9), (0, .ref (ad 5 0)), (1, .int x1), (2, .int x2), (3, .int x3), (4, .ref (ad 70 0))]) hx hb dL_refer_15 hl (by decide) rfl (fun ls hl => ?_)
    refine lv_iconst (v := 1) hx hb dL_refer_17 (by decide) ?_
    refine W.widen (k := 1) (n := 6) (Nat.le_of_ble_eq_true rfl) (Nat.le_of_ble_eq_true rfl) ?_
    exact W.iret (v := 1) hx hb hr (fun t ht hW9 => ⟨⟨1, (), rfl, rfl, trivial⟩, hW.2.F ht⟩) hW.2.2.2 dL_refer_18
  · exact hw.elim

set_option maxHeartbeats 4000000 in
set_option maxRecDepth 100000 in
theorem w_L_ofSheet (l : Launch) (hl0 : l.stackTraces = false) (D : va_G) (cA : Nat → ClassId) (z : Nat) (NL : List (Nat × Nat)) (ad : Nat → Nat → Nat) (ct : Nat → Nat → va_E) (x1 : Int32) (x2 : Int32) (td : Int32) (hm5 : (5, 0) ∈ NL) (h5 : ct 5 0 = .inr (6, [.ref (ad 50 0), .ref (ad 51 0), .ref (ad 52 0), .ref (ad 53 0), .ref (ad 54 0), .ref (ad 55 0), .ref (ad 56 0), .int 0, .int 0, .int 0, .int 0, .int 0, .int td])) : Met l yL_ofSheet wsL_ofSheet ({ frames := 8, cells := 1, slots := 6, locals := 134 }) (pcPreT D vwCl (tyL cA) z [.ref (ad 5 0), .int x1, .int x2, .ref (ad 70 0)] (fun H => va_P D vwCl (pcW NL ad ct) H)) (va_Qi (fun (r : Int32) (_ : Unit) => r = 1) (fun _ _ => True) (fun _ => False)) 1 6 (fun _ => False) := by
  refine va_MetW (hh := [(0, 10, 13, 21), (0, 10, 17, 13)]) (cc := cL_ofSheet) (maxL := 5) (ret := (some .int)) (by decide) rfl ?_
  intro p e s m args below meth c s₁ B hml hv
  obtain ⟨rfl, hX, hT, ⟨hZ, hz⟩, hP0⟩ := hv
  have hx := B.exec
  have hb := B.bytes
  have hr := B.returns
  have hts := atoms_spec (ws := wsL_ofSheet) B.pre
  have hown : s.vm.findClass RL = some m.cls := findClass_of_methodNamed B.named
  have hlocks := B.notSynchronized
  have htab := vx_table (x := yL_ofSheet) B (hts _ List.mem_cons_self)
  have hW : pcQ D vwCl (fun _ => False) s.heap NL ad ct s.heap [] := ⟨hP0, va_S.rf⟩
  have hl := lv_entry ([.ref (ad 5 0), .int x1, .int x2, .ref (ad 70 0)]) (n := 5) (Nat.le_of_ble_eq_true rfl)
  rw [lg_entry_eq]
  generalize (lg_sl ([.ref (ad 5 0), .int x1, .int x2, .ref (ad 70 0)]) ++ List.replicate (5 - (lg_sl ([.ref (ad 5 0), .int x1, .int x2, .ref (ad 70 0)])).length) Slot.unset).toArray = ls at hl ⊢
  have hl : lv_has ls 5 [(0, .ref (ad 5 0)), (1, .int x1), (2, .int x2), (3, .ref (ad 70 0))] := hl
  refine lv_aload_n hx hb dL_ofSheet_0 rfl (lv_at hl 3 rfl) ?_
  refine lv_iconst (v := 0) hx hb dL_ofSheet_1 (by decide) ?_
  refine lv_aload_n hx hb dL_ofSheet_2 rfl (lv_at hl 0 rfl) ?_
  refine lv_iload_n hx hb dL_ofSheet_3 rfl (lv_at hl 1 rfl) ?_
  refine lv_iload_n hx hb dL_ofSheet_4 rfl (lv_at hl 2 rfl) ?_
  refine vx_calli (vx_runV (As := [.int x1, .int x2]) (rest := [.int 0, .ref (ad 70 0)]) ⟨hx, hb, hml, hown, hts⟩ (t_X5_ofSheet l hl0 D cA z NL ad ct x1 x2 td hm5 h5) (cwV 2 hts gL_ofSheet_X5_ofSheet rfl rfl rfl (by decide +kernel) ⟨Nat.le_of_ble_eq_true rfl, Nat.le_of_ble_eq_true rfl⟩) (pcT_preV hX hT (pcZ_kept hZ (fun _ h => h.elim) hW.2) (Nat.le_trans hz hW.2.1) hW.1 hm5 h5 rfl hW.1) rfl rfl hl.1 rfl (lv_room (Nat.le_of_ble_eq_true rfl)) dL_ofSheet_5 ⟨Nat.le_of_ble_eq_true rfl, Nat.le_of_ble_eq_true rfl⟩) hW.2 (fun _ _ h => h.elim) (fun _ h => h.elim) (fun _ _ h => h.elim) (fun E ce q9 _ t H1 locs1 ht hvm hpx hE _ hk9 hS9 hq9 hce hcl => ?_) (fun r9 _ t H locs ht hvm hw hB _ hk9 hS9 => ?_)
  · obtain rfl := hE
    have hW : pcQ D vwCl (fun _ => False) s.heap NL ad ct H1 locs1 := ⟨pcP_keep hW.1 (fun q hq => hk9 q hq id), hS9⟩
    refine vx_catch (own := RL) (name := "java/lang/IndexOutOfBoundsException") hown [] { startPc := 0, endPc := 10, handlerPc := 13, catchType := 21 } [{ startPc := 0, endPc := 10, handlerPc := 17, catchType := 13 }] htab (fun z hz => nomatch hz) (by decide) (by decide) (hts (.classLink RL 21 "java/lang/IndexOutOfBoundsException") (by decide +kernel)) (va_Nw.use rfl (hT.1 _ (by decide +kernel))) hq9 hce hcl ?_
    refine lv_astore (lv' := [(4, .ref q9), (0, .ref (ad 5 0)), (1, .int x1), (2, .int x2), (3, .ref (ad 70 0))]) hx hb dL_ofSheet_13 hl (by decide) rfl (fun ls hl => ?_)
    refine lv_iconst (v := 1) hx hb dL_ofSheet_15 (by decide) ?_
    refine W.widen (k := 1) (n := 6) (Nat.le_of_ble_eq_true rfl) (Nat.le_of_ble_eq_true rfl) ?_
    exact W.iret (v := 1) hx hb hr (fun t ht hW9 => ⟨⟨1, (), rfl, rfl, trivial⟩, hW.2.F ht⟩) hW.2.2.2 dL_ofSheet_16
  · exact hw.elim

set_option maxHeartbeats 4000000 in
set_option maxRecDepth 100000 in
theorem w_L_status (l : Launch) (hl0 : l.stackTraces = false) (D : va_G) (cA : Nat → ClassId) (z : Nat) (NL : List (Nat × Nat)) (ad : Nat → Nat → Nat) (ct : Nat → Nat → va_E) (x1 : Int32) (x2 : Int32) (td : Int32) (hm5 : (5, 0) ∈ NL) (h5 : ct 5 0 = .inr (6, [.ref (ad 50 0), .ref (ad 51 0), .ref (ad 52 0), .ref (ad 53 0), .ref (ad 54 0), .ref (ad 55 0), .ref (ad 56 0), .int 0, .int 0, .int 0, .int 0, .int 0, .int td])) : Met l yL_status wsL_status ({ frames := 8, cells := 1, slots := 6, locals := 134 }) (pcPreT D vwCl (tyL cA) z [.ref (ad 5 0), .int x1, .int x2, .ref (ad 70 0)] (fun H => va_P D vwCl (pcW NL ad ct) H)) (va_Qi (fun (r : Int32) (_ : Unit) => r = 1) (fun _ _ => True) (fun _ => False)) 1 6 (fun _ => False) := by
  refine va_MetW (hh := [(0, 10, 13, 21)]) (cc := cL_status) (maxL := 5) (ret := (some .int)) (by decide) rfl ?_
  intro p e s m args below meth c s₁ B hml hv
  obtain ⟨rfl, hX, hT, ⟨hZ, hz⟩, hP0⟩ := hv
  have hx := B.exec
  have hb := B.bytes
  have hr := B.returns
  have hts := atoms_spec (ws := wsL_status) B.pre
  have hown : s.vm.findClass RL = some m.cls := findClass_of_methodNamed B.named
  have hlocks := B.notSynchronized
  have htab := vx_table (x := yL_status) B (hts _ List.mem_cons_self)
  have hW : pcQ D vwCl (fun _ => False) s.heap NL ad ct s.heap [] := ⟨hP0, va_S.rf⟩
  have hl := lv_entry ([.ref (ad 5 0), .int x1, .int x2, .ref (ad 70 0)]) (n := 5) (Nat.le_of_ble_eq_true rfl)
  rw [lg_entry_eq]
  generalize (lg_sl ([.ref (ad 5 0), .int x1, .int x2, .ref (ad 70 0)]) ++ List.replicate (5 - (lg_sl ([.ref (ad 5 0), .int x1, .int x2, .ref (ad 70 0)])).length) Slot.unset).toArray = ls at hl ⊢
  have hl : lv_has ls 5 [(0, .ref (ad 5 0)), (1, .int x1), (2, .int x2), (3, .ref (ad 70 0))] := hl
  refine lv_aload_n hx hb dL_status_0 rfl (lv_at hl 3 rfl) ?_
  refine lv_iconst (v := 0) hx hb dL_status_1 (by decide) ?_
  refine lv_aload_n hx hb dL_status_2 rfl (lv_at hl 0 rfl) ?_
  refine lv_iload_n hx hb dL_status_3 rfl (lv_at hl 1 rfl) ?_
  refine lv_iload_n hx hb dL_status_4 rfl (lv_at hl 2 rfl) ?_
  refine vx_calli (vx_runV (As := [.int x1, .int x2]) (rest := [.int 0, .ref (ad 70 0)]) ⟨hx, hb, hml, hown, hts⟩ (t_X5_status l hl0 D cA z NL ad ct x1 x2 td hm5 h5) (cwV 2 hts gL_status_X5_status rfl rfl rfl (by decide +kernel) ⟨Nat.le_of_ble_eq_true rfl, Nat.le_of_ble_eq_true rfl⟩) (pcT_preV hX hT (pcZ_kept hZ (fun _ h => h.elim) hW.2) (Nat.le_trans hz hW.2.1) hW.1 hm5 h5 rfl hW.1) rfl rfl hl.1 rfl (lv_room (Nat.le_of_ble_eq_true rfl)) dL_status_5 ⟨Nat.le_of_ble_eq_true rfl, Nat.le_of_ble_eq_true rfl⟩) hW.2 (fun _ _ h => h.elim) (fun _ h => h.elim) (fun _ _ h => h.elim) (fun E ce q9 _ t H1 locs1 ht hvm hpx hE _ hk9 hS9 hq9 hce hcl => ?_) (fun r9 _ t H locs ht hvm hw hB _ hk9 hS9 => ?_)
  · obtain rfl := hE
    have hW : pcQ D vwCl (fun _ => False) s.heap NL ad ct H1 locs1 := ⟨pcP_keep hW.1 (fun q hq => hk9 q hq id), hS9⟩
    refine vx_catch (own := RL) (name := "java/lang/IndexOutOfBoundsException") hown [] { startPc := 0, endPc := 10, handlerPc := 13, catchType := 21 } [] htab (fun z hz => nomatch hz) (by decide) (by decide) (hts (.classLink RL 21 "java/lang/IndexOutOfBoundsException") (by decide +kernel)) (va_Nw.use rfl (hT.1 _ (by decide +kernel))) hq9 hce hcl ?_
    refine lv_astore (lv' := [(4, .ref q9), (0, .ref (ad 5 0)), (1, .int x1), (2, .int x2), (3, .ref (ad 70 0))]) hx hb dL_status_13 hl (by decide) rfl (fun ls hl => ?_)
    refine lv_iconst (v := 1) hx hb dL_status_15 (by decide) ?_
    refine W.widen (k := 1) (n := 6) (Nat.le_of_ble_eq_true rfl) (Nat.le_of_ble_eq_true rfl) ?_
    exact W.iret (v := 1) hx hb hr (fun t ht hW9 => ⟨⟨1, (), rfl, rfl, trivial⟩, hW.2.F ht⟩) hW.2.2.2 dL_status_16
  · exact hw.elim

set_option maxHeartbeats 4000000 in
set_option maxRecDepth 100000 in
theorem w_L_query (l : Launch) (hl0 : l.stackTraces = false) (D : va_G) (cA : Nat → ClassId) (z : Nat) (NL : List (Nat × Nat)) (ad : Nat → Nat → Nat) (ct : Nat → Nat → va_E) (x1 : Int32) (x2 : Int32) (x3 : Int32) (x4 : Int32) (x5 : Int32) (td : Int32) (hm5 : (5, 0) ∈ NL) (h5 : ct 5 0 = .inr (6, [.ref (ad 50 0), .ref (ad 51 0), .ref (ad 52 0), .ref (ad 53 0), .ref (ad 54 0), .ref (ad 55 0), .ref (ad 56 0), .int 0, .int 0, .int 0, .int 0, .int 0, .int td])) : Met l yL_query wsL_query ({ frames := 8, cells := 1, slots := 6, locals := 137 }) (pcPreT D vwCl (tyL cA) z [.ref (ad 5 0), .int x1, .int x2, .int x3, .int x4, .int x5, .ref (ad 70 0)] (fun H => va_P D vwCl (pcW NL ad ct) H)) (va_Qi (fun (r : Int32) (_ : Unit) => r = 1) (fun _ _ => True) (fun _ => False)) 1 6 (fun _ => False) := by
  refine va_MetW (hh := [(0, 16, 19, 21), (0, 16, 23, 13), (0, 16, 27, 15)]) (cc := cL_query) (maxL := 8) (ret := (some .int)) (by decide) rfl ?_
  intro p e s m args below meth c s₁ B hml hv
  obtain ⟨rfl, hX, hT, ⟨hZ, hz⟩, hP0⟩ := hv
  have hx := B.exec
  have hb := B.bytes
  have hr := B.returns
  have hts := atoms_spec (ws := wsL_query) B.pre
  have hown : s.vm.findClass RL = some m.cls := findClass_of_methodNamed B.named
  have hlocks := B.notSynchronized
  have htab := vx_table (x := yL_query) B (hts _ List.mem_cons_self)
  have hW : pcQ D vwCl (fun _ => False) s.heap NL ad ct s.heap [] := ⟨hP0, va_S.rf⟩
  have hl := lv_entry ([.ref (ad 5 0), .int x1, .int x2, .int x3, .int x4, .int x5, .ref (ad 70 0)]) (n := 8) (Nat.le_of_ble_eq_true rfl)
  rw [lg_entry_eq]
  generalize (lg_sl ([.ref (ad 5 0), .int x1, .int x2, .int x3, .int x4, .int x5, .ref (ad 70 0)]) ++ List.replicate (8 - (lg_sl ([.ref (ad 5 0), .int x1, .int x2, .int x3, .int x4, .int x5, .ref (ad 70 0)])).length) Slot.unset).toArray = ls at hl ⊢
  have hl : lv_has ls 8 [(0, .ref (ad 5 0)), (1, .int x1), (2, .int x2), (3, .int x3), (4, .int x4), (5, .int x5), (6, .ref (ad 70 0))] := hl
  refine lv_aload hx hb dL_query_0 (lv_at hl 6 rfl) ?_
  refine lv_iconst (v := 0) hx hb dL_query_2 (by decide) ?_
  refine lv_aload_n hx hb dL_query_3 rfl (lv_at hl 0 rfl) ?_
  refine lv_iload_n hx hb dL_query_4 rfl (lv_at hl 1 rfl) ?_
  refine lv_iload_n hx hb dL_query_5 rfl (lv_at hl 2 rfl) ?_
  refine lv_iload_n hx hb dL_query_6 rfl (lv_at hl 3 rfl) ?_
  refine lv_iload hx hb dL_query_7 (lv_at hl 4 rfl) ?_
  refine lv_iload hx hb dL_query_9 (lv_at hl 5 rfl) ?_
  refine vx_calli (vx_runV (As := [.int x1, .int x2, .int x3, .int x4, .int x5]) (rest := [.int 0, .ref (ad 70 0)]) ⟨hx, hb, hml, hown, hts⟩ (t_X5_query l hl0 D cA z NL ad ct x1 x2 x3 x4 x5 td hm5 h5) (cwV 5 hts gL_query_X5_query rfl rfl rfl (by decide +kernel) ⟨Nat.le_of_ble_eq_true rfl, Nat.le_of_ble_eq_true rfl⟩) (pcT_preV hX hT (pcZ_kept hZ (fun _ h => h.elim) hW.2) (Nat.le_trans hz hW.2.1) hW.1 hm5 h5 rfl hW.1) rfl rfl hl.1 rfl (lv_room (Nat.le_of_ble_eq_true rfl)) dL_query_11 ⟨Nat.le_of_ble_eq_true rfl, Nat.le_of_ble_eq_true rfl⟩) hW.2 (fun _ _ h => h.elim) (fun _ h => h.elim) (fun _ _ h => h.elim) (fun E ce q9 _ t H1 locs1 ht hvm hpx hE _ hk9 hS9 hq9 hce hcl => ?_) (fun r9 _ t H locs ht hvm hw hB _ hk9 hS9 => ?_)
  · obtain rfl := hE
    have hW : pcQ D vwCl (fun _ => False) s.heap NL ad ct H1 locs1 := ⟨pcP_keep hW.1 (fun q hq => hk9 q hq id), hS9⟩
    refine vx_catch (own := RL) (name := "java/lang/IndexOutOfBoundsException") hown [] { startPc := 0, endPc := 16, handlerPc := 19, catchType := 21 } [{ startPc := 0, endPc := 16, handlerPc := 23, catchType := 13 }, { startPc := 0, endPc := 16, handlerPc := 27, catchType := 15 }] htab (fun z hz => nomatch hz) (by decide) (by decide) (hts (.classLink RL 21 "java/lang/IndexOutOfBoundsException") (by decide +kernel)) (va_Nw.use rfl (hT.1 _ (by decide +kernel))) hq9 hce hcl ?_
    refine lv_astore (lv' := [(7, .ref q9), (0, .ref (ad 5 0)), (1, .int x1), (2, .int x2), (3, .int x3), (4, .int x4), (5, .int x5), (6, .ref (ad 70 0))]) hx hb dL_query_19 hl (by decide) rfl (fun ls hl => ?_)
    refine lv_iconst (v := 1) hx hb dL_query_21 (by decide) ?_
    refine W.widen (k := 1) (n := 6) (Nat.le_of_ble_eq_true rfl) (Nat.le_of_ble_eq_true rfl) ?_
    exact W.iret (v := 1) hx hb hr (fun t ht hW9 => ⟨⟨1, (), rfl, rfl, trivial⟩, hW.2.F ht⟩) hW.2.2.2 dL_query_22
  · exact hw.elim

set_option maxHeartbeats 4000000 in
set_option maxRecDepth 100000 in
theorem w_L_clouds (l : Launch) (hl0 : l.stackTraces = false) (D : va_G) (cA : Nat → ClassId) (z : Nat) (NL : List (Nat × Nat)) (ad : Nat → Nat → Nat) (ct : Nat → Nat → va_E) (x1 : Int32) (x2 : Int32) (x3 : Int32) (td : Int32) (hm5 : (5, 0) ∈ NL) (h5 : ct 5 0 = .inr (6, [.ref (ad 50 0), .ref (ad 51 0), .ref (ad 52 0), .ref (ad 53 0), .ref (ad 54 0), .ref (ad 55 0), .ref (ad 56 0), .int 0, .int 0, .int 0, .int 0, .int 0, .int td])) : Met l yL_clouds wsL_clouds ({ frames := 8, cells := 1, slots := 6, locals := 134 }) (pcPreT D vwCl (tyL cA) z [.ref (ad 5 0), .int x1, .int x2, .int x3, .ref (ad 70 0)] (fun H => va_P D vwCl (pcW NL ad ct) H)) (va_Qi (fun (r : Int32) (_ : Unit) => r = 1) (fun _ _ => True) (fun _ => False)) 1 6 (fun _ => False) := by
  refine va_MetW (hh := [(0, 12, 15, 21), (0, 12, 19, 13)]) (cc := cL_clouds) (maxL := 6) (ret := (some .int)) (by decide) rfl ?_
  intro p e s m args below meth c s₁ B hml hv
  obtain ⟨rfl, hX, hT, ⟨hZ, hz⟩, hP0⟩ := hv
  have hx := B.exec
  have hb := B.bytes
  have hr := B.returns
  have hts := atoms_spec (ws := wsL_clouds) B.pre
  have hown : s.vm.findClass RL = some m.cls := findClass_of_methodNamed B.named
  have hlocks := B.notSynchronized
  have htab := vx_table (x := yL_clouds) B (hts _ List.mem_cons_self)
  have hW : pcQ D vwCl (fun _ => False) s.heap NL ad ct s.heap [] := ⟨hP0, va_S.rf⟩
  have hl := lv_entry ([.ref (ad 5 0), .int x1, .int x2, .int x3, .ref (ad 70 0)]) (n := 6) (Nat.le_of_ble_eq_true rfl)
  rw [lg_entry_eq]
  generalize (lg_sl ([.ref (ad 5 0), .int x1, .int x2, .int x3, .ref (ad 70 0)]) ++ List.replicate (6 - (lg_sl ([.ref (ad 5 0), .int x1, .int x2, .int x3, .ref (ad 70 0)])).length) Slot.unset).toArray = ls at hl ⊢
  have hl : lv_has ls 6 [(0, .ref (ad 5 0)), (1, .int x1), (2, .int x2), (3, .int x3), (4, .ref (ad 70 0))] := hl
  refine lv_aload hx hb dL_clouds_0 (lv_at hl 4 rfl) ?_
  refine lv_iconst (v := 0) hx hb dL_clouds_2 (by decide) ?_
  refine lv_aload_n hx hb dL_clouds_3 rfl (lv_at hl 0 rfl) ?_
  refine lv_iload_n hx hb dL_clouds_4 rfl (lv_at hl 1 rfl) ?_
  refine lv_iload_n hx hb dL_clouds_5 rfl (lv_at hl 2 rfl) ?_
  refine lv_iload_n hx hb dL_clouds_6 rfl (lv_at hl 3 rfl) ?_
  refine vx_calli (vx_runV (As := [.int x1, .int x2, .int x3]) (rest := [.int 0, .ref (ad 70 0)]) ⟨hx, hb, hml, hown, hts⟩ (t_X5_clouds l hl0 D cA z NL ad ct x1 x2 x3 td hm5 h5) (cwV 3 hts gL_clouds_X5_clouds rfl rfl rfl (by decide +kernel) ⟨Nat.le_of_ble_eq_true rfl, Nat.le_of_ble_eq_true rfl⟩) (pcT_preV hX hT (pcZ_kept hZ (fun _ h => h.elim) hW.2) (Nat.le_trans hz hW.2.1) hW.1 hm5 h5 rfl hW.1) rfl rfl hl.1 rfl (lv_room (Nat.le_of_ble_eq_true rfl)) dL_clouds_7 ⟨Nat.le_of_ble_eq_true rfl, Nat.le_of_ble_eq_true rfl⟩) hW.2 (fun _ _ h => h.elim) (fun _ h => h.elim) (fun _ _ h => h.elim) (fun E ce q9 _ t H1 locs1 ht hvm hpx hE _ hk9 hS9 hq9 hce hcl => ?_) (fun r9 _ t H locs ht hvm hw hB _ hk9 hS9 => ?_)
  · obtain rfl := hE
    have hW : pcQ D vwCl (fun _ => False) s.heap NL ad ct H1 locs1 := ⟨pcP_keep hW.1 (fun q hq => hk9 q hq id), hS9⟩
    refine vx_catch (own := RL) (name := "java/lang/IndexOutOfBoundsException") hown [] { startPc := 0, endPc := 12, handlerPc := 15, catchType := 21 } [{ startPc := 0, endPc := 12, handlerPc := 19, catchType := 13 }] htab (fun z hz => nomatch hz) (by decide) (by decide) (hts (.classLink RL 21 "java/lang/IndexOutOfBoundsException") (by decide +kernel)) (va_Nw.use rfl (hT.1 _ (by decide +kernel))) hq9 hce hcl ?_
    refine lv_astore (lv' := [(5, .ref q9), (0, .ref (ad 5 0)), (1, .int x1), (2, .int x2), (3, .int x3), (4, .ref (ad 70 0))]) hx hb dL_clouds_15 hl (by decide) rfl (fun ls hl => ?_)
    refine lv_iconst (v := 1) hx hb dL_clouds_17 (by decide) ?_
    refine W.widen (k := 1) (n := 6) (Nat.le_of_ble_eq_true rfl) (Nat.le_of_ble_eq_true rfl) ?_
    exact W.iret (v := 1) hx hb hr (fun t ht hW9 => ⟨⟨1, (), rfl, rfl, trivial⟩, hW.2.F ht⟩) hW.2.2.2 dL_clouds_18
  · exact hw.elim

set_option maxHeartbeats 4000000 in
set_option maxRecDepth 100000 in
theorem w_L_stoppedBy (l : Launch) (hl0 : l.stackTraces = false) (D : va_G) (cA : Nat → ClassId) (z : Nat) (NL : List (Nat × Nat)) (ad : Nat → Nat → Nat) (ct : Nat → Nat → va_E) (x1 : Int32) (td : Int32) (hm5 : (5, 0) ∈ NL) (h5 : ct 5 0 = .inr (6, [.ref (ad 50 0), .ref (ad 51 0), .ref (ad 52 0), .ref (ad 53 0), .ref (ad 54 0), .ref (ad 55 0), .ref (ad 56 0), .int 0, .int 0, .int 0, .int 0, .int 0, .int td])) : Met l yL_stoppedBy wsL_stoppedBy ({ frames := 8, cells := 1, slots := 6, locals := 135 }) (pcPreT D vwCl (tyL cA) z [.ref (ad 5 0), .int x1, .ref (ad 70 0)] (fun H => va_P D vwCl (pcW NL ad ct) H)) (va_Qi (fun (r : Int32) (_ : Unit) => r = 1) (fun _ _ => True) (fun _ => False)) 1 6 (fun _ => False) := by
  refine va_MetW (hh := [(0, 9, 12, 21)]) (cc := cL_stoppedBy) (maxL := 4) (ret := (some .int)) (by decide) rfl ?_
  intro p e s m args below meth c s₁ B hml hv
  obtain ⟨rfl, hX, hT, ⟨hZ, hz⟩, hP0⟩ := hv
  have hx := B.exec
  have hb := B.bytes
  have hr := B.returns
  have hts := atoms_spec (ws := wsL_stoppedBy) B.pre
  have hown : s.vm.findClass RL = some m.cls := findClass_of_methodNamed B.named
  have hlocks := B.notSynchronized
  have htab := vx_table (x := yL_stoppedBy) B (hts _ List.mem_cons_self)
  have hW : pcQ D vwCl (fun _ => False) s.heap NL ad ct s.heap [] := ⟨hP0, va_S.rf⟩
  have hl := lv_entry ([.ref (ad 5 0), .int x1, .ref (ad 70 0)]) (n := 4) (Nat.le_of_ble_eq_true rfl)
  rw [lg_entry_eq]
  generalize (lg_sl ([.ref (ad 5 0), .int x1, .ref (ad 70 0)]) ++ List.replicate (4 - (lg_sl ([.ref (ad 5 0), .int x1, .ref (ad 70 0)])).length) Slot.unset).toArray = ls at hl ⊢
  have hl : lv_has ls 4 [(0, .ref (ad 5 0)), (1, .int x1), (2, .ref (ad 70 0))] := hl
  refine lv_aload_n hx hb dL_stoppedBy_0 rfl (lv_at hl 2 rfl) ?_
  refine lv_iconst (v := 0) hx hb dL_stoppedBy_1 (by decide) ?_
  refine lv_aload_n hx hb dL_stoppedBy_2 rfl (lv_at hl 0 rfl) ?_
  refine lv_iload_n hx hb dL_stoppedBy_3 rfl (lv_at hl 1 rfl) ?_
  refine vx_calli (vx_runV (As := [.int x1]) (rest := [.int 0, .ref (ad 70 0)]) ⟨hx, hb, hml, hown, hts⟩ (t_X5_stoppedBy l hl0 D cA z NL ad ct x1 td hm5 h5) (cwV 1 hts gL_stoppedBy_X5_stoppedBy rfl rfl rfl (by decide +kernel) ⟨Nat.le_of_ble_eq_true rfl, Nat.le_of_ble_eq_true rfl⟩) (pcT_preV hX hT (pcZ_kept hZ (fun _ h => h.elim) hW.2) (Nat.le_trans hz hW.2.1) hW.1 hm5 h5 rfl hW.1) rfl rfl hl.1 rfl (lv_room (Nat.le_of_ble_eq_true rfl)) dL_stoppedBy_4 ⟨Nat.le_of_ble_eq_true rfl, Nat.le_of_ble_eq_true rfl⟩) hW.2 (fun _ _ h => h.elim) (fun _ h => h.elim) (fun _ _ h => h.elim) (fun E ce q9 _ t H1 locs1 ht hvm hpx hE _ hk9 hS9 hq9 hce hcl => ?_) (fun r9 _ t H locs ht hvm hw hB _ hk9 hS9 => ?_)
  · obtain rfl := hE
    have hW : pcQ D vwCl (fun _ => False) s.heap NL ad ct H1 locs1 := ⟨pcP_keep hW.1 (fun q hq => hk9 q hq id), hS9⟩
    refine vx_catch (own := RL) (name := "java/lang/IndexOutOfBoundsException") hown [] { startPc := 0, endPc := 9, handlerPc := 12, catchType := 21 } [] htab (fun z hz => nomatch hz) (by decide) (by decide) (hts (.classLink RL 21 "java/lang/IndexOutOfBoundsException") (by decide +kernel)) (va_Nw.use rfl (hT.1 _ (by decide +kernel))) hq9 hce hcl ?_
    refine lv_astore_n (lv' := [(3, .ref q9), (0, .ref (ad 5 0)), (1, .int x1), (2, .ref (ad 70 0))]) hx hb dL_stoppedBy_12 rfl hl (by decide) rfl (fun ls hl => ?_)
    refine lv_iconst (v := 1) hx hb dL_stoppedBy_13 (by decide) ?_
    refine W.widen (k := 1) (n := 6) (Nat.le_of_ble_eq_true rfl) (Nat.le_of_ble_eq_true rfl) ?_
    exact W.iret (v := 1) hx hb hr (fun t ht hW9 => ⟨⟨1, (), rfl, rfl, trivial⟩, hW.2.F ht⟩) hW.2.2.2 dL_stoppedBy_14
  · exact hw.elim

set_option maxHeartbeats 4000000 in
set_option maxRecDepth 100000 in
theorem w_L_clash (l : Launch) (hl0 : l.stackTraces = false) (D : va_G) (cA : Nat → ClassId) (z : Nat) (NL : List (Nat × Nat)) (ad : Nat → Nat → Nat) (ct : Nat → Nat → va_E) (x1 : Int32) (x2 : Int32) (td : Int32) (hm5 : (5, 0) ∈ NL) (h5 : ct 5 0 = .inr (6, [.ref (ad 50 0), .ref (ad 51 0), .ref (ad 52 0), .ref (ad 53 0), .ref (ad 54 0), .ref (ad 55 0), .ref (ad 56 0), .int 0, .int 0, .int 0, .int 0, .int 0, .int td])) : Met l yL_clash wsL_clash ({ frames := 9, cells := 1, slots := 6, locals := 155 }) (pcPreT D vwCl (tyL cA) z [.ref (ad 5 0), .int x1, .int x2, .ref (ad 70 0)] (fun H => va_P D vwCl (pcW NL ad ct) H)) (va_Qi (fun (r : Int32) (_ : Unit) => r = 1) (fun _ _ => True) (fun _ => False)) 1 6 (fun _ => False) := by
  refine va_MetW (hh := [(0, 10, 13, 21), (0, 10, 17, 13)]) (cc := cL_clash) (maxL := 5) (ret := (some .int)) (by decide) rfl ?_
  intro p e s m args below meth c s₁ B hml hv
  obtain ⟨rfl, hX, hT, ⟨hZ, hz⟩, hP0⟩ := hv
  have hx := B.exec
  have hb := B.bytes
  have hr := B.returns
  have hts := atoms_spec (ws := wsL_clash) B.pre
  have hown : s.vm.findClass RL = some m.cls := findClass_of_methodNamed B.named
  have hlocks := B.notSynchronized
  have htab := vx_table (x := yL_clash) B (hts _ List.mem_cons_self)
  have hW : pcQ D vwCl (fun _ => False) s.heap NL ad ct s.heap [] := ⟨hP0, va_S.rf⟩
  have hl := lv_entry ([.ref (ad 5 0), .int x1, .int x2, .ref (ad 70 0)]) (n := 5) (Nat.le_of_ble_eq_true rfl)
  rw [lg_entry_eq]
  generalize (lg_sl ([.ref (ad 5 0), .int x1, .int x2, .ref (ad 70 0)]) ++ List.replicate (5 - (lg_sl ([.ref (ad 5 0), .int x1, .int x2, .ref (ad 70 0)])).length) Slot.unset).toArray = ls at hl ⊢
  have hl : lv_has ls 5 [(0, .ref (ad 5 0)), (1, .int x1), (2, .int x2), (3, .ref (ad 70 0))] := hl
  refine lv_aload_n hx hb dL_clash_0 rfl (lv_at hl 3 rfl) ?_
  refine lv_iconst (v := 0) hx hb dL_clash_1 (by decide) ?_
  refine lv_aload_n hx hb dL_clash_2 rfl (lv_at hl 0 rfl) ?_
  refine lv_iload_n hx hb dL_clash_3 rfl (lv_at hl 1 rfl) ?_
  refine lv_iload_n hx hb dL_clash_4 rfl (lv_at hl 2 rfl) ?_
  refine vx_calli (vx_runV (As := [.int x1, .int x2]) (rest := [.int 0, .ref (ad 70 0)]) ⟨hx, hb, hml, hown, hts⟩ (t_X5_clash l hl0 D cA z NL ad ct x1 x2 td hm5 h5) (cwV 2 hts gL_clash_X5_clash rfl rfl rfl (by decide +kernel) ⟨Nat.le_of_ble_eq_true rfl, Nat.le_of_ble_eq_true rfl⟩) (pcT_preV hX hT (pcZ_kept hZ (fun _ h => h.elim) hW.2) (Nat.le_trans hz hW.2.1) hW.1 hm5 h5 rfl hW.1) rfl rfl hl.1 rfl (lv_room (Nat.le_of_ble_eq_true rfl)) dL_clash_5 ⟨Nat.le_of_ble_eq_true rfl, Nat.le_of_ble_eq_true rfl⟩) hW.2 (fun _ _ h => h.elim) (fun _ h => h.elim) (fun _ _ h => h.elim) (fun E ce q9 _ t H1 locs1 ht hvm hpx hE _ hk9 hS9 hq9 hce hcl => ?_) (fun r9 _ t H locs ht hvm hw hB _ hk9 hS9 => ?_)
  · obtain rfl := hE
    have hW : pcQ D vwCl (fun _ => False) s.heap NL ad ct H1 locs1 := ⟨pcP_keep hW.1 (fun q hq => hk9 q hq id), hS9⟩
    refine vx_catch (own := RL) (name := "java/lang/IndexOutOfBoundsException") hown [] { startPc := 0, endPc := 10, handlerPc := 13, catchType := 21 } [{ startPc := 0, endPc := 10, handlerPc := 17, catchType := 13 }] htab (fun z hz => nomatch hz) (by decide) (by decide) (hts (.classLink RL 21 "java/lang/IndexOutOfBoundsException") (by decide +kernel)) (va_Nw.use rfl (hT.1 _ (by decide +kernel))) hq9 hce hcl ?_
    refine lv_astore (lv' := [(4, .ref q9), (0, .ref (ad 5 0)), (1, .int x1), (2, .int x2), (3, .ref (ad 70 0))]) hx hb dL_clash_13 hl (by decide) rfl (fun ls hl => ?_)
    refine lv_iconst (v := 1) hx hb dL_clash_15 (by decide) ?_
    refine W.widen (k := 1) (n := 6) (Nat.le_of_ble_eq_true rfl) (Nat.le_of_ble_eq_true rfl) ?_
    exact W.iret (v := 1) hx hb hr (fun t ht hW9 => ⟨⟨1, (), rfl, rfl, trivial⟩, hW.2.F ht⟩) hW.2.2.2 dL_clash_16
  · exact hw.elim

set_option maxHeartbeats 4000000 in
set_option maxRecDepth 100000 in
theorem w_L_excuse (l : Launch) (hl0 : l.stackTraces = false) (D : va_G) (cA : Nat → ClassId) (z : Nat) (NL : List (Nat × Nat)) (ad : Nat → Nat → Nat) (ct : Nat → Nat → va_E) (x1 : Int32) (x2 : Int32) (td : Int32) (hm5 : (5, 0) ∈ NL) (h5 : ct 5 0 = .inr (6, [.ref (ad 50 0), .ref (ad 51 0), .ref (ad 52 0), .ref (ad 53 0), .ref (ad 54 0), .ref (ad 55 0), .ref (ad 56 0), .int 0, .int 0, .int 0, .int 0, .int 0, .int td])) : Met l yL_excuse wsL_excuse ({ frames := 9, cells := 1, slots := 6, locals := 155 }) (pcPreT D vwCl (tyL cA) z [.ref (ad 5 0), .int x1, .int x2, .ref (ad 70 0)] (fun H => va_P D vwCl (pcW NL ad ct) H)) (va_Qi (fun (r : Int32) (_ : Unit) => r = 1) (fun _ _ => True) (fun _ => False)) 1 6 (fun _ => False) := by
  refine va_MetW (hh := [(0, 17, 20, 21), (0, 17, 24, 13)]) (cc := cL_excuse) (maxL := 5) (ret := (some .int)) (by decide) rfl ?_
  intro p e s m args below meth c s₁ B hml hv
  obtain ⟨rfl, hX, hT, ⟨hZ, hz⟩, hP0⟩ := hv
  have hx := B.exec
  have hb := B.bytes
  have hr := B.returns
  have hts := atoms_spec (ws := wsL_excuse) B.pre
  have hown : s.vm.findClass RL = some m.cls := findClass_of_methodNamed B.named
  have hlocks := B.notSynchronized
  have htab := vx_table (x := yL_excuse) B (hts _ List.mem_cons_self)
  have hW : pcQ D vwCl (fun _ => False) s.heap NL ad ct s.heap [] := ⟨hP0, va_S.rf⟩
  have hl := lv_entry ([.ref (ad 5 0), .int x1, .int x2, .ref (ad 70 0)]) (n := 5) (Nat.le_of_ble_eq_true rfl)
  rw [lg_entry_eq]
  generalize (lg_sl ([.ref (ad 5 0), .int x1, .int x2, .ref (ad 70 0)]) ++ List.replicate (5 - (lg_sl ([.ref (ad 5 0), .int x1, .int x2, .ref (ad 70 0)])).length) Slot.unset).toArray = ls at hl ⊢
  have hl : lv_has ls 5 [(0, .ref (ad 5 0)), (1, .int x1), (2, .int x2), (3, .ref (ad 70 0))] := hl
  refine lv_aload_n hx hb dL_excuse_0 rfl (lv_at hl 3 rfl) ?_
  refine lv_iconst (v := 0) hx hb dL_excuse_1 (by decide) ?_
  refine lv_aload_n hx hb dL_excuse_2 rfl (lv_at hl 0 rfl) ?_
  refine lv_iload_n hx hb dL_excuse_3 rfl (lv_at hl 1 rfl) ?_
  refine lv_iload_n hx hb dL_excuse_4 rfl (lv_at hl 2 rfl) ?_
  refine vx_calli (vx_runV (As := [.int x1, .int x2]) (rest := [.int 0, .ref (ad 70 0)]) ⟨hx, hb, hml, hown, hts⟩ (t_X5_excuse l hl0 D cA z NL ad ct x1 x2 td hm5 h5) (cwV 2 hts gL_excuse_X5_excuse rfl rfl rfl (by decide +kernel) ⟨Nat.le_of_ble_eq_true rfl, Nat.le_of_ble_eq_true rfl⟩) (pcT_preV hX hT (pcZ_kept hZ (fun _ h => h.elim) hW.2) (Nat.le_trans hz hW.2.1) hW.1 hm5 h5 rfl hW.1) rfl rfl hl.1 rfl (lv_room (Nat.le_of_ble_eq_true rfl)) dL_excuse_5 ⟨Nat.le_of_ble_eq_true rfl, Nat.le_of_ble_eq_true rfl⟩) hW.2 (fun _ _ h => h.elim) (fun _ h => h.elim) (fun _ _ h => h.elim) (fun E ce q9 _ t H1 locs1 ht hvm hpx hE _ hk9 hS9 hq9 hce hcl => ?_) (fun r9 _ t H locs ht hvm hw hB _ hk9 hS9 => ?_)
  · obtain rfl := hE
    have hW : pcQ D vwCl (fun _ => False) s.heap NL ad ct H1 locs1 := ⟨pcP_keep hW.1 (fun q hq => hk9 q hq id), hS9⟩
    refine vx_catch (own := RL) (name := "java/lang/IndexOutOfBoundsException") hown [] { startPc := 0, endPc := 17, handlerPc := 20, catchType := 21 } [{ startPc := 0, endPc := 17, handlerPc := 24, catchType := 13 }] htab (fun z hz => nomatch hz) (by decide) (by decide) (hts (.classLink RL 21 "java/lang/IndexOutOfBoundsException") (by decide +kernel)) (va_Nw.use rfl (hT.1 _ (by decide +kernel))) hq9 hce hcl ?_
    refine lv_astore (lv' := [(4, .ref q9), (0, .ref (ad 5 0)), (1, .int x1), (2, .int x2), (3, .ref (ad 70 0))]) hx hb dL_excuse_20 hl (by decide) rfl (fun ls hl => ?_)
    refine lv_iconst (v := 1) hx hb dL_excuse_22 (by decide) ?_
    refine W.widen (k := 1) (n := 6) (Nat.le_of_ble_eq_true rfl) (Nat.le_of_ble_eq_true rfl) ?_
    exact W.iret (v := 1) hx hb hr (fun t ht hW9 => ⟨⟨1, (), rfl, rfl, trivial⟩, hW.2.F ht⟩) hW.2.2.2 dL_excuse_23
  · exact hw.elim

set_option maxHeartbeats 4000000 in
set_option maxRecDepth 100000 in
theorem w_L_answer (l : Launch) (hl0 : l.stackTraces = false) (D : va_G) (cA : Nat → ClassId) (z : Nat) (NL : List (Nat × Nat)) (ad : Nat → Nat → Nat) (ct : Nat → Nat → va_E) (x1 : Int32) (x2 : Int32) (td : Int32) (hm5 : (5, 0) ∈ NL) (h5 : ct 5 0 = .inr (6, [.ref (ad 50 0), .ref (ad 51 0), .ref (ad 52 0), .ref (ad 53 0), .ref (ad 54 0), .ref (ad 55 0), .ref (ad 56 0), .int 0, .int 0, .int 0, .int 0, .int 0, .int td])) : Met l yL_answer wsL_answer ({ frames := 8, cells := 1, slots := 6, locals := 134 }) (pcPreT D vwCl (tyL cA) z [.ref (ad 5 0), .int x1, .int x2, .ref (ad 70 0)] (fun H => va_P D vwCl (pcW NL ad ct) H)) (va_Qi (fun (r : Int32) (_ : Unit) => r = 1) (fun _ _ => True) (fun _ => False)) 1 6 (fun _ => False) := by
  refine va_MetW (hh := [(0, 10, 13, 21), (0, 10, 17, 15)]) (cc := cL_answer) (maxL := 5) (ret := (some .int)) (by decide) rfl ?_
  intro p e s m args below meth c s₁ B hml hv
  obtain ⟨rfl, hX, hT, ⟨hZ, hz⟩, hP0⟩ := hv
  have hx := B.exec
  have hb := B.bytes
  have hr := B.returns
  have hts := atoms_spec (ws := wsL_answer) B.pre
  have hown : s.vm.findClass RL = some m.cls := findClass_of_methodNamed B.named
  have hlocks := B.notSynchronized
  have htab := vx_table (x := yL_answer) B (hts _ List.mem_cons_self)
  have hW : pcQ D vwCl (fun _ => False) s.heap NL ad ct s.heap [] := ⟨hP0, va_S.rf⟩
  have hl := lv_entry ([.ref (ad 5 0), .int x1, .int x2, .ref (ad 70 0)]) (n := 5) (Nat.le_of_ble_eq_true rfl)
  rw [lg_entry_eq]
  generalize (lg_sl ([.ref (ad 5 0), .int x1, .int x2, .ref (ad 70 0)]) ++ List.replicate (5 - (lg_sl ([.ref (ad 5 0), .int x1, .int x2, .ref (ad 70 0)])).length) Slot.unset).toArray = ls at hl ⊢
  have hl : lv_has ls 5 [(0, .ref (ad 5 0)), (1, .int x1), (2, .int x2), (3, .ref (ad 70 0))] := hl
  refine lv_aload_n hx hb dL_answer_0 rfl (lv_at hl 3 rfl) ?_
  refine lv_iconst (v := 0) hx hb dL_answer_1 (by decide) ?_
  refine lv_aload_n hx hb dL_answer_2 rfl (lv_at hl 0 rfl) ?_
  refine lv_iload_n hx hb dL_answer_3 rfl (lv_at hl 1 rfl) ?_
  refine lv_iload_n hx hb dL_answer_4 rfl (lv_at hl 2 rfl) ?_
  refine vx_calli (vx_runV (As := [.int x1, .int x2]) (rest := [.int 0, .ref (ad 70 0)]) ⟨hx, hb, hml, hown, hts⟩ (t_X5_answer l hl0 D cA z NL ad ct x1 x2 td hm5 h5) (cwV 2 hts gL_answer_X5_answer rfl rfl rfl (by decide +kernel) ⟨Nat.le_of_ble_eq_true rfl, Nat.le_of_ble_eq_true rfl⟩) (pcT_preV hX hT (pcZ_kept hZ (fun _ h => h.elim) hW.2) (Nat.le_trans hz hW.2.1) hW.1 hm5 h5 rfl hW.1) rfl rfl hl.1 rfl (lv_room (Nat.le_of_ble_eq_true rfl)) dL_answer_5 ⟨Nat.le_of_ble_eq_true rfl, Nat.le_of_ble_eq_true rfl⟩) hW.2 (fun _ _ h => h.elim) (fun _ h => h.elim) (fun _ _ h => h.elim) (fun E ce q9 _ t H1 locs1 ht hvm hpx hE _ hk9 hS9 hq9 hce hcl => ?_) (fun r9 _ t H locs ht hvm hw hB _ hk9 hS9 => ?_)
  · obtain rfl := hE
    have hW : pcQ D vwCl (fun _ => False) s.heap NL ad ct H1 locs1 := ⟨pcP_keep hW.1 (fun q hq => hk9 q hq id), hS9⟩
    refine vx_catch (own := RL) (name := "java/lang/IndexOutOfBoundsException") hown [] { startPc := 0, endPc := 10, handlerPc := 13, catchType := 21 } [{ startPc := 0, endPc := 10, handlerPc := 17, catchType := 15 }] htab (fun z hz => nomatch hz) (by decide) (by decide) (hts (.classLink RL 21 "java/lang/IndexOutOfBoundsException") (by decide +kernel)) (va_Nw.use rfl (hT.1 _ (by decide +kernel))) hq9 hce hcl ?_
    refine lv_astore (lv' := [(4, .ref q9), (0, .ref (ad 5 0)), (1, .int x1), (2, .int x2), (3, .ref (ad 70 0))]) hx hb dL_answer_13 hl (by decide) rfl (fun ls hl => ?_)
    refine lv_iconst (v := 1) hx hb dL_answer_15 (by decide) ?_
    refine W.widen (k := 1) (n := 6) (Nat.le_of_ble_eq_true rfl) (Nat.le_of_ble_eq_true rfl) ?_
    exact W.iret (v := 1) hx hb hr (fun t ht hW9 => ⟨⟨1, (), rfl, rfl, trivial⟩, hW.2.F ht⟩) hW.2.2.2 dL_answer_16
  · exact hw.elim

set_option maxHeartbeats 4000000 in
set_option maxRecDepth 100000 in
theorem w_L_ofQuery (l : Launch) (hl0 : l.stackTraces = false) (D : va_G) (cA : Nat → ClassId) (z : Nat) (NL : List (Nat × Nat)) (ad : Nat → Nat → Nat) (ct : Nat → Nat → va_E) (x1 : Int32) (td : Int32) (hm5 : (5, 0) ∈ NL) (h5 : ct 5 0 = .inr (6, [.ref (ad 50 0), .ref (ad 51 0), .ref (ad 52 0), .ref (ad 53 0), .ref (ad 54 0), .ref (ad 55 0), .ref (ad 56 0), .int 0, .int 0, .int 0, .int 0, .int 0, .int td])) : Met l yL_ofQuery wsL_ofQuery ({ frames := 8, cells := 1, slots := 6, locals := 132 }) (pcPreT D vwCl (tyL cA) z [.ref (ad 5 0), .int x1, .ref (ad 70 0)] (fun H => va_P D vwCl (pcW NL ad ct) H)) (va_Qi (fun (r : Int32) (_ : Unit) => r = 1) (fun _ _ => True) (fun _ => False)) 1 6 (fun _ => False) := by
  refine va_MetW (hh := [(0, 9, 12, 21)]) (cc := cL_ofQuery) (maxL := 4) (ret := (some .int)) (by decide) rfl ?_
  intro p e s m args below meth c s₁ B hml hv
  obtain ⟨rfl, hX, hT, ⟨hZ, hz⟩, hP0⟩ := hv
  have hx := B.exec
  have hb := B.bytes
  have hr := B.returns
  have hts := atoms_spec (ws := wsL_ofQuery) B.pre
  have hown : s.vm.findClass RL = some m.cls := findClass_of_methodNamed B.named
  have hlocks := B.notSynchronized
  have htab := vx_table (x := yL_ofQuery) B (hts _ List.mem_cons_self)
  have hW : pcQ D vwCl (fun _ => False) s.heap NL ad ct s.heap [] := ⟨hP0, va_S.rf⟩
  have hl := lv_entry ([.ref (ad 5 0), .int x1, .ref (ad 70 0)]) (n := 4) (Nat.le_of_ble_eq_true rfl)
  rw [lg_entry_eq]
  generalize (lg_sl ([.ref (ad 5 0), .int x1, .ref (ad 70 0)]) ++ List.replicate (4 - (lg_sl ([.ref (ad 5 0), .int x1, .ref (ad 70 0)])).length) Slot.unset).toArray = ls at hl ⊢
  have hl : lv_has ls 4 [(0, .ref (ad 5 0)), (1, .int x1), (2, .ref (ad 70 0))] := hl
  refine lv_aload_n hx hb dL_ofQuery_0 rfl (lv_at hl 2 rfl) ?_
  refine lv_iconst (v := 0) hx hb dL_ofQuery_1 (by decide) ?_
  refine lv_aload_n hx hb dL_ofQuery_2 rfl (lv_at hl 0 rfl) ?_
  refine lv_iload_n hx hb dL_ofQuery_3 rfl (lv_at hl 1 rfl) ?_
  refine vx_calli (vx_runV (As := [.int x1]) (rest := [.int 0, .ref (ad 70 0)]) ⟨hx, hb, hml, hown, hts⟩ (t_X5_ofQuery l hl0 D cA z NL ad ct x1 td hm5 h5) (cwV 1 hts gL_ofQuery_X5_ofQuery rfl rfl rfl (by decide +kernel) ⟨Nat.le_of_ble_eq_true rfl, Nat.le_of_ble_eq_true rfl⟩) (pcT_preV hX hT (pcZ_kept hZ (fun _ h => h.elim) hW.2) (Nat.le_trans hz hW.2.1) hW.1 hm5 h5 rfl hW.1) rfl rfl hl.1 rfl (lv_room (Nat.le_of_ble_eq_true rfl)) dL_ofQuery_4 ⟨Nat.le_of_ble_eq_true rfl, Nat.le_of_ble_eq_true rfl⟩) hW.2 (fun _ _ h => h.elim) (fun _ h => h.elim) (fun _ _ h => h.elim) (fun E ce q9 _ t H1 locs1 ht hvm hpx hE _ hk9 hS9 hq9 hce hcl => ?_) (fun r9 _ t H locs ht hvm hw hB _ hk9 hS9 => ?_)
  · obtain rfl := hE
    have hW : pcQ D vwCl (fun _ => False) s.heap NL ad ct H1 locs1 := ⟨pcP_keep hW.1 (fun q hq => hk9 q hq id), hS9⟩
    refine vx_catch (own := RL) (name := "java/lang/IndexOutOfBoundsException") hown [] { startPc := 0, endPc := 9, handlerPc := 12, catchType := 21 } [] htab (fun z hz => nomatch hz) (by decide) (by decide) (hts (.classLink RL 21 "java/lang/IndexOutOfBoundsException") (by decide +kernel)) (va_Nw.use rfl (hT.1 _ (by decide +kernel))) hq9 hce hcl ?_
    refine lv_astore_n (lv' := [(3, .ref q9), (0, .ref (ad 5 0)), (1, .int x1), (2, .ref (ad 70 0))]) hx hb dL_ofQuery_12 rfl hl (by decide) rfl (fun ls hl => ?_)
    refine lv_iconst (v := 1) hx hb dL_ofQuery_13 (by decide) ?_
    refine W.widen (k := 1) (n := 6) (Nat.le_of_ble_eq_true rfl) (Nat.le_of_ble_eq_true rfl) ?_
    exact W.iret (v := 1) hx hb hr (fun t ht hW9 => ⟨⟨1, (), rfl, rfl, trivial⟩, hW.2.F ht⟩) hW.2.2.2 dL_ofQuery_14
  · exact hw.elim

set_option maxHeartbeats 4000000 in
set_option maxRecDepth 100000 in
theorem w_L_freedBy (l : Launch) (hl0 : l.stackTraces = false) (D : va_G) (cA : Nat → ClassId) (z : Nat) (NL : List (Nat × Nat)) (ad : Nat → Nat → Nat) (ct : Nat → Nat → va_E) (x1 : Int32) (td : Int32) (hm5 : (5, 0) ∈ NL) (h5 : ct 5 0 = .inr (6, [.ref (ad 50 0), .ref (ad 51 0), .ref (ad 52 0), .ref (ad 53 0), .ref (ad 54 0), .ref (ad 55 0), .ref (ad 56 0), .int 0, .int 0, .int 0, .int 0, .int 0, .int td])) : Met l yL_freedBy wsL_freedBy ({ frames := 8, cells := 1, slots := 6, locals := 136 }) (pcPreT D vwCl (tyL cA) z [.ref (ad 5 0), .int x1, .ref (ad 70 0)] (fun H => va_P D vwCl (pcW NL ad ct) H)) (va_Qi (fun (r : Int32) (_ : Unit) => r = 1) (fun _ _ => True) (fun _ => False)) 1 6 (fun _ => False) := by
  refine va_MetW (hh := [(0, 9, 12, 21)]) (cc := cL_freedBy) (maxL := 4) (ret := (some .int)) (by decide) rfl ?_
  intro p e s m args below meth c s₁ B hml hv
  obtain ⟨rfl, hX, hT, ⟨hZ, hz⟩, hP0⟩ := hv
  have hx := B.exec
  have hb := B.bytes
  have hr := B.returns
  have hts := atoms_spec (ws := wsL_freedBy) B.pre
  have hown : s.vm.findClass RL = some m.cls := findClass_of_methodNamed B.named
  have hlocks := B.notSynchronized
  have htab := vx_table (x := yL_freedBy) B (hts _ List.mem_cons_self)
  have hW : pcQ D vwCl (fun _ => False) s.heap NL ad ct s.heap [] := ⟨hP0, va_S.rf⟩
  have hl := lv_entry ([.ref (ad 5 0), .int x1, .ref (ad 70 0)]) (n := 4) (Nat.le_of_ble_eq_true rfl)
  rw [lg_entry_eq]
  generalize (lg_sl ([.ref (ad 5 0), .int x1, .ref (ad 70 0)]) ++ List.replicate (4 - (lg_sl ([.ref (ad 5 0), .int x1, .ref (ad 70 0)])).length) Slot.unset).toArray = ls at hl ⊢
  have hl : lv_has ls 4 [(0, .ref (ad 5 0)), (1, .int x1), (2, .ref (ad 70 0))] := hl
  refine lv_aload_n hx hb dL_freedBy_0 rfl (lv_at hl 2 rfl) ?_
  refine lv_iconst (v := 0) hx hb dL_freedBy_1 (by decide) ?_
  refine lv_aload_n hx hb dL_freedBy_2 rfl (lv_at hl 0 rfl) ?_
  refine lv_iload_n hx hb dL_freedBy_3 rfl (lv_at hl 1 rfl) ?_
  refine vx_calli (vx_runV (As := [.int x1]) (rest := [.int 0, .ref (ad 70 0)]) ⟨hx, hb, hml, hown, hts⟩ (t_X5_freedBy l hl0 D cA z NL ad ct x1 td hm5 h5) (cwV 1 hts gL_freedBy_X5_freedBy rfl rfl rfl (by decide +kernel) ⟨Nat.le_of_ble_eq_true rfl, Nat.le_of_ble_eq_true rfl⟩) (pcT_preV hX hT (pcZ_kept hZ (fun _ h => h.elim) hW.2) (Nat.le_trans hz hW.2.1) hW.1 hm5 h5 rfl hW.1) rfl rfl hl.1 rfl (lv_room (Nat.le_of_ble_eq_true rfl)) dL_freedBy_4 ⟨Nat.le_of_ble_eq_true rfl, Nat.le_of_ble_eq_true rfl⟩) hW.2 (fun _ _ h => h.elim) (fun _ h => h.elim) (fun _ _ h => h.elim) (fun E ce q9 _ t H1 locs1 ht hvm hpx hE _ hk9 hS9 hq9 hce hcl => ?_) (fun r9 _ t H locs ht hvm hw hB _ hk9 hS9 => ?_)
  · obtain rfl := hE
    have hW : pcQ D vwCl (fun _ => False) s.heap NL ad ct H1 locs1 := ⟨pcP_keep hW.1 (fun q hq => hk9 q hq id), hS9⟩
    refine vx_catch (own := RL) (name := "java/lang/IndexOutOfBoundsException") hown [] { startPc := 0, endPc := 9, handlerPc := 12, catchType := 21 } [] htab (fun z hz => nomatch hz) (by decide) (by decide) (hts (.classLink RL 21 "java/lang/IndexOutOfBoundsException") (by decide +kernel)) (va_Nw.use rfl (hT.1 _ (by decide +kernel))) hq9 hce hcl ?_
    refine lv_astore_n (lv' := [(3, .ref q9), (0, .ref (ad 5 0)), (1, .int x1), (2, .ref (ad 70 0))]) hx hb dL_freedBy_12 rfl hl (by decide) rfl (fun ls hl => ?_)
    refine lv_iconst (v := 1) hx hb dL_freedBy_13 (by decide) ?_
    refine W.widen (k := 1) (n := 6) (Nat.le_of_ble_eq_true rfl) (Nat.le_of_ble_eq_true rfl) ?_
    exact W.iret (v := 1) hx hb hr (fun t ht hW9 => ⟨⟨1, (), rfl, rfl, trivial⟩, hW.2.F ht⟩) hW.2.2.2 dL_freedBy_14
  · exact hw.elim

set_option maxHeartbeats 4000000 in
set_option maxRecDepth 100000 in
theorem w_L_place (l : Launch) (hl0 : l.stackTraces = false) (D : va_G) (cA : Nat → ClassId) (z : Nat) (NL : List (Nat × Nat)) (ad : Nat → Nat → Nat) (ct : Nat → Nat → va_E) (x1 : Int32) (x2 : Int32) (x3 : Int32) (x4 : Int32) (x5 : Int32) (td : Int32) (hm5 : (5, 0) ∈ NL) (h5 : ct 5 0 = .inr (6, [.ref (ad 50 0), .ref (ad 51 0), .ref (ad 52 0), .ref (ad 53 0), .ref (ad 54 0), .ref (ad 55 0), .ref (ad 56 0), .int 0, .int 0, .int 0, .int 0, .int 0, .int td])) : Met l yL_place wsL_place ({ frames := 8, cells := 1, slots := 6, locals := 137 }) (pcPreT D vwCl (tyL cA) z [.ref (ad 5 0), .int x1, .int x2, .int x3, .int x4, .int x5, .ref (ad 70 0)] (fun H => va_P D vwCl (pcW NL ad ct) H)) (va_Qi (fun (r : Int32) (_ : Unit) => r = 1) (fun _ _ => True) (fun _ => False)) 1 6 (fun _ => False) := by
  refine va_MetW (hh := [(0, 16, 19, 21), (0, 16, 23, 13), (0, 16, 27, 15)]) (cc := cL_place) (maxL := 8) (ret := (some .int)) (by decide) rfl ?_
  intro p e s m args below meth c s₁ B hml hv
  obtain ⟨rfl, hX, hT, ⟨hZ, hz⟩, hP0⟩ := hv
  have hx := B.exec
  have hb := B.bytes
  have hr := B.returns
  have hts := atoms_spec (ws := wsL_place) B.pre
  have hown : s.vm.findClass RL = some m.cls := findClass_of_methodNamed B.named
  have hlocks := B.notSynchronized
  have htab := vx_table (x := yL_place) B (hts _ List.mem_cons_self)
  have hW : pcQ D vwCl (fun _ => False) s.heap NL ad ct s.heap [] := ⟨hP0, va_S.rf⟩
  have hl := lv_entry ([.ref (ad 5 0), .int x1, .int x2, .int x3, .int x4, .int x5, .ref (ad 70 0)]) (n := 8) (Nat.le_of_ble_eq_true rfl)
  rw [lg_entry_eq]
  generalize (lg_sl ([.ref (ad 5 0), .int x1, .int x2, .int x3, .int x4, .int x5, .ref (ad 70 0)]) ++ List.replicate (8 - (lg_sl ([.ref (ad 5 0), .int x1, .int x2, .int x3, .int x4, .int x5, .ref (ad 70 0)])).length) Slot.unset).toArray = ls at hl ⊢
  have hl : lv_has ls 8 [(0, .ref (ad 5 0)), (1, .int x1), (2, .int x2), (3, .int x3), (4, .int x4), (5, .int x5), (6, .ref (ad 70 0))] := hl
  refine lv_aload hx hb dL_place_0 (lv_at hl 6 rfl) ?_
  refine lv_iconst (v := 0) hx hb dL_place_2 (by decide) ?_
  refine lv_aload_n hx hb dL_place_3 rfl (lv_at hl 0 rfl) ?_
  refine lv_iload_n hx hb dL_place_4 rfl (lv_at hl 1 rfl) ?_
  refine lv_iload_n hx hb dL_place_5 rfl (lv_at hl 2 rfl) ?_
  refine lv_iload_n hx hb dL_place_6 rfl (lv_at hl 3 rfl) ?_
  refine lv_iload hx hb dL_place_7 (lv_at hl 4 rfl) ?_
  refine lv_iload hx hb dL_place_9 (lv_at hl 5 rfl) ?_
  refine vx_calli (vx_runV (As := [.int x1, .int x2, .int x3, .int x4, .int x5]) (rest := [.int 0, .ref (ad 70 0)]) ⟨hx, hb, hml, hown, hts⟩ (t_X5_place l hl0 D cA z NL ad ct x1 x2 x3 x4 x5 td hm5 h5) (cwV 5 hts gL_place_X5_place rfl rfl rfl (by decide +kernel) ⟨Nat.le_of_ble_eq_true rfl, Nat.le_of_ble_eq_true rfl⟩) (pcT_preV hX hT (pcZ_kept hZ (fun _ h => h.elim) hW.2) (Nat.le_trans hz hW.2.1) hW.1 hm5 h5 rfl hW.1) rfl rfl hl.1 rfl (lv_room (Nat.le_of_ble_eq_true rfl)) dL_place_11 ⟨Nat.le_of_ble_eq_true rfl, Nat.le_of_ble_eq_true rfl⟩) hW.2 (fun _ _ h => h.elim) (fun _ h => h.elim) (fun _ _ h => h.elim) (fun E ce q9 _ t H1 locs1 ht hvm hpx hE _ hk9 hS9 hq9 hce hcl => ?_) (fun r9 _ t H locs ht hvm hw hB _ hk9 hS9 => ?_)
  · obtain rfl := hE
    have hW : pcQ D vwCl (fun _ => False) s.heap NL ad ct H1 locs1 := ⟨pcP_keep hW.1 (fun q hq => hk9 q hq id), hS9⟩
    refine vx_catch (own := RL) (name := "java/lang/IndexOutOfBoundsException") hown [] { startPc := 0, endPc := 16, handlerPc := 19, catchType := 21 } [{ startPc := 0, endPc := 16, handlerPc := 23, catchType := 13 }, { startPc := 0, endPc := 16, handlerPc := 27, catchType := 15 }] htab (fun z hz => nomatch hz) (by decide) (by decide) (hts (.classLink RL 21 "java/lang/IndexOutOfBoundsException") (by decide +kernel)) (va_Nw.use rfl (hT.1 _ (by decide +kernel))) hq9 hce hcl ?_
    refine lv_astore (lv' := [(7, .ref q9), (0, .ref (ad 5 0)), (1, .int x1), (2, .int x2), (3, .int x3), (4, .int x4), (5, .int x5), (6, .ref (ad 70 0))]) hx hb dL_place_19 hl (by decide) rfl (fun ls hl => ?_)
    refine lv_iconst (v := 1) hx hb dL_place_21 (by decide) ?_
    refine W.widen (k := 1) (n := 6) (Nat.le_of_ble_eq_true rfl) (Nat.le_of_ble_eq_true rfl) ?_
    exact W.iret (v := 1) hx hb hr (fun t ht hW9 => ⟨⟨1, (), rfl, rfl, trivial⟩, hW.2.F ht⟩) hW.2.2.2 dL_place_22
  · exact hw.elim

set_option maxHeartbeats 4000000 in
set_option maxRecDepth 100000 in
theorem w_L_start (l : Launch) (hl0 : l.stackTraces = false) (D : va_G) (cA : Nat → ClassId) (z : Nat) (NL : List (Nat × Nat)) (ad : Nat → Nat → Nat) (ct : Nat → Nat → va_E) (x1 : Int32) (td : Int32) (hm5 : (5, 0) ∈ NL) (h5 : ct 5 0 = .inr (6, [.ref (ad 50 0), .ref (ad 51 0), .ref (ad 52 0), .ref (ad 53 0), .ref (ad 54 0), .ref (ad 55 0), .ref (ad 56 0), .int 0, .int 0, .int 0, .int 0, .int 0, .int td])) : Met l yL_start wsL_start ({ frames := 8, cells := 1, slots := 6, locals := 133 }) (pcPreT D vwCl (tyL cA) z [.ref (ad 5 0), .int x1, .ref (ad 70 0)] (fun H => va_P D vwCl (pcW NL ad ct) H)) (va_Qi (fun (r : Int32) (_ : Unit) => r = 1) (fun _ _ => True) (fun _ => False)) 1 6 (fun _ => False) := by
  refine va_MetW (hh := [(0, 9, 12, 21), (0, 9, 15, 15)]) (cc := cL_start) (maxL := 4) (ret := (some .int)) (by decide) rfl ?_
  intro p e s m args below meth c s₁ B hml hv
  obtain ⟨rfl, hX, hT, ⟨hZ, hz⟩, hP0⟩ := hv
  have hx := B.exec
  have hb := B.bytes
  have hr := B.returns
  have hts := atoms_spec (ws := wsL_start) B.pre
  have hown : s.vm.findClass RL = some m.cls := findClass_of_methodNamed B.named
  have hlocks := B.notSynchronized
  have htab := vx_table (x := yL_start) B (hts _ List.mem_cons_self)
  have hW : pcQ D vwCl (fun _ => False) s.heap NL ad ct s.heap [] := ⟨hP0, va_S.rf⟩
  have hl := lv_entry ([.ref (ad 5 0), .int x1, .ref (ad 70 0)]) (n := 4) (Nat.le_of_ble_eq_true rfl)
  rw [lg_entry_eq]
  generalize (lg_sl ([.ref (ad 5 0), .int x1, .ref (ad 70 0)]) ++ List.replicate (4 - (lg_sl ([.ref (ad 5 0), .int x1, .ref (ad 70 0)])).length) Slot.unset).toArray = ls at hl ⊢
  have hl : lv_has ls 4 [(0, .ref (ad 5 0)), (1, .int x1), (2, .ref (ad 70 0))] := hl
  refine lv_aload_n hx hb dL_start_0 rfl (lv_at hl 2 rfl) ?_
  refine lv_iconst (v := 0) hx hb dL_start_1 (by decide) ?_
  refine lv_aload_n hx hb dL_start_2 rfl (lv_at hl 0 rfl) ?_
  refine lv_iload_n hx hb dL_start_3 rfl (lv_at hl 1 rfl) ?_
  refine vx_calli (vx_runV (As := [.int x1]) (rest := [.int 0, .ref (ad 70 0)]) ⟨hx, hb, hml, hown, hts⟩ (t_X5_start l hl0 D cA z NL ad ct x1 td hm5 h5) (cwV 1 hts gL_start_X5_start rfl rfl rfl (by decide +kernel) ⟨Nat.le_of_ble_eq_true rfl, Nat.le_of_ble_eq_true rfl⟩) (pcT_preV hX hT (pcZ_kept hZ (fun _ h => h.elim) hW.2) (Nat.le_trans hz hW.2.1) hW.1 hm5 h5 rfl hW.1) rfl rfl hl.1 rfl (lv_room (Nat.le_of_ble_eq_true rfl)) dL_start_4 ⟨Nat.le_of_ble_eq_true rfl, Nat.le_of_ble_eq_true rfl⟩) hW.2 (fun _ _ h => h.elim) (fun _ h => h.elim) (fun _ _ h => h.elim) (fun E ce q9 _ t H1 locs1 ht hvm hpx hE _ hk9 hS9 hq9 hce hcl => ?_) (fun r9 _ t H locs ht hvm hw hB _ hk9 hS9 => ?_)
  · obtain rfl := hE
    have hW : pcQ D vwCl (fun _ => False) s.heap NL ad ct H1 locs1 := ⟨pcP_keep hW.1 (fun q hq => hk9 q hq id), hS9⟩
    refine vx_catch (own := RL) (name := "java/lang/IndexOutOfBoundsException") hown [] { startPc := 0, endPc := 9, handlerPc := 12, catchType := 21 } [{ startPc := 0, endPc := 9, handlerPc := 15, catchType := 15 }] htab (fun z hz => nomatch hz) (by decide) (by decide) (hts (.classLink RL 21 "java/lang/IndexOutOfBoundsException") (by decide +kernel)) (va_Nw.use rfl (hT.1 _ (by decide +kernel))) hq9 hce hcl ?_
    refine lv_astore_n (lv' := [(3, .ref q9), (0, .ref (ad 5 0)), (1, .int x1), (2, .ref (ad 70 0))]) hx hb dL_start_12 rfl hl (by decide) rfl (fun ls hl => ?_)
    refine lv_iconst (v := 1) hx hb dL_start_13 (by decide) ?_
    refine W.widen (k := 1) (n := 6) (Nat.le_of_ble_eq_true rfl) (Nat.le_of_ble_eq_true rfl) ?_
    exact W.iret (v := 1) hx hb hr (fun t ht hW9 => ⟨⟨1, (), rfl, rfl, trivial⟩, hW.2.F ht⟩) hW.2.2.2 dL_start_14
  · exact hw.elim

set_option maxHeartbeats 4000000 in
set_option maxRecDepth 100000 in
theorem w_L_ofPack (l : Launch) (hl0 : l.stackTraces = false) (D : va_G) (cA : Nat → ClassId) (z : Nat) (NL : List (Nat × Nat)) (ad : Nat → Nat → Nat) (ct : Nat → Nat → va_E) (x1 : Int32) (x2 : Int32) (td : Int32) (hm5 : (5, 0) ∈ NL) (h5 : ct 5 0 = .inr (6, [.ref (ad 50 0), .ref (ad 51 0), .ref (ad 52 0), .ref (ad 53 0), .ref (ad 54 0), .ref (ad 55 0), .ref (ad 56 0), .int 0, .int 0, .int 0, .int 0, .int 0, .int td])) : Met l yL_ofPack wsL_ofPack ({ frames := 8, cells := 1, slots := 6, locals := 134 }) (pcPreT D vwCl (tyL cA) z [.ref (ad 5 0), .int x1, .int x2, .ref (ad 70 0)] (fun H => va_P D vwCl (pcW NL ad ct) H)) (va_Qi (fun (r : Int32) (_ : Unit) => r = 1) (fun _ _ => True) (fun _ => False)) 1 6 (fun _ => False) := by
  refine va_MetW (hh := [(0, 10, 13, 21), (0, 10, 17, 13)]) (cc := cL_ofPack) (maxL := 5) (ret := (some .int)) (by decide) rfl ?_
  intro p e s m args below meth c s₁ B hml hv
  obtain ⟨rfl, hX, hT, ⟨hZ, hz⟩, hP0⟩ := hv
  have hx := B.exec
  have hb := B.bytes
  have hr := B.returns
  have hts := atoms_spec (ws := wsL_ofPack) B.pre
  have hown : s.vm.findClass RL = some m.cls := findClass_of_methodNamed B.named
  have hlocks := B.notSynchronized
  have htab := vx_table (x := yL_ofPack) B (hts _ List.mem_cons_self)
  have hW : pcQ D vwCl (fun _ => False) s.heap NL ad ct s.heap [] := ⟨hP0, va_S.rf⟩
  have hl := lv_entry ([.ref (ad 5 0), .int x1, .int x2, .ref (ad 70 0)]) (n := 5) (Nat.le_of_ble_eq_true rfl)
  rw [lg_entry_eq]
  generalize (lg_sl ([.ref (ad 5 0), .int x1, .int x2, .ref (ad 70 0)]) ++ List.replicate (5 - (lg_sl ([.ref (ad 5 0), .int x1, .int x2, .ref (ad 70 0)])).length) Slot.unset).toArray = ls at hl ⊢
  have hl : lv_has ls 5 [(0, .ref (ad 5 0)), (1, .int x1), (2, .int x2), (3, .ref (ad 70 0))] := hl
  refine lv_aload_n hx hb dL_ofPack_0 rfl (lv_at hl 3 rfl) ?_
  refine lv_iconst (v := 0) hx hb dL_ofPack_1 (by decide) ?_
  refine lv_aload_n hx hb dL_ofPack_2 rfl (lv_at hl 0 rfl) ?_
  refine lv_iload_n hx hb dL_ofPack_3 rfl (lv_at hl 1 rfl) ?_
  refine lv_iload_n hx hb dL_ofPack_4 rfl (lv_at hl 2 rfl) ?_
  refine vx_calli (vx_runV (As := [.int x1, .int x2]) (rest := [.int 0, .ref (ad 70 0)]) ⟨hx, hb, hml, hown, hts⟩ (t_X5_ofPack l hl0 D cA z NL ad ct x1 x2 td hm5 h5) (cwV 2 hts gL_ofPack_X5_ofPack rfl rfl rfl (by decide +kernel) ⟨Nat.le_of_ble_eq_true rfl, Nat.le_of_ble_eq_true rfl⟩) (pcT_preV hX hT (pcZ_kept hZ (fun _ h => h.elim) hW.2) (Nat.le_trans hz hW.2.1) hW.1 hm5 h5 rfl hW.1) rfl rfl hl.1 rfl (lv_room (Nat.le_of_ble_eq_true rfl)) dL_ofPack_5 ⟨Nat.le_of_ble_eq_true rfl, Nat.le_of_ble_eq_true rfl⟩) hW.2 (fun _ _ h => h.elim) (fun _ h => h.elim) (fun _ _ h => h.elim) (fun E ce q9 _ t H1 locs1 ht hvm hpx hE _ hk9 hS9 hq9 hce hcl => ?_) (fun r9 _ t H locs ht hvm hw hB _ hk9 hS9 => ?_)
  · obtain rfl := hE
    have hW : pcQ D vwCl (fun _ => False) s.heap NL ad ct H1 locs1 := ⟨pcP_keep hW.1 (fun q hq => hk9 q hq id), hS9⟩
    refine vx_catch (own := RL) (name := "java/lang/IndexOutOfBoundsException") hown [] { startPc := 0, endPc := 10, handlerPc := 13, catchType := 21 } [{ startPc := 0, endPc := 10, handlerPc := 17, catchType := 13 }] htab (fun z hz => nomatch hz) (by decide) (by decide) (hts (.classLink RL 21 "java/lang/IndexOutOfBoundsException") (by decide +kernel)) (va_Nw.use rfl (hT.1 _ (by decide +kernel))) hq9 hce hcl ?_
    refine lv_astore (lv' := [(4, .ref q9), (0, .ref (ad 5 0)), (1, .int x1), (2, .int x2), (3, .ref (ad 70 0))]) hx hb dL_ofPack_13 hl (by decide) rfl (fun ls hl => ?_)
    refine lv_iconst (v := 1) hx hb dL_ofPack_15 (by decide) ?_
    refine W.widen (k := 1) (n := 6) (Nat.le_of_ble_eq_true rfl) (Nat.le_of_ble_eq_true rfl) ?_
    exact W.iret (v := 1) hx hb hr (fun t ht hW9 => ⟨⟨1, (), rfl, rfl, trivial⟩, hW.2.F ht⟩) hW.2.2.2 dL_ofPack_16
  · exact hw.elim

set_option maxHeartbeats 4000000 in
set_option maxRecDepth 100000 in
theorem w_L_holds (l : Launch) (hl0 : l.stackTraces = false) (D : va_G) (cA : Nat → ClassId) (z : Nat) (NL : List (Nat × Nat)) (ad : Nat → Nat → Nat) (ct : Nat → Nat → va_E) (x1 : Int32) (td : Int32) (hm5 : (5, 0) ∈ NL) (h5 : ct 5 0 = .inr (6, [.ref (ad 50 0), .ref (ad 51 0), .ref (ad 52 0), .ref (ad 53 0), .ref (ad 54 0), .ref (ad 55 0), .ref (ad 56 0), .int 0, .int 0, .int 0, .int 0, .int 0, .int td])) : Met l yL_holds wsL_holds ({ frames := 7, cells := 1, slots := 6, locals := 111 }) (pcPreT D vwCl (tyL cA) z [.ref (ad 5 0), .int x1, .ref (ad 70 0)] (fun H => va_P D vwCl (pcW NL ad ct) H)) (va_Qi (fun (r : Int32) (_ : Unit) => r = 1) (fun _ _ => True) (fun _ => False)) 1 6 (fun _ => False) := by
  refine va_MetW (hh := [(0, 16, 19, 21)]) (cc := cL_holds) (maxL := 4) (ret := (some .int)) (by decide) rfl ?_
  intro p e s m args below meth c s₁ B hml hv
  obtain ⟨rfl, hX, hT, ⟨hZ, hz⟩, hP0⟩ := hv
  have hx := B.exec
  have hb := B.bytes
  have hr := B.returns
  have hts := atoms_spec (ws := wsL_holds) B.pre
  have hown : s.vm.findClass RL = some m.cls := findClass_of_methodNamed B.named
  have hlocks := B.notSynchronized
  have htab := vx_table (x := yL_holds) B (hts _ List.mem_cons_self)
  have hW : pcQ D vwCl (fun _ => False) s.heap NL ad ct s.heap [] := ⟨hP0, va_S.rf⟩
  have hl := lv_entry ([.ref (ad 5 0), .int x1, .ref (ad 70 0)]) (n := 4) (Nat.le_of_ble_eq_true rfl)
  rw [lg_entry_eq]
  generalize (lg_sl ([.ref (ad 5 0), .int x1, .ref (ad 70 0)]) ++ List.replicate (4 - (lg_sl ([.ref (ad 5 0), .int x1, .ref (ad 70 0)])).length) Slot.unset).toArray = ls at hl ⊢
  have hl : lv_has ls 4 [(0, .ref (ad 5 0)), (1, .int x1), (2, .ref (ad 70 0))] := hl
  refine lv_aload_n hx hb dL_holds_0 rfl (lv_at hl 2 rfl) ?_
  refine lv_iconst (v := 0) hx hb dL_holds_1 (by decide) ?_
  refine lv_aload_n hx hb dL_holds_2 rfl (lv_at hl 0 rfl) ?_
  refine lv_iload_n hx hb dL_holds_3 rfl (lv_at hl 1 rfl) ?_
  refine vx_calli (vx_runV (As := [.int x1]) (rest := [.int 0, .ref (ad 70 0)]) ⟨hx, hb, hml, hown, hts⟩ (t_X5_holds l hl0 D cA z NL ad ct x1 td hm5 h5) (cwV 1 hts gL_holds_X5_holds rfl rfl rfl (by decide +kernel) ⟨Nat.le_of_ble_eq_true rfl, Nat.le_of_ble_eq_true rfl⟩) (pcT_preV hX hT (pcZ_kept hZ (fun _ h => h.elim) hW.2) (Nat.le_trans hz hW.2.1) hW.1 hm5 h5 rfl hW.1) rfl rfl hl.1 rfl (lv_room (Nat.le_of_ble_eq_true rfl)) dL_holds_4 ⟨Nat.le_of_ble_eq_true rfl, Nat.le_of_ble_eq_true rfl⟩) hW.2 (fun _ _ h => h.elim) (fun _ h => h.elim) (fun _ _ h => h.elim) (fun E ce q9 _ t H1 locs1 ht hvm hpx hE _ hk9 hS9 hq9 hce hcl => ?_) (fun r9 _ t H locs ht hvm hw hB _ hk9 hS9 => ?_)
  · obtain rfl := hE
    have hW : pcQ D vwCl (fun _ => False) s.heap NL ad ct H1 locs1 := ⟨pcP_keep hW.1 (fun q hq => hk9 q hq id), hS9⟩
    refine vx_catch (own := RL) (name := "java/lang/IndexOutOfBoundsException") hown [] { startPc := 0, endPc := 16, handlerPc := 19, catchType := 21 } [] htab (fun z hz => nomatch hz) (by decide) (by decide) (hts (.classLink RL 21 "java/lang/IndexOutOfBoundsException") (by decide +kernel)) (va_Nw.use rfl (hT.1 _ (by decide +kernel))) hq9 hce hcl ?_
    refine lv_astore_n (lv' := [(3, .ref q9), (0, .ref (ad 5 0)), (1, .int x1), (2, .ref (ad 70 0))]) hx hb dL_holds_19 rfl hl (by decide) rfl (fun ls hl => ?_)
    refine lv_iconst (v := 1) hx hb dL_holds_20 (by decide) ?_
    refine W.widen (k := 1) (n := 6) (Nat.le_of_ble_eq_true rfl) (Nat.le_of_ble_eq_true rfl) ?_
    exact W.iret (v := 1) hx hb hr (fun t ht hW9 => ⟨⟨1, (), rfl, rfl, trivial⟩, hW.2.F ht⟩) hW.2.2.2 dL_holds_21
  · exact hw.elim

set_option maxHeartbeats 4000000 in
set_option maxRecDepth 100000 in
theorem w_L_receive (l : Launch) (hl0 : l.stackTraces = false) (D : va_G) (cA : Nat → ClassId) (z : Nat) (NL : List (Nat × Nat)) (ad : Nat → Nat → Nat) (ct : Nat → Nat → va_E) (x1 : Int32) (x2 : Int32) (td : Int32) (hm5 : (5, 0) ∈ NL) (h5 : ct 5 0 = .inr (6, [.ref (ad 50 0), .ref (ad 51 0), .ref (ad 52 0), .ref (ad 53 0), .ref (ad 54 0), .ref (ad 55 0), .ref (ad 56 0), .int 0, .int 0, .int 0, .int 0, .int 0, .int td])) : Met l yL_receive wsL_receive ({ frames := 7, cells := 1, slots := 6, locals := 113 }) (pcPreT D vwCl (tyL cA) z [.ref (ad 5 0), .int x1, .int x2, .ref (ad 70 0)] (fun H => va_P D vwCl (pcW NL ad ct) H)) (va_Qi (fun (r : Int32) (_ : Unit) => r = 1) (fun _ _ => True) (fun _ => False)) 1 6 (fun _ => False) := by
  refine va_MetW (hh := [(0, 10, 13, 21), (0, 10, 17, 15)]) (cc := cL_receive) (maxL := 5) (ret := (some .int)) (by decide) rfl ?_
  intro p e s m args below meth c s₁ B hml hv
  obtain ⟨rfl, hX, hT, ⟨hZ, hz⟩, hP0⟩ := hv
  have hx := B.exec
  have hb := B.bytes
  have hr := B.returns
  have hts := atoms_spec (ws := wsL_receive) B.pre
  have hown : s.vm.findClass RL = some m.cls := findClass_of_methodNamed B.named
  have hlocks := B.notSynchronized
  have htab := vx_table (x := yL_receive) B (hts _ List.mem_cons_self)
  have hW : pcQ D vwCl (fun _ => False) s.heap NL ad ct s.heap [] := ⟨hP0, va_S.rf⟩
  have hl := lv_entry ([.ref (ad 5 0), .int x1, .int x2, .ref (ad 70 0)]) (n := 5) (Nat.le_of_ble_eq_true rfl)
  rw [lg_entry_eq]
  generalize (lg_sl ([.ref (ad 5 0), .int x1, .int x2, .ref (ad 70 0)]) ++ List.replicate (5 - (lg_sl ([.ref (ad 5 0), .int x1, .int x2, .ref (ad 70 0)])).length) Slot.unset).toArray = ls at hl ⊢
  have hl : lv_has ls 5 [(0, .ref (ad 5 0)), (1, .int x1), (2, .int x2), (3, .ref (ad 70 0))] := hl
  refine lv_aload_n hx hb dL_receive_0 rfl (lv_at hl 3 rfl) ?_
  refine lv_iconst (v := 0) hx hb dL_receive_1 (by decide) ?_
  refine lv_aload_n hx hb dL_receive_2 rfl (lv_at hl 0 rfl) ?_
  refine lv_iload_n hx hb dL_receive_3 rfl (lv_at hl 1 rfl) ?_
  refine lv_iload_n hx hb dL_receive_4 rfl (lv_at hl 2 rfl) ?_
  refine vx_calli (vx_runV (As := [.int x1, .int x2]) (rest := [.int 0, .ref (ad 70 0)]) ⟨hx, hb, hml, hown, hts⟩ (t_X5_receive l hl0 D cA z NL ad ct x1 x2 td hm5 h5) (cwV 2 hts gL_receive_X5_receive rfl rfl rfl (by decide +kernel) ⟨Nat.le_of_ble_eq_true rfl, Nat.le_of_ble_eq_true rfl⟩) (pcT_preV hX hT (pcZ_kept hZ (fun _ h => h.elim) hW.2) (Nat.le_trans hz hW.2.1) hW.1 hm5 h5 rfl hW.1) rfl rfl hl.1 rfl (lv_room (Nat.le_of_ble_eq_true rfl)) dL_receive_5 ⟨Nat.le_of_ble_eq_true rfl, Nat.le_of_ble_eq_true rfl⟩) hW.2 (fun _ _ h => h.elim) (fun _ h => h.elim) (fun _ _ h => h.elim) (fun E ce q9 _ t H1 locs1 ht hvm hpx hE _ hk9 hS9 hq9 hce hcl => ?_) (fun r9 _ t H locs ht hvm hw hB _ hk9 hS9 => ?_)
  · obtain rfl := hE
    have hW : pcQ D vwCl (fun _ => False) s.heap NL ad ct H1 locs1 := ⟨pcP_keep hW.1 (fun q hq => hk9 q hq id), hS9⟩
    refine vx_catch (own := RL) (name := "java/lang/IndexOutOfBoundsException") hown [] { startPc := 0, endPc := 10, handlerPc := 13, catchType := 21 } [{ startPc := 0, endPc := 10, handlerPc := 17, catchType := 15 }] htab (fun z hz => nomatch hz) (by decide) (by decide) (hts (.classLink RL 21 "java/lang/IndexOutOfBoundsException") (by decide +kernel)) (va_Nw.use rfl (hT.1 _ (by decide +kernel))) hq9 hce hcl ?_
    refine lv_astore (lv' := [(4, .ref q9), (0, .ref (ad 5 0)), (1, .int x1), (2, .int x2), (3, .ref (ad 70 0))]) hx hb dL_receive_13 hl (by decide) rfl (fun ls hl => ?_)
    refine lv_iconst (v := 1) hx hb dL_receive_15 (by decide) ?_
    refine W.widen (k := 1) (n := 6) (Nat.le_of_ble_eq_true rfl) (Nat.le_of_ble_eq_true rfl) ?_
    exact W.iret (v := 1) hx hb hr (fun t ht hW9 => ⟨⟨1, (), rfl, rfl, trivial⟩, hW.2.F ht⟩) hW.2.2.2 dL_receive_16
  · exact hw.elim

set_option maxHeartbeats 4000000 in
set_option maxRecDepth 100000 in
theorem w_L_has (l : Launch) (hl0 : l.stackTraces = false) (D : va_G) (cA : Nat → ClassId) (z : Nat) (NL : List (Nat × Nat)) (ad : Nat → Nat → Nat) (ct : Nat → Nat → va_E) (x1 : Int32) (x2 : Int32) (td : Int32) (hm5 : (5, 0) ∈ NL) (h5 : ct 5 0 = .inr (6, [.ref (ad 50 0), .ref (ad 51 0), .ref (ad 52 0), .ref (ad 53 0), .ref (ad 54 0), .ref (ad 55 0), .ref (ad 56 0), .int 0, .int 0, .int 0, .int 0, .int 0, .int td])) : Met l yL_has wsL_has ({ frames := 8, cells := 2, slots := 12, locals := 133 }) (pcPreT D vwCl (tyL cA) z [.ref (ad 5 0), .int x1, .int x2, .ref (ad 70 0)] (fun H => va_P D vwCl (pcW NL ad ct) H)) (va_Qi (fun (r : Int32) (_ : Unit) => r = 1) (fun _ _ => True) (fun _ => False)) 2 12 (fun _ => False) := by
  refine va_MetW (hh := [(0, 10, 13, 21)]) (cc := cL_has) (maxL := 5) (ret := (some .int)) (by decide) rfl ?_
  intro p e s m args below meth c s₁ B hml hv
  obtain ⟨rfl, hX, hT, ⟨hZ, hz⟩, hP0⟩ := hv
  have hx := B.exec
  have hb := B.bytes
  have hr := B.returns
  have hts := atoms_spec (ws := wsL_has) B.pre
  have hown : s.vm.findClass RL = some m.cls := findClass_of_methodNamed B.named
  have hlocks := B.notSynchronized
  have htab := vx_table (x := yL_has) B (hts _ List.mem_cons_self)
  have hW : pcQ D vwCl (fun _ => False) s.heap NL ad ct s.heap [] := ⟨hP0, va_S.rf⟩
  have hl := lv_entry ([.ref (ad 5 0), .int x1, .int x2, .ref (ad 70 0)]) (n := 5) (Nat.le_of_ble_eq_true rfl)
  rw [lg_entry_eq]
  generalize (lg_sl ([.ref (ad 5 0), .int x1, .int x2, .ref (ad 70 0)]) ++ List.replicate (5 - (lg_sl ([.ref (ad 5 0), .int x1, .int x2, .ref (ad 70 0)])).length) Slot.unset).toArray = ls at hl ⊢
  have hl : lv_has ls 5 [(0, .ref (ad 5 0)), (1, .int x1), (2, .int x2), (3, .ref (ad 70 0))] := hl
  refine lv_aload_n hx hb dL_has_0 rfl (lv_at hl 3 rfl) ?_
  refine lv_iconst (v := 0) hx hb dL_has_1 (by decide) ?_
  refine lv_aload_n hx hb dL_has_2 rfl (lv_at hl 0 rfl) ?_
  refine lv_iload_n hx hb dL_has_3 rfl (lv_at hl 1 rfl) ?_
  refine lv_iload_n hx hb dL_has_4 rfl (lv_at hl 2 rfl) ?_
  refine vx_calli (vx_runV (As := [.int x1, .int x2]) (rest := [.int 0, .ref (ad 70 0)]) ⟨hx, hb, hml, hown, hts⟩ (t_X5_has l hl0 D cA z NL ad ct x1 x2 td hm5 h5) (cwV 2 hts gL_has_X5_has rfl rfl rfl (by decide +kernel) ⟨Nat.le_of_ble_eq_true rfl, Nat.le_of_ble_eq_true rfl⟩) (pcT_preV hX hT (pcZ_kept hZ (fun _ h => h.elim) hW.2) (Nat.le_trans hz hW.2.1) hW.1 hm5 h5 rfl hW.1) rfl rfl hl.1 rfl (lv_room (Nat.le_of_ble_eq_true rfl)) dL_has_5 ⟨Nat.le_of_ble_eq_true rfl, Nat.le_of_ble_eq_true rfl⟩) hW.2 (fun _ _ h => h.elim) (fun _ h => h.elim) (fun _ _ h => h.elim) (fun E ce q9 _ t H1 locs1 ht hvm hpx hE _ hk9 hS9 hq9 hce hcl => ?_) (fun r9 _ t H locs ht hvm hw hB _ hk9 hS9 => ?_)
  · obtain rfl := hE
    have hW : pcQ D vwCl (fun _ => False) s.heap NL ad ct H1 locs1 := ⟨pcP_keep hW.1 (fun q hq => hk9 q hq id), hS9⟩
    refine vx_catch (own := RL) (name := "java/lang/IndexOutOfBoundsException") hown [] { startPc := 0, endPc := 10, handlerPc := 13, catchType := 21 } [] htab (fun z hz => nomatch hz) (by decide) (by decide) (hts (.classLink RL 21 "java/lang/IndexOutOfBoundsException") (by decide +kernel)) (va_Nw.use rfl (hT.1 _ (by decide +kernel))) hq9 hce hcl ?_
    refine lv_astore (lv' := [(4, .ref q9), (0, .ref (ad 5 0)), (1, .int x1), (2, .int x2), (3, .ref (ad 70 0))]) hx hb dL_has_13 hl (by decide) rfl (fun ls hl => ?_)
    refine lv_iconst (v := 1) hx hb dL_has_15 (by decide) ?_
    refine W.widen (k := 2) (n := 12) (Nat.le_of_ble_eq_true rfl) (Nat.le_of_ble_eq_true rfl) ?_
    exact W.iret (v := 1) hx hb hr (fun t ht hW9 => ⟨⟨1, (), rfl, rfl, trivial⟩, hW.2.F ht⟩) hW.2.2.2 dL_has_16
  · exact hw.elim

set_option maxHeartbeats 4000000 in
set_option maxRecDepth 100000 in
theorem w_L_send (l : Launch) (hl0 : l.stackTraces = false) (D : va_G) (cA : Nat → ClassId) (z : Nat) (NL : List (Nat × Nat)) (ad : Nat → Nat → Nat) (ct : Nat → Nat → va_E) (x1 : Int32) (x2 : Int32) (td : Int32) (hm5 : (5, 0) ∈ NL) (h5 : ct 5 0 = .inr (6, [.ref (ad 50 0), .ref (ad 51 0), .ref (ad 52 0), .ref (ad 53 0), .ref (ad 54 0), .ref (ad 55 0), .ref (ad 56 0), .int 0, .int 0, .int 0, .int 0, .int 0, .int td])) : Met l yL_send wsL_send ({ frames := 7, cells := 1, slots := 6, locals := 114 }) (pcPreT D vwCl (tyL cA) z [.ref (ad 5 0), .int x1, .int x2, .ref (ad 70 0)] (fun H => va_P D vwCl (pcW NL ad ct) H)) (va_Qi (fun (r : Int32) (_ : Unit) => r = 1) (fun _ _ => True) (fun _ => False)) 1 6 (fun _ => False) := by
  refine va_MetW (hh := [(0, 10, 13, 13), (0, 10, 17, 15)]) (cc := cL_send) (maxL := 5) (ret := (some .int)) (by decide) rfl ?_
  intro p e s m args below meth c s₁ B hml hv
  obtain ⟨rfl, hX, hT, ⟨hZ, hz⟩, hP0⟩ := hv
  have hx := B.exec
  have hb := B.bytes
  have hr := B.returns
  have hts := atoms_spec (ws := wsL_send) B.pre
  have hown : s.vm.findClass RL = some m.cls := findClass_of_methodNamed B.named
  have hlocks := B.notSynchronized
  have htab := vx_table (x := yL_send) B (hts _ List.mem_cons_self)
  have hW : pcQ D vwCl (fun _ => False) s.heap NL ad ct s.heap [] := ⟨hP0, va_S.rf⟩
  have hl := lv_entry ([.ref (ad 5 0), .int x1, .int x2, .ref (ad 70 0)]) (n := 5) (Nat.le_of_ble_eq_true rfl)
  rw [lg_entry_eq]
  generalize (lg_sl ([.ref (ad 5 0), .int x1, .int x2, .ref (ad 70 0)]) ++ List.replicate (5 - (lg_sl ([.ref (ad 5 0), .int x1, .int x2, .ref (ad 70 0)])).length) Slot.unset).toArray = ls at hl ⊢
  have hl : lv_has ls 5 [(0, .ref (ad 5 0)), (1, .int x1), (2, .int x2), (3, .ref (ad 70 0))] := hl
  refine lv_aload_n hx hb dL_send_0 rfl (lv_at hl 3 rfl) ?_
  refine lv_iconst (v := 0) hx hb dL_send_1 (by decide) ?_
  refine lv_aload_n hx hb dL_send_2 rfl (lv_at hl 0 rfl) ?_
  refine lv_iload_n hx hb dL_send_3 rfl (lv_at hl 1 rfl) ?_
  refine lv_iload_n hx hb dL_send_4 rfl (lv_at hl 2 rfl) ?_
  refine vx_calli (vx_runV (As := [.int x1, .int x2]) (rest := [.int 0, .ref (ad 70 0)]) ⟨hx, hb, hml, hown, hts⟩ (t_X5_send l hl0 D cA z NL ad ct x1 x2 td hm5 h5) (cwV 2 hts gL_send_X5_send rfl rfl rfl (by decide +kernel) ⟨Nat.le_of_ble_eq_true rfl, Nat.le_of_ble_eq_true rfl⟩) (pcT_preV hX hT (pcZ_kept hZ (fun _ h => h.elim) hW.2) (Nat.le_trans hz hW.2.1) hW.1 hm5 h5 rfl hW.1) rfl rfl hl.1 rfl (lv_room (Nat.le_of_ble_eq_true rfl)) dL_send_5 ⟨Nat.le_of_ble_eq_true rfl, Nat.le_of_ble_eq_true rfl⟩) hW.2 (fun _ _ h => h.elim) (fun _ h => h.elim) (fun _ _ h => h.elim) (fun E ce q9 _ t H1 locs1 ht hvm hpx hE _ hk9 hS9 hq9 hce hcl => ?_) (fun r9 _ t H locs ht hvm hw hB _ hk9 hS9 => ?_)
  · obtain rfl := hE
    have hW : pcQ D vwCl (fun _ => False) s.heap NL ad ct H1 locs1 := ⟨pcP_keep hW.1 (fun q hq => hk9 q hq id), hS9⟩
    refine vx_catch (own := RL) (name := "java/lang/IllegalArgumentException") hown [] { startPc := 0, endPc := 10, handlerPc := 13, catchType := 13 } [{ startPc := 0, endPc := 10, handlerPc := 17, catchType := 15 }] htab (fun z hz => nomatch hz) (by decide) (by decide) (hts (.classLink RL 13 "java/lang/IllegalArgumentException") (by decide +kernel)) (va_Nw.use rfl (hT.1 _ (by decide +kernel))) hq9 hce hcl ?_
    refine lv_astore (lv' := [(4, .ref q9), (0, .ref (ad 5 0)), (1, .int x1), (2, .int x2), (3, .ref (ad 70 0))]) hx hb dL_send_13 hl (by decide) rfl (fun ls hl => ?_)
    refine lv_iconst (v := 1) hx hb dL_send_15 (by decide) ?_
    refine W.widen (k := 1) (n := 6) (Nat.le_of_ble_eq_true rfl) (Nat.le_of_ble_eq_true rfl) ?_
    exact W.iret (v := 1) hx hb hr (fun t ht hW9 => ⟨⟨1, (), rfl, rfl, trivial⟩, hW.2.F ht⟩) hW.2.2.2 dL_send_16
  · exact hw.elim

set_option maxHeartbeats 4000000 in
set_option maxRecDepth 100000 in
theorem w_L_pack (l : Launch) (hl0 : l.stackTraces = false) (D : va_G) (cA : Nat → ClassId) (z : Nat) (NL : List (Nat × Nat)) (ad : Nat → Nat → Nat) (ct : Nat → Nat → va_E) (x1 : Int32) (x2 : Int32) (x3 : Int32) (td : Int32) (hm5 : (5, 0) ∈ NL) (h5 : ct 5 0 = .inr (6, [.ref (ad 50 0), .ref (ad 51 0), .ref (ad 52 0), .ref (ad 53 0), .ref (ad 54 0), .ref (ad 55 0), .ref (ad 56 0), .int 0, .int 0, .int 0, .int 0, .int 0, .int td])) : Met l yL_pack wsL_pack ({ frames := 8, cells := 2, slots := 12, locals := 134 }) (pcPreT D vwCl (tyL cA) z [.ref (ad 5 0), .int x1, .int x2, .int x3, .ref (ad 70 0)] (fun H => va_P D vwCl (pcW NL ad ct) H)) (va_Qi (fun (r : Int32) (_ : Unit) => (r = 1 ∧ ¬ (¬ x1 < 0 ∧ x1 < 4)) ∨ (r = 2 ∧ (¬ x1 < 0 ∧ x1 < 4))) (fun _ _ => True) (fun _ => False)) 2 12 (fun _ => False) := by
  refine va_MetW (hh := [(0, 12, 15, 21), (0, 12, 19, 13), (0, 12, 23, 15)]) (cc := cL_pack) (maxL := 6) (ret := (some .int)) (by decide) rfl ?_
  intro p e s m args below meth c s₁ B hml hv
  obtain ⟨rfl, hX, hT, ⟨hZ, hz⟩, hP0⟩ := hv
  have hx := B.exec
  have hb := B.bytes
  have hr := B.returns
  have hts := atoms_spec (ws := wsL_pack) B.pre
  have hown : s.vm.findClass RL = some m.cls := findClass_of_methodNamed B.named
  have hlocks := B.notSynchronized
  have htab := vx_table (x := yL_pack) B (hts _ List.mem_cons_self)
  have hW : pcQ D vwCl (fun _ => False) s.heap NL ad ct s.heap [] := ⟨hP0, va_S.rf⟩
  have hl := lv_entry ([.ref (ad 5 0), .int x1, .int x2, .int x3, .ref (ad 70 0)]) (n := 6) (Nat.le_of_ble_eq_true rfl)
  rw [lg_entry_eq]
  generalize (lg_sl ([.ref (ad 5 0), .int x1, .int x2, .int x3, .ref (ad 70 0)]) ++ List.replicate (6 - (lg_sl ([.ref (ad 5 0), .int x1, .int x2, .int x3, .ref (ad 70 0)])).length) Slot.unset).toArray = ls at hl ⊢
  have hl : lv_has ls 6 [(0, .ref (ad 5 0)), (1, .int x1), (2, .int x2), (3, .int x3), (4, .ref (ad 70 0))] := hl
  refine lv_aload hx hb dL_pack_0 (lv_at hl 4 rfl) ?_
  refine lv_iconst (v := 0) hx hb dL_pack_2 (by decide) ?_
  refine lv_aload_n hx hb dL_pack_3 rfl (lv_at hl 0 rfl) ?_
  refine lv_iload_n hx hb dL_pack_4 rfl (lv_at hl 1 rfl) ?_
  refine lv_iload_n hx hb dL_pack_5 rfl (lv_at hl 2 rfl) ?_
  refine lv_iload_n hx hb dL_pack_6 rfl (lv_at hl 3 rfl) ?_
  refine vx_calli (vx_runV (As := [.int x1, .int x2, .int x3]) (rest := [.int 0, .ref (ad 70 0)]) ⟨hx, hb, hml, hown, hts⟩ (t_X5_pack l hl0 D cA z NL ad ct x1 x2 x3 td hm5 h5) (cwV 3 hts gL_pack_X5_pack rfl rfl rfl (by decide +kernel) ⟨Nat.le_of_ble_eq_true rfl, Nat.le_of_ble_eq_true rfl⟩) (pcT_preV hX hT (pcZ_kept hZ (fun _ h => h.elim) hW.2) (Nat.le_trans hz hW.2.1) hW.1 hm5 h5 rfl hW.1) rfl rfl hl.1 rfl (lv_room (Nat.le_of_ble_eq_true rfl)) dL_pack_7 ⟨Nat.le_of_ble_eq_true rfl, Nat.le_of_ble_eq_true rfl⟩) hW.2 (fun _ _ h => h.elim) (fun _ h => h.elim) (fun _ _ h => h.elim) (fun E ce q9 _ t H1 locs1 ht hvm hpx hE _ hk9 hS9 hq9 hce hcl => ?_) (fun r9 _ t H locs ht hvm hw hB _ hk9 hS9 => ?_)
  · rcases hE with ⟨rfl, hpk⟩ | ⟨rfl, hpk⟩
    · have hW : pcQ D vwCl (fun _ => False) s.heap NL ad ct H1 locs1 := ⟨pcP_keep hW.1 (fun q hq => hk9 q hq id), hS9⟩
      refine vx_catch (own := RL) (name := "java/lang/IndexOutOfBoundsException") hown [] { startPc := 0, endPc := 12, handlerPc := 15, catchType := 21 } [{ startPc := 0, endPc := 12, handlerPc := 19, catchType := 13 }, { startPc := 0, endPc := 12, handlerPc := 23, catchType := 15 }] htab (fun z hz => nomatch hz) (by decide) (by decide) (hts (.classLink RL 21 "java/lang/IndexOutOfBoundsException") (by decide +kernel)) (va_Nw.use rfl (hT.1 _ (by decide +kernel))) hq9 hce hcl ?_
      refine lv_astore (lv' := [(5, .ref q9), (0, .ref (ad 5 0)), (1, .int x1), (2, .int x2), (3, .int x3), (4, .ref (ad 70 0))]) hx hb dL_pack_15 hl (by decide) rfl (fun ls hl => ?_)
      refine lv_iconst (v := 1) hx hb dL_pack_17 (by decide) ?_
      refine W.widen (k := 2) (n := 12) (Nat.le_of_ble_eq_true rfl) (Nat.le_of_ble_eq_true rfl) ?_
      exact W.iret (v := 1) hx hb hr (fun t ht hW9 => ⟨⟨1, (), rfl, Or.inl ⟨rfl, hpk⟩, trivial⟩, hW.2.F ht⟩) hW.2.2.2 dL_pack_18
    · have hW : pcQ D vwCl (fun _ => False) s.heap NL ad ct H1 locs1 := ⟨pcP_keep hW.1 (fun q hq => hk9 q hq id), hS9⟩
      refine vx_catch (own := RL) (name := "java/lang/IllegalArgumentException") hown [{ startPc := 0, endPc := 12, handlerPc := 15, catchType := 21 }] { startPc := 0, endPc := 12, handlerPc := 19, catchType := 13 } [{ startPc := 0, endPc := 12, handlerPc := 23, catchType := 15 }] htab (fun z hz => by obtain rfl := List.mem_singleton.mp hz; exact Or.inr ⟨by decide, "java/lang/IndexOutOfBoundsException", hts (.classLink RL 21 "java/lang/IndexOutOfBoundsException") (by decide +kernel), hT.2.1⟩) (by decide) (by decide) (va_Nw.use rfl (hT.1 _ (by decide +kernel))) (va_Nw.use rfl (hT.1 _ (by decide +kernel))) hq9 hce hcl ?_
      refine lv_astore (lv' := [(5, .ref q9), (0, .ref (ad 5 0)), (1, .int x1), (2, .int x2), (3, .int x3), (4, .ref (ad 70 0))]) hx hb dL_pack_19 hl (by decide) rfl (fun ls hl => ?_)
      refine lv_iconst (v := 2) hx hb dL_pack_21 (by decide) ?_
      refine W.widen (k := 2) (n := 12) (Nat.le_of_ble_eq_true rfl) (Nat.le_of_ble_eq_true rfl) ?_
      exact W.iret (v := 2) hx hb hr (fun t ht hW9 => ⟨⟨2, (), rfl, Or.inr ⟨rfl, hpk⟩, trivial⟩, hW.2.F ht⟩) hW.2.2.2 dL_pack_22
  · exact hw.elim
