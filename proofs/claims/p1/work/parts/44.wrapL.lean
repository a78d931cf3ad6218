set_option maxHeartbeats 4000000 in
set_option maxRecDepth 100000 in
theorem l_L_owes (l : Launch) (D : va_G) (cA : Nat → ClassId) (A : Nat → Prop) (h0 a0 a1 a2 a3 a4 g0 w0 : Nat) (g1 : Nat) (g : Nat → Int64) (x1 : Int32) (hl0 : l.stackTraces = false) (z : Nat) : Met l yL_owes wsL_owes ({ frames := 8, cells := 1, slots := 6, locals := 134 }) (pcPreT D vwCl (tyL cA) z [.ref h0, .int x1, .ref g1] (fun H => va_P D vwCl [(h0, .inr (6, [.ref a0, .ref a1, .ref a2, .ref a3, .ref a4, .ref g0, .ref w0, .int 0, .int 0, .int 0, .int 0, .int 0, .int 0])), (g1, .inl (cA 1, 1, .inr (.inl g)))] H ∧ va_D A [(h0, .inr (6, [.ref a0, .ref a1, .ref a2, .ref a3, .ref a4, .ref g0, .ref w0, .int 0, .int 0, .int 0, .int 0, .int 0, .int 0])), (g1, .inl (cA 1, 1, .inr (.inl g)))] ∧ (∀ q, H.size ≤ q → A q) ∧ (∀ q, A q → z ≤ q))) (va_Qi (fun (r : Int32) (u : Nat → Int64) => (r = 0 ∧ (¬ x1 < 0 ∧ x1 < 4) ∧ u 0 = 0) ∨ (r = 1 ∧ ¬ (¬ x1 < 0 ∧ x1 < 4))) (fun (u : Nat → Int64) t => va_P D vwCl [(g1, .inl (cA 1, 1, .inr (.inl u)))] t.heap ∧ va_D A [(g1, .inl (cA 1, 1, .inr (.inl u)))]) A) 1 6 A := by
  refine va_MetW (hh := [(0, 9, 12, 21)]) (cc := cL_owes) (maxL := 4) (ret := (some .int)) (by decide) rfl ?_
  intro p e s m args below meth c s₁ B hml hv
  obtain ⟨rfl, hX, hT, ⟨hZ, hz⟩, hP, hD, hA, hAz⟩ := hv
  have hx := B.exec
  have hb := B.bytes
  have hr := B.returns
  have hts := atoms_spec (ws := wsL_owes) B.pre
  have hown : s.vm.findClass RL = some m.cls := findClass_of_methodNamed B.named
  have hlocks := B.notSynchronized
  have htab := vx_table (x := yL_owes) B (hts _ List.mem_cons_self)
  have hS : va_S A s.heap s.heap [] := va_S.rf
  have hl := lv_entry ([.ref h0, .int x1, .ref g1]) (n := 4) (Nat.le_of_ble_eq_true rfl)
  rw [lg_entry_eq]
  generalize (lg_sl ([.ref h0, .int x1, .ref g1]) ++ List.replicate (4 - (lg_sl ([.ref h0, .int x1, .ref g1])).length) Slot.unset).toArray = ls at hl ⊢
  have hl : lv_has ls 4 [(0, .ref h0), (1, .int x1), (2, .ref g1)] := hl
  refine lv_aload_n hx hb dL_owes_0 rfl (lv_at hl 2 rfl) ?_
  refine lv_iconst (v := 0) hx hb dL_owes_1 (by decide) ?_
  refine lv_aload_n hx hb dL_owes_2 rfl (lv_at hl 0 rfl) ?_
  refine lv_iload_n hx hb dL_owes_3 rfl (lv_at hl 1 rfl) ?_
  refine vx_calli (vx_runV (As := [.int x1]) (rest := [.int 0, .ref g1]) ⟨hx, hb, hml, hown, hts⟩ (t_X5_owes l hl0 D cA z [(5, 0)] (fun k _ => if k = 5 then h0 else if k = 50 then a0 else if k = 51 then a1 else if k = 52 then a2 else if k = 53 then a3 else if k = 54 then a4 else if k = 55 then g0 else if k = 56 then w0 else 0) (fun _ _ => .inr (6, [.ref a0, .ref a1, .ref a2, .ref a3, .ref a4, .ref g0, .ref w0, .int 0, .int 0, .int 0, .int 0, .int 0, .int 0])) x1 0 List.mem_cons_self rfl) (cwV 1 hts gL_owes_X5_owes rfl rfl rfl (by decide +kernel) ⟨Nat.le_of_ble_eq_true rfl, Nat.le_of_ble_eq_true rfl⟩) (pcT_preVL hX hT (pcZ_kept hZ hAz hS) (Nat.le_trans hz hS.1) (va_recv hX.1 hP (ci := 6) (q0 := 0) rfl rfl) (hP.sub (ws' := [(h0, .inr (6, [.ref a0, .ref a1, .ref a2, .ref a3, .ref a4, .ref g0, .ref w0, .int 0, .int 0, .int 0, .int 0, .int 0, .int 0]))]) [0] rfl)) rfl rfl hl.1 rfl (lv_room (Nat.le_of_ble_eq_true rfl)) dL_owes_4 ⟨Nat.le_of_ble_eq_true rfl, Nat.le_of_ble_eq_true rfl⟩) hS (fun _ _ h => h.elim) (fun _ h => h.elim) (fun _ _ h => h.elim) (fun E ce q9 _ t H1 locs1 ht hvm hpx hE _ hk9 hS9 hq9 hce hcl => ?_) (fun r1087 _ t H locs ht hvm hwr1087 _ _ hk9 hS => ?_)
  · obtain ⟨rfl, hno9⟩ := hE
    have hP := hP.kept (H1 := H1) (fun k q hk => hk9 q.1 ((hP k q hk).lt) id)
    have hS := hS9
    refine vx_catch (own := RL) (name := "java/lang/IndexOutOfBoundsException") hown [] { startPc := 0, endPc := 9, handlerPc := 12, catchType := 21 } [] htab (fun z hz => nomatch hz) (by decide) (by decide) (hts (.classLink RL 21 "java/lang/IndexOutOfBoundsException") (by decide +kernel)) (va_Nw.use rfl (hT.1 _ (by decide +kernel))) hq9 hce hcl ?_
    generalize H1 = H at hP hS ⊢
    have hP : va_P D vwCl [(h0, .inr (6, [.ref a0, .ref a1, .ref a2, .ref a3, .ref a4, .ref g0, .ref w0, .int 0, .int 0, .int 0, .int 0, .int 0, .int 0])), (g1, .inl (cA 1, 1, .inr (.inl g)))] H := hP
    have hD : va_D A [(h0, .inr (6, [.ref a0, .ref a1, .ref a2, .ref a3, .ref a4, .ref g0, .ref w0, .int 0, .int 0, .int 0, .int 0, .int 0, .int 0])), (g1, .inl (cA 1, 1, .inr (.inl g)))] := hD
    refine lv_astore_n (lv' := [(3, .ref q9), (0, .ref h0), (1, .int x1), (2, .ref g1)]) hx hb dL_owes_12 rfl hl (by decide) rfl (fun ls hl => ?_)
    refine lv_iconst (v := 1) hx hb dL_owes_13 (by decide) ?_
    have hP9 := hP.sub (ws' := [(g1, .inl (cA 1, 1, .inr (.inl g)))]) [1] rfl
    have hD9 := hD.sub (ws' := [(g1, .inl (cA 1, 1, .inr (.inl g)))]) [1] (by decide) rfl
    refine W.widen (k := 1) (n := 6) (Nat.le_of_ble_eq_true rfl) (Nat.le_of_ble_eq_true rfl) ?_
    exact W.iret (v := 1) hx hb hr (fun t ht hW9 => ⟨⟨1, g, rfl, Or.inr ⟨rfl, hno9⟩, ⟨by show va_P _ _ _ t.heap; rw [ht]; exact hP9, hD9⟩⟩, hS.F ht⟩) hS.2.2 dL_owes_14
  have hP := hP.kept (H1 := H) (fun k q hk => hk9 q.1 ((hP k q hk).lt) id)
  refine W.widen (k := 1) (n := 6) (Nat.le_of_ble_eq_true rfl) (Nat.le_of_ble_eq_true rfl) ?_
  have hP : va_P D vwCl [(h0, .inr (6, [.ref a0, .ref a1, .ref a2, .ref a3, .ref a4, .ref g0, .ref w0, .int 0, .int 0, .int 0, .int 0, .int 0, .int 0])), (g1, .inl (cA 1, 1, .inr (.inl g)))] H := hP
  have hD : va_D A [(h0, .inr (6, [.ref a0, .ref a1, .ref a2, .ref a3, .ref a4, .ref g0, .ref w0, .int 0, .int 0, .int 0, .int 0, .int 0, .int 0])), (g1, .inl (cA 1, 1, .inr (.inl g)))] := hD
  obtain ⟨rfl, hok9⟩ := hwr1087
  refine lv_i2l (v := 0) hx hb dL_owes_7 (by decide) ?_
  refine va_last hx hb hX.1 hP hD hS 1 1 rfl rfl (vp_in_nI (n := 0) (by decide) (by decide)) dL_owes_8 (fun H locs hP hD hS => ?_)
  have hP : va_P D vwCl [(h0, .inr (6, [.ref a0, .ref a1, .ref a2, .ref a3, .ref a4, .ref g0, .ref w0, .int 0, .int 0, .int 0, .int 0, .int 0, .int 0])), (g1, .inl (cA 1, 1, .inr (.inl (vp_updL g 0 0))))] H := hP
  have hD : va_D A [(h0, .inr (6, [.ref a0, .ref a1, .ref a2, .ref a3, .ref a4, .ref g0, .ref w0, .int 0, .int 0, .int 0, .int 0, .int 0, .int 0])), (g1, .inl (cA 1, 1, .inr (.inl (vp_updL g 0 0))))] := hD
  refine lv_goto (tgt := 15) hx hb dL_owes_9 (by decide) ?_
  refine lv_iconst (v := 0) hx hb dL_owes_15 (by decide) ?_
  have hP9 := hP.sub (ws' := [(g1, .inl (cA 1, 1, .inr (.inl (vp_updL g 0 0))))]) [1] rfl
  have hD9 := hD.sub (ws' := [(g1, .inl (cA 1, 1, .inr (.inl (vp_updL g 0 0))))]) [1] (by decide) rfl
  refine W.widen (k := 1) (n := 6) (Nat.le_of_ble_eq_true rfl) (Nat.le_of_ble_eq_true rfl) ?_
  exact W.iret (v := 0) hx hb hr (fun t ht hW9 => ⟨⟨0, (vp_updL g 0 0), rfl, Or.inl ⟨rfl, hok9, rfl⟩, ⟨by show va_P _ _ _ t.heap; rw [ht]; exact hP9, hD9⟩⟩, hS.F ht⟩) hS.2.2 dL_owes_16

set_option maxHeartbeats 4000000 in
set_option maxRecDepth 100000 in
theorem l_L_many (l : Launch) (D : va_G) (cA : Nat → ClassId) (A : Nat → Prop) (h0 a0 a1 a2 a3 a4 g0 w0 : Nat) (g1 : Nat) (g : Nat → Int64) (x1 : Int32) (hl0 : l.stackTraces = false) (z : Nat) : Met l yL_many wsL_many ({ frames := 7, cells := 1, slots := 6, locals := 111 }) (pcPreT D vwCl (tyL cA) z [.ref h0, .int x1, .ref g1] (fun H => va_P D vwCl [(h0, .inr (6, [.ref a0, .ref a1, .ref a2, .ref a3, .ref a4, .ref g0, .ref w0, .int 0, .int 0, .int 0, .int 0, .int 0, .int 0])), (g1, .inl (cA 1, 1, .inr (.inl g)))] H ∧ va_D A [(h0, .inr (6, [.ref a0, .ref a1, .ref a2, .ref a3, .ref a4, .ref g0, .ref w0, .int 0, .int 0, .int 0, .int 0, .int 0, .int 0])), (g1, .inl (cA 1, 1, .inr (.inl g)))] ∧ (∀ q, H.size ≤ q → A q) ∧ (∀ q, A q → z ≤ q))) (va_Qi (fun (r : Int32) (u : Nat → Int64) => (r = 0 ∧ (¬ (x1.toInt < 0 ∨ 12 < x1.toInt)) ∧ u 0 = 0) ∨ (r = 1 ∧ ¬ (¬ (x1.toInt < 0 ∨ 12 < x1.toInt)))) (fun (u : Nat → Int64) t => va_P D vwCl [(g1, .inl (cA 1, 1, .inr (.inl u)))] t.heap ∧ va_D A [(g1, .inl (cA 1, 1, .inr (.inl u)))]) A) 1 6 A := by
  refine va_MetW (hh := [(0, 9, 12, 13)]) (cc := cL_many) (maxL := 4) (ret := (some .int)) (by decide) rfl ?_
  intro p e s m args below meth c s₁ B hml hv
  obtain ⟨rfl, hX, hT, ⟨hZ, hz⟩, hP, hD, hA, hAz⟩ := hv
  have hx := B.exec
  have hb := B.bytes
  have hr := B.returns
  have hts := atoms_spec (ws := wsL_many) B.pre
  have hown : s.vm.findClass RL = some m.cls := findClass_of_methodNamed B.named
  have hlocks := B.notSynchronized
  have htab := vx_table (x := yL_many) B (hts _ List.mem_cons_self)
  have hS : va_S A s.heap s.heap [] := va_S.rf
  have hl := lv_entry ([.ref h0, .int x1, .ref g1]) (n := 4) (Nat.le_of_ble_eq_true rfl)
  rw [lg_entry_eq]
  generalize (lg_sl ([.ref h0, .int x1, .ref g1]) ++ List.replicate (4 - (lg_sl ([.ref h0, .int x1, .ref g1])).length) Slot.unset).toArray = ls at hl ⊢
  have hl : lv_has ls 4 [(0, .ref h0), (1, .int x1), (2, .ref g1)] := hl
  refine lv_aload_n hx hb dL_many_0 rfl (lv_at hl 2 rfl) ?_
  refine lv_iconst (v := 0) hx hb dL_many_1 (by decide) ?_
  refine lv_aload_n hx hb dL_many_2 rfl (lv_at hl 0 rfl) ?_
  refine lv_iload_n hx hb dL_many_3 rfl (lv_at hl 1 rfl) ?_
  refine vx_calli (vx_runV (As := [.int x1]) (rest := [.int 0, .ref g1]) ⟨hx, hb, hml, hown, hts⟩ (t_X5_many l hl0 D cA z [(5, 0)] (fun k _ => if k = 5 then h0 else if k = 50 then a0 else if k = 51 then a1 else if k = 52 then a2 else if k = 53 then a3 else if k = 54 then a4 else if k = 55 then g0 else if k = 56 then w0 else 0) (fun _ _ => .inr (6, [.ref a0, .ref a1, .ref a2, .ref a3, .ref a4, .ref g0, .ref w0, .int 0, .int 0, .int 0, .int 0, .int 0, .int 0])) x1 List.mem_cons_self rfl) (cwV 1 hts gL_many_X5_many rfl rfl rfl (by decide +kernel) ⟨Nat.le_of_ble_eq_true rfl, Nat.le_of_ble_eq_true rfl⟩) (pcT_preVL hX hT (pcZ_kept hZ hAz hS) (Nat.le_trans hz hS.1) (va_recv hX.1 hP (ci := 6) (q0 := 0) rfl rfl) (hP.sub (ws' := [(h0, .inr (6, [.ref a0, .ref a1, .ref a2, .ref a3, .ref a4, .ref g0, .ref w0, .int 0, .int 0, .int 0, .int 0, .int 0, .int 0]))]) [0] rfl)) rfl rfl hl.1 rfl (lv_room (Nat.le_of_ble_eq_true rfl)) dL_many_4 ⟨Nat.le_of_ble_eq_true rfl, Nat.le_of_ble_eq_true rfl⟩) hS (fun _ _ h => h.elim) (fun _ h => h.elim) (fun _ _ h => h.elim) (fun E ce q9 _ t H1 locs1 ht hvm hpx hE _ hk9 hS9 hq9 hce hcl => ?_) (fun r1088 _ t H locs ht hvm hwr1088 _ _ hk9 hS => ?_)
  · obtain ⟨rfl, hno0⟩ := hE
    have hP := hP.kept (H1 := H1) (fun k q hk => hk9 q.1 ((hP k q hk).lt) id)
    have hS := hS9
    refine vx_catch (own := RL) (name := "java/lang/IllegalArgumentException") hown [] { startPc := 0, endPc := 9, handlerPc := 12, catchType := 13 } [] htab (fun z hz => nomatch hz) (by decide) (by decide) (hts (.classLink RL 13 "java/lang/IllegalArgumentException") (by decide +kernel)) (va_Nw.use rfl (hT.1 _ (by decide +kernel))) hq9 hce hcl ?_
    generalize H1 = H at hP hS ⊢
    have hP : va_P D vwCl [(h0, .inr (6, [.ref a0, .ref a1, .ref a2, .ref a3, .ref a4, .ref g0, .ref w0, .int 0, .int 0, .int 0, .int 0, .int 0, .int 0])), (g1, .inl (cA 1, 1, .inr (.inl g)))] H := hP
    have hD : va_D A [(h0, .inr (6, [.ref a0, .ref a1, .ref a2, .ref a3, .ref a4, .ref g0, .ref w0, .int 0, .int 0, .int 0, .int 0, .int 0, .int 0])), (g1, .inl (cA 1, 1, .inr (.inl g)))] := hD
    refine lv_astore_n (lv' := [(3, .ref q9), (0, .ref h0), (1, .int x1), (2, .ref g1)]) hx hb dL_many_12 rfl hl (by decide) rfl (fun ls hl => ?_)
    refine lv_iconst (v := 1) hx hb dL_many_13 (by decide) ?_
    have hP9 := hP.sub (ws' := [(g1, .inl (cA 1, 1, .inr (.inl g)))]) [1] rfl
    have hD9 := hD.sub (ws' := [(g1, .inl (cA 1, 1, .inr (.inl g)))]) [1] (by decide) rfl
    refine W.widen (k := 1) (n := 6) (Nat.le_of_ble_eq_true rfl) (Nat.le_of_ble_eq_true rfl) ?_
    exact W.iret (v := 1) hx hb hr (fun t ht hW9 => ⟨⟨1, g, rfl, Or.inr ⟨rfl, fun h => h hno0⟩, ⟨by show va_P _ _ _ t.heap; rw [ht]; exact hP9, hD9⟩⟩, hS.F ht⟩) hS.2.2 dL_many_14
  have hP := hP.kept (H1 := H) (fun k q hk => hk9 q.1 ((hP k q hk).lt) id)
  refine W.widen (k := 1) (n := 6) (Nat.le_of_ble_eq_true rfl) (Nat.le_of_ble_eq_true rfl) ?_
  have hP : va_P D vwCl [(h0, .inr (6, [.ref a0, .ref a1, .ref a2, .ref a3, .ref a4, .ref g0, .ref w0, .int 0, .int 0, .int 0, .int 0, .int 0, .int 0])), (g1, .inl (cA 1, 1, .inr (.inl g)))] H := hP
  have hD : va_D A [(h0, .inr (6, [.ref a0, .ref a1, .ref a2, .ref a3, .ref a4, .ref g0, .ref w0, .int 0, .int 0, .int 0, .int 0, .int 0, .int 0])), (g1, .inl (cA 1, 1, .inr (.inl g)))] := hD
  obtain ⟨rfl, hok9⟩ := hwr1088
  refine lv_i2l (v := 0) hx hb dL_many_7 (by decide) ?_
  refine va_last hx hb hX.1 hP hD hS 1 1 rfl rfl (vp_in_nI (n := 0) (by decide) (by decide)) dL_many_8 (fun H locs hP hD hS => ?_)
  have hP : va_P D vwCl [(h0, .inr (6, [.ref a0, .ref a1, .ref a2, .ref a3, .ref a4, .ref g0, .ref w0, .int 0, .int 0, .int 0, .int 0, .int 0, .int 0])), (g1, .inl (cA 1, 1, .inr (.inl (vp_updL g 0 0))))] H := hP
  have hD : va_D A [(h0, .inr (6, [.ref a0, .ref a1, .ref a2, .ref a3, .ref a4, .ref g0, .ref w0, .int 0, .int 0, .int 0, .int 0, .int 0, .int 0])), (g1, .inl (cA 1, 1, .inr (.inl (vp_updL g 0 0))))] := hD
  refine lv_goto (tgt := 15) hx hb dL_many_9 (by decide) ?_
  refine lv_iconst (v := 0) hx hb dL_many_15 (by decide) ?_
  have hP9 := hP.sub (ws' := [(g1, .inl (cA 1, 1, .inr (.inl (vp_updL g 0 0))))]) [1] rfl
  have hD9 := hD.sub (ws' := [(g1, .inl (cA 1, 1, .inr (.inl (vp_updL g 0 0))))]) [1] (by decide) rfl
  refine W.widen (k := 1) (n := 6) (Nat.le_of_ble_eq_true rfl) (Nat.le_of_ble_eq_true rfl) ?_
  exact W.iret (v := 0) hx hb hr (fun t ht hW9 => ⟨⟨0, (vp_updL g 0 0), rfl, Or.inl ⟨rfl, hok9, rfl⟩, ⟨by show va_P _ _ _ t.heap; rw [ht]; exact hP9, hD9⟩⟩, hS.F ht⟩) hS.2.2 dL_many_16

set_option maxHeartbeats 4000000 in
set_option maxRecDepth 100000 in
theorem l_L_sheet (l : Launch) (D : va_G) (cA : Nat → ClassId) (A : Nat → Prop) (h0 a0 a1 a2 a3 a4 g0 w0 : Nat) (g1 : Nat) (g : Nat → Int64) (x1 : Int32) (hl0 : l.stackTraces = false) (z : Nat) : Met l yL_sheet wsL_sheet ({ frames := 7, cells := 3, slots := 22, locals := 112 }) (pcPreT D vwCl (tyL cA) z [.ref h0, .int x1, .ref g1] (fun H => va_P D vwCl [(h0, .inr (6, [.ref a0, .ref a1, .ref a2, .ref a3, .ref a4, .ref g0, .ref w0, .int 0, .int 0, .int 0, .int 0, .int 0, .int 0])), (a0, .inl (cA 3, 10, .inr (.inr (.inr (.inr (fun _ => none)))))), (g1, .inl (cA 1, 1, .inr (.inl g)))] H ∧ va_D A [(h0, .inr (6, [.ref a0, .ref a1, .ref a2, .ref a3, .ref a4, .ref g0, .ref w0, .int 0, .int 0, .int 0, .int 0, .int 0, .int 0])), (a0, .inl (cA 3, 10, .inr (.inr (.inr (.inr (fun _ => none)))))), (g1, .inl (cA 1, 1, .inr (.inl g)))] ∧ (∀ q, H.size ≤ q → A q) ∧ (∀ q, A q → z ≤ q))) (va_Qi (fun (r : Int32) (u : Nat → Int64) => (r = 0 ∧ (¬ x1 < 0 ∧ x1 < 4) ∧ u 0 = 0) ∨ (r = 1 ∧ ¬ (¬ x1 < 0 ∧ x1 < 4))) (fun (u : Nat → Int64) t => va_P D vwCl [(g1, .inl (cA 1, 1, .inr (.inl u)))] t.heap ∧ va_D A [(g1, .inl (cA 1, 1, .inr (.inl u)))]) A) 3 22 A := by
  refine va_MetW (hh := [(0, 9, 12, 13), (0, 9, 15, 15)]) (cc := cL_sheet) (maxL := 4) (ret := (some .int)) (by decide) rfl ?_
  intro p e s m args below meth c s₁ B hml hv
  obtain ⟨rfl, hX, hT, ⟨hZ, hz⟩, hP, hD, hA, hAz⟩ := hv
  have hx := B.exec
  have hb := B.bytes
  have hr := B.returns
  have hts := atoms_spec (ws := wsL_sheet) B.pre
  have hown : s.vm.findClass RL = some m.cls := findClass_of_methodNamed B.named
  have hlocks := B.notSynchronized
  have htab := vx_table (x := yL_sheet) B (hts _ List.mem_cons_self)
  have hS : va_S A s.heap s.heap [] := va_S.rf
  have hl := lv_entry ([.ref h0, .int x1, .ref g1]) (n := 4) (Nat.le_of_ble_eq_true rfl)
  rw [lg_entry_eq]
  generalize (lg_sl ([.ref h0, .int x1, .ref g1]) ++ List.replicate (4 - (lg_sl ([.ref h0, .int x1, .ref g1])).length) Slot.unset).toArray = ls at hl ⊢
  have hl : lv_has ls 4 [(0, .ref h0), (1, .int x1), (2, .ref g1)] := hl
  refine lv_aload_n hx hb dL_sheet_0 rfl (lv_at hl 2 rfl) ?_
  refine lv_iconst (v := 0) hx hb dL_sheet_1 (by decide) ?_
  refine lv_aload_n hx hb dL_sheet_2 rfl (lv_at hl 0 rfl) ?_
  refine lv_iload_n hx hb dL_sheet_3 rfl (lv_at hl 1 rfl) ?_
  have hPc := hP.sub (ws' := [(h0, .inr (6, [.ref a0, .ref a1, .ref a2, .ref a3, .ref a4, .ref g0, .ref w0, .int 0, .int 0, .int 0, .int 0, .int 0, .int 0])), (a0, .inl (cA 3, 10, .inr (.inr (.inr (.inr (fun _ => none))))))]) [0, 1] rfl
  have hDc := (hD.sub (ws' := [(h0, .inr (6, [.ref a0, .ref a1, .ref a2, .ref a3, .ref a4, .ref g0, .ref w0, .int 0, .int 0, .int 0, .int 0, .int 0, .int 0])), (a0, .inl (cA 3, 10, .inr (.inr (.inr (.inr (fun _ => none))))))]) [0, 1] (by decide) rfl).self (sz := s.heap.size)
  have hFc := va_free (wc := [(h0, .inr (6, [.ref a0, .ref a1, .ref a2, .ref a3, .ref a4, .ref g0, .ref w0, .int 0, .int 0, .int 0, .int 0, .int 0, .int 0])), (a0, .inl (cA 3, 10, .inr (.inr (.inr (.inr (fun _ => none))))))]) hD hS hA [0, 1] rfl
  refine vx_calli (vx_runV (As := [.int x1]) (rest := [.int 0, .ref g1]) ⟨hx, hb, hml, hown, hts⟩ (t_X5_sheet l hl0 D cA z (va_A [(h0, .inr (6, [.ref a0, .ref a1, .ref a2, .ref a3, .ref a4, .ref g0, .ref w0, .int 0, .int 0, .int 0, .int 0, .int 0, .int 0])), (a0, .inl (cA 3, 10, .inr (.inr (.inr (.inr (fun _ => none))))))] s.heap.size) h0 a0 a1 a2 a3 a4 g0 w0 x1) (cwV 1 hts gL_sheet_X5_sheet rfl rfl rfl (by decide +kernel) ⟨Nat.le_of_ble_eq_true rfl, Nat.le_of_ble_eq_true rfl⟩) (pcT_preVL hX hT (pcZ_kept hZ hAz hS) (Nat.le_trans hz hS.1) (va_recv hX.1 hPc (ci := 6) (q0 := 0) rfl rfl) ⟨hPc, hDc, fun q h => Or.inr h, fun q h => hAz q (hFc q h)⟩) rfl rfl hl.1 rfl (lv_room (Nat.le_of_ble_eq_true rfl)) dL_sheet_4 ⟨Nat.le_of_ble_eq_true rfl, Nat.le_of_ble_eq_true rfl⟩) hS (fun q _ h => hFc q h) hFc (fun _ _ h => h.elim) (fun E ce q9 _ t H1 locs1 ht hvm hpx hE _ hk9 hS9 hq9 hce hcl => ?_) (fun r1090 u1089 t H1 locs ht hvm hw hB hz1 hk1 hS => ?_)
  · obtain ⟨rfl, hno9⟩ := hE
    have hP := hP.kept (H1 := H1) (fun k q hk => hk9 q.1 ((hP k q hk).lt) id)
    have hS := hS9
    refine vx_catch (own := RL) (name := "java/lang/IllegalArgumentException") hown [] { startPc := 0, endPc := 9, handlerPc := 12, catchType := 13 } [{ startPc := 0, endPc := 9, handlerPc := 15, catchType := 15 }] htab (fun z hz => nomatch hz) (by decide) (by decide) (hts (.classLink RL 13 "java/lang/IllegalArgumentException") (by decide +kernel)) (va_Nw.use rfl (hT.1 _ (by decide +kernel))) hq9 hce hcl ?_
    generalize H1 = H at hP hS ⊢
    have hP : va_P D vwCl [(h0, .inr (6, [.ref a0, .ref a1, .ref a2, .ref a3, .ref a4, .ref g0, .ref w0, .int 0, .int 0, .int 0, .int 0, .int 0, .int 0])), (a0, .inl (cA 3, 10, .inr (.inr (.inr (.inr (fun _ => none)))))), (g1, .inl (cA 1, 1, .inr (.inl g)))] H := hP
    have hD : va_D A [(h0, .inr (6, [.ref a0, .ref a1, .ref a2, .ref a3, .ref a4, .ref g0, .ref w0, .int 0, .int 0, .int 0, .int 0, .int 0, .int 0])), (a0, .inl (cA 3, 10, .inr (.inr (.inr (.inr (fun _ => none)))))), (g1, .inl (cA 1, 1, .inr (.inl g)))] := hD
    refine lv_astore_n (lv' := [(3, .ref q9), (0, .ref h0), (1, .int x1), (2, .ref g1)]) hx hb dL_sheet_12 rfl hl (by decide) rfl (fun ls hl => ?_)
    refine lv_iconst (v := 1) hx hb dL_sheet_13 (by decide) ?_
    have hP9 := hP.sub (ws' := [(g1, .inl (cA 1, 1, .inr (.inl g)))]) [2] rfl
    have hD9 := hD.sub (ws' := [(g1, .inl (cA 1, 1, .inr (.inl g)))]) [2] (by decide) rfl
    refine W.widen (k := 3) (n := 22) (Nat.le_of_ble_eq_true rfl) (Nat.le_of_ble_eq_true rfl) ?_
    exact W.iret (v := 1) hx hb hr (fun t ht hW9 => ⟨⟨1, g, rfl, Or.inr ⟨rfl, hno9⟩, ⟨by show va_P _ _ _ t.heap; rw [ht]; exact hP9, hD9⟩⟩, hS.F ht⟩) hS.2.2 dL_sheet_14
  obtain ⟨rfl, hok9⟩ := hw
  have hP1 : va_P D vwCl [] H1 := fun k q h => by simp at h
  have hD1 : va_D (va_A [(h0, .inr (6, [.ref a0, .ref a1, .ref a2, .ref a3, .ref a4, .ref g0, .ref w0, .int 0, .int 0, .int 0, .int 0, .int 0, .int 0])), (a0, .inl (cA 3, 10, .inr (.inr (.inr (.inr (fun _ => none))))))] s.heap.size) [] := ⟨fun i j x y h => by simp at h, fun k q h => by simp at h⟩
  obtain ⟨hP, hD⟩ := va_join (wr := [(g1, .inl (cA 1, 1, .inr (.inl g)))]) (w1 := []) hP hD [0, 1] [2] rfl rfl (by decide) (by decide) hk1 hFc hP1 hD1
  generalize H1 = H at hP hS ⊢
  have hP : va_P D vwCl [(g1, .inl (cA 1, 1, .inr (.inl g)))] H := hP
  have hD : va_D A [(g1, .inl (cA 1, 1, .inr (.inl g)))] := hD
  refine W.widen (k := 3) (n := 22) (Nat.le_of_ble_eq_true rfl) (Nat.le_of_ble_eq_true rfl) ?_
  refine lv_i2l (v := 0) hx hb dL_sheet_7 (by decide) ?_
  refine va_last hx hb hX.1 hP hD hS 0 1 rfl rfl (vp_in_nI (n := 0) (by decide) (by decide)) dL_sheet_8 (fun H locs hP hD hS => ?_)
  have hP : va_P D vwCl [(g1, .inl (cA 1, 1, .inr (.inl (vp_updL g 0 0))))] H := hP
  have hD : va_D A [(g1, .inl (cA 1, 1, .inr (.inl (vp_updL g 0 0))))] := hD
  refine lv_goto (tgt := 18) hx hb dL_sheet_9 (by decide) ?_
  refine lv_iconst (v := 0) hx hb dL_sheet_18 (by decide) ?_
  have hP9 := hP.sub (ws' := [(g1, .inl (cA 1, 1, .inr (.inl (vp_updL g 0 0))))]) [0] rfl
  have hD9 := hD.sub (ws' := [(g1, .inl (cA 1, 1, .inr (.inl (vp_updL g 0 0))))]) [0] (by decide) rfl
  refine W.widen (k := 3) (n := 22) (Nat.le_of_ble_eq_true rfl) (Nat.le_of_ble_eq_true rfl) ?_
  exact W.iret (v := 0) hx hb hr (fun t ht hW9 => ⟨⟨0, (vp_updL g 0 0), rfl, Or.inl ⟨rfl, hok9, rfl⟩, ⟨by show va_P _ _ _ t.heap; rw [ht]; exact hP9, hD9⟩⟩, hS.F ht⟩) hS.2.2 dL_sheet_19

set_option maxHeartbeats 4000000 in
set_option maxRecDepth 100000 in
theorem l_L_freedByAll (l : Launch) (D : va_G) (cA : Nat → ClassId) (A : Nat → Prop) (h0 a0 a1 a2 a3 a4 g0 w0 : Nat) (r0 r1 r2 r3 : Nat) (fw f0 f1 f2 f3 : Nat → Int32) (g1 : Nat) (g : Nat → Int64) (x1 : Int32) (hl0 : l.stackTraces = false) (z : Nat) : Met l yL_freedByAll wsL_freedByAll ({ frames := 8, cells := 1, slots := 6, locals := 134 }) (pcPreT D vwCl (tyL cA) z [.ref h0, .int x1, .ref g1] (fun H => va_P D vwCl [(h0, .inr (6, [.ref a0, .ref a1, .ref a2, .ref a3, .ref a4, .ref g0, .ref w0, .int 0, .int 0, .int 0, .int 0, .int 0, .int 0])), (g0, .inl (cA 9, 4, .inr (.inr (.inr (.inr (fun i => ([r0, r1, r2, r3] : List Nat)[i]?)))))), (w0, .inl (cA 0, 10, .inl fw)), (r0, .inl (cA 0, 10, .inl f0)), (r1, .inl (cA 0, 10, .inl f1)), (r2, .inl (cA 0, 10, .inl f2)), (r3, .inl (cA 0, 10, .inl f3)), (g1, .inl (cA 1, 1, .inr (.inl g)))] H ∧ va_D A [(h0, .inr (6, [.ref a0, .ref a1, .ref a2, .ref a3, .ref a4, .ref g0, .ref w0, .int 0, .int 0, .int 0, .int 0, .int 0, .int 0])), (g0, .inl (cA 9, 4, .inr (.inr (.inr (.inr (fun i => ([r0, r1, r2, r3] : List Nat)[i]?)))))), (w0, .inl (cA 0, 10, .inl fw)), (r0, .inl (cA 0, 10, .inl f0)), (r1, .inl (cA 0, 10, .inl f1)), (r2, .inl (cA 0, 10, .inl f2)), (r3, .inl (cA 0, 10, .inl f3)), (g1, .inl (cA 1, 1, .inr (.inl g)))] ∧ (∀ q, H.size ≤ q → A q) ∧ (∀ q, A q → z ≤ q))) (va_Qi (fun (r : Int32) (u : Nat → Int64) => (r = 0 ∧ (¬ x1 < 0 ∧ x1 < 4) ∧ u 0 = 0) ∨ (r = 1 ∧ ¬ (¬ x1 < 0 ∧ x1 < 4))) (fun (u : Nat → Int64) t => va_P D vwCl [(g1, .inl (cA 1, 1, .inr (.inl u)))] t.heap ∧ va_D A [(g1, .inl (cA 1, 1, .inr (.inl u)))]) A) 1 6 A := by
  refine va_MetW (hh := [(0, 9, 12, 21)]) (cc := cL_freedByAll) (maxL := 4) (ret := (some .int)) (by decide) rfl ?_
  intro p e s m args below meth c s₁ B hml hv
  obtain ⟨rfl, hX, hT, ⟨hZ, hz⟩, hP, hD, hA, hAz⟩ := hv
  have hx := B.exec
  have hb := B.bytes
  have hr := B.returns
  have hts := atoms_spec (ws := wsL_freedByAll) B.pre
  have hown : s.vm.findClass RL = some m.cls := findClass_of_methodNamed B.named
  have hlocks := B.notSynchronized
  have htab := vx_table (x := yL_freedByAll) B (hts _ List.mem_cons_self)
  have hS : va_S A s.heap s.heap [] := va_S.rf
  have hl := lv_entry ([.ref h0, .int x1, .ref g1]) (n := 4) (Nat.le_of_ble_eq_true rfl)
  rw [lg_entry_eq]
  generalize (lg_sl ([.ref h0, .int x1, .ref g1]) ++ List.replicate (4 - (lg_sl ([.ref h0, .int x1, .ref g1])).length) Slot.unset).toArray = ls at hl ⊢
  have hl : lv_has ls 4 [(0, .ref h0), (1, .int x1), (2, .ref g1)] := hl
  refine lv_aload_n hx hb dL_freedByAll_0 rfl (lv_at hl 2 rfl) ?_
  refine lv_iconst (v := 0) hx hb dL_freedByAll_1 (by decide) ?_
  refine lv_aload_n hx hb dL_freedByAll_2 rfl (lv_at hl 0 rfl) ?_
  refine lv_iload_n hx hb dL_freedByAll_3 rfl (lv_at hl 1 rfl) ?_
  have hPc := hP.sub (ws' := [(h0, .inr (6, [.ref a0, .ref a1, .ref a2, .ref a3, .ref a4, .ref g0, .ref w0, .int 0, .int 0, .int 0, .int 0, .int 0, .int 0])), (g0, .inl (cA 9, 4, .inr (.inr (.inr (.inr (fun i => ([r0, r1, r2, r3] : List Nat)[i]?)))))), (w0, .inl (cA 0, 10, .inl fw)), (r0, .inl (cA 0, 10, .inl f0)), (r1, .inl (cA 0, 10, .inl f1)), (r2, .inl (cA 0, 10, .inl f2)), (r3, .inl (cA 0, 10, .inl f3))]) [0, 1, 2, 3, 4, 5, 6] rfl
  have hDc := (hD.sub (ws' := [(h0, .inr (6, [.ref a0, .ref a1, .ref a2, .ref a3, .ref a4, .ref g0, .ref w0, .int 0, .int 0, .int 0, .int 0, .int 0, .int 0])), (g0, .inl (cA 9, 4, .inr (.inr (.inr (.inr (fun i => ([r0, r1, r2, r3] : List Nat)[i]?)))))), (w0, .inl (cA 0, 10, .inl fw)), (r0, .inl (cA 0, 10, .inl f0)), (r1, .inl (cA 0, 10, .inl f1)), (r2, .inl (cA 0, 10, .inl f2)), (r3, .inl (cA 0, 10, .inl f3))]) [0, 1, 2, 3, 4, 5, 6] (by decide) rfl).self (sz := s.heap.size)
  have hFc := va_free (wc := [(h0, .inr (6, [.ref a0, .ref a1, .ref a2, .ref a3, .ref a4, .ref g0, .ref w0, .int 0, .int 0, .int 0, .int 0, .int 0, .int 0])), (g0, .inl (cA 9, 4, .inr (.inr (.inr (.inr (fun i => ([r0, r1, r2, r3] : List Nat)[i]?)))))), (w0, .inl (cA 0, 10, .inl fw)), (r0, .inl (cA 0, 10, .inl f0)), (r1, .inl (cA 0, 10, .inl f1)), (r2, .inl (cA 0, 10, .inl f2)), (r3, .inl (cA 0, 10, .inl f3))]) hD hS hA [0, 1, 2, 3, 4, 5, 6] rfl
  refine vx_calli (vx_runV (As := [.int x1]) (rest := [.int 0, .ref g1]) ⟨hx, hb, hml, hown, hts⟩ (t_X5_freedByAll l hl0 D cA z (va_A [(h0, .inr (6, [.ref a0, .ref a1, .ref a2, .ref a3, .ref a4, .ref g0, .ref w0, .int 0, .int 0, .int 0, .int 0, .int 0, .int 0])), (g0, .inl (cA 9, 4, .inr (.inr (.inr (.inr (fun i => ([r0, r1, r2, r3] : List Nat)[i]?)))))), (w0, .inl (cA 0, 10, .inl fw)), (r0, .inl (cA 0, 10, .inl f0)), (r1, .inl (cA 0, 10, .inl f1)), (r2, .inl (cA 0, 10, .inl f2)), (r3, .inl (cA 0, 10, .inl f3))] s.heap.size) h0 a0 a1 a2 a3 a4 g0 w0 r0 r1 r2 r3 fw f0 f1 f2 f3 x1) (cwV 1 hts gL_freedByAll_X5_freedByAll rfl rfl rfl (by decide +kernel) ⟨Nat.le_of_ble_eq_true rfl, Nat.le_of_ble_eq_true rfl⟩) (pcT_preVL hX hT (pcZ_kept hZ hAz hS) (Nat.le_trans hz hS.1) (va_recv hX.1 hPc (ci := 6) (q0 := 0) rfl rfl) ⟨hPc, hDc, fun q h => Or.inr h, fun q h => hAz q (hFc q h)⟩) rfl rfl hl.1 rfl (lv_room (Nat.le_of_ble_eq_true rfl)) dL_freedByAll_4 ⟨Nat.le_of_ble_eq_true rfl, Nat.le_of_ble_eq_true rfl⟩) hS (fun q _ h => hFc q h) hFc (fun _ _ h => h.elim) (fun E ce q9 _ t H1 locs1 ht hvm hpx hE _ hk9 hS9 hq9 hce hcl => ?_) (fun r1092 u1091 t H1 locs ht hvm hw hB hz1 hk1 hS => ?_)
  · obtain ⟨rfl, hno9⟩ := hE
    have hP := hP.kept (H1 := H1) (fun k q hk => hk9 q.1 ((hP k q hk).lt) id)
    have hS := hS9
    refine vx_catch (own := RL) (name := "java/lang/IndexOutOfBoundsException") hown [] { startPc := 0, endPc := 9, handlerPc := 12, catchType := 21 } [] htab (fun z hz => nomatch hz) (by decide) (by decide) (hts (.classLink RL 21 "java/lang/IndexOutOfBoundsException") (by decide +kernel)) (va_Nw.use rfl (hT.1 _ (by decide +kernel))) hq9 hce hcl ?_
    generalize H1 = H at hP hS ⊢
    have hP : va_P D vwCl [(h0, .inr (6, [.ref a0, .ref a1, .ref a2, .ref a3, .ref a4, .ref g0, .ref w0, .int 0, .int 0, .int 0, .int 0, .int 0, .int 0])), (g0, .inl (cA 9, 4, .inr (.inr (.inr (.inr (fun i => ([r0, r1, r2, r3] : List Nat)[i]?)))))), (w0, .inl (cA 0, 10, .inl fw)), (r0, .inl (cA 0, 10, .inl f0)), (r1, .inl (cA 0, 10, .inl f1)), (r2, .inl (cA 0, 10, .inl f2)), (r3, .inl (cA 0, 10, .inl f3)), (g1, .inl (cA 1, 1, .inr (.inl g)))] H := hP
    have hD : va_D A [(h0, .inr (6, [.ref a0, .ref a1, .ref a2, .ref a3, .ref a4, .ref g0, .ref w0, .int 0, .int 0, .int 0, .int 0, .int 0, .int 0])), (g0, .inl (cA 9, 4, .inr (.inr (.inr (.inr (fun i => ([r0, r1, r2, r3] : List Nat)[i]?)))))), (w0, .inl (cA 0, 10, .inl fw)), (r0, .inl (cA 0, 10, .inl f0)), (r1, .inl (cA 0, 10, .inl f1)), (r2, .inl (cA 0, 10, .inl f2)), (r3, .inl (cA 0, 10, .inl f3)), (g1, .inl (cA 1, 1, .inr (.inl g)))] := hD
    refine lv_astore_n (lv' := [(3, .ref q9), (0, .ref h0), (1, .int x1), (2, .ref g1)]) hx hb dL_freedByAll_12 rfl hl (by decide) rfl (fun ls hl => ?_)
    refine lv_iconst (v := 1) hx hb dL_freedByAll_13 (by decide) ?_
    have hP9 := hP.sub (ws' := [(g1, .inl (cA 1, 1, .inr (.inl g)))]) [7] rfl
    have hD9 := hD.sub (ws' := [(g1, .inl (cA 1, 1, .inr (.inl g)))]) [7] (by decide) rfl
    refine W.widen (k := 1) (n := 6) (Nat.le_of_ble_eq_true rfl) (Nat.le_of_ble_eq_true rfl) ?_
    exact W.iret (v := 1) hx hb hr (fun t ht hW9 => ⟨⟨1, g, rfl, Or.inr ⟨rfl, hno9⟩, ⟨by show va_P _ _ _ t.heap; rw [ht]; exact hP9, hD9⟩⟩, hS.F ht⟩) hS.2.2 dL_freedByAll_14
  obtain ⟨rfl, hok9⟩ := hw
  obtain ⟨f1093, hP1, hD1⟩ := hB
  rw [ht] at hP1
  obtain ⟨hP, hD⟩ := va_join (wr := [(g1, .inl (cA 1, 1, .inr (.inl g)))]) (w1 := [(h0, .inr (6, [.ref a0, .ref a1, .ref a2, .ref a3, .ref a4, .ref g0, .ref w0, .int 0, .int 0, .int 0, .int 0, .int 0, .int 0])), (g0, .inl (cA 9, 4, .inr (.inr (.inr (.inr (fun i => ([r0, r1, r2, r3] : List Nat)[i]?)))))), (w0, .inl (cA 0, 10, .inl f1093)), (r0, .inl (cA 0, 10, .inl f0)), (r1, .inl (cA 0, 10, .inl f1)), (r2, .inl (cA 0, 10, .inl f2)), (r3, .inl (cA 0, 10, .inl f3))]) hP hD [0, 1, 2, 3, 4, 5, 6] [7] rfl rfl (by decide) (by decide) hk1 hFc hP1 hD1
  generalize H1 = H at hP hS ⊢
  have hP : va_P D vwCl [(g1, .inl (cA 1, 1, .inr (.inl g))), (h0, .inr (6, [.ref a0, .ref a1, .ref a2, .ref a3, .ref a4, .ref g0, .ref w0, .int 0, .int 0, .int 0, .int 0, .int 0, .int 0])), (g0, .inl (cA 9, 4, .inr (.inr (.inr (.inr (fun i => ([r0, r1, r2, r3] : List Nat)[i]?)))))), (w0, .inl (cA 0, 10, .inl f1093)), (r0, .inl (cA 0, 10, .inl f0)), (r1, .inl (cA 0, 10, .inl f1)), (r2, .inl (cA 0, 10, .inl f2)), (r3, .inl (cA 0, 10, .inl f3))] H := hP
  have hD : va_D A [(g1, .inl (cA 1, 1, .inr (.inl g))), (h0, .inr (6, [.ref a0, .ref a1, .ref a2, .ref a3, .ref a4, .ref g0, .ref w0, .int 0, .int 0, .int 0, .int 0, .int 0, .int 0])), (g0, .inl (cA 9, 4, .inr (.inr (.inr (.inr (fun i => ([r0, r1, r2, r3] : List Nat)[i]?)))))), (w0, .inl (cA 0, 10, .inl f1093)), (r0, .inl (cA 0, 10, .inl f0)), (r1, .inl (cA 0, 10, .inl f1)), (r2, .inl (cA 0, 10, .inl f2)), (r3, .inl (cA 0, 10, .inl f3))] := hD
  refine W.widen (k := 1) (n := 6) (Nat.le_of_ble_eq_true rfl) (Nat.le_of_ble_eq_true rfl) ?_
  refine lv_i2l (v := 0) hx hb dL_freedByAll_7 (by decide) ?_
  refine va_last hx hb hX.1 hP hD hS 0 1 rfl rfl (vp_in_nI (n := 0) (by decide) (by decide)) dL_freedByAll_8 (fun H locs hP hD hS => ?_)
  have hP : va_P D vwCl [(g1, .inl (cA 1, 1, .inr (.inl (vp_updL g 0 0)))), (h0, .inr (6, [.ref a0, .ref a1, .ref a2, .ref a3, .ref a4, .ref g0, .ref w0, .int 0, .int 0, .int 0, .int 0, .int 0, .int 0])), (g0, .inl (cA 9, 4, .inr (.inr (.inr (.inr (fun i => ([r0, r1, r2, r3] : List Nat)[i]?)))))), (w0, .inl (cA 0, 10, .inl f1093)), (r0, .inl (cA 0, 10, .inl f0)), (r1, .inl (cA 0, 10, .inl f1)), (r2, .inl (cA 0, 10, .inl f2)), (r3, .inl (cA 0, 10, .inl f3))] H := hP
  have hD : va_D A [(g1, .inl (cA 1, 1, .inr (.inl (vp_updL g 0 0)))), (h0, .inr (6, [.ref a0, .ref a1, .ref a2, .ref a3, .ref a4, .ref g0, .ref w0, .int 0, .int 0, .int 0, .int 0, .int 0, .int 0])), (g0, .inl (cA 9, 4, .inr (.inr (.inr (.inr (fun i => ([r0, r1, r2, r3] : List Nat)[i]?)))))), (w0, .inl (cA 0, 10, .inl f1093)), (r0, .inl (cA 0, 10, .inl f0)), (r1, .inl (cA 0, 10, .inl f1)), (r2, .inl (cA 0, 10, .inl f2)), (r3, .inl (cA 0, 10, .inl f3))] := hD
  refine lv_goto (tgt := 15) hx hb dL_freedByAll_9 (by decide) ?_
  refine lv_iconst (v := 0) hx hb dL_freedByAll_15 (by decide) ?_
  have hP9 := hP.sub (ws' := [(g1, .inl (cA 1, 1, .inr (.inl (vp_updL g 0 0))))]) [0] rfl
  have hD9 := hD.sub (ws' := [(g1, .inl (cA 1, 1, .inr (.inl (vp_updL g 0 0))))]) [0] (by decide) rfl
  refine W.widen (k := 1) (n := 6) (Nat.le_of_ble_eq_true rfl) (Nat.le_of_ble_eq_true rfl) ?_
  exact W.iret (v := 0) hx hb hr (fun t ht hW9 => ⟨⟨0, (vp_updL g 0 0), rfl, Or.inl ⟨rfl, hok9, rfl⟩, ⟨by show va_P _ _ _ t.heap; rw [ht]; exact hP9, hD9⟩⟩, hS.F ht⟩) hS.2.2 dL_freedByAll_16
