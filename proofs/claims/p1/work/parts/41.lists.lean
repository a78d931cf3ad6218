set_option maxHeartbeats 4000000 in
set_option maxRecDepth 100000 in
theorem l_Jxa1e45_init_da8c8 (l : Launch) (D : va_G) (cA : Nat → ClassId) (A : Nat → Prop) (h0 : Nat)  : Met l yJxa1e45_init_da8c8 wsJxa1e45_init_da8c8 ({ frames := 1, cells := 0, slots := 0, locals := 20 }) (pcPre D vwCl (tyL cA) [.ref h0] (fun H => va_P D vwCl [(h0, .inr (0, [.int 0, .null, .int 0]))] H ∧ va_D A [(h0, .inr (0, [.int 0, .null, .int 0]))] ∧ (∀ q, H.size ≤ q → A q))) (va_Qv (fun (u : Unit) => True) (fun (u : Unit) t => va_P D vwCl [(h0, .inr (0, [.int 0, .null, .int 0]))] t.heap ∧ va_D A [(h0, .inr (0, [.int 0, .null, .int 0]))]) A) 0 0 A := by
  refine Met.ofW (cc := cJxa1e45_init_da8c8) (maxL := 1) (ret := none) (by decide) rfl ?_
  intro p e s m args below meth c s₁ B hml hv
  obtain ⟨rfl, hX, hP, hD, hA⟩ := hv
  have hx := B.exec
  have hb := B.bytes
  have hr := B.returns
  have hts := atoms_spec (ws := wsJxa1e45_init_da8c8) B.pre
  have hown : s.vm.findClass RJxa1e45 = some m.cls := findClass_of_methodNamed B.named
  have hlocks := B.notSynchronized
  have hin : meth.name = "<init>" := (name_of_methodNamed B.named B.method).1
  have hS : va_S A s.heap s.heap [] := va_S.rf
  have hl := lv_entry ([.ref h0]) (n := 1) (Nat.le_of_ble_eq_true rfl)
  rw [lg_entry_eq]
  generalize (lg_sl ([.ref h0]) ++ List.replicate (1 - (lg_sl ([.ref h0])).length) Slot.unset).toArray = ls at hl ⊢
  have hl : lv_has ls 1 [(0, .ref h0)] := hl
  refine lv_aload_n hx hb dJxa1e45_init_da8c8_0 rfl (lv_at hl 0 rfl) ?_
  refine W.objInit hx hb hown (hts (.methodLink RJxa1e45 1 objectInit) (by decide +kernel)) (hts (.instanceMethod objectInit) (by decide +kernel)) (hts (.code objectInit ⟨#[0xb1]⟩ 1 none) (by decide +kernel)) rfl (by rw [hml]; exact hl.1) rfl dJxa1e45_init_da8c8_1 (Nat.le_of_ble_eq_true rfl) (Nat.le_of_ble_eq_true rfl) ?_
  refine W.eq (g2 := F0 m 4 ls []) rfl ?_
  have hP9 := hP.sub (ws' := [(h0, .inr (0, [.int 0, .null, .int 0]))]) [0] rfl
  have hD9 := hD.sub (ws' := [(h0, .inr (0, [.int 0, .null, .int 0]))]) [0] (by decide) rfl
  refine W.widen (k := 0) (n := 0) (Nat.le_of_ble_eq_true rfl) (Nat.le_of_ble_eq_true rfl) ?_
  exact W.vret hx hb hr (fun t ht hW9 => ⟨⟨(), rfl, trivial, ⟨by show va_P _ _ _ t.heap; rw [ht]; exact hP9, hD9⟩⟩, hS.F ht⟩) hS.2.2 dJxa1e45_init_da8c8_4

set_option maxHeartbeats 4000000 in
set_option maxRecDepth 100000 in
theorem l_Jxc12de_init_da8c8 (l : Launch) (D : va_G) (cA : Nat → ClassId) (A : Nat → Prop) (h0 : Nat)  : Met l yJxc12de_init_da8c8 wsJxc12de_init_da8c8 ({ frames := 2, cells := 0, slots := 0, locals := 40 }) (pcPre D vwCl (tyL cA) [.ref h0] (fun H => va_P D vwCl [(h0, .inr (0, [.int 0, .null, .int 0]))] H ∧ va_D A [(h0, .inr (0, [.int 0, .null, .int 0]))] ∧ (∀ q, H.size ≤ q → A q))) (va_Qv (fun (u : Unit) => True) (fun (u : Unit) t => va_P D vwCl [(h0, .inr (0, [.int 0, .null, .int 0]))] t.heap ∧ va_D A [(h0, .inr (0, [.int 0, .null, .int 0]))]) A) 0 0 A := by
  refine Met.ofW (cc := cJxc12de_init_da8c8) (maxL := 1) (ret := none) (by decide) rfl ?_
  intro p e s m args below meth c s₁ B hml hv
  obtain ⟨rfl, hX, hP, hD, hA⟩ := hv
  have hx := B.exec
  have hb := B.bytes
  have hr := B.returns
  have hts := atoms_spec (ws := wsJxc12de_init_da8c8) B.pre
  have hown : s.vm.findClass RJxc12de = some m.cls := findClass_of_methodNamed B.named
  have hlocks := B.notSynchronized
  have hin : meth.name = "<init>" := (name_of_methodNamed B.named B.method).1
  have hS : va_S A s.heap s.heap [] := va_S.rf
  have hl := lv_entry ([.ref h0]) (n := 1) (Nat.le_of_ble_eq_true rfl)
  rw [lg_entry_eq]
  generalize (lg_sl ([.ref h0]) ++ List.replicate (1 - (lg_sl ([.ref h0])).length) Slot.unset).toArray = ls at hl ⊢
  have hl : lv_has ls 1 [(0, .ref h0)] := hl
  refine lv_aload_n hx hb dJxc12de_init_da8c8_0 rfl (lv_at hl 0 rfl) ?_
  have hPc := hP.sub (ws' := [(h0, .inr (0, [.int 0, .null, .int 0]))]) [0] rfl
  have hDc := (hD.sub (ws' := [(h0, .inr (0, [.int 0, .null, .int 0]))]) [0] (by decide) rfl).self (sz := s.heap.size)
  have hFc := va_free (wc := [(h0, .inr (0, [.int 0, .null, .int 0]))]) hD hS hA [0] rfl
  refine va_callv (va_runI (As := []) (rest := []) ⟨hx, hb, hml, hown, hts⟩ (l_Jxa1e45_init_da8c8 l D cA (va_A [(h0, .inr (0, [.int 0, .null, .int 0]))] s.heap.size) h0) (cwI 0 hts gJxc12de_init_da8c8_Jxa1e45_init_da8c8 rfl rfl rfl (hts (.initialized RJxa1e45) (by decide +kernel)) (hts (.methodLink RJxc12de 1 yJxa1e45_init_da8c8) (by decide +kernel)) (hts (.instanceMethod yJxa1e45_init_da8c8) (by decide +kernel)) rfl (by decide +kernel) ⟨Nat.le_of_ble_eq_true rfl, Nat.le_of_ble_eq_true rfl⟩) (pc_preS pcN_ok hX ⟨hPc, hDc, fun q h => Or.inr h⟩) rfl rfl hl.1 rfl (lv_room (Nat.le_of_ble_eq_true rfl)) dJxc12de_init_da8c8_1 ⟨Nat.le_of_ble_eq_true rfl, Nat.le_of_ble_eq_true rfl⟩) hS (fun q _ h => hFc q h) hFc (fun u511 t H1 locs ht hvm hw hB hz1 hk1 hS => ?_)
  obtain ⟨hP1, hD1⟩ := hB
  rw [ht] at hP1
  obtain ⟨hP, hD⟩ := va_join (wr := []) (w1 := [(h0, .inr (0, [.int 0, .null, .int 0]))]) hP hD [0] [] rfl rfl (by decide) (by decide) hk1 hFc hP1 hD1
  generalize H1 = H at hP hS ⊢
  have hP : va_P D vwCl [(h0, .inr (0, [.int 0, .null, .int 0]))] H := hP
  have hD : va_D A [(h0, .inr (0, [.int 0, .null, .int 0]))] := hD
  refine W.widen (k := 0) (n := 0) (Nat.le_of_ble_eq_true rfl) (Nat.le_of_ble_eq_true rfl) ?_
  refine lv_aload_n hx hb dJxc12de_init_da8c8_4 rfl (lv_at hl 0 rfl) ?_
  refine lv_iconst (v := 0) hx hb dJxc12de_init_da8c8_5 (by decide) ?_
  refine va_put (D := D) (ci := 0) (v := .int 0) (ty := .int) (C := RJx4a65c) (T := TJx4a65c) (N := 3) hx hb hts (by decide +kernel) tyJx4a65c tyJx4a65c_ok nmJx4a65c hown hX.1 hP hD hS 0 rfl rfl 0 (by decide) (hts (.fieldLink RJxc12de 7 "java/util/AbstractList" "modCount" "I") (by decide +kernel)) (fun _ h9 => h9) rfl (by decide +kernel) rfl rfl (Nat.le_of_ble_eq_true rfl) dJxc12de_init_da8c8_6 (fun H locs hP hD hS => ?_)
  have hP : va_P D vwCl [(h0, .inr (0, [.int 0, .null, .int 0]))] H := hP
  have hD : va_D A [(h0, .inr (0, [.int 0, .null, .int 0]))] := hD
  have hP9 := hP.sub (ws' := [(h0, .inr (0, [.int 0, .null, .int 0]))]) [0] rfl
  have hD9 := hD.sub (ws' := [(h0, .inr (0, [.int 0, .null, .int 0]))]) [0] (by decide) rfl
  refine W.widen (k := 0) (n := 0) (Nat.le_of_ble_eq_true rfl) (Nat.le_of_ble_eq_true rfl) ?_
  exact W.vret hx hb hr (fun t ht hW9 => ⟨⟨(), rfl, trivial, ⟨by show va_P _ _ _ t.heap; rw [ht]; exact hP9, hD9⟩⟩, hS.F ht⟩) hS.2.2 dJxc12de_init_da8c8_9

set_option maxHeartbeats 4000000 in
set_option maxRecDepth 100000 in
theorem l_Jx4a65c_init_da8c8 (l : Launch) (D : va_G) (cA : Nat → ClassId) (z em mi : Nat) (A : Nat → Prop) (h0 : Nat)  : Met l yJx4a65c_init_da8c8 wsJx4a65c_init_da8c8 ({ frames := 3, cells := 0, slots := 0, locals := 60 }) (pcPreE D vwCl (tyL cA) z em mi [.ref h0] (fun H => va_P D vwCl [(h0, .inr (0, [.int 0, .null, .int 0]))] H ∧ va_D A [(h0, .inr (0, [.int 0, .null, .int 0]))] ∧ (∀ q, H.size ≤ q → A q) ∧ (∀ q, A q → z ≤ q))) (va_Qv (fun (u : Unit) => True) (fun (u : Unit) t => va_P D vwCl [(h0, .inr (0, [.int 0, .ref em, .int 0]))] t.heap ∧ va_D A [(h0, .inr (0, [.int 0, .ref em, .int 0]))]) A) 0 0 A := by
  refine Met.ofW (cc := cJx4a65c_init_da8c8) (maxL := 1) (ret := none) (by decide) rfl ?_
  intro p e s m args below meth c s₁ B hml hv
  obtain ⟨rfl, hX, hF9, ⟨hE9, hz⟩, hP, hD, hA, hAz⟩ := hv
  have hx := B.exec
  have hb := B.bytes
  have hr := B.returns
  have hts := atoms_spec (ws := wsJx4a65c_init_da8c8) B.pre
  have hown : s.vm.findClass RJx4a65c = some m.cls := findClass_of_methodNamed B.named
  have hlocks := B.notSynchronized
  have hin : meth.name = "<init>" := (name_of_methodNamed B.named B.method).1
  have hS : va_S A s.heap s.heap [] := va_S.rf
  have hl := lv_entry ([.ref h0]) (n := 1) (Nat.le_of_ble_eq_true rfl)
  rw [lg_entry_eq]
  generalize (lg_sl ([.ref h0]) ++ List.replicate (1 - (lg_sl ([.ref h0])).length) Slot.unset).toArray = ls at hl ⊢
  have hl : lv_has ls 1 [(0, .ref h0)] := hl
  refine lv_aload_n hx hb dJx4a65c_init_da8c8_0 rfl (lv_at hl 0 rfl) ?_
  have hPc := hP.sub (ws' := [(h0, .inr (0, [.int 0, .null, .int 0]))]) [0] rfl
  have hDc := (hD.sub (ws' := [(h0, .inr (0, [.int 0, .null, .int 0]))]) [0] (by decide) rfl).self (sz := s.heap.size)
  have hFc := va_free (wc := [(h0, .inr (0, [.int 0, .null, .int 0]))]) hD hS hA [0] rfl
  refine va_callv (va_runI (As := []) (rest := []) ⟨hx, hb, hml, hown, hts⟩ (l_Jxc12de_init_da8c8 l D cA (va_A [(h0, .inr (0, [.int 0, .null, .int 0]))] s.heap.size) h0) (cwI 0 hts gJx4a65c_init_da8c8_Jxc12de_init_da8c8 rfl rfl rfl (hts (.initialized RJxc12de) (by decide +kernel)) (hts (.methodLink RJx4a65c 1 yJxc12de_init_da8c8) (by decide +kernel)) (hts (.instanceMethod yJxc12de_init_da8c8) (by decide +kernel)) rfl (by decide +kernel) ⟨Nat.le_of_ble_eq_true rfl, Nat.le_of_ble_eq_true rfl⟩) (pc_preS pcN_ok hX ⟨hPc, hDc, fun q h => Or.inr h⟩) rfl rfl hl.1 rfl (lv_room (Nat.le_of_ble_eq_true rfl)) dJx4a65c_init_da8c8_1 ⟨Nat.le_of_ble_eq_true rfl, Nat.le_of_ble_eq_true rfl⟩) hS (fun q _ h => hFc q h) hFc (fun u515 t H1 locs ht hvm hw hB hz1 hk1 hS => ?_)
  obtain ⟨hP1, hD1⟩ := hB
  rw [ht] at hP1
  obtain ⟨hP, hD⟩ := va_join (wr := []) (w1 := [(h0, .inr (0, [.int 0, .null, .int 0]))]) hP hD [0] [] rfl rfl (by decide) (by decide) hk1 hFc hP1 hD1
  generalize H1 = H at hP hS ⊢
  have hP : va_P D vwCl [(h0, .inr (0, [.int 0, .null, .int 0]))] H := hP
  have hD : va_D A [(h0, .inr (0, [.int 0, .null, .int 0]))] := hD
  refine W.widen (k := 0) (n := 0) (Nat.le_of_ble_eq_true rfl) (Nat.le_of_ble_eq_true rfl) ?_
  refine lv_aload_n hx hb dJx4a65c_init_da8c8_4 rfl (lv_at hl 0 rfl) ?_
  refine va_gets hx hb (hE9.1.narrow hAz) hS hown (hts (.fieldLink RJx4a65c 39 "java/util/ArrayList" "DEFAULTCAPACITY_EMPTY_ELEMENTDATA" "[Ljava/lang/Object;") (by decide +kernel)) (fun _ h9 => h9) dJx4a65c_init_da8c8_5 ?_
  refine va_put (D := D) (ci := 0) (v := .ref em) (ty := .array (.object "java/lang/Object")) (C := RJx4a65c) (T := TJx4a65c) (N := 3) hx hb hts (by decide +kernel) tyJx4a65c tyJx4a65c_ok nmJx4a65c hown hX.1 hP hD hS 0 rfl rfl 1 (by decide) (hts (.fieldLink RJx4a65c 9 "java/util/ArrayList" "elementData" "[Ljava/lang/Object;") (by decide +kernel)) (fun _ h9 => h9) rfl (by decide +kernel) rfl rfl (Nat.le_of_ble_eq_true rfl) dJx4a65c_init_da8c8_8 (fun H locs hP hD hS => ?_)
  have hP : va_P D vwCl [(h0, .inr (0, [.int 0, .ref em, .int 0]))] H := hP
  have hD : va_D A [(h0, .inr (0, [.int 0, .ref em, .int 0]))] := hD
  have hP9 := hP.sub (ws' := [(h0, .inr (0, [.int 0, .ref em, .int 0]))]) [0] rfl
  have hD9 := hD.sub (ws' := [(h0, .inr (0, [.int 0, .ref em, .int 0]))]) [0] (by decide) rfl
  refine W.widen (k := 0) (n := 0) (Nat.le_of_ble_eq_true rfl) (Nat.le_of_ble_eq_true rfl) ?_
  exact W.vret hx hb hr (fun t ht hW9 => ⟨⟨(), rfl, trivial, ⟨by show va_P _ _ _ t.heap; rw [ht]; exact hP9, hD9⟩⟩, hS.F ht⟩) hS.2.2 dJx4a65c_init_da8c8_11

set_option maxHeartbeats 4000000 in
set_option maxRecDepth 100000 in
theorem l_J7_copyOf_6403c (l : Launch) (D : va_G) (cA : Nat → ClassId) (z em mi : Nat) (A : Nat → Prop)   : Met l yJ7_copyOf_6403c wsJ7_copyOf_6403c ({ frames := 1, cells := 1, slots := 0, locals := 40 }) (pcPreE D vwCl (tyL cA) z em mi [.ref em, .int 0, .ref mi] (fun H => va_P D vwCl [] H ∧ va_D A [] ∧ (∀ q, H.size ≤ q → A q) ∧ (∀ q, A q → z ≤ q))) (va_Qr (fun (u : Unit) => True) (fun (u : Unit) (q520 : Nat) t => va_P D vwCl [(q520, .inl (cA 8, 0, .inr (.inr (.inr (.inr (fun _ => none))))))] t.heap ∧ va_D A [(q520, .inl (cA 8, 0, .inr (.inr (.inr (.inr (fun _ => none))))))]) A) 1 0 A := by
  refine Met.ofW (cc := cJ7_copyOf_6403c) (maxL := 4) (ret := (some (.array (.object "java/lang/Object")))) (by decide) rfl ?_
  intro p e s m args below meth c s₁ B hml hv
  obtain ⟨rfl, hX, hF9, ⟨hE9, hz⟩, hP, hD, hA, hAz⟩ := hv
  have hx := B.exec
  have hb := B.bytes
  have hr := B.returns
  have hts := atoms_spec (ws := wsJ7_copyOf_6403c) B.pre
  have hown : s.vm.findClass RJ7 = some m.cls := findClass_of_methodNamed B.named
  have hlocks := B.notSynchronized
  have hS : va_S A s.heap s.heap [] := va_S.rf
  have hl := lv_entry ([.ref em, .int 0, .ref mi]) (n := 4) (Nat.le_of_ble_eq_true rfl)
  rw [lg_entry_eq]
  generalize (lg_sl ([.ref em, .int 0, .ref mi]) ++ List.replicate (4 - (lg_sl ([.ref em, .int 0, .ref mi])).length) Slot.unset).toArray = ls at hl ⊢
  have hl : lv_has ls 4 [(0, .ref em), (1, .int 0), (2, .ref mi)] := hl
  refine lv_aload_n hx hb dJ7_copyOf_6403c_0 rfl (lv_at hl 2 rfl) ?_
  refine va_ldcM hx hb hown (hts (.classLink RJ7 110 "[Ljava/lang/Object;") (by decide +kernel)) hF9.1 dJ7_copyOf_6403c_1 ?_
  refine lv_acmp_ne (rx := some mi) (ry := some mi) (tgt := 13) hx hb dJ7_copyOf_6403c_3 (by decide) (fun c519 => absurd rfl c519) (fun _ => ?_)
  refine lv_iload_n hx hb dJ7_copyOf_6403c_6 rfl (lv_at hl 1 rfl) ?_
  refine va_newq (C := "java/lang/Object") (N' := 0) hx hb hown (hts (.classLink RJ7 2 "java/lang/Object") (by decide +kernel)) (hX.2.2.1 "java/lang/Object" (by decide +kernel)) hX.1 hP hD hS hA (by decide) (by decide) (Nat.le_of_ble_eq_true rfl) (Nat.le_of_ble_eq_true rfl) (Nat.le_of_ble_eq_true rfl) dJ7_copyOf_6403c_7 (fun q520 y521 H hK9 hP hD hS => ?_)
  obtain rfl : y521 = cA 8 := va_K_last (t0 := 8) hX.1 rfl hK9
  have hP : va_P D vwCl [(q520, .inl (cA 8, 0, .inr (.inr (.inr (.inr (fun _ => none))))))] H := hP
  have hD : va_D A [(q520, .inl (cA 8, 0, .inr (.inr (.inr (.inr (fun _ => none))))))] := hD
  refine W.widen (k := 1) (n := 0) (Nat.le_of_ble_eq_true rfl) (Nat.le_of_ble_eq_true rfl) ?_
  refine lv_goto (tgt := 24) hx hb dJ7_copyOf_6403c_10 (by decide) ?_
  refine lv_astore_n (lv' := [(3, .ref q520), (0, .ref em), (1, .int 0), (2, .ref mi)]) hx hb dJ7_copyOf_6403c_24 rfl hl (by decide) rfl (fun ls hl => ?_)
  refine lv_aload_n hx hb dJ7_copyOf_6403c_25 rfl (lv_at hl 1 rfl) ?_
  refine lv_iconst (v := 0) hx hb dJ7_copyOf_6403c_26 (by decide) ?_
  refine lv_aload_n hx hb dJ7_copyOf_6403c_27 rfl (lv_at hl 0 rfl) ?_
  refine lv_iconst (v := 0) hx hb dJ7_copyOf_6403c_28 (by decide) ?_
  refine lv_aload_n hx hb dJ7_copyOf_6403c_29 rfl (lv_at hl 1 rfl) ?_
  refine va_tlen (v := 0) hx hb (hE9.2.1.narrow hAz) hS rfl dJ7_copyOf_6403c_30 ?_
  refine lv_iload_n hx hb dJ7_copyOf_6403c_31 rfl (lv_at hl 2 rfl) ?_
  refine va_mmin hx hb (hml.trans hl.1.symm) hown (hts (.methodLink RJ7 304 Lib.Math.min.name) (by decide +kernel)) (hts (.static Lib.Math.min.name) (by decide +kernel)) (hts (.initialized "java/lang/Math") (by decide +kernel)) (hts (.code Lib.Math.min.name Lib.Math.min.code 2 (some .int)) (by decide +kernel)) (Nat.le_of_ble_eq_true rfl) (Nat.le_of_ble_eq_true rfl) (Nat.le_of_ble_eq_true rfl) (Nat.le_of_ble_eq_true rfl) dJ7_copyOf_6403c_32 ?_
  refine lv_topi (fun a523 ea523 => ?_)
  obtain rfl : a523 = 0 := ea523.trans (by decide)
  refine va_copyg (E0 := "java/lang/Object") (E1 := "java/lang/Object") hx hb (hml.trans hl.1.symm) hown (hts (.methodLink RJ7 150 arraycopyName) (by decide +kernel)) (hts (.native arraycopyName) (by decide +kernel)) (hts (.static arraycopyName) (by decide +kernel)) (hts (.initialized "java/lang/System") (by decide +kernel)) hX.1 hP hD hS 0 8 (hE9.2.1.narrow hAz) rfl rfl (by decide) (by decide) (by decide) (Nat.le_of_ble_eq_true rfl) (Nat.le_of_ble_eq_true rfl) (Nat.le_of_ble_eq_true rfl) (Nat.le_of_ble_eq_true rfl) dJ7_copyOf_6403c_35 (fun H locs hP hD hS => ?_)
  rw [va_cpy_none] at hP hD
  have hP : va_P D vwCl [(q520, .inl (cA 8, 0, .inr (.inr (.inr (.inr (fun _ => none))))))] H := hP
  have hD : va_D A [(q520, .inl (cA 8, 0, .inr (.inr (.inr (.inr (fun _ => none))))))] := hD
  refine lv_aload_n hx hb dJ7_copyOf_6403c_38 rfl (lv_at hl 0 rfl) ?_
  have hP9 := hP.sub (ws' := [(q520, .inl (cA 8, 0, .inr (.inr (.inr (.inr (fun _ => none))))))]) [0] rfl
  have hD9 := hD.sub (ws' := [(q520, .inl (cA 8, 0, .inr (.inr (.inr (.inr (fun _ => none))))))]) [0] (by decide) rfl
  refine W.widen (k := 1) (n := 0) (Nat.le_of_ble_eq_true rfl) (Nat.le_of_ble_eq_true rfl) ?_
  exact W.aret (v := .ref q520) hx hb hr (by first | exact Or.inl ⟨_, rfl⟩ | exact Or.inr ⟨_, rfl⟩) (Or.inr ⟨_, rfl⟩) (fun t ht hW9 => ⟨⟨(), q520, rfl, trivial, ⟨by show va_P _ _ _ t.heap; rw [ht]; exact hP9, hD9⟩⟩, hS.F ht⟩) hS.2.2 dJ7_copyOf_6403c_39

set_option maxHeartbeats 4000000 in
set_option maxRecDepth 100000 in
theorem l_J7_copyOf_1904c (l : Launch) (D : va_G) (cA : Nat → ClassId) (z em mi : Nat) (A : Nat → Prop)   : Met l yJ7_copyOf_1904c wsJ7_copyOf_1904c ({ frames := 2, cells := 1, slots := 0, locals := 63 }) (pcPreE D vwCl (tyL cA) z em mi [.ref em, .int 0] (fun H => va_P D vwCl [] H ∧ va_D A [] ∧ (∀ q, H.size ≤ q → A q) ∧ (∀ q, A q → z ≤ q))) (va_Qr (fun (u : Unit) => True) (fun (u : Unit) (q527 : Nat) t => va_P D vwCl [(q527, .inl (cA 8, 0, .inr (.inr (.inr (.inr (fun _ => none))))))] t.heap ∧ va_D A [(q527, .inl (cA 8, 0, .inr (.inr (.inr (.inr (fun _ => none))))))]) A) 1 0 A := by
  refine Met.ofW (cc := cJ7_copyOf_1904c) (maxL := 2) (ret := (some (.array (.object "java/lang/Object")))) (by decide) rfl ?_
  intro p e s m args below meth c s₁ B hml hv
  obtain ⟨rfl, hX, hF9, ⟨hE9, hz⟩, hP, hD, hA, hAz⟩ := hv
  have hx := B.exec
  have hb := B.bytes
  have hr := B.returns
  have hts := atoms_spec (ws := wsJ7_copyOf_1904c) B.pre
  have hown : s.vm.findClass RJ7 = some m.cls := findClass_of_methodNamed B.named
  have hlocks := B.notSynchronized
  have hS : va_S A s.heap s.heap [] := va_S.rf
  have hl := lv_entry ([.ref em, .int 0]) (n := 2) (Nat.le_of_ble_eq_true rfl)
  rw [lg_entry_eq]
  generalize (lg_sl ([.ref em, .int 0]) ++ List.replicate (2 - (lg_sl ([.ref em, .int 0])).length) Slot.unset).toArray = ls at hl ⊢
  have hl : lv_has ls 2 [(0, .ref em), (1, .int 0)] := hl
  refine lv_aload_n hx hb dJ7_copyOf_1904c_0 rfl (lv_at hl 0 rfl) ?_
  refine lv_iload_n hx hb dJ7_copyOf_1904c_1 rfl (lv_at hl 1 rfl) ?_
  refine lv_aload_n hx hb dJ7_copyOf_1904c_2 rfl (lv_at hl 0 rfl) ?_
  refine va_getC hx hb (hml.trans hl.1.symm) hown (hts (.methodLink RJ7 86 ⟨"java/lang/Object", "getClass", "()Ljava/lang/Class;"⟩) (by decide +kernel)) hF9.2.1.use (hts (.selects "[Ljava/lang/Object;" ⟨"java/lang/Object", "getClass", "()Ljava/lang/Class;"⟩ ⟨"java/lang/Object", "getClass", "()Ljava/lang/Class;"⟩) (by decide +kernel)) (hts (.instanceMethod ⟨"java/lang/Object", "getClass", "()Ljava/lang/Class;"⟩) (by decide +kernel)) (hts (.native ⟨"java/lang/Object", "getClass", "()Ljava/lang/Class;"⟩) (by decide +kernel)) hF9.1 (va_Orecv (hE9.2.2.narrow hAz) hS) (Nat.le_of_ble_eq_true rfl) (Nat.le_of_ble_eq_true rfl) dJ7_copyOf_1904c_3 ?_
  have hPc := hP.sub (ws' := []) [] rfl
  have hDc := (hD.sub (ws' := []) [] (by decide) rfl).self (sz := s.heap.size)
  have hFc := va_free (wc := []) hD hS hA [] rfl
  refine va_callr (va_runS (As := [.ref em, .int 0, .ref mi]) (rest := []) ⟨hx, hb, hml, hown, hts⟩ (l_J7_copyOf_6403c l D cA z em mi (va_A [] s.heap.size) ) (va_cwS 3 hts gJ7_copyOf_1904c_J7_copyOf_6403c rfl rfl rfl (by decide +kernel) ⟨Nat.le_of_ble_eq_true rfl, Nat.le_of_ble_eq_true rfl⟩) (pcE_preS hX hF9 (pcE_kept hE9 hAz hS) (Nat.le_trans hz hS.1) ⟨hPc, hDc, fun q h => Or.inr h, fun q h => hAz q (hFc q h)⟩) rfl rfl hl.1 rfl (lv_room (Nat.le_of_ble_eq_true rfl)) dJ7_copyOf_1904c_6 ⟨Nat.le_of_ble_eq_true rfl, Nat.le_of_ble_eq_true rfl⟩) hS (fun q _ h => hFc q h) hFc (fun u524 q527 t H1 locs ht hvm hw hB hz1 hk1 hS => ?_)
  obtain ⟨hP1, hD1⟩ := hB
  rw [ht] at hP1
  obtain ⟨hP, hD⟩ := va_join (wr := []) (w1 := [(q527, .inl (cA 8, 0, .inr (.inr (.inr (.inr (fun _ => none))))))]) hP hD [] [] rfl rfl (by decide) (by decide) hk1 hFc hP1 hD1
  generalize H1 = H at hP hS ⊢
  have hP : va_P D vwCl [(q527, .inl (cA 8, 0, .inr (.inr (.inr (.inr (fun _ => none))))))] H := hP
  have hD : va_D A [(q527, .inl (cA 8, 0, .inr (.inr (.inr (.inr (fun _ => none))))))] := hD
  refine W.widen (k := 1) (n := 0) (Nat.le_of_ble_eq_true rfl) (Nat.le_of_ble_eq_true rfl) ?_
  have hP9 := hP.sub (ws' := [(q527, .inl (cA 8, 0, .inr (.inr (.inr (.inr (fun _ => none))))))]) [0] rfl
  have hD9 := hD.sub (ws' := [(q527, .inl (cA 8, 0, .inr (.inr (.inr (.inr (fun _ => none))))))]) [0] (by decide) rfl
  refine W.widen (k := 1) (n := 0) (Nat.le_of_ble_eq_true rfl) (Nat.le_of_ble_eq_true rfl) ?_
  exact W.aret (v := .ref q527) hx hb hr (by first | exact Or.inl ⟨_, rfl⟩ | exact Or.inr ⟨_, rfl⟩) (Or.inr ⟨_, rfl⟩) (fun t ht hW9 => ⟨⟨(), q527, rfl, trivial, ⟨by show va_P _ _ _ t.heap; rw [ht]; exact hP9, hD9⟩⟩, hS.F ht⟩) hS.2.2 dJ7_copyOf_1904c_9

set_option maxHeartbeats 4000000 in
set_option maxRecDepth 100000 in
theorem l_Jx4a65c_toArray_d5877 (l : Launch) (D : va_G) (cA : Nat → ClassId) (z em mi : Nat) (A : Nat → Prop) (h0 : Nat) (k0 : Int32)  : Met l yJx4a65c_toArray_d5877 wsJx4a65c_toArray_d5877 ({ frames := 3, cells := 1, slots := 0, locals := 84 }) (pcPreE D vwCl (tyL cA) z em mi [.ref h0] (fun H => va_P D vwCl [(h0, .inr (0, [.int k0, .ref em, .int 0]))] H ∧ va_D A [(h0, .inr (0, [.int k0, .ref em, .int 0]))] ∧ (∀ q, H.size ≤ q → A q) ∧ (∀ q, A q → z ≤ q))) (va_Qr (fun (u : Unit) => True) (fun (u : Unit) (q532 : Nat) t => va_P D vwCl [(h0, .inr (0, [.int k0, .ref em, .int 0])), (q532, .inl (cA 8, 0, .inr (.inr (.inr (.inr (fun _ => none))))))] t.heap ∧ va_D A [(h0, .inr (0, [.int k0, .ref em, .int 0])), (q532, .inl (cA 8, 0, .inr (.inr (.inr (.inr (fun _ => none))))))]) A) 1 0 A := by
  refine Met.ofW (cc := cJx4a65c_toArray_d5877) (maxL := 1) (ret := (some (.array (.object "java/lang/Object")))) (by decide) rfl ?_
  intro p e s m args below meth c s₁ B hml hv
  obtain ⟨rfl, hX, hF9, ⟨hE9, hz⟩, hP, hD, hA, hAz⟩ := hv
  have hx := B.exec
  have hb := B.bytes
  have hr := B.returns
  have hts := atoms_spec (ws := wsJx4a65c_toArray_d5877) B.pre
  have hown : s.vm.findClass RJx4a65c = some m.cls := findClass_of_methodNamed B.named
  have hlocks := B.notSynchronized
  have hS : va_S A s.heap s.heap [] := va_S.rf
  have hl := lv_entry ([.ref h0]) (n := 1) (Nat.le_of_ble_eq_true rfl)
  rw [lg_entry_eq]
  generalize (lg_sl ([.ref h0]) ++ List.replicate (1 - (lg_sl ([.ref h0])).length) Slot.unset).toArray = ls at hl ⊢
  have hl : lv_has ls 1 [(0, .ref h0)] := hl
  refine lv_aload_n hx hb dJx4a65c_toArray_d5877_0 rfl (lv_at hl 0 rfl) ?_
  refine va_get (D := D) (ci := 0) (v := .ref em) (C := RJx4a65c) (T := TJx4a65c) (N := 3) hx hb hts (by decide +kernel) hown hX.1 hP 0 rfl rfl 1 (by decide) (hts (.fieldLink RJx4a65c 9 "java/util/ArrayList" "elementData" "[Ljava/lang/Object;") (by decide +kernel)) (fun _ h9 => h9) rfl dJx4a65c_toArray_d5877_1 ?_
  refine lv_aload_n hx hb dJx4a65c_toArray_d5877_4 rfl (lv_at hl 0 rfl) ?_
  refine va_get (D := D) (ci := 0) (v := .int 0) (C := RJx4a65c) (T := TJx4a65c) (N := 3) hx hb hts (by decide +kernel) hown hX.1 hP 0 rfl rfl 2 (by decide) (hts (.fieldLink RJx4a65c 48 "java/util/ArrayList" "size" "I") (by decide +kernel)) (fun _ h9 => h9) rfl dJx4a65c_toArray_d5877_5 ?_
  have hPc := hP.sub (ws' := []) [] rfl
  have hDc := (hD.sub (ws' := []) [] (by decide) rfl).self (sz := s.heap.size)
  have hFc := va_free (wc := []) hD hS hA [] rfl
  refine va_callr (va_runS (As := [.ref em, .int 0]) (rest := []) ⟨hx, hb, hml, hown, hts⟩ (l_J7_copyOf_1904c l D cA z em mi (va_A [] s.heap.size) ) (va_cwS 2 hts gJx4a65c_toArray_d5877_J7_copyOf_1904c rfl rfl rfl (by decide +kernel) ⟨Nat.le_of_ble_eq_true rfl, Nat.le_of_ble_eq_true rfl⟩) (pcE_preS hX hF9 (pcE_kept hE9 hAz hS) (Nat.le_trans hz hS.1) ⟨hPc, hDc, fun q h => Or.inr h, fun q h => hAz q (hFc q h)⟩) rfl rfl hl.1 rfl (lv_room (Nat.le_of_ble_eq_true rfl)) dJx4a65c_toArray_d5877_8 ⟨Nat.le_of_ble_eq_true rfl, Nat.le_of_ble_eq_true rfl⟩) hS (fun q _ h => hFc q h) hFc (fun u529 q532 t H1 locs ht hvm hw hB hz1 hk1 hS => ?_)
  obtain ⟨hP1, hD1⟩ := hB
  rw [ht] at hP1
  obtain ⟨hP, hD⟩ := va_join (wr := [(h0, .inr (0, [.int k0, .ref em, .int 0]))]) (w1 := [(q532, .inl (cA 8, 0, .inr (.inr (.inr (.inr (fun _ => none))))))]) hP hD [] [0] rfl rfl (by decide) (by decide) hk1 hFc hP1 hD1
  generalize H1 = H at hP hS ⊢
  have hP : va_P D vwCl [(h0, .inr (0, [.int k0, .ref em, .int 0])), (q532, .inl (cA 8, 0, .inr (.inr (.inr (.inr (fun _ => none))))))] H := hP
  have hD : va_D A [(h0, .inr (0, [.int k0, .ref em, .int 0])), (q532, .inl (cA 8, 0, .inr (.inr (.inr (.inr (fun _ => none))))))] := hD
  refine W.widen (k := 1) (n := 0) (Nat.le_of_ble_eq_true rfl) (Nat.le_of_ble_eq_true rfl) ?_
  have hP9 := hP.sub (ws' := [(h0, .inr (0, [.int k0, .ref em, .int 0])), (q532, .inl (cA 8, 0, .inr (.inr (.inr (.inr (fun _ => none))))))]) [0, 1] rfl
  have hD9 := hD.sub (ws' := [(h0, .inr (0, [.int k0, .ref em, .int 0])), (q532, .inl (cA 8, 0, .inr (.inr (.inr (.inr (fun _ => none))))))]) [0, 1] (by decide) rfl
  refine W.widen (k := 1) (n := 0) (Nat.le_of_ble_eq_true rfl) (Nat.le_of_ble_eq_true rfl) ?_
  exact W.aret (v := .ref q532) hx hb hr (by first | exact Or.inl ⟨_, rfl⟩ | exact Or.inr ⟨_, rfl⟩) (Or.inr ⟨_, rfl⟩) (fun t ht hW9 => ⟨⟨(), q532, rfl, trivial, ⟨by show va_P _ _ _ t.heap; rw [ht]; exact hP9, hD9⟩⟩, hS.F ht⟩) hS.2.2 dJx4a65c_toArray_d5877_11

set_option maxHeartbeats 4000000 in
set_option maxRecDepth 100000 in
theorem l_Jx4a65c_addAll_f0b43 (l : Launch) (D : va_G) (cA : Nat → ClassId) (z em mi : Nat) (A : Nat → Prop) (h0 h1 : Nat)  : Met l yJx4a65c_addAll_f0b43 wsJx4a65c_addAll_f0b43 ({ frames := 4, cells := 1, slots := 0, locals := 104 }) (pcPreE D vwCl (tyL cA) z em mi [.ref h0, .ref h1] (fun H => va_P D vwCl [(h0, .inr (0, [.int 0, .ref em, .int 0])), (h1, .inr (0, [.int 0, .ref em, .int 0]))] H ∧ va_D A [(h0, .inr (0, [.int 0, .ref em, .int 0])), (h1, .inr (0, [.int 0, .ref em, .int 0]))] ∧ (∀ q, H.size ≤ q → A q) ∧ (∀ q, A q → z ≤ q))) (va_Qi (fun (r : Int32) (u : Unit) => r = 0) (fun (u : Unit) t => va_P D vwCl [(h0, .inr (0, [.int 1, .ref em, .int 0])), (h1, .inr (0, [.int 0, .ref em, .int 0]))] t.heap ∧ va_D A [(h0, .inr (0, [.int 1, .ref em, .int 0])), (h1, .inr (0, [.int 0, .ref em, .int 0]))]) A) 1 0 A := by
  refine Met.ofW (cc := cJx4a65c_addAll_f0b43) (maxL := 6) (ret := (some .boolean)) (by decide) rfl ?_
  intro p e s m args below meth c s₁ B hml hv
  obtain ⟨rfl, hX, hF9, ⟨hE9, hz⟩, hP, hD, hA, hAz⟩ := hv
  have hx := B.exec
  have hb := B.bytes
  have hr := B.returns
  have hts := atoms_spec (ws := wsJx4a65c_addAll_f0b43) B.pre
  have hown : s.vm.findClass RJx4a65c = some m.cls := findClass_of_methodNamed B.named
  have hlocks := B.notSynchronized
  have hS : va_S A s.heap s.heap [] := va_S.rf
  have hl := lv_entry ([.ref h0, .ref h1]) (n := 6) (Nat.le_of_ble_eq_true rfl)
  rw [lg_entry_eq]
  generalize (lg_sl ([.ref h0, .ref h1]) ++ List.replicate (6 - (lg_sl ([.ref h0, .ref h1])).length) Slot.unset).toArray = ls at hl ⊢
  have hl : lv_has ls 6 [(0, .ref h0), (1, .ref h1)] := hl
  refine lv_aload_n hx hb dJx4a65c_addAll_f0b43_0 rfl (lv_at hl 1 rfl) ?_
  have hPc := hP.sub (ws' := [(h1, .inr (0, [.int 0, .ref em, .int 0]))]) [1] rfl
  have hDc := (hD.sub (ws' := [(h1, .inr (0, [.int 0, .ref em, .int 0]))]) [1] (by decide) rfl).self (sz := s.heap.size)
  have hFc := va_free (wc := [(h1, .inr (0, [.int 0, .ref em, .int 0]))]) hD hS hA [1] rfl
  refine va_callFr (va_runF (As := []) (rest := []) (hX.1.1 0 _ rfl).2 ⟨hx, hb, hml, hown, hts⟩ (l_Jx4a65c_toArray_d5877 l D cA z em mi (va_A [(h1, .inr (0, [.int 0, .ref em, .int 0]))] s.heap.size) h1 0) (va_cwF 0 hts gJx4a65c_addAll_f0b43_Jx4a65c_toArray_d5877_f42Jx4a65c rfl rfl rfl hF9.2.2.1 (by decide +kernel) ⟨Nat.le_of_ble_eq_true rfl, Nat.le_of_ble_eq_true rfl⟩) (pcE_preVL hX hF9 (pcE_kept hE9 hAz hS) (Nat.le_trans hz hS.1) (va_recv hX.1 hPc (ci := 0) (q0 := 0) rfl rfl) ⟨hPc, hDc, fun q h => Or.inr h, fun q h => hAz q (hFc q h)⟩) rfl rfl hl.1 rfl (lv_room (Nat.le_of_ble_eq_true rfl)) dJx4a65c_addAll_f0b43_1 ⟨Nat.le_of_ble_eq_true rfl, Nat.le_of_ble_eq_true rfl⟩) hS (fun q _ h => hFc q h) hFc (fun u534 q537 t H1 locs ht hvm hw hB hz1 hk1 hS => ?_)
  obtain ⟨hP1, hD1⟩ := hB
  rw [ht] at hP1
  obtain ⟨hP, hD⟩ := va_join (wr := [(h0, .inr (0, [.int 0, .ref em, .int 0]))]) (w1 := [(h1, .inr (0, [.int 0, .ref em, .int 0])), (q537, .inl (cA 8, 0, .inr (.inr (.inr (.inr (fun _ => none))))))]) hP hD [1] [0] rfl rfl (by decide) (by decide) hk1 hFc hP1 hD1
  generalize H1 = H at hP hS ⊢
  have hP : va_P D vwCl [(h0, .inr (0, [.int 0, .ref em, .int 0])), (h1, .inr (0, [.int 0, .ref em, .int 0])), (q537, .inl (cA 8, 0, .inr (.inr (.inr (.inr (fun _ => none))))))] H := hP
  have hD : va_D A [(h0, .inr (0, [.int 0, .ref em, .int 0])), (h1, .inr (0, [.int 0, .ref em, .int 0])), (q537, .inl (cA 8, 0, .inr (.inr (.inr (.inr (fun _ => none))))))] := hD
  refine W.widen (k := 1) (n := 0) (Nat.le_of_ble_eq_true rfl) (Nat.le_of_ble_eq_true rfl) ?_
  refine lv_astore_n (lv' := [(2, .ref q537), (0, .ref h0), (1, .ref h1)]) hx hb dJx4a65c_addAll_f0b43_6 rfl hl (by decide) rfl (fun ls hl => ?_)
  refine lv_aload_n hx hb dJx4a65c_addAll_f0b43_7 rfl (lv_at hl 1 rfl) ?_
  refine lv_dup hx hb dJx4a65c_addAll_f0b43_8 rfl ?_
  refine va_get (D := D) (ci := 0) (v := .int 0) (C := RJx4a65c) (T := TJx4a65c) (N := 3) hx hb hts (by decide +kernel) hown hX.1 hP 0 rfl rfl 0 (by decide) (hts (.fieldLink RJx4a65c 63 "java/util/ArrayList" "modCount" "I") (by decide +kernel)) (fun x h9 => u_same (hts (.sameField "java/util/ArrayList" "java/util/AbstractList" "modCount" "I") (by decide +kernel)) x h9) rfl dJx4a65c_addAll_f0b43_9 ?_
  refine lv_iconst (v := 1) hx hb dJx4a65c_addAll_f0b43_12 (by decide) ?_
  refine lv_iadd hx hb dJx4a65c_addAll_f0b43_13 ?_
  refine lv_topi (fun a539 ea539 => ?_)
  obtain rfl : a539 = 1 := ea539.trans (by decide)
  refine va_put (D := D) (ci := 0) (v := .int 1) (ty := .int) (C := RJx4a65c) (T := TJx4a65c) (N := 3) hx hb hts (by decide +kernel) tyJx4a65c tyJx4a65c_ok nmJx4a65c hown hX.1 hP hD hS 0 rfl rfl 0 (by decide) (hts (.fieldLink RJx4a65c 63 "java/util/ArrayList" "modCount" "I") (by decide +kernel)) (fun x h9 => u_same (hts (.sameField "java/util/ArrayList" "java/util/AbstractList" "modCount" "I") (by decide +kernel)) x h9) rfl (by decide +kernel) rfl rfl (Nat.le_of_ble_eq_true rfl) dJx4a65c_addAll_f0b43_14 (fun H locs hP hD hS => ?_)
  have hP : va_P D vwCl [(h0, .inr (0, [.int 1, .ref em, .int 0])), (h1, .inr (0, [.int 0, .ref em, .int 0])), (q537, .inl (cA 8, 0, .inr (.inr (.inr (.inr (fun _ => none))))))] H := hP
  have hD : va_D A [(h0, .inr (0, [.int 1, .ref em, .int 0])), (h1, .inr (0, [.int 0, .ref em, .int 0])), (q537, .inl (cA 8, 0, .inr (.inr (.inr (.inr (fun _ => none))))))] := hD
  refine lv_aload_n hx hb dJx4a65c_addAll_f0b43_17 rfl (lv_at hl 0 rfl) ?_
  refine va_alen (v := 0) hx hb hX.1 hP 2 8 rfl rfl rfl dJx4a65c_addAll_f0b43_18 ?_
  refine lv_istore_n (lv' := [(3, .int 0), (2, .ref q537), (0, .ref h0), (1, .ref h1)]) hx hb dJx4a65c_addAll_f0b43_19 rfl hl (by decide) rfl (fun ls hl => ?_)
  refine lv_iload_n hx hb dJx4a65c_addAll_f0b43_20 rfl (lv_at hl 0 rfl) ?_
  refine lv_if_ne (tgt := 26) hx hb dJx4a65c_addAll_f0b43_21 (by decide) (fun c540 => absurd c540 (by decide)) (fun _ => ?_)
  refine lv_iconst (v := 0) hx hb dJx4a65c_addAll_f0b43_24 (by decide) ?_
  have hP9 := hP.sub (ws' := [(h0, .inr (0, [.int 1, .ref em, .int 0])), (h1, .inr (0, [.int 0, .ref em, .int 0]))]) [0, 1] rfl
  have hD9 := hD.sub (ws' := [(h0, .inr (0, [.int 1, .ref em, .int 0])), (h1, .inr (0, [.int 0, .ref em, .int 0]))]) [0, 1] (by decide) rfl
  refine W.widen (k := 1) (n := 0) (Nat.le_of_ble_eq_true rfl) (Nat.le_of_ble_eq_true rfl) ?_
  exact W.zret (v := 0) hx hb hr rfl (fun t ht hW9 => ⟨⟨0, (), rfl, rfl, ⟨by show va_P _ _ _ t.heap; rw [ht]; exact hP9, hD9⟩⟩, hS.F ht⟩) hS.2.2 dJx4a65c_addAll_f0b43_25

set_option maxHeartbeats 4000000 in
set_option maxRecDepth 100000 in
theorem l_Jx4a65c_grow_92f84 (l : Launch) (D : va_G) (cA : Nat → ClassId) (z em mi : Nat) (A : Nat → Prop) (h0 : Nat) (k0 : Int32)  : Met l yJx4a65c_grow_92f84 wsJx4a65c_grow_92f84 ({ frames := 1, cells := 1, slots := 10, locals := 40 }) (pcPreE D vwCl (tyL cA) z em mi [.ref h0, .int 1] (fun H => va_P D vwCl [(h0, .inr (0, [.int k0, .ref em, .int 0]))] H ∧ va_D A [(h0, .inr (0, [.int k0, .ref em, .int 0]))] ∧ (∀ q, H.size ≤ q → A q) ∧ (∀ q, A q → z ≤ q))) (va_Qr (fun (u : Unit) => True) (fun (u : Unit) (q544 : Nat) t => va_P D vwCl [(h0, .inr (0, [.int k0, .ref q544, .int 0])), (q544, .inl (cA 8, 10, .inr (.inr (.inr (.inr (fun _ => none))))))] t.heap ∧ va_D A [(h0, .inr (0, [.int k0, .ref q544, .int 0])), (q544, .inl (cA 8, 10, .inr (.inr (.inr (.inr (fun _ => none))))))]) A) 1 10 A := by
  refine Met.ofW (cc := cJx4a65c_grow_92f84) (maxL := 4) (ret := (some (.array (.object "java/lang/Object")))) (by decide) rfl ?_
  intro p e s m args below meth c s₁ B hml hv
  obtain ⟨rfl, hX, hF9, ⟨hE9, hz⟩, hP, hD, hA, hAz⟩ := hv
  have hx := B.exec
  have hb := B.bytes
  have hr := B.returns
  have hts := atoms_spec (ws := wsJx4a65c_grow_92f84) B.pre
  have hown : s.vm.findClass RJx4a65c = some m.cls := findClass_of_methodNamed B.named
  have hlocks := B.notSynchronized
  have hS : va_S A s.heap s.heap [] := va_S.rf
  have hl := lv_entry ([.ref h0, .int 1]) (n := 4) (Nat.le_of_ble_eq_true rfl)
  rw [lg_entry_eq]
  generalize (lg_sl ([.ref h0, .int 1]) ++ List.replicate (4 - (lg_sl ([.ref h0, .int 1])).length) Slot.unset).toArray = ls at hl ⊢
  have hl : lv_has ls 4 [(0, .ref h0), (1, .int 1)] := hl
  refine lv_aload_n hx hb dJx4a65c_grow_92f84_0 rfl (lv_at hl 0 rfl) ?_
  refine va_get (D := D) (ci := 0) (v := .ref em) (C := RJx4a65c) (T := TJx4a65c) (N := 3) hx hb hts (by decide +kernel) hown hX.1 hP 0 rfl rfl 1 (by decide) (hts (.fieldLink RJx4a65c 9 "java/util/ArrayList" "elementData" "[Ljava/lang/Object;") (by decide +kernel)) (fun _ h9 => h9) rfl dJx4a65c_grow_92f84_1 ?_
  refine va_tlen (v := 0) hx hb (hE9.2.1.narrow hAz) hS rfl dJx4a65c_grow_92f84_4 ?_
  refine lv_istore_n (lv' := [(2, .int 0), (0, .ref h0), (1, .int 1)]) hx hb dJx4a65c_grow_92f84_5 rfl hl (by decide) rfl (fun ls hl => ?_)
  refine lv_iload_n hx hb dJx4a65c_grow_92f84_6 rfl (lv_at hl 0 rfl) ?_
  refine lv_if_gt (tgt := 20) hx hb dJx4a65c_grow_92f84_7 (by decide) (fun c541 => absurd c541 (by decide)) (fun _ => ?_)
  refine lv_aload_n hx hb dJx4a65c_grow_92f84_10 rfl (lv_at hl 1 rfl) ?_
  refine va_get (D := D) (ci := 0) (v := .ref em) (C := RJx4a65c) (T := TJx4a65c) (N := 3) hx hb hts (by decide +kernel) hown hX.1 hP 0 rfl rfl 1 (by decide) (hts (.fieldLink RJx4a65c 9 "java/util/ArrayList" "elementData" "[Ljava/lang/Object;") (by decide +kernel)) (fun _ h9 => h9) rfl dJx4a65c_grow_92f84_11 ?_
  refine va_gets hx hb (hE9.1.narrow hAz) hS hown (hts (.fieldLink RJx4a65c 39 "java/util/ArrayList" "DEFAULTCAPACITY_EMPTY_ELEMENTDATA" "[Ljava/lang/Object;") (by decide +kernel)) (fun _ h9 => h9) dJx4a65c_grow_92f84_14 ?_
  refine lv_acmp_eq (rx := some em) (ry := some em) (tgt := 45) hx hb dJx4a65c_grow_92f84_17 (by decide) (fun _ => ?_) (fun c542 => absurd rfl c542)
  refine lv_aload_n hx hb dJx4a65c_grow_92f84_45 rfl (lv_at hl 1 rfl) ?_
  refine lv_bipush (v := 10) hx hb dJx4a65c_grow_92f84_46 (by decide) ?_
  refine lv_iload_n hx hb dJx4a65c_grow_92f84_48 rfl (lv_at hl 2 rfl) ?_
  refine va_mmax hx hb (hml.trans hl.1.symm) hown (hts (.methodLink RJx4a65c 79 Lib.Math.max.name) (by decide +kernel)) (hts (.static Lib.Math.max.name) (by decide +kernel)) (hts (.initialized "java/lang/Math") (by decide +kernel)) (hts (.code Lib.Math.max.name Lib.Math.max.code 2 (some .int)) (by decide +kernel)) (Nat.le_of_ble_eq_true rfl) (Nat.le_of_ble_eq_true rfl) (Nat.le_of_ble_eq_true rfl) (Nat.le_of_ble_eq_true rfl) dJx4a65c_grow_92f84_49 ?_
  refine lv_topi (fun a543 ea543 => ?_)
  obtain rfl : a543 = 10 := ea543.trans (by decide)
  refine va_newq (C := "java/lang/Object") (N' := 10) hx hb hown (hts (.classLink RJx4a65c 7 "java/lang/Object") (by decide +kernel)) (hX.2.2.1 "java/lang/Object" (by decide +kernel)) hX.1 hP hD hS hA (by decide) (by decide) (Nat.le_of_ble_eq_true rfl) (Nat.le_of_ble_eq_true rfl) (Nat.le_of_ble_eq_true rfl) dJx4a65c_grow_92f84_52 (fun q544 y545 H hK9 hP hD hS => ?_)
  obtain rfl : y545 = cA 8 := va_K_last (t0 := 8) hX.1 rfl hK9
  have hP : va_P D vwCl [(h0, .inr (0, [.int k0, .ref em, .int 0])), (q544, .inl (cA 8, 10, .inr (.inr (.inr (.inr (fun _ => none))))))] H := hP
  have hD : va_D A [(h0, .inr (0, [.int k0, .ref em, .int 0])), (q544, .inl (cA 8, 10, .inr (.inr (.inr (.inr (fun _ => none))))))] := hD
  refine W.widen (k := 1) (n := 10) (Nat.le_of_ble_eq_true rfl) (Nat.le_of_ble_eq_true rfl) ?_
  refine lv_dup_x1 hx hb dJx4a65c_grow_92f84_55 rfl rfl ?_
  refine va_put (D := D) (ci := 0) (v := .ref q544) (ty := .array (.object "java/lang/Object")) (C := RJx4a65c) (T := TJx4a65c) (N := 3) hx hb hts (by decide +kernel) tyJx4a65c tyJx4a65c_ok nmJx4a65c hown hX.1 hP hD hS 0 rfl rfl 1 (by decide) (hts (.fieldLink RJx4a65c 9 "java/util/ArrayList" "elementData" "[Ljava/lang/Object;") (by decide +kernel)) (fun _ h9 => h9) rfl (by decide +kernel) rfl rfl (Nat.le_of_ble_eq_true rfl) dJx4a65c_grow_92f84_56 (fun H locs hP hD hS => ?_)
  have hP : va_P D vwCl [(h0, .inr (0, [.int k0, .ref q544, .int 0])), (q544, .inl (cA 8, 10, .inr (.inr (.inr (.inr (fun _ => none))))))] H := hP
  have hD : va_D A [(h0, .inr (0, [.int k0, .ref q544, .int 0])), (q544, .inl (cA 8, 10, .inr (.inr (.inr (.inr (fun _ => none))))))] := hD
  have hP9 := hP.sub (ws' := [(h0, .inr (0, [.int k0, .ref q544, .int 0])), (q544, .inl (cA 8, 10, .inr (.inr (.inr (.inr (fun _ => none))))))]) [0, 1] rfl
  have hD9 := hD.sub (ws' := [(h0, .inr (0, [.int k0, .ref q544, .int 0])), (q544, .inl (cA 8, 10, .inr (.inr (.inr (.inr (fun _ => none))))))]) [0, 1] (by decide) rfl
  refine W.widen (k := 1) (n := 10) (Nat.le_of_ble_eq_true rfl) (Nat.le_of_ble_eq_true rfl) ?_
  exact W.aret (v := .ref q544) hx hb hr (by first | exact Or.inl ⟨_, rfl⟩ | exact Or.inr ⟨_, rfl⟩) (Or.inr ⟨_, rfl⟩) (fun t ht hW9 => ⟨⟨(), q544, rfl, trivial, ⟨by show va_P _ _ _ t.heap; rw [ht]; exact hP9, hD9⟩⟩, hS.F ht⟩) hS.2.2 dJx4a65c_grow_92f84_59

set_option maxHeartbeats 4000000 in
set_option maxRecDepth 100000 in
theorem l_Jx4a65c_grow_d5877 (l : Launch) (D : va_G) (cA : Nat → ClassId) (z em mi : Nat) (A : Nat → Prop) (h0 : Nat) (k0 : Int32)  : Met l yJx4a65c_grow_d5877 wsJx4a65c_grow_d5877 ({ frames := 2, cells := 1, slots := 10, locals := 63 }) (pcPreE D vwCl (tyL cA) z em mi [.ref h0] (fun H => va_P D vwCl [(h0, .inr (0, [.int k0, .ref em, .int 0]))] H ∧ va_D A [(h0, .inr (0, [.int k0, .ref em, .int 0]))] ∧ (∀ q, H.size ≤ q → A q) ∧ (∀ q, A q → z ≤ q))) (va_Qr (fun (u : Unit) => True) (fun (u : Unit) (q551 : Nat) t => va_P D vwCl [(h0, .inr (0, [.int k0, .ref q551, .int 0])), (q551, .inl (cA 8, 10, .inr (.inr (.inr (.inr (fun _ => none))))))] t.heap ∧ va_D A [(h0, .inr (0, [.int k0, .ref q551, .int 0])), (q551, .inl (cA 8, 10, .inr (.inr (.inr (.inr (fun _ => none))))))]) A) 1 10 A := by
  refine Met.ofW (cc := cJx4a65c_grow_d5877) (maxL := 1) (ret := (some (.array (.object "java/lang/Object")))) (by decide) rfl ?_
  intro p e s m args below meth c s₁ B hml hv
  obtain ⟨rfl, hX, hF9, ⟨hE9, hz⟩, hP, hD, hA, hAz⟩ := hv
  have hx := B.exec
  have hb := B.bytes
  have hr := B.returns
  have hts := atoms_spec (ws := wsJx4a65c_grow_d5877) B.pre
  have hown : s.vm.findClass RJx4a65c = some m.cls := findClass_of_methodNamed B.named
  have hlocks := B.notSynchronized
  have hS : va_S A s.heap s.heap [] := va_S.rf
  have hl := lv_entry ([.ref h0]) (n := 1) (Nat.le_of_ble_eq_true rfl)
  rw [lg_entry_eq]
  generalize (lg_sl ([.ref h0]) ++ List.replicate (1 - (lg_sl ([.ref h0])).length) Slot.unset).toArray = ls at hl ⊢
  have hl : lv_has ls 1 [(0, .ref h0)] := hl
  refine lv_aload_n hx hb dJx4a65c_grow_d5877_0 rfl (lv_at hl 0 rfl) ?_
  refine lv_aload_n hx hb dJx4a65c_grow_d5877_1 rfl (lv_at hl 0 rfl) ?_
  refine va_get (D := D) (ci := 0) (v := .int 0) (C := RJx4a65c) (T := TJx4a65c) (N := 3) hx hb hts (by decide +kernel) hown hX.1 hP 0 rfl rfl 2 (by decide) (hts (.fieldLink RJx4a65c 48 "java/util/ArrayList" "size" "I") (by decide +kernel)) (fun _ h9 => h9) rfl dJx4a65c_grow_d5877_2 ?_
  refine lv_iconst (v := 1) hx hb dJx4a65c_grow_d5877_5 (by decide) ?_
  refine lv_iadd hx hb dJx4a65c_grow_d5877_6 ?_
  refine lv_topi (fun a547 ea547 => ?_)
  obtain rfl : a547 = 1 := ea547.trans (by decide)
  have hPc := hP.sub (ws' := [(h0, .inr (0, [.int k0, .ref em, .int 0]))]) [0] rfl
  have hDc := (hD.sub (ws' := [(h0, .inr (0, [.int k0, .ref em, .int 0]))]) [0] (by decide) rfl).self (sz := s.heap.size)
  have hFc := va_free (wc := [(h0, .inr (0, [.int k0, .ref em, .int 0]))]) hD hS hA [0] rfl
  refine va_callr (va_runV (As := [.int 1]) (rest := []) ⟨hx, hb, hml, hown, hts⟩ (l_Jx4a65c_grow_92f84 l D cA z em mi (va_A [(h0, .inr (0, [.int k0, .ref em, .int 0]))] s.heap.size) h0 k0) (cwV 1 hts gJx4a65c_grow_d5877_Jx4a65c_grow_92f84 rfl rfl rfl (by decide +kernel) ⟨Nat.le_of_ble_eq_true rfl, Nat.le_of_ble_eq_true rfl⟩) (pcE_preVL hX hF9 (pcE_kept hE9 hAz hS) (Nat.le_trans hz hS.1) (va_recv hX.1 hPc (ci := 0) (q0 := 0) rfl rfl) ⟨hPc, hDc, fun q h => Or.inr h, fun q h => hAz q (hFc q h)⟩) rfl rfl hl.1 rfl (lv_room (Nat.le_of_ble_eq_true rfl)) dJx4a65c_grow_d5877_7 ⟨Nat.le_of_ble_eq_true rfl, Nat.le_of_ble_eq_true rfl⟩) hS (fun q _ h => hFc q h) hFc (fun u548 q551 t H1 locs ht hvm hw hB hz1 hk1 hS => ?_)
  obtain ⟨hP1, hD1⟩ := hB
  rw [ht] at hP1
  obtain ⟨hP, hD⟩ := va_join (wr := []) (w1 := [(h0, .inr (0, [.int k0, .ref q551, .int 0])), (q551, .inl (cA 8, 10, .inr (.inr (.inr (.inr (fun _ => none))))))]) hP hD [0] [] rfl rfl (by decide) (by decide) hk1 hFc hP1 hD1
  generalize H1 = H at hP hS ⊢
  have hP : va_P D vwCl [(h0, .inr (0, [.int k0, .ref q551, .int 0])), (q551, .inl (cA 8, 10, .inr (.inr (.inr (.inr (fun _ => none))))))] H := hP
  have hD : va_D A [(h0, .inr (0, [.int k0, .ref q551, .int 0])), (q551, .inl (cA 8, 10, .inr (.inr (.inr (.inr (fun _ => none))))))] := hD
  refine W.widen (k := 1) (n := 10) (Nat.le_of_ble_eq_true rfl) (Nat.le_of_ble_eq_true rfl) ?_
  have hP9 := hP.sub (ws' := [(h0, .inr (0, [.int k0, .ref q551, .int 0])), (q551, .inl (cA 8, 10, .inr (.inr (.inr (.inr (fun _ => none))))))]) [0, 1] rfl
  have hD9 := hD.sub (ws' := [(h0, .inr (0, [.int k0, .ref q551, .int 0])), (q551, .inl (cA 8, 10, .inr (.inr (.inr (.inr (fun _ => none))))))]) [0, 1] (by decide) rfl
  refine W.widen (k := 1) (n := 10) (Nat.le_of_ble_eq_true rfl) (Nat.le_of_ble_eq_true rfl) ?_
  exact W.aret (v := .ref q551) hx hb hr (by first | exact Or.inl ⟨_, rfl⟩ | exact Or.inr ⟨_, rfl⟩) (Or.inr ⟨_, rfl⟩) (fun t ht hW9 => ⟨⟨(), q551, rfl, trivial, ⟨by show va_P _ _ _ t.heap; rw [ht]; exact hP9, hD9⟩⟩, hS.F ht⟩) hS.2.2 dJx4a65c_grow_d5877_10

set_option maxHeartbeats 4000000 in
set_option maxRecDepth 100000 in
theorem l_Jx4a65c_add_72be810 (l : Launch) (D : va_G) (cA : Nat → ClassId) (z em mi : Nat) (A : Nat → Prop) (h0 v0 : Nat) (k0 : Int32) (fs : List Value)  : Met l yJx4a65c_add_72be8 wsJx4a65c_add_72be8 ({ frames := 3, cells := 1, slots := 10, locals := 83 }) (pcPreE D vwCl (tyL cA) z em mi [.ref h0, .ref v0, .ref em, .int 0] (fun H => va_P D vwCl [(h0, .inr (0, [.int k0, .ref em, .int 0])), (v0, .inr (10, fs))] H ∧ va_D A [(h0, .inr (0, [.int k0, .ref em, .int 0])), (v0, .inr (10, fs))] ∧ (∀ q, H.size ≤ q → A q) ∧ (∀ q, A q → z ≤ q))) (va_Qv (fun (u : Unit) => True) (fun (u : Unit) t => ∃ (q557 : Nat), va_P D vwCl [(h0, .inr (0, [.int k0, .ref q557, .int 1])), (v0, .inr (10, fs)), (q557, .inl (cA 8, 10, .inr (.inr (.inr (.inr (va_up (fun _ => none) 0 (some v0)))))))] t.heap ∧ va_D A [(h0, .inr (0, [.int k0, .ref q557, .int 1])), (v0, .inr (10, fs)), (q557, .inl (cA 8, 10, .inr (.inr (.inr (.inr (va_up (fun _ => none) 0 (some v0)))))))]) A) 1 10 A := by
  refine Met.ofW (cc := cJx4a65c_add_72be8) (maxL := 4) (ret := none) (by decide) rfl ?_
  intro p e s m args below meth c s₁ B hml hv
  obtain ⟨rfl, hX, hF9, ⟨hE9, hz⟩, hP, hD, hA, hAz⟩ := hv
  have hx := B.exec
  have hb := B.bytes
  have hr := B.returns
  have hts := atoms_spec (ws := wsJx4a65c_add_72be8) B.pre
  have hown : s.vm.findClass RJx4a65c = some m.cls := findClass_of_methodNamed B.named
  have hlocks := B.notSynchronized
  have hS : va_S A s.heap s.heap [] := va_S.rf
  have hl := lv_entry ([.ref h0, .ref v0, .ref em, .int 0]) (n := 4) (Nat.le_of_ble_eq_true rfl)
  rw [lg_entry_eq]
  generalize (lg_sl ([.ref h0, .ref v0, .ref em, .int 0]) ++ List.replicate (4 - (lg_sl ([.ref h0, .ref v0, .ref em, .int 0])).length) Slot.unset).toArray = ls at hl ⊢
  have hl : lv_has ls 4 [(0, .ref h0), (1, .ref v0), (2, .ref em), (3, .int 0)] := hl
  refine lv_iload_n hx hb dJx4a65c_add_72be8_0 rfl (lv_at hl 3 rfl) ?_
  refine lv_aload_n hx hb dJx4a65c_add_72be8_1 rfl (lv_at hl 2 rfl) ?_
  refine va_tlen (v := 0) hx hb (hE9.2.1.narrow hAz) hS rfl dJx4a65c_add_72be8_2 ?_
  refine lv_icmp_ne (tgt := 11) hx hb dJx4a65c_add_72be8_3 (by decide) (fun c553 => absurd c553 (by decide)) (fun _ => ?_)
  refine lv_aload_n hx hb dJx4a65c_add_72be8_6 rfl (lv_at hl 0 rfl) ?_
  have hPc := hP.sub (ws' := [(h0, .inr (0, [.int k0, .ref em, .int 0]))]) [0] rfl
  have hDc := (hD.sub (ws' := [(h0, .inr (0, [.int k0, .ref em, .int 0]))]) [0] (by decide) rfl).self (sz := s.heap.size)
  have hFc := va_free (wc := [(h0, .inr (0, [.int k0, .ref em, .int 0]))]) hD hS hA [0] rfl
  refine va_callr (va_runV (As := []) (rest := []) ⟨hx, hb, hml, hown, hts⟩ (l_Jx4a65c_grow_d5877 l D cA z em mi (va_A [(h0, .inr (0, [.int k0, .ref em, .int 0]))] s.heap.size) h0 k0) (cwV 0 hts gJx4a65c_add_72be8_Jx4a65c_grow_d5877 rfl rfl rfl (by decide +kernel) ⟨Nat.le_of_ble_eq_true rfl, Nat.le_of_ble_eq_true rfl⟩) (pcE_preVL hX hF9 (pcE_kept hE9 hAz hS) (Nat.le_trans hz hS.1) (va_recv hX.1 hPc (ci := 0) (q0 := 0) rfl rfl) ⟨hPc, hDc, fun q h => Or.inr h, fun q h => hAz q (hFc q h)⟩) rfl rfl hl.1 rfl (lv_room (Nat.le_of_ble_eq_true rfl)) dJx4a65c_add_72be8_7 ⟨Nat.le_of_ble_eq_true rfl, Nat.le_of_ble_eq_true rfl⟩) hS (fun q _ h => hFc q h) hFc (fun u554 q557 t H1 locs ht hvm hw hB hz1 hk1 hS => ?_)
  obtain ⟨hP1, hD1⟩ := hB
  rw [ht] at hP1
  obtain ⟨hP, hD⟩ := va_join (wr := [(v0, .inr (10, fs))]) (w1 := [(h0, .inr (0, [.int k0, .ref q557, .int 0])), (q557, .inl (cA 8, 10, .inr (.inr (.inr (.inr (fun _ => none))))))]) hP hD [0] [1] rfl rfl (by decide) (by decide) hk1 hFc hP1 hD1
  generalize H1 = H at hP hS ⊢
  have hP : va_P D vwCl [(v0, .inr (10, fs)), (h0, .inr (0, [.int k0, .ref q557, .int 0])), (q557, .inl (cA 8, 10, .inr (.inr (.inr (.inr (fun _ => none))))))] H := hP
  have hD : va_D A [(v0, .inr (10, fs)), (h0, .inr (0, [.int k0, .ref q557, .int 0])), (q557, .inl (cA 8, 10, .inr (.inr (.inr (.inr (fun _ => none))))))] := hD
  refine W.widen (k := 1) (n := 10) (Nat.le_of_ble_eq_true rfl) (Nat.le_of_ble_eq_true rfl) ?_
  refine lv_astore_n (lv' := [(2, .ref q557), (0, .ref h0), (1, .ref v0), (3, .int 0)]) hx hb dJx4a65c_add_72be8_10 rfl hl (by decide) rfl (fun ls hl => ?_)
  refine lv_aload_n hx hb dJx4a65c_add_72be8_11 rfl (lv_at hl 0 rfl) ?_
  refine lv_iload_n hx hb dJx4a65c_add_72be8_12 rfl (lv_at hl 3 rfl) ?_
  refine lv_aload_n hx hb dJx4a65c_add_72be8_13 rfl (lv_at hl 2 rfl) ?_
  refine va_astqO (E := "java/lang/Object") hx hb hX.1 hP hD hS 2 8 0 10 rfl rfl hF9.2.2.2.1 rfl rfl (vp_in_nI (n := 0) (by decide) (by decide)) dJx4a65c_add_72be8_14 (fun H locs hP hD hS => ?_)
  have hP : va_P D vwCl [(v0, .inr (10, fs)), (h0, .inr (0, [.int k0, .ref q557, .int 0])), (q557, .inl (cA 8, 10, .inr (.inr (.inr (.inr (va_up (fun _ => none) 0 (some v0)))))))] H := hP
  have hD : va_D A [(v0, .inr (10, fs)), (h0, .inr (0, [.int k0, .ref q557, .int 0])), (q557, .inl (cA 8, 10, .inr (.inr (.inr (.inr (va_up (fun _ => none) 0 (some v0)))))))] := hD
  refine lv_aload_n hx hb dJx4a65c_add_72be8_15 rfl (lv_at hl 1 rfl) ?_
  refine lv_iload_n hx hb dJx4a65c_add_72be8_16 rfl (lv_at hl 3 rfl) ?_
  refine lv_iconst (v := 1) hx hb dJx4a65c_add_72be8_17 (by decide) ?_
  refine lv_iadd hx hb dJx4a65c_add_72be8_18 ?_
  refine lv_topi (fun a559 ea559 => ?_)
  obtain rfl : a559 = 1 := ea559.trans (by decide)
  refine va_put (D := D) (ci := 0) (v := .int 1) (ty := .int) (C := RJx4a65c) (T := TJx4a65c) (N := 3) hx hb hts (by decide +kernel) tyJx4a65c tyJx4a65c_ok nmJx4a65c hown hX.1 hP hD hS 1 rfl rfl 2 (by decide) (hts (.fieldLink RJx4a65c 48 "java/util/ArrayList" "size" "I") (by decide +kernel)) (fun _ h9 => h9) rfl (by decide +kernel) rfl rfl (Nat.le_of_ble_eq_true rfl) dJx4a65c_add_72be8_19 (fun H locs hP hD hS => ?_)
  have hP : va_P D vwCl [(v0, .inr (10, fs)), (h0, .inr (0, [.int k0, .ref q557, .int 1])), (q557, .inl (cA 8, 10, .inr (.inr (.inr (.inr (va_up (fun _ => none) 0 (some v0)))))))] H := hP
  have hD : va_D A [(v0, .inr (10, fs)), (h0, .inr (0, [.int k0, .ref q557, .int 1])), (q557, .inl (cA 8, 10, .inr (.inr (.inr (.inr (va_up (fun _ => none) 0 (some v0)))))))] := hD
  have hP9 := hP.sub (ws' := [(h0, .inr (0, [.int k0, .ref q557, .int 1])), (v0, .inr (10, fs)), (q557, .inl (cA 8, 10, .inr (.inr (.inr (.inr (va_up (fun _ => none) 0 (some v0)))))))]) [1, 0, 2] rfl
  have hD9 := hD.sub (ws' := [(h0, .inr (0, [.int k0, .ref q557, .int 1])), (v0, .inr (10, fs)), (q557, .inl (cA 8, 10, .inr (.inr (.inr (.inr (va_up (fun _ => none) 0 (some v0)))))))]) [1, 0, 2] (by decide) rfl
  refine W.widen (k := 1) (n := 10) (Nat.le_of_ble_eq_true rfl) (Nat.le_of_ble_eq_true rfl) ?_
  exact W.vret hx hb hr (fun t ht hW9 => ⟨⟨(), rfl, trivial, ⟨q557, by show va_P _ _ _ t.heap; rw [ht]; exact hP9, hD9⟩⟩, hS.F ht⟩) hS.2.2 dJx4a65c_add_72be8_22

set_option maxHeartbeats 4000000 in
set_option maxRecDepth 100000 in
theorem l_Jx4a65c_add_9ea2d10 (l : Launch) (D : va_G) (cA : Nat → ClassId) (z em mi : Nat) (A : Nat → Prop) (h0 v0 : Nat) (fs : List Value)  : Met l yJx4a65c_add_9ea2d wsJx4a65c_add_9ea2d ({ frames := 4, cells := 1, slots := 10, locals := 106 }) (pcPreE D vwCl (tyL cA) z em mi [.ref h0, .ref v0] (fun H => va_P D vwCl [(h0, .inr (0, [.int 0, .ref em, .int 0])), (v0, .inr (10, fs))] H ∧ va_D A [(h0, .inr (0, [.int 0, .ref em, .int 0])), (v0, .inr (10, fs))] ∧ (∀ q, H.size ≤ q → A q) ∧ (∀ q, A q → z ≤ q))) (va_Qi (fun (r : Int32) (u : Unit) => r = 1) (fun (u : Unit) t => ∃ (q565 : Nat), va_P D vwCl [(h0, .inr (0, [.int 1, .ref q565, .int 1])), (v0, .inr (10, fs)), (q565, .inl (cA 8, 10, .inr (.inr (.inr (.inr (va_up (fun _ => none) 0 (some v0)))))))] t.heap ∧ va_D A [(h0, .inr (0, [.int 1, .ref q565, .int 1])), (v0, .inr (10, fs)), (q565, .inl (cA 8, 10, .inr (.inr (.inr (.inr (va_up (fun _ => none) 0 (some v0)))))))]) A) 1 10 A := by
  refine Met.ofW (cc := cJx4a65c_add_9ea2d) (maxL := 2) (ret := (some .boolean)) (by decide) rfl ?_
  intro p e s m args below meth c s₁ B hml hv
  obtain ⟨rfl, hX, hF9, ⟨hE9, hz⟩, hP, hD, hA, hAz⟩ := hv
  have hx := B.exec
  have hb := B.bytes
  have hr := B.returns
  have hts := atoms_spec (ws := wsJx4a65c_add_9ea2d) B.pre
  have hown : s.vm.findClass RJx4a65c = some m.cls := findClass_of_methodNamed B.named
  have hlocks := B.notSynchronized
  have hS : va_S A s.heap s.heap [] := va_S.rf
  have hl := lv_entry ([.ref h0, .ref v0]) (n := 2) (Nat.le_of_ble_eq_true rfl)
  rw [lg_entry_eq]
  generalize (lg_sl ([.ref h0, .ref v0]) ++ List.replicate (2 - (lg_sl ([.ref h0, .ref v0])).length) Slot.unset).toArray = ls at hl ⊢
  have hl : lv_has ls 2 [(0, .ref h0), (1, .ref v0)] := hl
  refine lv_aload_n hx hb dJx4a65c_add_9ea2d_0 rfl (lv_at hl 0 rfl) ?_
  refine lv_dup hx hb dJx4a65c_add_9ea2d_1 rfl ?_
  refine va_get (D := D) (ci := 0) (v := .int 0) (C := RJx4a65c) (T := TJx4a65c) (N := 3) hx hb hts (by decide +kernel) hown hX.1 hP 0 rfl rfl 0 (by decide) (hts (.fieldLink RJx4a65c 63 "java/util/ArrayList" "modCount" "I") (by decide +kernel)) (fun x h9 => u_same (hts (.sameField "java/util/ArrayList" "java/util/AbstractList" "modCount" "I") (by decide +kernel)) x h9) rfl dJx4a65c_add_9ea2d_2 ?_
  refine lv_iconst (v := 1) hx hb dJx4a65c_add_9ea2d_5 (by decide) ?_
  refine lv_iadd hx hb dJx4a65c_add_9ea2d_6 ?_
  refine lv_topi (fun a560 ea560 => ?_)
  obtain rfl : a560 = 1 := ea560.trans (by decide)
  refine va_put (D := D) (ci := 0) (v := .int 1) (ty := .int) (C := RJx4a65c) (T := TJx4a65c) (N := 3) hx hb hts (by decide +kernel) tyJx4a65c tyJx4a65c_ok nmJx4a65c hown hX.1 hP hD hS 0 rfl rfl 0 (by decide) (hts (.fieldLink RJx4a65c 63 "java/util/ArrayList" "modCount" "I") (by decide +kernel)) (fun x h9 => u_same (hts (.sameField "java/util/ArrayList" "java/util/AbstractList" "modCount" "I") (by decide +kernel)) x h9) rfl (by decide +kernel) rfl rfl (Nat.le_of_ble_eq_true rfl) dJx4a65c_add_9ea2d_7 (fun H locs hP hD hS => ?_)
  have hP : va_P D vwCl [(h0, .inr (0, [.int 1, .ref em, .int 0])), (v0, .inr (10, fs))] H := hP
  have hD : va_D A [(h0, .inr (0, [.int 1, .ref em, .int 0])), (v0, .inr (10, fs))] := hD
  refine lv_aload_n hx hb dJx4a65c_add_9ea2d_10 rfl (lv_at hl 0 rfl) ?_
  refine lv_aload_n hx hb dJx4a65c_add_9ea2d_11 rfl (lv_at hl 1 rfl) ?_
  refine lv_aload_n hx hb dJx4a65c_add_9ea2d_12 rfl (lv_at hl 0 rfl) ?_
  refine va_get (D := D) (ci := 0) (v := .ref em) (C := RJx4a65c) (T := TJx4a65c) (N := 3) hx hb hts (by decide +kernel) hown hX.1 hP 0 rfl rfl 1 (by decide) (hts (.fieldLink RJx4a65c 9 "java/util/ArrayList" "elementData" "[Ljava/lang/Object;") (by decide +kernel)) (fun _ h9 => h9) rfl dJx4a65c_add_9ea2d_13 ?_
  refine lv_aload_n hx hb dJx4a65c_add_9ea2d_16 rfl (lv_at hl 0 rfl) ?_
  refine va_get (D := D) (ci := 0) (v := .int 0) (C := RJx4a65c) (T := TJx4a65c) (N := 3) hx hb hts (by decide +kernel) hown hX.1 hP 0 rfl rfl 2 (by decide) (hts (.fieldLink RJx4a65c 48 "java/util/ArrayList" "size" "I") (by decide +kernel)) (fun _ h9 => h9) rfl dJx4a65c_add_9ea2d_17 ?_
  have hPc := hP.sub (ws' := [(h0, .inr (0, [.int 1, .ref em, .int 0])), (v0, .inr (10, fs))]) [0, 1] rfl
  have hDc := (hD.sub (ws' := [(h0, .inr (0, [.int 1, .ref em, .int 0])), (v0, .inr (10, fs))]) [0, 1] (by decide) rfl).self (sz := H.size)
  have hFc := va_free (wc := [(h0, .inr (0, [.int 1, .ref em, .int 0])), (v0, .inr (10, fs))]) hD hS hA [0, 1] rfl
  refine va_callv (va_runV (As := [.ref v0, .ref em, .int 0]) (rest := []) ⟨hx, hb, hml, hown, hts⟩ (l_Jx4a65c_add_72be810 l D cA z em mi (va_A [(h0, .inr (0, [.int 1, .ref em, .int 0])), (v0, .inr (10, fs))] H.size) h0 v0 1 fs) (cwV 3 hts gJx4a65c_add_9ea2d_Jx4a65c_add_72be8 rfl rfl rfl (by decide +kernel) ⟨Nat.le_of_ble_eq_true rfl, Nat.le_of_ble_eq_true rfl⟩) (pcE_preVL hX hF9 (pcE_kept hE9 hAz hS) (Nat.le_trans hz hS.1) (va_recv hX.1 hPc (ci := 0) (q0 := 0) rfl rfl) ⟨hPc, hDc, fun q h => Or.inr h, fun q h => hAz q (hFc q h)⟩) rfl rfl hl.1 rfl (lv_room (Nat.le_of_ble_eq_true rfl)) dJx4a65c_add_9ea2d_20 ⟨Nat.le_of_ble_eq_true rfl, Nat.le_of_ble_eq_true rfl⟩) hS (fun q _ h => hFc q h) hFc (fun u561 t H1 locs ht hvm hw hB hz1 hk1 hS => ?_)
  obtain ⟨q565, hP1, hD1⟩ := hB
  rw [ht] at hP1
  obtain ⟨hP, hD⟩ := va_join (wr := []) (w1 := [(h0, .inr (0, [.int 1, .ref q565, .int 1])), (v0, .inr (10, fs)), (q565, .inl (cA 8, 10, .inr (.inr (.inr (.inr (va_up (fun _ => none) 0 (some v0)))))))]) hP hD [0, 1] [] rfl rfl (by decide) (by decide) hk1 hFc hP1 hD1
  generalize H1 = H at hP hS ⊢
  have hP : va_P D vwCl [(h0, .inr (0, [.int 1, .ref q565, .int 1])), (v0, .inr (10, fs)), (q565, .inl (cA 8, 10, .inr (.inr (.inr (.inr (va_up (fun _ => none) 0 (some v0)))))))] H := hP
  have hD : va_D A [(h0, .inr (0, [.int 1, .ref q565, .int 1])), (v0, .inr (10, fs)), (q565, .inl (cA 8, 10, .inr (.inr (.inr (.inr (va_up (fun _ => none) 0 (some v0)))))))] := hD
  refine W.widen (k := 1) (n := 10) (Nat.le_of_ble_eq_true rfl) (Nat.le_of_ble_eq_true rfl) ?_
  refine lv_iconst (v := 1) hx hb dJx4a65c_add_9ea2d_23 (by decide) ?_
  have hP9 := hP.sub (ws' := [(h0, .inr (0, [.int 1, .ref q565, .int 1])), (v0, .inr (10, fs)), (q565, .inl (cA 8, 10, .inr (.inr (.inr (.inr (va_up (fun _ => none) 0 (some v0)))))))]) [0, 1, 2] rfl
  have hD9 := hD.sub (ws' := [(h0, .inr (0, [.int 1, .ref q565, .int 1])), (v0, .inr (10, fs)), (q565, .inl (cA 8, 10, .inr (.inr (.inr (.inr (va_up (fun _ => none) 0 (some v0)))))))]) [0, 1, 2] (by decide) rfl
  refine W.widen (k := 1) (n := 10) (Nat.le_of_ble_eq_true rfl) (Nat.le_of_ble_eq_true rfl) ?_
  exact W.zret (v := 1) hx hb hr rfl (fun t ht hW9 => ⟨⟨1, (), rfl, rfl, ⟨q565, by show va_P _ _ _ t.heap; rw [ht]; exact hP9, hD9⟩⟩, hS.F ht⟩) hS.2.2 dJx4a65c_add_9ea2d_24

set_option maxHeartbeats 4000000 in
set_option maxRecDepth 100000 in
theorem l_Jx4a65c_add_72be811 (l : Launch) (D : va_G) (cA : Nat → ClassId) (z em mi : Nat) (A : Nat → Prop) (h0 v0 : Nat) (k0 : Int32) (fs : List Value)  : Met l yJx4a65c_add_72be8 wsJx4a65c_add_72be8 ({ frames := 3, cells := 1, slots := 10, locals := 83 }) (pcPreE D vwCl (tyL cA) z em mi [.ref h0, .ref v0, .ref em, .int 0] (fun H => va_P D vwCl [(h0, .inr (0, [.int k0, .ref em, .int 0])), (v0, .inr (11, fs))] H ∧ va_D A [(h0, .inr (0, [.int k0, .ref em, .int 0])), (v0, .inr (11, fs))] ∧ (∀ q, H.size ≤ q → A q) ∧ (∀ q, A q → z ≤ q))) (va_Qv (fun (u : Unit) => True) (fun (u : Unit) t => ∃ (q571 : Nat), va_P D vwCl [(h0, .inr (0, [.int k0, .ref q571, .int 1])), (v0, .inr (11, fs)), (q571, .inl (cA 8, 10, .inr (.inr (.inr (.inr (va_up (fun _ => none) 0 (some v0)))))))] t.heap ∧ va_D A [(h0, .inr (0, [.int k0, .ref q571, .int 1])), (v0, .inr (11, fs)), (q571, .inl (cA 8, 10, .inr (.inr (.inr (.inr (va_up (fun _ => none) 0 (some v0)))))))]) A) 1 10 A := by
  refine Met.ofW (cc := cJx4a65c_add_72be8) (maxL := 4) (ret := none) (by decide) rfl ?_
  intro p e s m args below meth c s₁ B hml hv
  obtain ⟨rfl, hX, hF9, ⟨hE9, hz⟩, hP, hD, hA, hAz⟩ := hv
  have hx := B.exec
  have hb := B.bytes
  have hr := B.returns
  have hts := atoms_spec (ws := wsJx4a65c_add_72be8) B.pre
  have hown : s.vm.findClass RJx4a65c = some m.cls := findClass_of_methodNamed B.named
  have hlocks := B.notSynchronized
  have hS : va_S A s.heap s.heap [] := va_S.rf
  have hl := lv_entry ([.ref h0, .ref v0, .ref em, .int 0]) (n := 4) (Nat.le_of_ble_eq_true rfl)
  rw [lg_entry_eq]
  generalize (lg_sl ([.ref h0, .ref v0, .ref em, .int 0]) ++ List.replicate (4 - (lg_sl ([.ref h0, .ref v0, .ref em, .int 0])).length) Slot.unset).toArray = ls at hl ⊢
  have hl : lv_has ls 4 [(0, .ref h0), (1, .ref v0), (2, .ref em), (3, .int 0)] := hl
  refine lv_iload_n hx hb dJx4a65c_add_72be8_0 rfl (lv_at hl 3 rfl) ?_
  refine lv_aload_n hx hb dJx4a65c_add_72be8_1 rfl (lv_at hl 2 rfl) ?_
  refine va_tlen (v := 0) hx hb (hE9.2.1.narrow hAz) hS rfl dJx4a65c_add_72be8_2 ?_
  refine lv_icmp_ne (tgt := 11) hx hb dJx4a65c_add_72be8_3 (by decide) (fun c567 => absurd c567 (by decide)) (fun _ => ?_)
  refine lv_aload_n hx hb dJx4a65c_add_72be8_6 rfl (lv_at hl 0 rfl) ?_
  have hPc := hP.sub (ws' := [(h0, .inr (0, [.int k0, .ref em, .int 0]))]) [0] rfl
  have hDc := (hD.sub (ws' := [(h0, .inr (0, [.int k0, .ref em, .int 0]))]) [0] (by decide) rfl).self (sz := s.heap.size)
  have hFc := va_free (wc := [(h0, .inr (0, [.int k0, .ref em, .int 0]))]) hD hS hA [0] rfl
  refine va_callr (va_runV (As := []) (rest := []) ⟨hx, hb, hml, hown, hts⟩ (l_Jx4a65c_grow_d5877 l D cA z em mi (va_A [(h0, .inr (0, [.int k0, .ref em, .int 0]))] s.heap.size) h0 k0) (cwV 0 hts gJx4a65c_add_72be8_Jx4a65c_grow_d5877 rfl rfl rfl (by decide +kernel) ⟨Nat.le_of_ble_eq_true rfl, Nat.le_of_ble_eq_true rfl⟩) (pcE_preVL hX hF9 (pcE_kept hE9 hAz hS) (Nat.le_trans hz hS.1) (va_recv hX.1 hPc (ci := 0) (q0 := 0) rfl rfl) ⟨hPc, hDc, fun q h => Or.inr h, fun q h => hAz q (hFc q h)⟩) rfl rfl hl.1 rfl (lv_room (Nat.le_of_ble_eq_true rfl)) dJx4a65c_add_72be8_7 ⟨Nat.le_of_ble_eq_true rfl, Nat.le_of_ble_eq_true rfl⟩) hS (fun q _ h => hFc q h) hFc (fun u568 q571 t H1 locs ht hvm hw hB hz1 hk1 hS => ?_)
  obtain ⟨hP1, hD1⟩ := hB
  rw [ht] at hP1
  obtain ⟨hP, hD⟩ := va_join (wr := [(v0, .inr (11, fs))]) (w1 := [(h0, .inr (0, [.int k0, .ref q571, .int 0])), (q571, .inl (cA 8, 10, .inr (.inr (.inr (.inr (fun _ => none))))))]) hP hD [0] [1] rfl rfl (by decide) (by decide) hk1 hFc hP1 hD1
  generalize H1 = H at hP hS ⊢
  have hP : va_P D vwCl [(v0, .inr (11, fs)), (h0, .inr (0, [.int k0, .ref q571, .int 0])), (q571, .inl (cA 8, 10, .inr (.inr (.inr (.inr (fun _ => none))))))] H := hP
  have hD : va_D A [(v0, .inr (11, fs)), (h0, .inr (0, [.int k0, .ref q571, .int 0])), (q571, .inl (cA 8, 10, .inr (.inr (.inr (.inr (fun _ => none))))))] := hD
  refine W.widen (k := 1) (n := 10) (Nat.le_of_ble_eq_true rfl) (Nat.le_of_ble_eq_true rfl) ?_
  refine lv_astore_n (lv' := [(2, .ref q571), (0, .ref h0), (1, .ref v0), (3, .int 0)]) hx hb dJx4a65c_add_72be8_10 rfl hl (by decide) rfl (fun ls hl => ?_)
  refine lv_aload_n hx hb dJx4a65c_add_72be8_11 rfl (lv_at hl 0 rfl) ?_
  refine lv_iload_n hx hb dJx4a65c_add_72be8_12 rfl (lv_at hl 3 rfl) ?_
  refine lv_aload_n hx hb dJx4a65c_add_72be8_13 rfl (lv_at hl 2 rfl) ?_
  refine va_astqO (E := "java/lang/Object") hx hb hX.1 hP hD hS 2 8 0 11 rfl rfl hF9.2.2.2.2 rfl rfl (vp_in_nI (n := 0) (by decide) (by decide)) dJx4a65c_add_72be8_14 (fun H locs hP hD hS => ?_)
  have hP : va_P D vwCl [(v0, .inr (11, fs)), (h0, .inr (0, [.int k0, .ref q571, .int 0])), (q571, .inl (cA 8, 10, .inr (.inr (.inr (.inr (va_up (fun _ => none) 0 (some v0)))))))] H := hP
  have hD : va_D A [(v0, .inr (11, fs)), (h0, .inr (0, [.int k0, .ref q571, .int 0])), (q571, .inl (cA 8, 10, .inr (.inr (.inr (.inr (va_up (fun _ => none) 0 (some v0)))))))] := hD
  refine lv_aload_n hx hb dJx4a65c_add_72be8_15 rfl (lv_at hl 1 rfl) ?_
  refine lv_iload_n hx hb dJx4a65c_add_72be8_16 rfl (lv_at hl 3 rfl) ?_
  refine lv_iconst (v := 1) hx hb dJx4a65c_add_72be8_17 (by decide) ?_
  refine lv_iadd hx hb dJx4a65c_add_72be8_18 ?_
  refine lv_topi (fun a573 ea573 => ?_)
  obtain rfl : a573 = 1 := ea573.trans (by decide)
  refine va_put (D := D) (ci := 0) (v := .int 1) (ty := .int) (C := RJx4a65c) (T := TJx4a65c) (N := 3) hx hb hts (by decide +kernel) tyJx4a65c tyJx4a65c_ok nmJx4a65c hown hX.1 hP hD hS 1 rfl rfl 2 (by decide) (hts (.fieldLink RJx4a65c 48 "java/util/ArrayList" "size" "I") (by decide +kernel)) (fun _ h9 => h9) rfl (by decide +kernel) rfl rfl (Nat.le_of_ble_eq_true rfl) dJx4a65c_add_72be8_19 (fun H locs hP hD hS => ?_)
  have hP : va_P D vwCl [(v0, .inr (11, fs)), (h0, .inr (0, [.int k0, .ref q571, .int 1])), (q571, .inl (cA 8, 10, .inr (.inr (.inr (.inr (va_up (fun _ => none) 0 (some v0)))))))] H := hP
  have hD : va_D A [(v0, .inr (11, fs)), (h0, .inr (0, [.int k0, .ref q571, .int 1])), (q571, .inl (cA 8, 10, .inr (.inr (.inr (.inr (va_up (fun _ => none) 0 (some v0)))))))] := hD
  have hP9 := hP.sub (ws' := [(h0, .inr (0, [.int k0, .ref q571, .int 1])), (v0, .inr (11, fs)), (q571, .inl (cA 8, 10, .inr (.inr (.inr (.inr (va_up (fun _ => none) 0 (some v0)))))))]) [1, 0, 2] rfl
  have hD9 := hD.sub (ws' := [(h0, .inr (0, [.int k0, .ref q571, .int 1])), (v0, .inr (11, fs)), (q571, .inl (cA 8, 10, .inr (.inr (.inr (.inr (va_up (fun _ => none) 0 (some v0)))))))]) [1, 0, 2] (by decide) rfl
  refine W.widen (k := 1) (n := 10) (Nat.le_of_ble_eq_true rfl) (Nat.le_of_ble_eq_true rfl) ?_
  exact W.vret hx hb hr (fun t ht hW9 => ⟨⟨(), rfl, trivial, ⟨q571, by show va_P _ _ _ t.heap; rw [ht]; exact hP9, hD9⟩⟩, hS.F ht⟩) hS.2.2 dJx4a65c_add_72be8_22

set_option maxHeartbeats 4000000 in
set_option maxRecDepth 100000 in
theorem l_Jx4a65c_add_9ea2d11 (l : Launch) (D : va_G) (cA : Nat → ClassId) (z em mi : Nat) (A : Nat → Prop) (h0 v0 : Nat) (fs : List Value)  : Met l yJx4a65c_add_9ea2d wsJx4a65c_add_9ea2d ({ frames := 4, cells := 1, slots := 10, locals := 106 }) (pcPreE D vwCl (tyL cA) z em mi [.ref h0, .ref v0] (fun H => va_P D vwCl [(h0, .inr (0, [.int 0, .ref em, .int 0])), (v0, .inr (11, fs))] H ∧ va_D A [(h0, .inr (0, [.int 0, .ref em, .int 0])), (v0, .inr (11, fs))] ∧ (∀ q, H.size ≤ q → A q) ∧ (∀ q, A q → z ≤ q))) (va_Qi (fun (r : Int32) (u : Unit) => r = 1) (fun (u : Unit) t => ∃ (q579 : Nat), va_P D vwCl [(h0, .inr (0, [.int 1, .ref q579, .int 1])), (v0, .inr (11, fs)), (q579, .inl (cA 8, 10, .inr (.inr (.inr (.inr (va_up (fun _ => none) 0 (some v0)))))))] t.heap ∧ va_D A [(h0, .inr (0, [.int 1, .ref q579, .int 1])), (v0, .inr (11, fs)), (q579, .inl (cA 8, 10, .inr (.inr (.inr (.inr (va_up (fun _ => none) 0 (some v0)))))))]) A) 1 10 A := by
  refine Met.ofW (cc := cJx4a65c_add_9ea2d) (maxL := 2) (ret := (some .boolean)) (by decide) rfl ?_
  intro p e s m args below meth c s₁ B hml hv
  obtain ⟨rfl, hX, hF9, ⟨hE9, hz⟩, hP, hD, hA, hAz⟩ := hv
  have hx := B.exec
  have hb := B.bytes
  have hr := B.returns
  have hts := atoms_spec (ws := wsJx4a65c_add_9ea2d) B.pre
  have hown : s.vm.findClass RJx4a65c = some m.cls := findClass_of_methodNamed B.named
  have hlocks := B.notSynchronized
  have hS : va_S A s.heap s.heap [] := va_S.rf
  have hl := lv_entry ([.ref h0, .ref v0]) (n := 2) (Nat.le_of_ble_eq_true rfl)
  rw [lg_entry_eq]
  generalize (lg_sl ([.ref h0, .ref v0]) ++ List.replicate (2 - (lg_sl ([.ref h0, .ref v0])).length) Slot.unset).toArray = ls at hl ⊢
  have hl : lv_has ls 2 [(0, .ref h0), (1, .ref v0)] := hl
  refine lv_aload_n hx hb dJx4a65c_add_9ea2d_0 rfl (lv_at hl 0 rfl) ?_
  refine lv_dup hx hb dJx4a65c_add_9ea2d_1 rfl ?_
  refine va_get (D := D) (ci := 0) (v := .int 0) (C := RJx4a65c) (T := TJx4a65c) (N := 3) hx hb hts (by decide +kernel) hown hX.1 hP 0 rfl rfl 0 (by decide) (hts (.fieldLink RJx4a65c 63 "java/util/ArrayList" "modCount" "I") (by decide +kernel)) (fun x h9 => u_same (hts (.sameField "java/util/ArrayList" "java/util/AbstractList" "modCount" "I") (by decide +kernel)) x h9) rfl dJx4a65c_add_9ea2d_2 ?_
  refine lv_iconst (v := 1) hx hb dJx4a65c_add_9ea2d_5 (by decide) ?_
  refine lv_iadd hx hb dJx4a65c_add_9ea2d_6 ?_
  refine lv_topi (fun a574 ea574 => ?_)
  obtain rfl : a574 = 1 := ea574.trans (by decide)
  refine va_put (D := D) (ci := 0) (v := .int 1) (ty := .int) (C := RJx4a65c) (T := TJx4a65c) (N := 3) hx hb hts (by decide +kernel) tyJx4a65c tyJx4a65c_ok nmJx4a65c hown hX.1 hP hD hS 0 rfl rfl 0 (by decide) (hts (.fieldLink RJx4a65c 63 "java/util/ArrayList" "modCount" "I") (by decide +kernel)) (fun x h9 => u_same (hts (.sameField "java/util/ArrayList" "java/util/AbstractList" "modCount" "I") (by decide +kernel)) x h9) rfl (by decide +kernel) rfl rfl (Nat.le_of_ble_eq_true rfl) dJx4a65c_add_9ea2d_7 (fun H locs hP hD hS => ?_)
  have hP : va_P D vwCl [(h0, .inr (0, [.int 1, .ref em, .int 0])), (v0, .inr (11, fs))] H := hP
  have hD : va_D A [(h0, .inr (0, [.int 1, .ref em, .int 0])), (v0, .inr (11, fs))] := hD
  refine lv_aload_n hx hb dJx4a65c_add_9ea2d_10 rfl (lv_at hl 0 rfl) ?_
  refine lv_aload_n hx hb dJx4a65c_add_9ea2d_11 rfl (lv_at hl 1 rfl) ?_
  refine lv_aload_n hx hb dJx4a65c_add_9ea2d_12 rfl (lv_at hl 0 rfl) ?_
  refine va_get (D := D) (ci := 0) (v := .ref em) (C := RJx4a65c) (T := TJx4a65c) (N := 3) hx hb hts (by decide +kernel) hown hX.1 hP 0 rfl rfl 1 (by decide) (hts (.fieldLink RJx4a65c 9 "java/util/ArrayList" "elementData" "[Ljava/lang/Object;") (by decide +kernel)) (fun _ h9 => h9) rfl dJx4a65c_add_9ea2d_13 ?_
  refine lv_aload_n hx hb dJx4a65c_add_9ea2d_16 rfl (lv_at hl 0 rfl) ?_
  refine va_get (D := D) (ci := 0) (v := .int 0) (C := RJx4a65c) (T := TJx4a65c) (N := 3) hx hb hts (by decide +kernel) hown hX.1 hP 0 rfl rfl 2 (by decide) (hts (.fieldLink RJx4a65c 48 "java/util/ArrayList" "size" "I") (by decide +kernel)) (fun _ h9 => h9) rfl dJx4a65c_add_9ea2d_17 ?_
  have hPc := hP.sub (ws' := [(h0, .inr (0, [.int 1, .ref em, .int 0])), (v0, .inr (11, fs))]) [0, 1] rfl
  have hDc := (hD.sub (ws' := [(h0, .inr (0, [.int 1, .ref em, .int 0])), (v0, .inr (11, fs))]) [0, 1] (by decide) rfl).self (sz := H.size)
  have hFc := va_free (wc := [(h0, .inr (0, [.int 1, .ref em, .int 0])), (v0, .inr (11, fs))]) hD hS hA [0, 1] rfl
  refine va_callv (va_runV (As := [.ref v0, .ref em, .int 0]) (rest := []) ⟨hx, hb, hml, hown, hts⟩ (l_Jx4a65c_add_72be811 l D cA z em mi (va_A [(h0, .inr (0, [.int 1, .ref em, .int 0])), (v0, .inr (11, fs))] H.size) h0 v0 1 fs) (cwV 3 hts gJx4a65c_add_9ea2d_Jx4a65c_add_72be8 rfl rfl rfl (by decide +kernel) ⟨Nat.le_of_ble_eq_true rfl, Nat.le_of_ble_eq_true rfl⟩) (pcE_preVL hX hF9 (pcE_kept hE9 hAz hS) (Nat.le_trans hz hS.1) (va_recv hX.1 hPc (ci := 0) (q0 := 0) rfl rfl) ⟨hPc, hDc, fun q h => Or.inr h, fun q h => hAz q (hFc q h)⟩) rfl rfl hl.1 rfl (lv_room (Nat.le_of_ble_eq_true rfl)) dJx4a65c_add_9ea2d_20 ⟨Nat.le_of_ble_eq_true rfl, Nat.le_of_ble_eq_true rfl⟩) hS (fun q _ h => hFc q h) hFc (fun u575 t H1 locs ht hvm hw hB hz1 hk1 hS => ?_)
  obtain ⟨q579, hP1, hD1⟩ := hB
  rw [ht] at hP1
  obtain ⟨hP, hD⟩ := va_join (wr := []) (w1 := [(h0, .inr (0, [.int 1, .ref q579, .int 1])), (v0, .inr (11, fs)), (q579, .inl (cA 8, 10, .inr (.inr (.inr (.inr (va_up (fun _ => none) 0 (some v0)))))))]) hP hD [0, 1] [] rfl rfl (by decide) (by decide) hk1 hFc hP1 hD1
  generalize H1 = H at hP hS ⊢
  have hP : va_P D vwCl [(h0, .inr (0, [.int 1, .ref q579, .int 1])), (v0, .inr (11, fs)), (q579, .inl (cA 8, 10, .inr (.inr (.inr (.inr (va_up (fun _ => none) 0 (some v0)))))))] H := hP
  have hD : va_D A [(h0, .inr (0, [.int 1, .ref q579, .int 1])), (v0, .inr (11, fs)), (q579, .inl (cA 8, 10, .inr (.inr (.inr (.inr (va_up (fun _ => none) 0 (some v0)))))))] := hD
  refine W.widen (k := 1) (n := 10) (Nat.le_of_ble_eq_true rfl) (Nat.le_of_ble_eq_true rfl) ?_
  refine lv_iconst (v := 1) hx hb dJx4a65c_add_9ea2d_23 (by decide) ?_
  have hP9 := hP.sub (ws' := [(h0, .inr (0, [.int 1, .ref q579, .int 1])), (v0, .inr (11, fs)), (q579, .inl (cA 8, 10, .inr (.inr (.inr (.inr (va_up (fun _ => none) 0 (some v0)))))))]) [0, 1, 2] rfl
  have hD9 := hD.sub (ws' := [(h0, .inr (0, [.int 1, .ref q579, .int 1])), (v0, .inr (11, fs)), (q579, .inl (cA 8, 10, .inr (.inr (.inr (.inr (va_up (fun _ => none) 0 (some v0)))))))]) [0, 1, 2] (by decide) rfl
  refine W.widen (k := 1) (n := 10) (Nat.le_of_ble_eq_true rfl) (Nat.le_of_ble_eq_true rfl) ?_
  exact W.zret (v := 1) hx hb hr rfl (fun t ht hW9 => ⟨⟨1, (), rfl, rfl, ⟨q579, by show va_P _ _ _ t.heap; rw [ht]; exact hP9, hD9⟩⟩, hS.F ht⟩) hS.2.2 dJx4a65c_add_9ea2d_24
