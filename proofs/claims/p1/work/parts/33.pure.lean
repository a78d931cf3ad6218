set_option maxHeartbeats 4000000 in
set_option maxRecDepth 100000 in
theorem r_Jx4a65c_size_8abf5 (l : Launch) (D : va_G) (cA : Nat → ClassId) (NL : List (Nat × Nat)) (ad : Nat → Nat → Nat) (ct : Nat → Nat → va_E)  (k1 k2 em : Nat) (hm1 : (k1, k2) ∈ NL) (h1 : ct k1 k2 = .inr (0, [.int 0, .ref em, .int 0])) : Met l yJx4a65c_size_8abf5 wsJx4a65c_size_8abf5 ({ frames := 0, cells := 0, slots := 0, locals := 0 }) (pcPre D vwCl (tyL cA) [.ref (ad k1 k2)] (fun H => va_P D vwCl (pcW NL ad ct) H)) (va_Qi (fun (r : Int32) (_ : Unit) => r = 0) (fun _ _ => True) (fun _ => False)) 0 0 (fun _ => False) := by
  refine Met.ofW (cc := cJx4a65c_size_8abf5) (maxL := 1) (ret := (some .int)) (by decide) rfl ?_
  intro p e s m args below meth c s₁ B hml hv
  obtain ⟨rfl, hX, hP0⟩ := hv
  have hx := B.exec
  have hb := B.bytes
  have hr := B.returns
  have hts := atoms_spec (ws := wsJx4a65c_size_8abf5) B.pre
  have hown : s.vm.findClass RJx4a65c = some m.cls := findClass_of_methodNamed B.named
  have hlocks := B.notSynchronized
  have hW : pcQ D vwCl (fun _ => False) s.heap NL ad ct s.heap [] := ⟨hP0, va_S.rf⟩
  have hl := lv_entry ([.ref (ad k1 k2)]) (n := 1) (Nat.le_of_ble_eq_true rfl)
  rw [lg_entry_eq]
  generalize (lg_sl ([.ref (ad k1 k2)]) ++ List.replicate (1 - (lg_sl ([.ref (ad k1 k2)])).length) Slot.unset).toArray = ls at hl ⊢
  have hl : lv_has ls 1 [(0, .ref (ad k1 k2))] := hl
  refine lv_aload_n hx hb dJx4a65c_size_8abf5_0 rfl (lv_at hl 0 rfl) ?_
  refine pc_get (C := RJx4a65c) (T := TJx4a65c) (N := 3) (ci := 0) hx hb hts (by decide +kernel) hown hX.1 hW.1 k1 k2 hm1 h1 rfl 2 (by decide) (hts (.fieldLink RJx4a65c 48 "java/util/ArrayList" "size" "I") (by decide +kernel)) (fun _ h9 => h9) rfl dJx4a65c_size_8abf5_1 ?_
  exact W.iret (v := 0) hx hb hr (fun t ht hW9 => ⟨⟨0, (), rfl, rfl, trivial⟩, hW.2.F ht⟩) hW.2.2.2 dJx4a65c_size_8abf5_4

set_option maxHeartbeats 4000000 in
set_option maxRecDepth 100000 in
theorem r_Jx4a65c_isEmpty_aae02 (l : Launch) (D : va_G) (cA : Nat → ClassId) (NL : List (Nat × Nat)) (ad : Nat → Nat → Nat) (ct : Nat → Nat → va_E)  (k1 k2 em : Nat) (hm1 : (k1, k2) ∈ NL) (h1 : ct k1 k2 = .inr (0, [.int 0, .ref em, .int 0])) : Met l yJx4a65c_isEmpty_aae02 wsJx4a65c_isEmpty_aae02 ({ frames := 0, cells := 0, slots := 0, locals := 0 }) (pcPre D vwCl (tyL cA) [.ref (ad k1 k2)] (fun H => va_P D vwCl (pcW NL ad ct) H)) (va_Qi (fun (r : Int32) (_ : Unit) => r = 1) (fun _ _ => True) (fun _ => False)) 0 0 (fun _ => False) := by
  refine Met.ofW (cc := cJx4a65c_isEmpty_aae02) (maxL := 1) (ret := (some .boolean)) (by decide) rfl ?_
  intro p e s m args below meth c s₁ B hml hv
  obtain ⟨rfl, hX, hP0⟩ := hv
  have hx := B.exec
  have hb := B.bytes
  have hr := B.returns
  have hts := atoms_spec (ws := wsJx4a65c_isEmpty_aae02) B.pre
  have hown : s.vm.findClass RJx4a65c = some m.cls := findClass_of_methodNamed B.named
  have hlocks := B.notSynchronized
  have hW : pcQ D vwCl (fun _ => False) s.heap NL ad ct s.heap [] := ⟨hP0, va_S.rf⟩
  have hl := lv_entry ([.ref (ad k1 k2)]) (n := 1) (Nat.le_of_ble_eq_true rfl)
  rw [lg_entry_eq]
  generalize (lg_sl ([.ref (ad k1 k2)]) ++ List.replicate (1 - (lg_sl ([.ref (ad k1 k2)])).length) Slot.unset).toArray = ls at hl ⊢
  have hl : lv_has ls 1 [(0, .ref (ad k1 k2))] := hl
  refine lv_aload_n hx hb dJx4a65c_isEmpty_aae02_0 rfl (lv_at hl 0 rfl) ?_
  refine pc_get (C := RJx4a65c) (T := TJx4a65c) (N := 3) (ci := 0) hx hb hts (by decide +kernel) hown hX.1 hW.1 k1 k2 hm1 h1 rfl 2 (by decide) (hts (.fieldLink RJx4a65c 48 "java/util/ArrayList" "size" "I") (by decide +kernel)) (fun _ h9 => h9) rfl dJx4a65c_isEmpty_aae02_1 ?_
  refine lv_if_ne (tgt := 11) hx hb dJx4a65c_isEmpty_aae02_4 (by decide) (fun c68 => absurd c68 (by decide)) (fun _ => ?_)
  refine lv_iconst (v := 1) hx hb dJx4a65c_isEmpty_aae02_7 (by decide) ?_
  refine lv_goto (tgt := 12) hx hb dJx4a65c_isEmpty_aae02_8 (by decide) ?_
  exact W.zret (v := 1) hx hb hr rfl (fun t ht hW9 => ⟨⟨1, (), rfl, rfl, trivial⟩, hW.2.F ht⟩) hW.2.2.2 dJx4a65c_isEmpty_aae02_12

set_option maxHeartbeats 4000000 in
set_option maxRecDepth 100000 in
theorem r_X11_isIn (l : Launch) (D : va_G) (cA : Nat → ClassId) (NL : List (Nat × Nat)) (ad : Nat → Nat → Nat) (ct : Nat → Nat → va_E) (x1 : Int32) (x2 : Int32) (x3 : Int32)  : Met l yX11_isIn wsX11_isIn ({ frames := 0, cells := 0, slots := 0, locals := 0 }) (pcPre D vwCl (tyL cA) [.int x1, .int x2, .int x3] (fun H => va_P D vwCl (pcW NL ad ct) H)) (va_Qi (fun (r : Int32) (_ : Unit) => (r = 1 ∧ ¬ x1 < x2 ∧ ¬ x3 < x1) ∨ (r = 0 ∧ (x1 < x2 ∨ x3 < x1))) (fun _ _ => True) (fun _ => False)) 0 0 (fun _ => False) := by
  refine Met.ofW (cc := cX11_isIn) (maxL := 3) (ret := (some .boolean)) (by decide) rfl ?_
  intro p e s m args below meth c s₁ B hml hv
  obtain ⟨rfl, hX, hP0⟩ := hv
  have hx := B.exec
  have hb := B.bytes
  have hr := B.returns
  have hts := atoms_spec (ws := wsX11_isIn) B.pre
  have hown : s.vm.findClass RX11 = some m.cls := findClass_of_methodNamed B.named
  have hlocks := B.notSynchronized
  have hW : pcQ D vwCl (fun _ => False) s.heap NL ad ct s.heap [] := ⟨hP0, va_S.rf⟩
  have hl := lv_entry ([.int x1, .int x2, .int x3]) (n := 3) (Nat.le_of_ble_eq_true rfl)
  rw [lg_entry_eq]
  generalize (lg_sl ([.int x1, .int x2, .int x3]) ++ List.replicate (3 - (lg_sl ([.int x1, .int x2, .int x3])).length) Slot.unset).toArray = ls at hl ⊢
  have hl : lv_has ls 3 [(0, .int x1), (1, .int x2), (2, .int x3)] := hl
  refine lv_iload_n hx hb dX11_isIn_0 rfl (lv_at hl 0 rfl) ?_
  refine lv_iload_n hx hb dX11_isIn_1 rfl (lv_at hl 1 rfl) ?_
  refine lv_icmp_lt (tgt := 14) hx hb dX11_isIn_2 (by decide) (fun c69 => ?_) (fun c69 => ?_)
  · refine lv_iconst (v := 0) hx hb dX11_isIn_14 (by decide) ?_
    exact W.zret (v := 0) hx hb hr rfl (fun t ht hW9 => ⟨⟨0, (), rfl, Or.inr ⟨rfl, Or.inl c69⟩, trivial⟩, hW.2.F ht⟩) hW.2.2.2 dX11_isIn_15
  · refine lv_iload_n hx hb dX11_isIn_5 rfl (lv_at hl 0 rfl) ?_
    refine lv_iload_n hx hb dX11_isIn_6 rfl (lv_at hl 2 rfl) ?_
    refine lv_icmp_gt (tgt := 14) hx hb dX11_isIn_7 (by decide) (fun c70 => ?_) (fun c70 => ?_)
    · refine lv_iconst (v := 0) hx hb dX11_isIn_14 (by decide) ?_
      exact W.zret (v := 0) hx hb hr rfl (fun t ht hW9 => ⟨⟨0, (), rfl, Or.inr ⟨rfl, Or.inr c70⟩, trivial⟩, hW.2.F ht⟩) hW.2.2.2 dX11_isIn_15
    · refine lv_iconst (v := 1) hx hb dX11_isIn_10 (by decide) ?_
      refine lv_goto (tgt := 15) hx hb dX11_isIn_11 (by decide) ?_
      exact W.zret (v := 1) hx hb hr rfl (fun t ht hW9 => ⟨⟨1, (), rfl, Or.inl ⟨rfl, c69, c70⟩, trivial⟩, hW.2.F ht⟩) hW.2.2.2 dX11_isIn_15

set_option maxHeartbeats 4000000 in
set_option maxRecDepth 100000 in
theorem r_X11_isNoCrew (l : Launch) (D : va_G) (cA : Nat → ClassId) (NL : List (Nat × Nat)) (ad : Nat → Nat → Nat) (ct : Nat → Nat → va_E) (x1 : Int32)  : Met l yX11_isNoCrew wsX11_isNoCrew ({ frames := 1, cells := 0, slots := 0, locals := 22 }) (pcPre D vwCl (tyL cA) [.int x1] (fun H => va_P D vwCl (pcW NL ad ct) H)) (va_Qi (fun (r : Int32) (_ : Unit) => (r = 0 ∧ (¬ x1 < 0 ∧ x1 < 4)) ∨ (r = 1 ∧ ¬ (¬ x1 < 0 ∧ x1 < 4))) (fun _ _ => True) (fun _ => False)) 0 0 (fun _ => False) := by
  refine Met.ofW (cc := cX11_isNoCrew) (maxL := 1) (ret := (some .boolean)) (by decide) rfl ?_
  intro p e s m args below meth c s₁ B hml hv
  obtain ⟨rfl, hX, hP0⟩ := hv
  have hx := B.exec
  have hb := B.bytes
  have hr := B.returns
  have hts := atoms_spec (ws := wsX11_isNoCrew) B.pre
  have hown : s.vm.findClass RX11 = some m.cls := findClass_of_methodNamed B.named
  have hlocks := B.notSynchronized
  have hW : pcQ D vwCl (fun _ => False) s.heap NL ad ct s.heap [] := ⟨hP0, va_S.rf⟩
  have hl := lv_entry ([.int x1]) (n := 1) (Nat.le_of_ble_eq_true rfl)
  rw [lg_entry_eq]
  generalize (lg_sl ([.int x1]) ++ List.replicate (1 - (lg_sl ([.int x1])).length) Slot.unset).toArray = ls at hl ⊢
  have hl : lv_has ls 1 [(0, .int x1)] := hl
  refine lv_iload_n hx hb dX11_isNoCrew_0 rfl (lv_at hl 0 rfl) ?_
  refine lv_iconst (v := 0) hx hb dX11_isNoCrew_1 (by decide) ?_
  refine lv_iconst (v := 3) hx hb dX11_isNoCrew_2 (by decide) ?_
  refine pc_qcalli (va_runS (As := [.int x1, .int 0, .int 3]) (rest := []) ⟨hx, hb, hml, hown, hts⟩ (r_X11_isIn l D cA NL ad ct x1 0 3) (va_cwS 3 hts gX11_isNoCrew_X11_isIn rfl rfl rfl (by decide +kernel) ⟨Nat.le_of_ble_eq_true rfl, Nat.le_of_ble_eq_true rfl⟩) (pc_preS pcN_ok hX hW.1) rfl rfl hl.1 rfl (lv_room (Nat.le_of_ble_eq_true rfl)) dX11_isNoCrew_3 ⟨Nat.le_of_ble_eq_true rfl, Nat.le_of_ble_eq_true rfl⟩) hW (fun r71 H locs hwr71 hW => ?_)
  rcases hwr71 with ⟨rfl, b72a, b72b⟩ | ⟨rfl, b72c⟩
  · refine lv_if_ne (tgt := 13) hx hb dX11_isNoCrew_6 (by decide) (fun _ => ?_) (fun c73 => absurd c73 (by decide))
    refine lv_iconst (v := 0) hx hb dX11_isNoCrew_13 (by decide) ?_
    exact W.zret (v := 0) hx hb hr rfl (fun t ht hW9 => ⟨⟨0, (), rfl, Or.inl ⟨rfl, b72a, lt4 b72b⟩, trivial⟩, hW.2.F ht⟩) hW.2.2.2 dX11_isNoCrew_14
  · refine lv_if_ne (tgt := 13) hx hb dX11_isNoCrew_6 (by decide) (fun c74 => absurd c74 (by decide)) (fun _ => ?_)
    refine lv_iconst (v := 1) hx hb dX11_isNoCrew_9 (by decide) ?_
    refine lv_goto (tgt := 14) hx hb dX11_isNoCrew_10 (by decide) ?_
    exact W.zret (v := 1) hx hb hr rfl (fun t ht hW9 => ⟨⟨1, (), rfl, Or.inr ⟨rfl, fun h => b72c.elim h.1 (fun h2 => nlt4 h2 h.2)⟩, trivial⟩, hW.2.F ht⟩) hW.2.2.2 dX11_isNoCrew_14
