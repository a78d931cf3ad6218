set_option maxHeartbeats 4000000 in
set_option maxRecDepth 100000 in
theorem m_X11_refuse1 (l : Launch) (D : va_G) (cA : Nat → ClassId) (NL : List (Nat × Nat)) (ad : Nat → Nat → Nat) (ct : Nat → Nat → va_E) (A : Nat → Prop)  (em : Nat) (x2 : Int32) (hmM : inM NL) (hf : frT 0 ad em ct) (hw0 : 0 < x2) : Met l yX11_refuse wsX11_refuse ({ frames := 0, cells := 0, slots := 0, locals := 0 }) (pcPre D vwCl (tyL cA) [.ref (ad 11 0), .int 1, .int x2] (fun H => va_P D vwCl (pcW NL ad ct) H ∧ va_D A (pcW NL ad ct) ∧ ∀ q, H.size ≤ q → A q)) (va_Qi (fun (r : Int32) (u : Nat → Nat → va_E) => r = 1 ∧ frT x2 ad em u) (fun u t => va_P D vwCl (pcW NL ad u) t.heap) A) 0 0 A := by
  refine Met.ofW (cc := cX11_refuse) (maxL := 3) (ret := (some .boolean)) (by decide) rfl ?_
  intro p e s m args below meth c s₁ B hml hv
  obtain ⟨rfl, hX, ⟨hP0, hD, hA⟩⟩ := hv
  have hx := B.exec
  have hb := B.bytes
  have hr := B.returns
  have hts := atoms_spec (ws := wsX11_refuse) B.pre
  have hown : s.vm.findClass RX11 = some m.cls := findClass_of_methodNamed B.named
  have hlocks := B.notSynchronized
  have hW : pcQ D vwCl (fun _ => False) s.heap NL ad ct s.heap [] := ⟨hP0, va_S.rf⟩
  have hl := lv_entry ([.ref (ad 11 0), .int 1, .int x2]) (n := 3) (Nat.le_of_ble_eq_true rfl)
  rw [lg_entry_eq]
  generalize (lg_sl ([.ref (ad 11 0), .int 1, .int x2]) ++ List.replicate (3 - (lg_sl ([.ref (ad 11 0), .int 1, .int x2])).length) Slot.unset).toArray = ls at hl ⊢
  have hl : lv_has ls 3 [(0, .ref (ad 11 0)), (1, .int 1), (2, .int x2)] := hl
  refine lv_iload_n hx hb dX11_refuse_0 rfl (lv_at hl 1 rfl) ?_
  refine lv_if_eq (tgt := 16) hx hb dX11_refuse_1 (by decide) (fun c85 => absurd c85 (by decide)) (fun _ => ?_)
  refine lv_aload_n hx hb dX11_refuse_4 rfl (lv_at hl 0 rfl) ?_
  refine pc_get (C := RX11) (T := TX11) (N := 2) (ci := 12) hx hb hts (by decide +kernel) hown hX.1 hW.1 11 0 hmM.1 hf.1 rfl 0 (by decide) (hts (.fieldLink RX11 16 "DraftsmanOfficeModel" "thrown" "I") (by decide +kernel)) (fun _ h9 => h9) rfl dX11_refuse_5 ?_
  refine lv_if_ne (tgt := 16) hx hb dX11_refuse_8 (by decide) (fun c86 => absurd c86 (by decide)) (fun _ => ?_)
  refine lv_aload_n hx hb dX11_refuse_11 rfl (lv_at hl 0 rfl) ?_
  refine lv_iload_n hx hb dX11_refuse_12 rfl (lv_at hl 2 rfl) ?_
  have hW : pcS D vwCl A s.heap NL ad ct _ _ := ⟨hW.1, hD, vaS_mono hW.2⟩
  refine pc_put (C := RX11) (T := TX11) (N := 2) (ci := 12) (ty := .int) hx hb hts (by decide +kernel) tyX11 tyX11_ok nmX11 hown hX.1 hW 11 0 hmM.1 hf.1 rfl 0 (by decide) (hts (.fieldLink RX11 16 "DraftsmanOfficeModel" "thrown" "I") (by decide +kernel)) (fun _ h9 => h9) rfl (by decide +kernel) rfl rfl (by decide) dX11_refuse_13 (fun H locs hW => ?_)
  obtain ⟨ct87, ect87⟩ : ∃ z, z = pcU ct 11 0 (.inr (12, [.int x2, .ref (ad 6 0)])) := ⟨_, rfl⟩
  rw [← ect87] at hW
  have h88 : frT x2 ad em ct87 := ⟨by rw [ect87]; exact pcU_self _ _ _ _, by rw [ect87]; exact (pcU_k (by decide)).trans hf.2.1, fun j hj => by rw [ect87]; exact (pcU_k (by decide)).trans (hf.2.2 j hj)⟩
  refine lv_aload_n hx hb dX11_refuse_16 rfl (lv_at hl 0 rfl) ?_
  refine pc_get (C := RX11) (T := TX11) (N := 2) (ci := 12) hx hb hts (by decide +kernel) hown hX.1 hW.1 11 0 hmM.1 h88.1 rfl 0 (by decide) (hts (.fieldLink RX11 16 "DraftsmanOfficeModel" "thrown" "I") (by decide +kernel)) (fun _ h9 => h9) rfl dX11_refuse_17 ?_
  refine lv_if_le (tgt := 27) hx hb dX11_refuse_20 (by decide) (fun c89 => absurd c89 (Int32.not_le.mpr hw0)) (fun _ => ?_)
  refine lv_iconst (v := 1) hx hb dX11_refuse_23 (by decide) ?_
  refine lv_goto (tgt := 28) hx hb dX11_refuse_24 (by decide) ?_
  refine W.widen (k := 0) (n := 0) (Nat.le_of_ble_eq_true rfl) (Nat.le_of_ble_eq_true rfl) ?_
  exact W.zret (v := 1) hx hb hr rfl (fun t ht hW9 => ⟨⟨1, ct87, rfl, ⟨rfl, h88⟩, by rw [ht]; exact hW.1⟩, hW.2.2.F ht⟩) hW.2.2.2.2 dX11_refuse_28

set_option maxHeartbeats 4000000 in
set_option maxRecDepth 100000 in
theorem m_X11_refuse0 (l : Launch) (D : va_G) (cA : Nat → ClassId) (NL : List (Nat × Nat)) (ad : Nat → Nat → Nat) (ct : Nat → Nat → va_E) (A : Nat → Prop)  (em : Nat) (x2 : Int32) (hmM : inM NL) (hf : frT 0 ad em ct) : Met l yX11_refuse wsX11_refuse ({ frames := 0, cells := 0, slots := 0, locals := 0 }) (pcPre D vwCl (tyL cA) [.ref (ad 11 0), .int 0, .int x2] (fun H => va_P D vwCl (pcW NL ad ct) H ∧ va_D A (pcW NL ad ct) ∧ ∀ q, H.size ≤ q → A q)) (va_Qi (fun (r : Int32) (u : Nat → Nat → va_E) => r = 0 ∧ frT 0 ad em u) (fun u t => va_P D vwCl (pcW NL ad u) t.heap) A) 0 0 A := by
  refine Met.ofW (cc := cX11_refuse) (maxL := 3) (ret := (some .boolean)) (by decide) rfl ?_
  intro p e s m args below meth c s₁ B hml hv
  obtain ⟨rfl, hX, ⟨hP0, hD, hA⟩⟩ := hv
  have hx := B.exec
  have hb := B.bytes
  have hr := B.returns
  have hts := atoms_spec (ws := wsX11_refuse) B.pre
  have hown : s.vm.findClass RX11 = some m.cls := findClass_of_methodNamed B.named
  have hlocks := B.notSynchronized
  have hW : pcQ D vwCl (fun _ => False) s.heap NL ad ct s.heap [] := ⟨hP0, va_S.rf⟩
  have hl := lv_entry ([.ref (ad 11 0), .int 0, .int x2]) (n := 3) (Nat.le_of_ble_eq_true rfl)
  rw [lg_entry_eq]
  generalize (lg_sl ([.ref (ad 11 0), .int 0, .int x2]) ++ List.replicate (3 - (lg_sl ([.ref (ad 11 0), .int 0, .int x2])).length) Slot.unset).toArray = ls at hl ⊢
  have hl : lv_has ls 3 [(0, .ref (ad 11 0)), (1, .int 0), (2, .int x2)] := hl
  refine lv_iload_n hx hb dX11_refuse_0 rfl (lv_at hl 1 rfl) ?_
  refine lv_if_eq (tgt := 16) hx hb dX11_refuse_1 (by decide) (fun _ => ?_) (fun c90 => absurd (by decide) c90)
  refine lv_aload_n hx hb dX11_refuse_16 rfl (lv_at hl 0 rfl) ?_
  refine pc_get (C := RX11) (T := TX11) (N := 2) (ci := 12) hx hb hts (by decide +kernel) hown hX.1 hW.1 11 0 hmM.1 hf.1 rfl 0 (by decide) (hts (.fieldLink RX11 16 "DraftsmanOfficeModel" "thrown" "I") (by decide +kernel)) (fun _ h9 => h9) rfl dX11_refuse_17 ?_
  refine lv_if_le (tgt := 27) hx hb dX11_refuse_20 (by decide) (fun _ => ?_) (fun c91 => absurd (by decide) c91)
  refine lv_iconst (v := 0) hx hb dX11_refuse_27 (by decide) ?_
  have hW : pcS D vwCl A s.heap NL ad ct _ _ := ⟨hW.1, hD, vaS_mono hW.2⟩
  refine W.widen (k := 0) (n := 0) (Nat.le_of_ble_eq_true rfl) (Nat.le_of_ble_eq_true rfl) ?_
  exact W.zret (v := 0) hx hb hr rfl (fun t ht hW9 => ⟨⟨0, ct, rfl, ⟨rfl, hf⟩, by rw [ht]; exact hW.1⟩, hW.2.2.F ht⟩) hW.2.2.2.2 dX11_refuse_28

set_option maxHeartbeats 4000000 in
set_option maxRecDepth 100000 in
theorem m_X11_start1 (l : Launch) (D : va_G) (cA : Nat → ClassId) (NL : List (Nat × Nat)) (ad : Nat → Nat → Nat) (ct : Nat → Nat → va_E) (A : Nat → Prop)  (em : Nat) (th : Int32) (x2 : Int32) (hmM : inM NL) (hf : frT th ad em ct) (hw0 : 0 < x2) : Met l yX11_start wsX11_start ({ frames := 1, cells := 0, slots := 0, locals := 22 }) (pcPre D vwCl (tyL cA) [.ref (ad 11 0), .int 1, .int x2] (fun H => va_P D vwCl (pcW NL ad ct) H ∧ va_D A (pcW NL ad ct) ∧ ∀ q, H.size ≤ q → A q)) (va_Qi (fun (r : Int32) (u : Nat → Nat → va_E) => r = 1 ∧ frT x2 ad em u) (fun u t => va_P D vwCl (pcW NL ad u) t.heap) A) 0 0 A := by
  refine Met.ofW (cc := cX11_start) (maxL := 3) (ret := (some .boolean)) (by decide) rfl ?_
  intro p e s m args below meth c s₁ B hml hv
  obtain ⟨rfl, hX, ⟨hP0, hD, hA⟩⟩ := hv
  have hx := B.exec
  have hb := B.bytes
  have hr := B.returns
  have hts := atoms_spec (ws := wsX11_start) B.pre
  have hown : s.vm.findClass RX11 = some m.cls := findClass_of_methodNamed B.named
  have hlocks := B.notSynchronized
  have hW : pcQ D vwCl (fun _ => False) s.heap NL ad ct s.heap [] := ⟨hP0, va_S.rf⟩
  have hl := lv_entry ([.ref (ad 11 0), .int 1, .int x2]) (n := 3) (Nat.le_of_ble_eq_true rfl)
  rw [lg_entry_eq]
  generalize (lg_sl ([.ref (ad 11 0), .int 1, .int x2]) ++ List.replicate (3 - (lg_sl ([.ref (ad 11 0), .int 1, .int x2])).length) Slot.unset).toArray = ls at hl ⊢
  have hl : lv_has ls 3 [(0, .ref (ad 11 0)), (1, .int 1), (2, .int x2)] := hl
  refine lv_aload_n hx hb dX11_start_0 rfl (lv_at hl 0 rfl) ?_
  refine lv_iconst (v := 0) hx hb dX11_start_1 (by decide) ?_
  have hW : pcS D vwCl A s.heap NL ad ct _ _ := ⟨hW.1, hD, vaS_mono hW.2⟩
  refine pc_put (C := RX11) (T := TX11) (N := 2) (ci := 12) (ty := .int) hx hb hts (by decide +kernel) tyX11 tyX11_ok nmX11 hown hX.1 hW 11 0 hmM.1 hf.1 rfl 0 (by decide) (hts (.fieldLink RX11 16 "DraftsmanOfficeModel" "thrown" "I") (by decide +kernel)) (fun _ h9 => h9) rfl (by decide +kernel) rfl rfl (by decide) dX11_start_2 (fun H locs hW => ?_)
  obtain ⟨ct92, ect92⟩ : ∃ z, z = pcU ct 11 0 (.inr (12, [.int 0, .ref (ad 6 0)])) := ⟨_, rfl⟩
  rw [← ect92] at hW
  have h93 : frT 0 ad em ct92 := ⟨by rw [ect92]; exact pcU_self _ _ _ _, by rw [ect92]; exact (pcU_k (by decide)).trans hf.2.1, fun j hj => by rw [ect92]; exact (pcU_k (by decide)).trans (hf.2.2 j hj)⟩
  refine lv_aload_n hx hb dX11_start_5 rfl (lv_at hl 0 rfl) ?_
  refine lv_iload_n hx hb dX11_start_6 rfl (lv_at hl 1 rfl) ?_
  refine lv_iload_n hx hb dX11_start_7 rfl (lv_at hl 2 rfl) ?_
  refine pc_mcalli (va_runV (As := [.int 1, .int x2]) (rest := []) ⟨hx, hb, hml, hown, hts⟩ (m_X11_refuse1 l D cA NL ad ct92 A em x2 hmM h93 hw0) (cwV 2 hts gX11_start_X11_refuse rfl rfl rfl (by decide +kernel) ⟨Nat.le_of_ble_eq_true rfl, Nat.le_of_ble_eq_true rfl⟩) (pc_preV pcN_ok hX hW.1 hmM.1 h93.1 rfl ⟨hW.1, hW.2.1, fun q h => hA q (Nat.le_trans hW.2.2.1 h)⟩) rfl rfl hl.1 rfl (lv_room (Nat.le_of_ble_eq_true rfl)) dX11_start_8 ⟨Nat.le_of_ble_eq_true rfl, Nat.le_of_ble_eq_true rfl⟩) hW.2.2 (fun r94 u95 H locs hwr94 hB hS => ?_)
  obtain ⟨rfl, h96⟩ := hwr94
  have hD := pcD_ct (ct' := u95) hW.2.1
  have hW : pcS D vwCl A s.heap NL ad u95 H locs := ⟨hB, hD, hS⟩
  refine W.widen (k := 0) (n := 0) (Nat.le_of_ble_eq_true rfl) (Nat.le_of_ble_eq_true rfl) ?_
  exact W.zret (v := 1) hx hb hr rfl (fun t ht hW9 => ⟨⟨1, u95, rfl, ⟨rfl, h96⟩, by rw [ht]; exact hW.1⟩, hW.2.2.F ht⟩) hW.2.2.2.2 dX11_start_11

set_option maxHeartbeats 4000000 in
set_option maxRecDepth 100000 in
theorem m_X11_start0 (l : Launch) (D : va_G) (cA : Nat → ClassId) (NL : List (Nat × Nat)) (ad : Nat → Nat → Nat) (ct : Nat → Nat → va_E) (A : Nat → Prop)  (em : Nat) (th : Int32) (x2 : Int32) (hmM : inM NL) (hf : frT th ad em ct) : Met l yX11_start wsX11_start ({ frames := 1, cells := 0, slots := 0, locals := 22 }) (pcPre D vwCl (tyL cA) [.ref (ad 11 0), .int 0, .int x2] (fun H => va_P D vwCl (pcW NL ad ct) H ∧ va_D A (pcW NL ad ct) ∧ ∀ q, H.size ≤ q → A q)) (va_Qi (fun (r : Int32) (u : Nat → Nat → va_E) => r = 0 ∧ frT 0 ad em u) (fun u t => va_P D vwCl (pcW NL ad u) t.heap) A) 0 0 A := by
  refine Met.ofW (cc := cX11_start) (maxL := 3) (ret := (some .boolean)) (by decide) rfl ?_
  intro p e s m args below meth c s₁ B hml hv
  obtain ⟨rfl, hX, ⟨hP0, hD, hA⟩⟩ := hv
  have hx := B.exec
  have hb := B.bytes
  have hr := B.returns
  have hts := atoms_spec (ws := wsX11_start) B.pre
  have hown : s.vm.findClass RX11 = some m.cls := findClass_of_methodNamed B.named
  have hlocks := B.notSynchronized
  have hW : pcQ D vwCl (fun _ => False) s.heap NL ad ct s.heap [] := ⟨hP0, va_S.rf⟩
  have hl := lv_entry ([.ref (ad 11 0), .int 0, .int x2]) (n := 3) (Nat.le_of_ble_eq_true rfl)
  rw [lg_entry_eq]
  generalize (lg_sl ([.ref (ad 11 0), .int 0, .int x2]) ++ List.replicate (3 - (lg_sl ([.ref (ad 11 0), .int 0, .int x2])).length) Slot.unset).toArray = ls at hl ⊢
  have hl : lv_has ls 3 [(0, .ref (ad 11 0)), (1, .int 0), (2, .int x2)] := hl
  refine lv_aload_n hx hb dX11_start_0 rfl (lv_at hl 0 rfl) ?_
  refine lv_iconst (v := 0) hx hb dX11_start_1 (by decide) ?_
  have hW : pcS D vwCl A s.heap NL ad ct _ _ := ⟨hW.1, hD, vaS_mono hW.2⟩
  refine pc_put (C := RX11) (T := TX11) (N := 2) (ci := 12) (ty := .int) hx hb hts (by decide +kernel) tyX11 tyX11_ok nmX11 hown hX.1 hW 11 0 hmM.1 hf.1 rfl 0 (by decide) (hts (.fieldLink RX11 16 "DraftsmanOfficeModel" "thrown" "I") (by decide +kernel)) (fun _ h9 => h9) rfl (by decide +kernel) rfl rfl (by decide) dX11_start_2 (fun H locs hW => ?_)
  obtain ⟨ct97, ect97⟩ : ∃ z, z = pcU ct 11 0 (.inr (12, [.int 0, .ref (ad 6 0)])) := ⟨_, rfl⟩
  rw [← ect97] at hW
  have h98 : frT 0 ad em ct97 := ⟨by rw [ect97]; exact pcU_self _ _ _ _, by rw [ect97]; exact (pcU_k (by decide)).trans hf.2.1, fun j hj => by rw [ect97]; exact (pcU_k (by decide)).trans (hf.2.2 j hj)⟩
  refine lv_aload_n hx hb dX11_start_5 rfl (lv_at hl 0 rfl) ?_
  refine lv_iload_n hx hb dX11_start_6 rfl (lv_at hl 1 rfl) ?_
  refine lv_iload_n hx hb dX11_start_7 rfl (lv_at hl 2 rfl) ?_
  refine pc_mcalli (va_runV (As := [.int 0, .int x2]) (rest := []) ⟨hx, hb, hml, hown, hts⟩ (m_X11_refuse0 l D cA NL ad ct97 A em x2 hmM h98 ) (cwV 2 hts gX11_start_X11_refuse rfl rfl rfl (by decide +kernel) ⟨Nat.le_of_ble_eq_true rfl, Nat.le_of_ble_eq_true rfl⟩) (pc_preV pcN_ok hX hW.1 hmM.1 h98.1 rfl ⟨hW.1, hW.2.1, fun q h => hA q (Nat.le_trans hW.2.2.1 h)⟩) rfl rfl hl.1 rfl (lv_room (Nat.le_of_ble_eq_true rfl)) dX11_start_8 ⟨Nat.le_of_ble_eq_true rfl, Nat.le_of_ble_eq_true rfl⟩) hW.2.2 (fun r99 u100 H locs hwr99 hB hS => ?_)
  obtain ⟨rfl, h101⟩ := hwr99
  have hD := pcD_ct (ct' := u100) hW.2.1
  have hW : pcS D vwCl A s.heap NL ad u100 H locs := ⟨hB, hD, hS⟩
  refine W.widen (k := 0) (n := 0) (Nat.le_of_ble_eq_true rfl) (Nat.le_of_ble_eq_true rfl) ?_
  exact W.zret (v := 0) hx hb hr rfl (fun t ht hW9 => ⟨⟨0, u100, rfl, ⟨rfl, h101⟩, by rw [ht]; exact hW.1⟩, hW.2.2.F ht⟩) hW.2.2.2.2 dX11_start_11

set_option maxHeartbeats 4000000 in
set_option maxRecDepth 100000 in
theorem r_X11_isNo (l : Launch) (D : va_G) (cA : Nat → ClassId) (NL : List (Nat × Nat)) (ad : Nat → Nat → Nat) (ct : Nat → Nat → va_E)  (em : Nat) (th : Int32) (x1 : Int32) (hmM : inM NL) (hf : frT th ad em ct) : Met l yX11_isNo wsX11_isNo ({ frames := 1, cells := 0, slots := 0, locals := 22 }) (pcPre D vwCl (tyL cA) [.ref (ad 11 0), .int x1] (fun H => va_P D vwCl (pcW NL ad ct) H)) (va_Qi (fun (r : Int32) (_ : Unit) => r = 1) (fun _ _ => True) (fun _ => False)) 0 0 (fun _ => False) := by
  refine Met.ofW (cc := cX11_isNo) (maxL := 2) (ret := (some .boolean)) (by decide) rfl ?_
  intro p e s m args below meth c s₁ B hml hv
  obtain ⟨rfl, hX, hP0⟩ := hv
  have hx := B.exec
  have hb := B.bytes
  have hr := B.returns
  have hts := atoms_spec (ws := wsX11_isNo) B.pre
  have hown : s.vm.findClass RX11 = some m.cls := findClass_of_methodNamed B.named
  have hlocks := B.notSynchronized
  have hW : pcQ D vwCl (fun _ => False) s.heap NL ad ct s.heap [] := ⟨hP0, va_S.rf⟩
  have hl := lv_entry ([.ref (ad 11 0), .int x1]) (n := 2) (Nat.le_of_ble_eq_true rfl)
  rw [lg_entry_eq]
  generalize (lg_sl ([.ref (ad 11 0), .int x1]) ++ List.replicate (2 - (lg_sl ([.ref (ad 11 0), .int x1])).length) Slot.unset).toArray = ls at hl ⊢
  have hl : lv_has ls 2 [(0, .ref (ad 11 0)), (1, .int x1)] := hl
  refine lv_iload_n hx hb dX11_isNo_0 rfl (lv_at hl 1 rfl) ?_
  refine lv_iconst (v := 0) hx hb dX11_isNo_1 (by decide) ?_
  refine lv_aload_n hx hb dX11_isNo_2 rfl (lv_at hl 0 rfl) ?_
  refine pc_get (C := RX11) (T := TX11) (N := 2) (ci := 12) hx hb hts (by decide +kernel) hown hX.1 hW.1 11 0 hmM.1 hf.1 rfl 1 (by decide) (hts (.fieldLink RX11 10 "DraftsmanOfficeModel" "office" "LDraftsmanOfficeModel$Office;") (by decide +kernel)) (fun _ h9 => h9) rfl dX11_isNo_3 ?_
  refine pc_get (C := RX6) (T := TX6) (N := 10) (ci := 7) hx hb hts (by decide +kernel) hown hX.1 hW.1 6 0 hmM.2.1 hf.2.1 rfl 0 (by decide) (hts (.fieldLink RX11 24 "DraftsmanOfficeModel$Office" "sheets" "Ljava/util/ArrayList;") (by decide +kernel)) (fun _ h9 => h9) rfl dX11_isNo_6 ?_
  refine pc_qcalli (va_runV (As := []) (rest := [.int 0, .int x1]) ⟨hx, hb, hml, hown, hts⟩ (r_Jx4a65c_size_8abf5 l D cA NL ad ct 60 0 em (hmM.2.2 0 (by decide)) (hf.2.2 0 (by decide))) (cwV 0 hts gX11_isNo_Jx4a65c_size_8abf5 rfl rfl rfl (by decide +kernel) ⟨Nat.le_of_ble_eq_true rfl, Nat.le_of_ble_eq_true rfl⟩) (pc_preV pcN_ok hX hW.1 (hmM.2.2 0 (by decide)) (hf.2.2 0 (by decide)) rfl hW.1) rfl rfl hl.1 rfl (lv_room (Nat.le_of_ble_eq_true rfl)) dX11_isNo_9 ⟨Nat.le_of_ble_eq_true rfl, Nat.le_of_ble_eq_true rfl⟩) hW (fun r102 H locs hwr102 hW => ?_)
  subst hwr102
  refine lv_iconst (v := 1) hx hb dX11_isNo_12 (by decide) ?_
  refine lv_isub hx hb dX11_isNo_13 ?_
  refine lv_topi (fun a103 ea103 => ?_)
  obtain rfl : a103 = (-1) := ea103.trans (by decide)
  refine pc_qcalli (va_runS (As := [.int x1, .int 0, .int (-1)]) (rest := []) ⟨hx, hb, hml, hown, hts⟩ (r_X11_isIn l D cA NL ad ct x1 0 (-1)) (va_cwS 3 hts gX11_isNo_X11_isIn rfl rfl rfl (by decide +kernel) ⟨Nat.le_of_ble_eq_true rfl, Nat.le_of_ble_eq_true rfl⟩) (pc_preS pcN_ok hX hW.1) rfl rfl hl.1 rfl (lv_room (Nat.le_of_ble_eq_true rfl)) dX11_isNo_14 ⟨Nat.le_of_ble_eq_true rfl, Nat.le_of_ble_eq_true rfl⟩) hW (fun r104 H locs hwr104 hW => ?_)
  rcases hwr104 with ⟨rfl, b105a, b105b⟩ | ⟨rfl, b105c⟩
  · exact (noIn b105a b105b).elim
  · refine lv_if_ne (tgt := 24) hx hb dX11_isNo_17 (by decide) (fun c106 => absurd c106 (by decide)) (fun _ => ?_)
    refine lv_iconst (v := 1) hx hb dX11_isNo_20 (by decide) ?_
    refine lv_goto (tgt := 25) hx hb dX11_isNo_21 (by decide) ?_
    exact W.zret (v := 1) hx hb hr rfl (fun t ht hW9 => ⟨⟨1, (), rfl, rfl, trivial⟩, hW.2.F ht⟩) hW.2.2.2 dX11_isNo_25

set_option maxHeartbeats 4000000 in
set_option maxRecDepth 100000 in
theorem r_X11_isNoSet (l : Launch) (D : va_G) (cA : Nat → ClassId) (NL : List (Nat × Nat)) (ad : Nat → Nat → Nat) (ct : Nat → Nat → va_E)  (em : Nat) (th : Int32) (x1 : Int32) (hmM : inM NL) (hf : frT th ad em ct) : Met l yX11_isNoSet wsX11_isNoSet ({ frames := 1, cells := 0, slots := 0, locals := 20 }) (pcPre D vwCl (tyL cA) [.ref (ad 11 0), .int x1] (fun H => va_P D vwCl (pcW NL ad ct) H)) (va_Qi (fun (r : Int32) (_ : Unit) => r = 1) (fun _ _ => True) (fun _ => False)) 0 0 (fun _ => False) := by
  refine Met.ofW (cc := cX11_isNoSet) (maxL := 2) (ret := (some .boolean)) (by decide) rfl ?_
  intro p e s m args below meth c s₁ B hml hv
  obtain ⟨rfl, hX, hP0⟩ := hv
  have hx := B.exec
  have hb := B.bytes
  have hr := B.returns
  have hts := atoms_spec (ws := wsX11_isNoSet) B.pre
  have hown : s.vm.findClass RX11 = some m.cls := findClass_of_methodNamed B.named
  have hlocks := B.notSynchronized
  have hW : pcQ D vwCl (fun _ => False) s.heap NL ad ct s.heap [] := ⟨hP0, va_S.rf⟩
  have hl := lv_entry ([.ref (ad 11 0), .int x1]) (n := 2) (Nat.le_of_ble_eq_true rfl)
  rw [lg_entry_eq]
  generalize (lg_sl ([.ref (ad 11 0), .int x1]) ++ List.replicate (2 - (lg_sl ([.ref (ad 11 0), .int x1])).length) Slot.unset).toArray = ls at hl ⊢
  have hl : lv_has ls 2 [(0, .ref (ad 11 0)), (1, .int x1)] := hl
  refine lv_iload_n hx hb dX11_isNoSet_0 rfl (lv_at hl 1 rfl) ?_
  refine lv_iconst (v := 1) hx hb dX11_isNoSet_1 (by decide) ?_
  refine lv_icmp_lt (tgt := 21) hx hb dX11_isNoSet_2 (by decide) (fun c107 => ?_) (fun c107 => ?_)
  · refine lv_iconst (v := 1) hx hb dX11_isNoSet_21 (by decide) ?_
    refine lv_goto (tgt := 26) hx hb dX11_isNoSet_22 (by decide) ?_
    exact W.zret (v := 1) hx hb hr rfl (fun t ht hW9 => ⟨⟨1, (), rfl, rfl, trivial⟩, hW.2.F ht⟩) hW.2.2.2 dX11_isNoSet_26
  · refine lv_iload_n hx hb dX11_isNoSet_5 rfl (lv_at hl 1 rfl) ?_
    refine lv_iconst (v := 1) hx hb dX11_isNoSet_6 (by decide) ?_
    refine lv_aload_n hx hb dX11_isNoSet_7 rfl (lv_at hl 0 rfl) ?_
    refine pc_get (C := RX11) (T := TX11) (N := 2) (ci := 12) hx hb hts (by decide +kernel) hown hX.1 hW.1 11 0 hmM.1 hf.1 rfl 1 (by decide) (hts (.fieldLink RX11 10 "DraftsmanOfficeModel" "office" "LDraftsmanOfficeModel$Office;") (by decide +kernel)) (fun _ h9 => h9) rfl dX11_isNoSet_8 ?_
    refine pc_get (C := RX6) (T := TX6) (N := 10) (ci := 7) hx hb hts (by decide +kernel) hown hX.1 hW.1 6 0 hmM.2.1 hf.2.1 rfl 0 (by decide) (hts (.fieldLink RX11 24 "DraftsmanOfficeModel$Office" "sheets" "Ljava/util/ArrayList;") (by decide +kernel)) (fun _ h9 => h9) rfl dX11_isNoSet_11 ?_
    refine pc_qcalli (va_runV (As := []) (rest := [.int 1, .int x1]) ⟨hx, hb, hml, hown, hts⟩ (r_Jx4a65c_size_8abf5 l D cA NL ad ct 60 0 em (hmM.2.2 0 (by decide)) (hf.2.2 0 (by decide))) (cwV 0 hts gX11_isNoSet_Jx4a65c_size_8abf5 rfl rfl rfl (by decide +kernel) ⟨Nat.le_of_ble_eq_true rfl, Nat.le_of_ble_eq_true rfl⟩) (pc_preV pcN_ok hX hW.1 (hmM.2.2 0 (by decide)) (hf.2.2 0 (by decide)) rfl hW.1) rfl rfl hl.1 rfl (lv_room (Nat.le_of_ble_eq_true rfl)) dX11_isNoSet_14 ⟨Nat.le_of_ble_eq_true rfl, Nat.le_of_ble_eq_true rfl⟩) hW (fun r108 H locs hwr108 hW => ?_)
    subst hwr108
    refine lv_ishl hx hb dX11_isNoSet_17 ?_
    refine lv_topi (fun a109 ea109 => ?_)
    obtain rfl : a109 = 1 := ea109.trans (by decide)
    refine lv_icmp_lt (tgt := 25) hx hb dX11_isNoSet_18 (by decide) (fun c110 => absurd c110 (fun h => absurd h c107)) (fun _ => ?_)
    refine lv_iconst (v := 1) hx hb dX11_isNoSet_21 (by decide) ?_
    refine lv_goto (tgt := 26) hx hb dX11_isNoSet_22 (by decide) ?_
    exact W.zret (v := 1) hx hb hr rfl (fun t ht hW9 => ⟨⟨1, (), rfl, rfl, trivial⟩, hW.2.F ht⟩) hW.2.2.2 dX11_isNoSet_26

set_option maxHeartbeats 4000000 in
set_option maxRecDepth 100000 in
theorem m_X11_isNoSheet (l : Launch) (D : va_G) (cA : Nat → ClassId) (NL : List (Nat × Nat)) (ad : Nat → Nat → Nat) (ct : Nat → Nat → va_E) (A : Nat → Prop)  (em : Nat) (th : Int32) (x1 : Int32) (hmM : inM NL) (hf : frT th ad em ct) : Met l yX11_isNoSheet wsX11_isNoSheet ({ frames := 2, cells := 0, slots := 0, locals := 44 }) (pcPre D vwCl (tyL cA) [.ref (ad 11 0), .int x1] (fun H => va_P D vwCl (pcW NL ad ct) H ∧ va_D A (pcW NL ad ct) ∧ ∀ q, H.size ≤ q → A q)) (va_Qi (fun (r : Int32) (u : Nat → Nat → va_E) => r = 1 ∧ frT 1 ad em u) (fun u t => va_P D vwCl (pcW NL ad u) t.heap) A) 0 0 A := by
  refine Met.ofW (cc := cX11_isNoSheet) (maxL := 2) (ret := (some .boolean)) (by decide) rfl ?_
  intro p e s m args below meth c s₁ B hml hv
  obtain ⟨rfl, hX, ⟨hP0, hD, hA⟩⟩ := hv
  have hx := B.exec
  have hb := B.bytes
  have hr := B.returns
  have hts := atoms_spec (ws := wsX11_isNoSheet) B.pre
  have hown : s.vm.findClass RX11 = some m.cls := findClass_of_methodNamed B.named
  have hlocks := B.notSynchronized
  have hW : pcQ D vwCl (fun _ => False) s.heap NL ad ct s.heap [] := ⟨hP0, va_S.rf⟩
  have hl := lv_entry ([.ref (ad 11 0), .int x1]) (n := 2) (Nat.le_of_ble_eq_true rfl)
  rw [lg_entry_eq]
  generalize (lg_sl ([.ref (ad 11 0), .int x1]) ++ List.replicate (2 - (lg_sl ([.ref (ad 11 0), .int x1])).length) Slot.unset).toArray = ls at hl ⊢
  have hl : lv_has ls 2 [(0, .ref (ad 11 0)), (1, .int x1)] := hl
  refine lv_aload_n hx hb dX11_isNoSheet_0 rfl (lv_at hl 0 rfl) ?_
  refine lv_aload_n hx hb dX11_isNoSheet_1 rfl (lv_at hl 0 rfl) ?_
  refine lv_iload_n hx hb dX11_isNoSheet_2 rfl (lv_at hl 1 rfl) ?_
  refine pc_qcalli (va_runV (As := [.int x1]) (rest := [.ref (ad 11 0)]) ⟨hx, hb, hml, hown, hts⟩ (r_X11_isNo l D cA NL ad ct em th x1 hmM hf) (cwV 1 hts gX11_isNoSheet_X11_isNo rfl rfl rfl (by decide +kernel) ⟨Nat.le_of_ble_eq_true rfl, Nat.le_of_ble_eq_true rfl⟩) (pc_preV pcN_ok hX hW.1 hmM.1 hf.1 rfl hW.1) rfl rfl hl.1 rfl (lv_room (Nat.le_of_ble_eq_true rfl)) dX11_isNoSheet_3 ⟨Nat.le_of_ble_eq_true rfl, Nat.le_of_ble_eq_true rfl⟩) hW (fun r111 H locs hwr111 hW => ?_)
  subst hwr111
  refine lv_iconst (v := 1) hx hb dX11_isNoSheet_6 (by decide) ?_
  have hW : pcS D vwCl A s.heap NL ad ct _ _ := ⟨hW.1, hD, vaS_mono hW.2⟩
  refine pc_mcalli (va_runV (As := [.int 1, .int 1]) (rest := []) ⟨hx, hb, hml, hown, hts⟩ (m_X11_start1 l D cA NL ad ct A em th 1 hmM hf (by decide)) (cwV 2 hts gX11_isNoSheet_X11_start rfl rfl rfl (by decide +kernel) ⟨Nat.le_of_ble_eq_true rfl, Nat.le_of_ble_eq_true rfl⟩) (pc_preV pcN_ok hX hW.1 hmM.1 hf.1 rfl ⟨hW.1, hW.2.1, fun q h => hA q (Nat.le_trans hW.2.2.1 h)⟩) rfl rfl hl.1 rfl (lv_room (Nat.le_of_ble_eq_true rfl)) dX11_isNoSheet_7 ⟨Nat.le_of_ble_eq_true rfl, Nat.le_of_ble_eq_true rfl⟩) hW.2.2 (fun r112 u113 H locs hwr112 hB hS => ?_)
  obtain ⟨rfl, h114⟩ := hwr112
  have hD := pcD_ct (ct' := u113) hW.2.1
  have hW : pcS D vwCl A s.heap NL ad u113 H locs := ⟨hB, hD, hS⟩
  refine W.widen (k := 0) (n := 0) (Nat.le_of_ble_eq_true rfl) (Nat.le_of_ble_eq_true rfl) ?_
  exact W.zret (v := 1) hx hb hr rfl (fun t ht hW9 => ⟨⟨1, u113, rfl, ⟨rfl, h114⟩, by rw [ht]; exact hW.1⟩, hW.2.2.F ht⟩) hW.2.2.2.2 dX11_isNoSheet_10

set_option maxHeartbeats 4000000 in
set_option maxRecDepth 100000 in
theorem m_X11_isNoQuery (l : Launch) (D : va_G) (cA : Nat → ClassId) (NL : List (Nat × Nat)) (ad : Nat → Nat → Nat) (ct : Nat → Nat → va_E) (A : Nat → Prop)  (em : Nat) (th : Int32) (x1 : Int32) (hmM : inM NL) (hf : frT th ad em ct) : Met l yX11_isNoQuery wsX11_isNoQuery ({ frames := 2, cells := 0, slots := 0, locals := 44 }) (pcPre D vwCl (tyL cA) [.ref (ad 11 0), .int x1] (fun H => va_P D vwCl (pcW NL ad ct) H ∧ va_D A (pcW NL ad ct) ∧ ∀ q, H.size ≤ q → A q)) (va_Qi (fun (r : Int32) (u : Nat → Nat → va_E) => r = 1 ∧ frT 1 ad em u) (fun u t => va_P D vwCl (pcW NL ad u) t.heap) A) 0 0 A := by
  refine Met.ofW (cc := cX11_isNoQuery) (maxL := 2) (ret := (some .boolean)) (by decide) rfl ?_
  intro p e s m args below meth c s₁ B hml hv
  obtain ⟨rfl, hX, ⟨hP0, hD, hA⟩⟩ := hv
  have hx := B.exec
  have hb := B.bytes
  have hr := B.returns
  have hts := atoms_spec (ws := wsX11_isNoQuery) B.pre
  have hown : s.vm.findClass RX11 = some m.cls := findClass_of_methodNamed B.named
  have hlocks := B.notSynchronized
  have hW : pcQ D vwCl (fun _ => False) s.heap NL ad ct s.heap [] := ⟨hP0, va_S.rf⟩
  have hl := lv_entry ([.ref (ad 11 0), .int x1]) (n := 2) (Nat.le_of_ble_eq_true rfl)
  rw [lg_entry_eq]
  generalize (lg_sl ([.ref (ad 11 0), .int x1]) ++ List.replicate (2 - (lg_sl ([.ref (ad 11 0), .int x1])).length) Slot.unset).toArray = ls at hl ⊢
  have hl : lv_has ls 2 [(0, .ref (ad 11 0)), (1, .int x1)] := hl
  refine lv_aload_n hx hb dX11_isNoQuery_0 rfl (lv_at hl 0 rfl) ?_
  refine lv_iload_n hx hb dX11_isNoQuery_1 rfl (lv_at hl 1 rfl) ?_
  refine lv_iconst (v := 0) hx hb dX11_isNoQuery_2 (by decide) ?_
  refine lv_aload_n hx hb dX11_isNoQuery_3 rfl (lv_at hl 0 rfl) ?_
  refine pc_get (C := RX11) (T := TX11) (N := 2) (ci := 12) hx hb hts (by decide +kernel) hown hX.1 hW.1 11 0 hmM.1 hf.1 rfl 1 (by decide) (hts (.fieldLink RX11 10 "DraftsmanOfficeModel" "office" "LDraftsmanOfficeModel$Office;") (by decide +kernel)) (fun _ h9 => h9) rfl dX11_isNoQuery_4 ?_
  refine pc_get (C := RX6) (T := TX6) (N := 10) (ci := 7) hx hb hts (by decide +kernel) hown hX.1 hW.1 6 0 hmM.2.1 hf.2.1 rfl 5 (by decide) (hts (.fieldLink RX11 167 "DraftsmanOfficeModel$Office" "queries" "Ljava/util/ArrayList;") (by decide +kernel)) (fun _ h9 => h9) rfl dX11_isNoQuery_7 ?_
  refine pc_qcalli (va_runV (As := []) (rest := [.int 0, .int x1, .ref (ad 11 0)]) ⟨hx, hb, hml, hown, hts⟩ (r_Jx4a65c_size_8abf5 l D cA NL ad ct 60 4 em (hmM.2.2 4 (by decide)) (hf.2.2 4 (by decide))) (cwV 0 hts gX11_isNoQuery_Jx4a65c_size_8abf5 rfl rfl rfl (by decide +kernel) ⟨Nat.le_of_ble_eq_true rfl, Nat.le_of_ble_eq_true rfl⟩) (pc_preV pcN_ok hX hW.1 (hmM.2.2 4 (by decide)) (hf.2.2 4 (by decide)) rfl hW.1) rfl rfl hl.1 rfl (lv_room (Nat.le_of_ble_eq_true rfl)) dX11_isNoQuery_10 ⟨Nat.le_of_ble_eq_true rfl, Nat.le_of_ble_eq_true rfl⟩) hW (fun r115 H locs hwr115 hW => ?_)
  subst hwr115
  refine lv_iconst (v := 1) hx hb dX11_isNoQuery_13 (by decide) ?_
  refine lv_isub hx hb dX11_isNoQuery_14 ?_
  refine lv_topi (fun a116 ea116 => ?_)
  obtain rfl : a116 = (-1) := ea116.trans (by decide)
  refine pc_qcalli (va_runS (As := [.int x1, .int 0, .int (-1)]) (rest := [.ref (ad 11 0)]) ⟨hx, hb, hml, hown, hts⟩ (r_X11_isIn l D cA NL ad ct x1 0 (-1)) (va_cwS 3 hts gX11_isNoQuery_X11_isIn rfl rfl rfl (by decide +kernel) ⟨Nat.le_of_ble_eq_true rfl, Nat.le_of_ble_eq_true rfl⟩) (pc_preS pcN_ok hX hW.1) rfl rfl hl.1 rfl (lv_room (Nat.le_of_ble_eq_true rfl)) dX11_isNoQuery_15 ⟨Nat.le_of_ble_eq_true rfl, Nat.le_of_ble_eq_true rfl⟩) hW (fun r117 H locs hwr117 hW => ?_)
  rcases hwr117 with ⟨rfl, b118a, b118b⟩ | ⟨rfl, b118c⟩
  · exact (noIn b118a b118b).elim
  · refine lv_if_ne (tgt := 25) hx hb dX11_isNoQuery_18 (by decide) (fun c119 => absurd c119 (by decide)) (fun _ => ?_)
    refine lv_iconst (v := 1) hx hb dX11_isNoQuery_21 (by decide) ?_
    refine lv_goto (tgt := 26) hx hb dX11_isNoQuery_22 (by decide) ?_
    refine lv_iconst (v := 1) hx hb dX11_isNoQuery_26 (by decide) ?_
    have hW : pcS D vwCl A s.heap NL ad ct _ _ := ⟨hW.1, hD, vaS_mono hW.2⟩
    refine pc_mcalli (va_runV (As := [.int 1, .int 1]) (rest := []) ⟨hx, hb, hml, hown, hts⟩ (m_X11_start1 l D cA NL ad ct A em th 1 hmM hf (by decide)) (cwV 2 hts gX11_isNoQuery_X11_start rfl rfl rfl (by decide +kernel) ⟨Nat.le_of_ble_eq_true rfl, Nat.le_of_ble_eq_true rfl⟩) (pc_preV pcN_ok hX hW.1 hmM.1 hf.1 rfl ⟨hW.1, hW.2.1, fun q h => hA q (Nat.le_trans hW.2.2.1 h)⟩) rfl rfl hl.1 rfl (lv_room (Nat.le_of_ble_eq_true rfl)) dX11_isNoQuery_27 ⟨Nat.le_of_ble_eq_true rfl, Nat.le_of_ble_eq_true rfl⟩) hW.2.2 (fun r120 u121 H locs hwr120 hB hS => ?_)
    obtain ⟨rfl, h122⟩ := hwr120
    have hD := pcD_ct (ct' := u121) hW.2.1
    have hW : pcS D vwCl A s.heap NL ad u121 H locs := ⟨hB, hD, hS⟩
    refine W.widen (k := 0) (n := 0) (Nat.le_of_ble_eq_true rfl) (Nat.le_of_ble_eq_true rfl) ?_
    exact W.zret (v := 1) hx hb hr rfl (fun t ht hW9 => ⟨⟨1, u121, rfl, ⟨rfl, h122⟩, by rw [ht]; exact hW.1⟩, hW.2.2.F ht⟩) hW.2.2.2.2 dX11_isNoQuery_30

set_option maxHeartbeats 4000000 in
set_option maxRecDepth 100000 in
theorem m_X11_isNoPack (l : Launch) (D : va_G) (cA : Nat → ClassId) (NL : List (Nat × Nat)) (ad : Nat → Nat → Nat) (ct : Nat → Nat → va_E) (A : Nat → Prop)  (em : Nat) (th : Int32) (x1 : Int32) (hmM : inM NL) (hf : frT th ad em ct) : Met l yX11_isNoPack wsX11_isNoPack ({ frames := 2, cells := 0, slots := 0, locals := 44 }) (pcPre D vwCl (tyL cA) [.ref (ad 11 0), .int x1] (fun H => va_P D vwCl (pcW NL ad ct) H ∧ va_D A (pcW NL ad ct) ∧ ∀ q, H.size ≤ q → A q)) (va_Qi (fun (r : Int32) (u : Nat → Nat → va_E) => r = 1 ∧ frT 1 ad em u) (fun u t => va_P D vwCl (pcW NL ad u) t.heap) A) 0 0 A := by
  refine Met.ofW (cc := cX11_isNoPack) (maxL := 2) (ret := (some .boolean)) (by decide) rfl ?_
  intro p e s m args below meth c s₁ B hml hv
  obtain ⟨rfl, hX, ⟨hP0, hD, hA⟩⟩ := hv
  have hx := B.exec
  have hb := B.bytes
  have hr := B.returns
  have hts := atoms_spec (ws := wsX11_isNoPack) B.pre
  have hown : s.vm.findClass RX11 = some m.cls := findClass_of_methodNamed B.named
  have hlocks := B.notSynchronized
  have hW : pcQ D vwCl (fun _ => False) s.heap NL ad ct s.heap [] := ⟨hP0, va_S.rf⟩
  have hl := lv_entry ([.ref (ad 11 0), .int x1]) (n := 2) (Nat.le_of_ble_eq_true rfl)
  rw [lg_entry_eq]
  generalize (lg_sl ([.ref (ad 11 0), .int x1]) ++ List.replicate (2 - (lg_sl ([.ref (ad 11 0), .int x1])).length) Slot.unset).toArray = ls at hl ⊢
  have hl : lv_has ls 2 [(0, .ref (ad 11 0)), (1, .int x1)] := hl
  refine lv_aload_n hx hb dX11_isNoPack_0 rfl (lv_at hl 0 rfl) ?_
  refine lv_iload_n hx hb dX11_isNoPack_1 rfl (lv_at hl 1 rfl) ?_
  refine lv_iconst (v := 0) hx hb dX11_isNoPack_2 (by decide) ?_
  refine lv_aload_n hx hb dX11_isNoPack_3 rfl (lv_at hl 0 rfl) ?_
  refine pc_get (C := RX11) (T := TX11) (N := 2) (ci := 12) hx hb hts (by decide +kernel) hown hX.1 hW.1 11 0 hmM.1 hf.1 rfl 1 (by decide) (hts (.fieldLink RX11 10 "DraftsmanOfficeModel" "office" "LDraftsmanOfficeModel$Office;") (by decide +kernel)) (fun _ h9 => h9) rfl dX11_isNoPack_4 ?_
  refine pc_get (C := RX6) (T := TX6) (N := 10) (ci := 7) hx hb hts (by decide +kernel) hown hX.1 hW.1 6 0 hmM.2.1 hf.2.1 rfl 8 (by decide) (hts (.fieldLink RX11 193 "DraftsmanOfficeModel$Office" "packs" "Ljava/util/ArrayList;") (by decide +kernel)) (fun _ h9 => h9) rfl dX11_isNoPack_7 ?_
  refine pc_qcalli (va_runV (As := []) (rest := [.int 0, .int x1, .ref (ad 11 0)]) ⟨hx, hb, hml, hown, hts⟩ (r_Jx4a65c_size_8abf5 l D cA NL ad ct 60 6 em (hmM.2.2 6 (by decide)) (hf.2.2 6 (by decide))) (cwV 0 hts gX11_isNoPack_Jx4a65c_size_8abf5 rfl rfl rfl (by decide +kernel) ⟨Nat.le_of_ble_eq_true rfl, Nat.le_of_ble_eq_true rfl⟩) (pc_preV pcN_ok hX hW.1 (hmM.2.2 6 (by decide)) (hf.2.2 6 (by decide)) rfl hW.1) rfl rfl hl.1 rfl (lv_room (Nat.le_of_ble_eq_true rfl)) dX11_isNoPack_10 ⟨Nat.le_of_ble_eq_true rfl, Nat.le_of_ble_eq_true rfl⟩) hW (fun r123 H locs hwr123 hW => ?_)
  subst hwr123
  refine lv_iconst (v := 1) hx hb dX11_isNoPack_13 (by decide) ?_
  refine lv_isub hx hb dX11_isNoPack_14 ?_
  refine lv_topi (fun a124 ea124 => ?_)
  obtain rfl : a124 = (-1) := ea124.trans (by decide)
  refine pc_qcalli (va_runS (As := [.int x1, .int 0, .int (-1)]) (rest := [.ref (ad 11 0)]) ⟨hx, hb, hml, hown, hts⟩ (r_X11_isIn l D cA NL ad ct x1 0 (-1)) (va_cwS 3 hts gX11_isNoPack_X11_isIn rfl rfl rfl (by decide +kernel) ⟨Nat.le_of_ble_eq_true rfl, Nat.le_of_ble_eq_true rfl⟩) (pc_preS pcN_ok hX hW.1) rfl rfl hl.1 rfl (lv_room (Nat.le_of_ble_eq_true rfl)) dX11_isNoPack_15 ⟨Nat.le_of_ble_eq_true rfl, Nat.le_of_ble_eq_true rfl⟩) hW (fun r125 H locs hwr125 hW => ?_)
  rcases hwr125 with ⟨rfl, b126a, b126b⟩ | ⟨rfl, b126c⟩
  · exact (noIn b126a b126b).elim
  · refine lv_if_ne (tgt := 25) hx hb dX11_isNoPack_18 (by decide) (fun c127 => absurd c127 (by decide)) (fun _ => ?_)
    refine lv_iconst (v := 1) hx hb dX11_isNoPack_21 (by decide) ?_
    refine lv_goto (tgt := 26) hx hb dX11_isNoPack_22 (by decide) ?_
    refine lv_iconst (v := 1) hx hb dX11_isNoPack_26 (by decide) ?_
    have hW : pcS D vwCl A s.heap NL ad ct _ _ := ⟨hW.1, hD, vaS_mono hW.2⟩
    refine pc_mcalli (va_runV (As := [.int 1, .int 1]) (rest := []) ⟨hx, hb, hml, hown, hts⟩ (m_X11_start1 l D cA NL ad ct A em th 1 hmM hf (by decide)) (cwV 2 hts gX11_isNoPack_X11_start rfl rfl rfl (by decide +kernel) ⟨Nat.le_of_ble_eq_true rfl, Nat.le_of_ble_eq_true rfl⟩) (pc_preV pcN_ok hX hW.1 hmM.1 hf.1 rfl ⟨hW.1, hW.2.1, fun q h => hA q (Nat.le_trans hW.2.2.1 h)⟩) rfl rfl hl.1 rfl (lv_room (Nat.le_of_ble_eq_true rfl)) dX11_isNoPack_27 ⟨Nat.le_of_ble_eq_true rfl, Nat.le_of_ble_eq_true rfl⟩) hW.2.2 (fun r128 u129 H locs hwr128 hB hS => ?_)
    obtain ⟨rfl, h130⟩ := hwr128
    have hD := pcD_ct (ct' := u129) hW.2.1
    have hW : pcS D vwCl A s.heap NL ad u129 H locs := ⟨hB, hD, hS⟩
    refine W.widen (k := 0) (n := 0) (Nat.le_of_ble_eq_true rfl) (Nat.le_of_ble_eq_true rfl) ?_
    exact W.zret (v := 1) hx hb hr rfl (fun t ht hW9 => ⟨⟨1, u129, rfl, ⟨rfl, h130⟩, by rw [ht]; exact hW.1⟩, hW.2.2.F ht⟩) hW.2.2.2.2 dX11_isNoPack_30

set_option maxHeartbeats 4000000 in
set_option maxRecDepth 100000 in
theorem m_X11_isNoPair (l : Launch) (D : va_G) (cA : Nat → ClassId) (NL : List (Nat × Nat)) (ad : Nat → Nat → Nat) (ct : Nat → Nat → va_E) (A : Nat → Prop)  (em : Nat) (th : Int32) (x1 : Int32) (x2 : Int32) (hmM : inM NL) (hf : frT th ad em ct) : Met l yX11_isNoPair wsX11_isNoPair ({ frames := 2, cells := 0, slots := 0, locals := 44 }) (pcPre D vwCl (tyL cA) [.ref (ad 11 0), .int x1, .int x2] (fun H => va_P D vwCl (pcW NL ad ct) H ∧ va_D A (pcW NL ad ct) ∧ ∀ q, H.size ≤ q → A q)) (va_Qi (fun (r : Int32) (u : Nat → Nat → va_E) => r = 1 ∧ frT 1 ad em u) (fun u t => va_P D vwCl (pcW NL ad u) t.heap) A) 0 0 A := by
  refine Met.ofW (cc := cX11_isNoPair) (maxL := 3) (ret := (some .boolean)) (by decide) rfl ?_
  intro p e s m args below meth c s₁ B hml hv
  obtain ⟨rfl, hX, ⟨hP0, hD, hA⟩⟩ := hv
  have hx := B.exec
  have hb := B.bytes
  have hr := B.returns
  have hts := atoms_spec (ws := wsX11_isNoPair) B.pre
  have hown : s.vm.findClass RX11 = some m.cls := findClass_of_methodNamed B.named
  have hlocks := B.notSynchronized
  have hW : pcQ D vwCl (fun _ => False) s.heap NL ad ct s.heap [] := ⟨hP0, va_S.rf⟩
  have hl := lv_entry ([.ref (ad 11 0), .int x1, .int x2]) (n := 3) (Nat.le_of_ble_eq_true rfl)
  rw [lg_entry_eq]
  generalize (lg_sl ([.ref (ad 11 0), .int x1, .int x2]) ++ List.replicate (3 - (lg_sl ([.ref (ad 11 0), .int x1, .int x2])).length) Slot.unset).toArray = ls at hl ⊢
  have hl : lv_has ls 3 [(0, .ref (ad 11 0)), (1, .int x1), (2, .int x2)] := hl
  refine lv_aload_n hx hb dX11_isNoPair_0 rfl (lv_at hl 0 rfl) ?_
  refine lv_aload_n hx hb dX11_isNoPair_1 rfl (lv_at hl 0 rfl) ?_
  refine lv_iload_n hx hb dX11_isNoPair_2 rfl (lv_at hl 1 rfl) ?_
  refine pc_qcalli (va_runV (As := [.int x1]) (rest := [.ref (ad 11 0)]) ⟨hx, hb, hml, hown, hts⟩ (r_X11_isNo l D cA NL ad ct em th x1 hmM hf) (cwV 1 hts gX11_isNoPair_X11_isNo rfl rfl rfl (by decide +kernel) ⟨Nat.le_of_ble_eq_true rfl, Nat.le_of_ble_eq_true rfl⟩) (pc_preV pcN_ok hX hW.1 hmM.1 hf.1 rfl hW.1) rfl rfl hl.1 rfl (lv_room (Nat.le_of_ble_eq_true rfl)) dX11_isNoPair_3 ⟨Nat.le_of_ble_eq_true rfl, Nat.le_of_ble_eq_true rfl⟩) hW (fun r131 H locs hwr131 hW => ?_)
  subst hwr131
  refine lv_if_ne (tgt := 17) hx hb dX11_isNoPair_6 (by decide) (fun _ => ?_) (fun c132 => absurd (by decide) c132)
  refine lv_iconst (v := 1) hx hb dX11_isNoPair_17 (by decide) ?_
  refine lv_goto (tgt := 22) hx hb dX11_isNoPair_18 (by decide) ?_
  refine lv_iconst (v := 1) hx hb dX11_isNoPair_22 (by decide) ?_
  have hW : pcS D vwCl A s.heap NL ad ct _ _ := ⟨hW.1, hD, vaS_mono hW.2⟩
  refine pc_mcalli (va_runV (As := [.int 1, .int 1]) (rest := []) ⟨hx, hb, hml, hown, hts⟩ (m_X11_start1 l D cA NL ad ct A em th 1 hmM hf (by decide)) (cwV 2 hts gX11_isNoPair_X11_start rfl rfl rfl (by decide +kernel) ⟨Nat.le_of_ble_eq_true rfl, Nat.le_of_ble_eq_true rfl⟩) (pc_preV pcN_ok hX hW.1 hmM.1 hf.1 rfl ⟨hW.1, hW.2.1, fun q h => hA q (Nat.le_trans hW.2.2.1 h)⟩) rfl rfl hl.1 rfl (lv_room (Nat.le_of_ble_eq_true rfl)) dX11_isNoPair_23 ⟨Nat.le_of_ble_eq_true rfl, Nat.le_of_ble_eq_true rfl⟩) hW.2.2 (fun r133 u134 H locs hwr133 hB hS => ?_)
  obtain ⟨rfl, h135⟩ := hwr133
  have hD := pcD_ct (ct' := u134) hW.2.1
  have hW : pcS D vwCl A s.heap NL ad u134 H locs := ⟨hB, hD, hS⟩
  refine lv_if_ne (tgt := 47) hx hb dX11_isNoPair_26 (by decide) (fun _ => ?_) (fun c136 => absurd (by decide) c136)
  refine lv_iconst (v := 1) hx hb dX11_isNoPair_47 (by decide) ?_
  refine lv_goto (tgt := 52) hx hb dX11_isNoPair_48 (by decide) ?_
  refine W.widen (k := 0) (n := 0) (Nat.le_of_ble_eq_true rfl) (Nat.le_of_ble_eq_true rfl) ?_
  exact W.zret (v := 1) hx hb hr rfl (fun t ht hW9 => ⟨⟨1, u134, rfl, ⟨rfl, h135⟩, by rw [ht]; exact hW.1⟩, hW.2.2.F ht⟩) hW.2.2.2.2 dX11_isNoPair_52

set_option maxHeartbeats 4000000 in
set_option maxRecDepth 100000 in
theorem m_X11_draw (l : Launch) (D : va_G) (cA : Nat → ClassId) (NL : List (Nat × Nat)) (ad : Nat → Nat → Nat) (ct : Nat → Nat → va_E) (A : Nat → Prop)  (em : Nat) (th : Int32) (x1 : Int32) (x2 : Int32) (x3 : Int32) (x4 : Int32) (x5 : Int32) (x6 : Int32) (hmM : inM NL) (hf : frT th ad em ct) : Met l yX11_draw wsX11_draw ({ frames := 3, cells := 0, slots := 0, locals := 65 }) (pcPre D vwCl (tyL cA) [.ref (ad 11 0), .int x1, .int x2, .int x3, .int x4, .int x5, .int x6] (fun H => va_P D vwCl (pcW NL ad ct) H ∧ va_D A (pcW NL ad ct) ∧ ∀ q, H.size ≤ q → A q)) (va_Qi (fun (r : Int32) (u : Nat → Nat → va_E) => r = 0 ∧ frT 1 ad em u) (fun u t => va_P D vwCl (pcW NL ad u) t.heap) A) 0 0 A := by
  refine Met.ofW (cc := cX11_draw) (maxL := 7) (ret := (some .int)) (by decide) rfl ?_
  intro p e s m args below meth c s₁ B hml hv
  obtain ⟨rfl, hX, ⟨hP0, hD, hA⟩⟩ := hv
  have hx := B.exec
  have hb := B.bytes
  have hr := B.returns
  have hts := atoms_spec (ws := wsX11_draw) B.pre
  have hown : s.vm.findClass RX11 = some m.cls := findClass_of_methodNamed B.named
  have hlocks := B.notSynchronized
  have hW : pcQ D vwCl (fun _ => False) s.heap NL ad ct s.heap [] := ⟨hP0, va_S.rf⟩
  have hl := lv_entry ([.ref (ad 11 0), .int x1, .int x2, .int x3, .int x4, .int x5, .int x6]) (n := 7) (Nat.le_of_ble_eq_true rfl)
  rw [lg_entry_eq]
  generalize (lg_sl ([.ref (ad 11 0), .int x1, .int x2, .int x3, .int x4, .int x5, .int x6]) ++ List.replicate (7 - (lg_sl ([.ref (ad 11 0), .int x1, .int x2, .int x3, .int x4, .int x5, .int x6])).length) Slot.unset).toArray = ls at hl ⊢
  have hl : lv_has ls 7 [(0, .ref (ad 11 0)), (1, .int x1), (2, .int x2), (3, .int x3), (4, .int x4), (5, .int x5), (6, .int x6)] := hl
  refine lv_aload_n hx hb dX11_draw_0 rfl (lv_at hl 0 rfl) ?_
  refine lv_iload_n hx hb dX11_draw_1 rfl (lv_at hl 1 rfl) ?_
  have hW : pcS D vwCl A s.heap NL ad ct _ _ := ⟨hW.1, hD, vaS_mono hW.2⟩
  refine pc_mcalli (va_runV (As := [.int x1]) (rest := []) ⟨hx, hb, hml, hown, hts⟩ (m_X11_isNoSheet l D cA NL ad ct A em th x1 hmM hf ) (cwV 1 hts gX11_draw_X11_isNoSheet rfl rfl rfl (by decide +kernel) ⟨Nat.le_of_ble_eq_true rfl, Nat.le_of_ble_eq_true rfl⟩) (pc_preV pcN_ok hX hW.1 hmM.1 hf.1 rfl ⟨hW.1, hW.2.1, fun q h => hA q (Nat.le_trans hW.2.2.1 h)⟩) rfl rfl hl.1 rfl (lv_room (Nat.le_of_ble_eq_true rfl)) dX11_draw_2 ⟨Nat.le_of_ble_eq_true rfl, Nat.le_of_ble_eq_true rfl⟩) hW.2.2 (fun r137 u138 H locs hwr137 hB hS => ?_)
  obtain ⟨rfl, h139⟩ := hwr137
  have hD := pcD_ct (ct' := u138) hW.2.1
  have hW : pcS D vwCl A s.heap NL ad u138 H locs := ⟨hB, hD, hS⟩
  refine lv_if_ne (tgt := 72) hx hb dX11_draw_5 (by decide) (fun _ => ?_) (fun c140 => absurd (by decide) c140)
  refine lv_iconst (v := 0) hx hb dX11_draw_72 (by decide) ?_
  refine W.widen (k := 0) (n := 0) (Nat.le_of_ble_eq_true rfl) (Nat.le_of_ble_eq_true rfl) ?_
  exact W.iret (v := 0) hx hb hr (fun t ht hW9 => ⟨⟨0, u138, rfl, ⟨rfl, h139⟩, by rw [ht]; exact hW.1⟩, hW.2.2.F ht⟩) hW.2.2.2.2 dX11_draw_73

set_option maxHeartbeats 4000000 in
set_option maxRecDepth 100000 in
theorem m_X11_revise (l : Launch) (D : va_G) (cA : Nat → ClassId) (NL : List (Nat × Nat)) (ad : Nat → Nat → Nat) (ct : Nat → Nat → va_E) (A : Nat → Prop)  (em : Nat) (th : Int32) (x1 : Int32) (hmM : inM NL) (hf : frT th ad em ct) : Met l yX11_revise wsX11_revise ({ frames := 3, cells := 0, slots := 0, locals := 65 }) (pcPre D vwCl (tyL cA) [.ref (ad 11 0), .int x1] (fun H => va_P D vwCl (pcW NL ad ct) H ∧ va_D A (pcW NL ad ct) ∧ ∀ q, H.size ≤ q → A q)) (va_Qi (fun (r : Int32) (u : Nat → Nat → va_E) => r = 0 ∧ frT 1 ad em u) (fun u t => va_P D vwCl (pcW NL ad u) t.heap) A) 0 0 A := by
  refine Met.ofW (cc := cX11_revise) (maxL := 3) (ret := (some .int)) (by decide) rfl ?_
  intro p e s m args below meth c s₁ B hml hv
  obtain ⟨rfl, hX, ⟨hP0, hD, hA⟩⟩ := hv
  have hx := B.exec
  have hb := B.bytes
  have hr := B.returns
  have hts := atoms_spec (ws := wsX11_revise) B.pre
  have hown : s.vm.findClass RX11 = some m.cls := findClass_of_methodNamed B.named
  have hlocks := B.notSynchronized
  have hW : pcQ D vwCl (fun _ => False) s.heap NL ad ct s.heap [] := ⟨hP0, va_S.rf⟩
  have hl := lv_entry ([.ref (ad 11 0), .int x1]) (n := 3) (Nat.le_of_ble_eq_true rfl)
  rw [lg_entry_eq]
  generalize (lg_sl ([.ref (ad 11 0), .int x1]) ++ List.replicate (3 - (lg_sl ([.ref (ad 11 0), .int x1])).length) Slot.unset).toArray = ls at hl ⊢
  have hl : lv_has ls 3 [(0, .ref (ad 11 0)), (1, .int x1)] := hl
  refine lv_aload_n hx hb dX11_revise_0 rfl (lv_at hl 0 rfl) ?_
  refine lv_iload_n hx hb dX11_revise_1 rfl (lv_at hl 1 rfl) ?_
  have hW : pcS D vwCl A s.heap NL ad ct _ _ := ⟨hW.1, hD, vaS_mono hW.2⟩
  refine pc_mcalli (va_runV (As := [.int x1]) (rest := []) ⟨hx, hb, hml, hown, hts⟩ (m_X11_isNoSheet l D cA NL ad ct A em th x1 hmM hf ) (cwV 1 hts gX11_revise_X11_isNoSheet rfl rfl rfl (by decide +kernel) ⟨Nat.le_of_ble_eq_true rfl, Nat.le_of_ble_eq_true rfl⟩) (pc_preV pcN_ok hX hW.1 hmM.1 hf.1 rfl ⟨hW.1, hW.2.1, fun q h => hA q (Nat.le_trans hW.2.2.1 h)⟩) rfl rfl hl.1 rfl (lv_room (Nat.le_of_ble_eq_true rfl)) dX11_revise_2 ⟨Nat.le_of_ble_eq_true rfl, Nat.le_of_ble_eq_true rfl⟩) hW.2.2 (fun r141 u142 H locs hwr141 hB hS => ?_)
  obtain ⟨rfl, h143⟩ := hwr141
  have hD := pcD_ct (ct' := u142) hW.2.1
  have hW : pcS D vwCl A s.heap NL ad u142 H locs := ⟨hB, hD, hS⟩
  refine lv_if_ne (tgt := 52) hx hb dX11_revise_5 (by decide) (fun _ => ?_) (fun c144 => absurd (by decide) c144)
  refine lv_iconst (v := 0) hx hb dX11_revise_52 (by decide) ?_
  refine W.widen (k := 0) (n := 0) (Nat.le_of_ble_eq_true rfl) (Nat.le_of_ble_eq_true rfl) ?_
  exact W.iret (v := 0) hx hb hr (fun t ht hW9 => ⟨⟨0, u142, rfl, ⟨rfl, h143⟩, by rw [ht]; exact hW.1⟩, hW.2.2.F ht⟩) hW.2.2.2.2 dX11_revise_53

set_option maxHeartbeats 4000000 in
set_option maxRecDepth 100000 in
theorem m_X11_check (l : Launch) (D : va_G) (cA : Nat → ClassId) (NL : List (Nat × Nat)) (ad : Nat → Nat → Nat) (ct : Nat → Nat → va_E) (A : Nat → Prop)  (em : Nat) (th : Int32) (x1 : Int32) (hmM : inM NL) (hf : frT th ad em ct) : Met l yX11_check wsX11_check ({ frames := 3, cells := 0, slots := 0, locals := 65 }) (pcPre D vwCl (tyL cA) [.ref (ad 11 0), .int x1] (fun H => va_P D vwCl (pcW NL ad ct) H ∧ va_D A (pcW NL ad ct) ∧ ∀ q, H.size ≤ q → A q)) (va_Qi (fun (r : Int32) (u : Nat → Nat → va_E) => r = 0 ∧ frT 1 ad em u) (fun u t => va_P D vwCl (pcW NL ad u) t.heap) A) 0 0 A := by
  refine Met.ofW (cc := cX11_check) (maxL := 2) (ret := (some .int)) (by decide) rfl ?_
  intro p e s m args below meth c s₁ B hml hv
  obtain ⟨rfl, hX, ⟨hP0, hD, hA⟩⟩ := hv
  have hx := B.exec
  have hb := B.bytes
  have hr := B.returns
  have hts := atoms_spec (ws := wsX11_check) B.pre
  have hown : s.vm.findClass RX11 = some m.cls := findClass_of_methodNamed B.named
  have hlocks := B.notSynchronized
  have hW : pcQ D vwCl (fun _ => False) s.heap NL ad ct s.heap [] := ⟨hP0, va_S.rf⟩
  have hl := lv_entry ([.ref (ad 11 0), .int x1]) (n := 2) (Nat.le_of_ble_eq_true rfl)
  rw [lg_entry_eq]
  generalize (lg_sl ([.ref (ad 11 0), .int x1]) ++ List.replicate (2 - (lg_sl ([.ref (ad 11 0), .int x1])).length) Slot.unset).toArray = ls at hl ⊢
  have hl : lv_has ls 2 [(0, .ref (ad 11 0)), (1, .int x1)] := hl
  refine lv_aload_n hx hb dX11_check_0 rfl (lv_at hl 0 rfl) ?_
  refine lv_iload_n hx hb dX11_check_1 rfl (lv_at hl 1 rfl) ?_
  have hW : pcS D vwCl A s.heap NL ad ct _ _ := ⟨hW.1, hD, vaS_mono hW.2⟩
  refine pc_mcalli (va_runV (As := [.int x1]) (rest := []) ⟨hx, hb, hml, hown, hts⟩ (m_X11_isNoSheet l D cA NL ad ct A em th x1 hmM hf ) (cwV 1 hts gX11_check_X11_isNoSheet rfl rfl rfl (by decide +kernel) ⟨Nat.le_of_ble_eq_true rfl, Nat.le_of_ble_eq_true rfl⟩) (pc_preV pcN_ok hX hW.1 hmM.1 hf.1 rfl ⟨hW.1, hW.2.1, fun q h => hA q (Nat.le_trans hW.2.2.1 h)⟩) rfl rfl hl.1 rfl (lv_room (Nat.le_of_ble_eq_true rfl)) dX11_check_2 ⟨Nat.le_of_ble_eq_true rfl, Nat.le_of_ble_eq_true rfl⟩) hW.2.2 (fun r145 u146 H locs hwr145 hB hS => ?_)
  obtain ⟨rfl, h147⟩ := hwr145
  have hD := pcD_ct (ct' := u146) hW.2.1
  have hW : pcS D vwCl A s.heap NL ad u146 H locs := ⟨hB, hD, hS⟩
  refine lv_if_ne (tgt := 35) hx hb dX11_check_5 (by decide) (fun _ => ?_) (fun c148 => absurd (by decide) c148)
  refine lv_iconst (v := 0) hx hb dX11_check_35 (by decide) ?_
  refine W.widen (k := 0) (n := 0) (Nat.le_of_ble_eq_true rfl) (Nat.le_of_ble_eq_true rfl) ?_
  exact W.iret (v := 0) hx hb hr (fun t ht hW9 => ⟨⟨0, u146, rfl, ⟨rfl, h147⟩, by rw [ht]; exact hW.1⟩, hW.2.2.F ht⟩) hW.2.2.2.2 dX11_check_36

set_option maxHeartbeats 4000000 in
set_option maxRecDepth 100000 in
theorem m_X11_issue (l : Launch) (D : va_G) (cA : Nat → ClassId) (NL : List (Nat × Nat)) (ad : Nat → Nat → Nat) (ct : Nat → Nat → va_E) (A : Nat → Prop)  (em : Nat) (th : Int32) (x1 : Int32) (hmM : inM NL) (hf : frT th ad em ct) : Met l yX11_issue wsX11_issue ({ frames := 3, cells := 0, slots := 0, locals := 65 }) (pcPre D vwCl (tyL cA) [.ref (ad 11 0), .int x1] (fun H => va_P D vwCl (pcW NL ad ct) H ∧ va_D A (pcW NL ad ct) ∧ ∀ q, H.size ≤ q → A q)) (va_Qi (fun (r : Int32) (u : Nat → Nat → va_E) => r = 0 ∧ frT 1 ad em u) (fun u t => va_P D vwCl (pcW NL ad u) t.heap) A) 0 0 A := by
  refine Met.ofW (cc := cX11_issue) (maxL := 2) (ret := (some .int)) (by decide) rfl ?_
  intro p e s m args below meth c s₁ B hml hv
  obtain ⟨rfl, hX, ⟨hP0, hD, hA⟩⟩ := hv
  have hx := B.exec
  have hb := B.bytes
  have hr := B.returns
  have hts := atoms_spec (ws := wsX11_issue) B.pre
  have hown : s.vm.findClass RX11 = some m.cls := findClass_of_methodNamed B.named
  have hlocks := B.notSynchronized
  have hW : pcQ D vwCl (fun _ => False) s.heap NL ad ct s.heap [] := ⟨hP0, va_S.rf⟩
  have hl := lv_entry ([.ref (ad 11 0), .int x1]) (n := 2) (Nat.le_of_ble_eq_true rfl)
  rw [lg_entry_eq]
  generalize (lg_sl ([.ref (ad 11 0), .int x1]) ++ List.replicate (2 - (lg_sl ([.ref (ad 11 0), .int x1])).length) Slot.unset).toArray = ls at hl ⊢
  have hl : lv_has ls 2 [(0, .ref (ad 11 0)), (1, .int x1)] := hl
  refine lv_aload_n hx hb dX11_issue_0 rfl (lv_at hl 0 rfl) ?_
  refine lv_iload_n hx hb dX11_issue_1 rfl (lv_at hl 1 rfl) ?_
  have hW : pcS D vwCl A s.heap NL ad ct _ _ := ⟨hW.1, hD, vaS_mono hW.2⟩
  refine pc_mcalli (va_runV (As := [.int x1]) (rest := []) ⟨hx, hb, hml, hown, hts⟩ (m_X11_isNoSheet l D cA NL ad ct A em th x1 hmM hf ) (cwV 1 hts gX11_issue_X11_isNoSheet rfl rfl rfl (by decide +kernel) ⟨Nat.le_of_ble_eq_true rfl, Nat.le_of_ble_eq_true rfl⟩) (pc_preV pcN_ok hX hW.1 hmM.1 hf.1 rfl ⟨hW.1, hW.2.1, fun q h => hA q (Nat.le_trans hW.2.2.1 h)⟩) rfl rfl hl.1 rfl (lv_room (Nat.le_of_ble_eq_true rfl)) dX11_issue_2 ⟨Nat.le_of_ble_eq_true rfl, Nat.le_of_ble_eq_true rfl⟩) hW.2.2 (fun r149 u150 H locs hwr149 hB hS => ?_)
  obtain ⟨rfl, h151⟩ := hwr149
  have hD := pcD_ct (ct' := u150) hW.2.1
  have hW : pcS D vwCl A s.heap NL ad u150 H locs := ⟨hB, hD, hS⟩
  refine lv_if_ne (tgt := 32) hx hb dX11_issue_5 (by decide) (fun _ => ?_) (fun c152 => absurd (by decide) c152)
  refine lv_iconst (v := 0) hx hb dX11_issue_32 (by decide) ?_
  refine lv_goto (tgt := 44) hx hb dX11_issue_33 (by decide) ?_
  refine W.widen (k := 0) (n := 0) (Nat.le_of_ble_eq_true rfl) (Nat.le_of_ble_eq_true rfl) ?_
  exact W.iret (v := 0) hx hb hr (fun t ht hW9 => ⟨⟨0, u150, rfl, ⟨rfl, h151⟩, by rw [ht]; exact hW.1⟩, hW.2.2.F ht⟩) hW.2.2.2.2 dX11_issue_44

set_option maxHeartbeats 4000000 in
set_option maxRecDepth 100000 in
theorem m_X11_refer (l : Launch) (D : va_G) (cA : Nat → ClassId) (NL : List (Nat × Nat)) (ad : Nat → Nat → Nat) (ct : Nat → Nat → va_E) (A : Nat → Prop)  (em : Nat) (th : Int32) (x1 : Int32) (x2 : Int32) (x3 : Int32) (hmM : inM NL) (hf : frT th ad em ct) : Met l yX11_refer wsX11_refer ({ frames := 2, cells := 0, slots := 0, locals := 44 }) (pcPre D vwCl (tyL cA) [.ref (ad 11 0), .int x1, .int x2, .int x3] (fun H => va_P D vwCl (pcW NL ad ct) H ∧ va_D A (pcW NL ad ct) ∧ ∀ q, H.size ≤ q → A q)) (va_Qi (fun (r : Int32) (u : Nat → Nat → va_E) => r = 0 ∧ frT 1 ad em u) (fun u t => va_P D vwCl (pcW NL ad u) t.heap) A) 0 0 A := by
  refine Met.ofW (cc := cX11_refer) (maxL := 4) (ret := (some .int)) (by decide) rfl ?_
  intro p e s m args below meth c s₁ B hml hv
  obtain ⟨rfl, hX, ⟨hP0, hD, hA⟩⟩ := hv
  have hx := B.exec
  have hb := B.bytes
  have hr := B.returns
  have hts := atoms_spec (ws := wsX11_refer) B.pre
  have hown : s.vm.findClass RX11 = some m.cls := findClass_of_methodNamed B.named
  have hlocks := B.notSynchronized
  have hW : pcQ D vwCl (fun _ => False) s.heap NL ad ct s.heap [] := ⟨hP0, va_S.rf⟩
  have hl := lv_entry ([.ref (ad 11 0), .int x1, .int x2, .int x3]) (n := 4) (Nat.le_of_ble_eq_true rfl)
  rw [lg_entry_eq]
  generalize (lg_sl ([.ref (ad 11 0), .int x1, .int x2, .int x3]) ++ List.replicate (4 - (lg_sl ([.ref (ad 11 0), .int x1, .int x2, .int x3])).length) Slot.unset).toArray = ls at hl ⊢
  have hl : lv_has ls 4 [(0, .ref (ad 11 0)), (1, .int x1), (2, .int x2), (3, .int x3)] := hl
  refine lv_aload_n hx hb dX11_refer_0 rfl (lv_at hl 0 rfl) ?_
  refine lv_aload_n hx hb dX11_refer_1 rfl (lv_at hl 0 rfl) ?_
  refine lv_iload_n hx hb dX11_refer_2 rfl (lv_at hl 1 rfl) ?_
  refine pc_qcalli (va_runV (As := [.int x1]) (rest := [.ref (ad 11 0)]) ⟨hx, hb, hml, hown, hts⟩ (r_X11_isNo l D cA NL ad ct em th x1 hmM hf) (cwV 1 hts gX11_refer_X11_isNo rfl rfl rfl (by decide +kernel) ⟨Nat.le_of_ble_eq_true rfl, Nat.le_of_ble_eq_true rfl⟩) (pc_preV pcN_ok hX hW.1 hmM.1 hf.1 rfl hW.1) rfl rfl hl.1 rfl (lv_room (Nat.le_of_ble_eq_true rfl)) dX11_refer_3 ⟨Nat.le_of_ble_eq_true rfl, Nat.le_of_ble_eq_true rfl⟩) hW (fun r153 H locs hwr153 hW => ?_)
  subst hwr153
  refine lv_if_ne (tgt := 17) hx hb dX11_refer_6 (by decide) (fun _ => ?_) (fun c154 => absurd (by decide) c154)
  refine lv_iconst (v := 1) hx hb dX11_refer_17 (by decide) ?_
  refine lv_goto (tgt := 22) hx hb dX11_refer_18 (by decide) ?_
  refine lv_iconst (v := 1) hx hb dX11_refer_22 (by decide) ?_
  have hW : pcS D vwCl A s.heap NL ad ct _ _ := ⟨hW.1, hD, vaS_mono hW.2⟩
  refine pc_mcalli (va_runV (As := [.int 1, .int 1]) (rest := []) ⟨hx, hb, hml, hown, hts⟩ (m_X11_start1 l D cA NL ad ct A em th 1 hmM hf (by decide)) (cwV 2 hts gX11_refer_X11_start rfl rfl rfl (by decide +kernel) ⟨Nat.le_of_ble_eq_true rfl, Nat.le_of_ble_eq_true rfl⟩) (pc_preV pcN_ok hX hW.1 hmM.1 hf.1 rfl ⟨hW.1, hW.2.1, fun q h => hA q (Nat.le_trans hW.2.2.1 h)⟩) rfl rfl hl.1 rfl (lv_room (Nat.le_of_ble_eq_true rfl)) dX11_refer_23 ⟨Nat.le_of_ble_eq_true rfl, Nat.le_of_ble_eq_true rfl⟩) hW.2.2 (fun r155 u156 H locs hwr155 hB hS => ?_)
  obtain ⟨rfl, h157⟩ := hwr155
  have hD := pcD_ct (ct' := u156) hW.2.1
  have hW : pcS D vwCl A s.heap NL ad u156 H locs := ⟨hB, hD, hS⟩
  refine lv_if_ne (tgt := 99) hx hb dX11_refer_26 (by decide) (fun _ => ?_) (fun c158 => absurd (by decide) c158)
  refine lv_iconst (v := 0) hx hb dX11_refer_99 (by decide) ?_
  refine W.widen (k := 0) (n := 0) (Nat.le_of_ble_eq_true rfl) (Nat.le_of_ble_eq_true rfl) ?_
  exact W.iret (v := 0) hx hb hr (fun t ht hW9 => ⟨⟨0, u156, rfl, ⟨rfl, h157⟩, by rw [ht]; exact hW.1⟩, hW.2.2.F ht⟩) hW.2.2.2.2 dX11_refer_100

set_option maxHeartbeats 4000000 in
set_option maxRecDepth 100000 in
theorem m_X11_ofSheet (l : Launch) (D : va_G) (cA : Nat → ClassId) (NL : List (Nat × Nat)) (ad : Nat → Nat → Nat) (ct : Nat → Nat → va_E) (A : Nat → Prop)  (em : Nat) (th : Int32) (x1 : Int32) (x2 : Int32) (hmM : inM NL) (hf : frT th ad em ct) : Met l yX11_ofSheet wsX11_ofSheet ({ frames := 3, cells := 0, slots := 0, locals := 65 }) (pcPre D vwCl (tyL cA) [.ref (ad 11 0), .int x1, .int x2] (fun H => va_P D vwCl (pcW NL ad ct) H ∧ va_D A (pcW NL ad ct) ∧ ∀ q, H.size ≤ q → A q)) (va_Qi (fun (r : Int32) (u : Nat → Nat → va_E) => r = 0 ∧ frT 1 ad em u) (fun u t => va_P D vwCl (pcW NL ad u) t.heap) A) 0 0 A := by
  refine Met.ofW (cc := cX11_ofSheet) (maxL := 3) (ret := (some .int)) (by decide) rfl ?_
  intro p e s m args below meth c s₁ B hml hv
  obtain ⟨rfl, hX, ⟨hP0, hD, hA⟩⟩ := hv
  have hx := B.exec
  have hb := B.bytes
  have hr := B.returns
  have hts := atoms_spec (ws := wsX11_ofSheet) B.pre
  have hown : s.vm.findClass RX11 = some m.cls := findClass_of_methodNamed B.named
  have hlocks := B.notSynchronized
  have hW : pcQ D vwCl (fun _ => False) s.heap NL ad ct s.heap [] := ⟨hP0, va_S.rf⟩
  have hl := lv_entry ([.ref (ad 11 0), .int x1, .int x2]) (n := 3) (Nat.le_of_ble_eq_true rfl)
  rw [lg_entry_eq]
  generalize (lg_sl ([.ref (ad 11 0), .int x1, .int x2]) ++ List.replicate (3 - (lg_sl ([.ref (ad 11 0), .int x1, .int x2])).length) Slot.unset).toArray = ls at hl ⊢
  have hl : lv_has ls 3 [(0, .ref (ad 11 0)), (1, .int x1), (2, .int x2)] := hl
  refine lv_aload_n hx hb dX11_ofSheet_0 rfl (lv_at hl 0 rfl) ?_
  refine lv_iload_n hx hb dX11_ofSheet_1 rfl (lv_at hl 1 rfl) ?_
  have hW : pcS D vwCl A s.heap NL ad ct _ _ := ⟨hW.1, hD, vaS_mono hW.2⟩
  refine pc_mcalli (va_runV (As := [.int x1]) (rest := []) ⟨hx, hb, hml, hown, hts⟩ (m_X11_isNoSheet l D cA NL ad ct A em th x1 hmM hf ) (cwV 1 hts gX11_ofSheet_X11_isNoSheet rfl rfl rfl (by decide +kernel) ⟨Nat.le_of_ble_eq_true rfl, Nat.le_of_ble_eq_true rfl⟩) (pc_preV pcN_ok hX hW.1 hmM.1 hf.1 rfl ⟨hW.1, hW.2.1, fun q h => hA q (Nat.le_trans hW.2.2.1 h)⟩) rfl rfl hl.1 rfl (lv_room (Nat.le_of_ble_eq_true rfl)) dX11_ofSheet_2 ⟨Nat.le_of_ble_eq_true rfl, Nat.le_of_ble_eq_true rfl⟩) hW.2.2 (fun r159 u160 H locs hwr159 hB hS => ?_)
  obtain ⟨rfl, h161⟩ := hwr159
  have hD := pcD_ct (ct' := u160) hW.2.1
  have hW : pcS D vwCl A s.heap NL ad u160 H locs := ⟨hB, hD, hS⟩
  refine lv_if_ne (tgt := 31) hx hb dX11_ofSheet_5 (by decide) (fun _ => ?_) (fun c162 => absurd (by decide) c162)
  refine lv_iconst (v := 0) hx hb dX11_ofSheet_31 (by decide) ?_
  refine lv_goto (tgt := 41) hx hb dX11_ofSheet_32 (by decide) ?_
  refine W.widen (k := 0) (n := 0) (Nat.le_of_ble_eq_true rfl) (Nat.le_of_ble_eq_true rfl) ?_
  exact W.iret (v := 0) hx hb hr (fun t ht hW9 => ⟨⟨0, u160, rfl, ⟨rfl, h161⟩, by rw [ht]; exact hW.1⟩, hW.2.2.F ht⟩) hW.2.2.2.2 dX11_ofSheet_41

set_option maxHeartbeats 4000000 in
set_option maxRecDepth 100000 in
theorem m_X11_status (l : Launch) (D : va_G) (cA : Nat → ClassId) (NL : List (Nat × Nat)) (ad : Nat → Nat → Nat) (ct : Nat → Nat → va_E) (A : Nat → Prop)  (em : Nat) (th : Int32) (x1 : Int32) (x2 : Int32) (hmM : inM NL) (hf : frT th ad em ct) : Met l yX11_status wsX11_status ({ frames := 3, cells := 0, slots := 0, locals := 65 }) (pcPre D vwCl (tyL cA) [.ref (ad 11 0), .int x1, .int x2] (fun H => va_P D vwCl (pcW NL ad ct) H ∧ va_D A (pcW NL ad ct) ∧ ∀ q, H.size ≤ q → A q)) (va_Qi (fun (r : Int32) (u : Nat → Nat → va_E) => r = 0 ∧ frT 1 ad em u) (fun u t => va_P D vwCl (pcW NL ad u) t.heap) A) 0 0 A := by
  refine Met.ofW (cc := cX11_status) (maxL := 3) (ret := (some .int)) (by decide) rfl ?_
  intro p e s m args below meth c s₁ B hml hv
  obtain ⟨rfl, hX, ⟨hP0, hD, hA⟩⟩ := hv
  have hx := B.exec
  have hb := B.bytes
  have hr := B.returns
  have hts := atoms_spec (ws := wsX11_status) B.pre
  have hown : s.vm.findClass RX11 = some m.cls := findClass_of_methodNamed B.named
  have hlocks := B.notSynchronized
  have hW : pcQ D vwCl (fun _ => False) s.heap NL ad ct s.heap [] := ⟨hP0, va_S.rf⟩
  have hl := lv_entry ([.ref (ad 11 0), .int x1, .int x2]) (n := 3) (Nat.le_of_ble_eq_true rfl)
  rw [lg_entry_eq]
  generalize (lg_sl ([.ref (ad 11 0), .int x1, .int x2]) ++ List.replicate (3 - (lg_sl ([.ref (ad 11 0), .int x1, .int x2])).length) Slot.unset).toArray = ls at hl ⊢
  have hl : lv_has ls 3 [(0, .ref (ad 11 0)), (1, .int x1), (2, .int x2)] := hl
  refine lv_aload_n hx hb dX11_status_0 rfl (lv_at hl 0 rfl) ?_
  refine lv_iload_n hx hb dX11_status_1 rfl (lv_at hl 1 rfl) ?_
  have hW : pcS D vwCl A s.heap NL ad ct _ _ := ⟨hW.1, hD, vaS_mono hW.2⟩
  refine pc_mcalli (va_runV (As := [.int x1]) (rest := []) ⟨hx, hb, hml, hown, hts⟩ (m_X11_isNoSheet l D cA NL ad ct A em th x1 hmM hf ) (cwV 1 hts gX11_status_X11_isNoSheet rfl rfl rfl (by decide +kernel) ⟨Nat.le_of_ble_eq_true rfl, Nat.le_of_ble_eq_true rfl⟩) (pc_preV pcN_ok hX hW.1 hmM.1 hf.1 rfl ⟨hW.1, hW.2.1, fun q h => hA q (Nat.le_trans hW.2.2.1 h)⟩) rfl rfl hl.1 rfl (lv_room (Nat.le_of_ble_eq_true rfl)) dX11_status_2 ⟨Nat.le_of_ble_eq_true rfl, Nat.le_of_ble_eq_true rfl⟩) hW.2.2 (fun r163 u164 H locs hwr163 hB hS => ?_)
  obtain ⟨rfl, h165⟩ := hwr163
  have hD := pcD_ct (ct' := u164) hW.2.1
  have hW : pcS D vwCl A s.heap NL ad u164 H locs := ⟨hB, hD, hS⟩
  refine lv_if_ne (tgt := 42) hx hb dX11_status_5 (by decide) (fun _ => ?_) (fun c166 => absurd (by decide) c166)
  refine lv_iconst (v := 0) hx hb dX11_status_42 (by decide) ?_
  refine lv_goto (tgt := 64) hx hb dX11_status_43 (by decide) ?_
  refine W.widen (k := 0) (n := 0) (Nat.le_of_ble_eq_true rfl) (Nat.le_of_ble_eq_true rfl) ?_
  exact W.iret (v := 0) hx hb hr (fun t ht hW9 => ⟨⟨0, u164, rfl, ⟨rfl, h165⟩, by rw [ht]; exact hW.1⟩, hW.2.2.F ht⟩) hW.2.2.2.2 dX11_status_64

set_option maxHeartbeats 4000000 in
set_option maxRecDepth 100000 in
theorem m_X11_query (l : Launch) (D : va_G) (cA : Nat → ClassId) (NL : List (Nat × Nat)) (ad : Nat → Nat → Nat) (ct : Nat → Nat → va_E) (A : Nat → Prop)  (em : Nat) (th : Int32) (x1 : Int32) (x2 : Int32) (x3 : Int32) (x4 : Int32) (x5 : Int32) (hmM : inM NL) (hf : frT th ad em ct) : Met l yX11_query wsX11_query ({ frames := 3, cells := 0, slots := 0, locals := 65 }) (pcPre D vwCl (tyL cA) [.ref (ad 11 0), .int x1, .int x2, .int x3, .int x4, .int x5] (fun H => va_P D vwCl (pcW NL ad ct) H ∧ va_D A (pcW NL ad ct) ∧ ∀ q, H.size ≤ q → A q)) (va_Qi (fun (r : Int32) (u : Nat → Nat → va_E) => r = 0 ∧ frT 1 ad em u) (fun u t => va_P D vwCl (pcW NL ad u) t.heap) A) 0 0 A := by
  refine Met.ofW (cc := cX11_query) (maxL := 6) (ret := (some .int)) (by decide) rfl ?_
  intro p e s m args below meth c s₁ B hml hv
  obtain ⟨rfl, hX, ⟨hP0, hD, hA⟩⟩ := hv
  have hx := B.exec
  have hb := B.bytes
  have hr := B.returns
  have hts := atoms_spec (ws := wsX11_query) B.pre
  have hown : s.vm.findClass RX11 = some m.cls := findClass_of_methodNamed B.named
  have hlocks := B.notSynchronized
  have hW : pcQ D vwCl (fun _ => False) s.heap NL ad ct s.heap [] := ⟨hP0, va_S.rf⟩
  have hl := lv_entry ([.ref (ad 11 0), .int x1, .int x2, .int x3, .int x4, .int x5]) (n := 6) (Nat.le_of_ble_eq_true rfl)
  rw [lg_entry_eq]
  generalize (lg_sl ([.ref (ad 11 0), .int x1, .int x2, .int x3, .int x4, .int x5]) ++ List.replicate (6 - (lg_sl ([.ref (ad 11 0), .int x1, .int x2, .int x3, .int x4, .int x5])).length) Slot.unset).toArray = ls at hl ⊢
  have hl : lv_has ls 6 [(0, .ref (ad 11 0)), (1, .int x1), (2, .int x2), (3, .int x3), (4, .int x4), (5, .int x5)] := hl
  refine lv_aload_n hx hb dX11_query_0 rfl (lv_at hl 0 rfl) ?_
  refine lv_iload_n hx hb dX11_query_1 rfl (lv_at hl 1 rfl) ?_
  have hW : pcS D vwCl A s.heap NL ad ct _ _ := ⟨hW.1, hD, vaS_mono hW.2⟩
  refine pc_mcalli (va_runV (As := [.int x1]) (rest := []) ⟨hx, hb, hml, hown, hts⟩ (m_X11_isNoSheet l D cA NL ad ct A em th x1 hmM hf ) (cwV 1 hts gX11_query_X11_isNoSheet rfl rfl rfl (by decide +kernel) ⟨Nat.le_of_ble_eq_true rfl, Nat.le_of_ble_eq_true rfl⟩) (pc_preV pcN_ok hX hW.1 hmM.1 hf.1 rfl ⟨hW.1, hW.2.1, fun q h => hA q (Nat.le_trans hW.2.2.1 h)⟩) rfl rfl hl.1 rfl (lv_room (Nat.le_of_ble_eq_true rfl)) dX11_query_2 ⟨Nat.le_of_ble_eq_true rfl, Nat.le_of_ble_eq_true rfl⟩) hW.2.2 (fun r167 u168 H locs hwr167 hB hS => ?_)
  obtain ⟨rfl, h169⟩ := hwr167
  have hD := pcD_ct (ct' := u168) hW.2.1
  have hW : pcS D vwCl A s.heap NL ad u168 H locs := ⟨hB, hD, hS⟩
  refine lv_if_ne (tgt := 65) hx hb dX11_query_5 (by decide) (fun _ => ?_) (fun c170 => absurd (by decide) c170)
  refine lv_iconst (v := 0) hx hb dX11_query_65 (by decide) ?_
  refine W.widen (k := 0) (n := 0) (Nat.le_of_ble_eq_true rfl) (Nat.le_of_ble_eq_true rfl) ?_
  exact W.iret (v := 0) hx hb hr (fun t ht hW9 => ⟨⟨0, u168, rfl, ⟨rfl, h169⟩, by rw [ht]; exact hW.1⟩, hW.2.2.F ht⟩) hW.2.2.2.2 dX11_query_66

set_option maxHeartbeats 4000000 in
set_option maxRecDepth 100000 in
theorem m_X11_clouds (l : Launch) (D : va_G) (cA : Nat → ClassId) (NL : List (Nat × Nat)) (ad : Nat → Nat → Nat) (ct : Nat → Nat → va_E) (A : Nat → Prop)  (em : Nat) (th : Int32) (x1 : Int32) (x2 : Int32) (x3 : Int32) (hmM : inM NL) (hf : frT th ad em ct) : Met l yX11_clouds wsX11_clouds ({ frames := 3, cells := 0, slots := 0, locals := 65 }) (pcPre D vwCl (tyL cA) [.ref (ad 11 0), .int x1, .int x2, .int x3] (fun H => va_P D vwCl (pcW NL ad ct) H ∧ va_D A (pcW NL ad ct) ∧ ∀ q, H.size ≤ q → A q)) (va_Qi (fun (r : Int32) (u : Nat → Nat → va_E) => r = 0 ∧ frT 1 ad em u) (fun u t => va_P D vwCl (pcW NL ad u) t.heap) A) 0 0 A := by
  refine Met.ofW (cc := cX11_clouds) (maxL := 4) (ret := (some .int)) (by decide) rfl ?_
  intro p e s m args below meth c s₁ B hml hv
  obtain ⟨rfl, hX, ⟨hP0, hD, hA⟩⟩ := hv
  have hx := B.exec
  have hb := B.bytes
  have hr := B.returns
  have hts := atoms_spec (ws := wsX11_clouds) B.pre
  have hown : s.vm.findClass RX11 = some m.cls := findClass_of_methodNamed B.named
  have hlocks := B.notSynchronized
  have hW : pcQ D vwCl (fun _ => False) s.heap NL ad ct s.heap [] := ⟨hP0, va_S.rf⟩
  have hl := lv_entry ([.ref (ad 11 0), .int x1, .int x2, .int x3]) (n := 4) (Nat.le_of_ble_eq_true rfl)
  rw [lg_entry_eq]
  generalize (lg_sl ([.ref (ad 11 0), .int x1, .int x2, .int x3]) ++ List.replicate (4 - (lg_sl ([.ref (ad 11 0), .int x1, .int x2, .int x3])).length) Slot.unset).toArray = ls at hl ⊢
  have hl : lv_has ls 4 [(0, .ref (ad 11 0)), (1, .int x1), (2, .int x2), (3, .int x3)] := hl
  refine lv_aload_n hx hb dX11_clouds_0 rfl (lv_at hl 0 rfl) ?_
  refine lv_iload_n hx hb dX11_clouds_1 rfl (lv_at hl 1 rfl) ?_
  have hW : pcS D vwCl A s.heap NL ad ct _ _ := ⟨hW.1, hD, vaS_mono hW.2⟩
  refine pc_mcalli (va_runV (As := [.int x1]) (rest := []) ⟨hx, hb, hml, hown, hts⟩ (m_X11_isNoSheet l D cA NL ad ct A em th x1 hmM hf ) (cwV 1 hts gX11_clouds_X11_isNoSheet rfl rfl rfl (by decide +kernel) ⟨Nat.le_of_ble_eq_true rfl, Nat.le_of_ble_eq_true rfl⟩) (pc_preV pcN_ok hX hW.1 hmM.1 hf.1 rfl ⟨hW.1, hW.2.1, fun q h => hA q (Nat.le_trans hW.2.2.1 h)⟩) rfl rfl hl.1 rfl (lv_room (Nat.le_of_ble_eq_true rfl)) dX11_clouds_2 ⟨Nat.le_of_ble_eq_true rfl, Nat.le_of_ble_eq_true rfl⟩) hW.2.2 (fun r171 u172 H locs hwr171 hB hS => ?_)
  obtain ⟨rfl, h173⟩ := hwr171
  have hD := pcD_ct (ct' := u172) hW.2.1
  have hW : pcS D vwCl A s.heap NL ad u172 H locs := ⟨hB, hD, hS⟩
  refine lv_if_ne (tgt := 41) hx hb dX11_clouds_5 (by decide) (fun _ => ?_) (fun c174 => absurd (by decide) c174)
  refine lv_iconst (v := 0) hx hb dX11_clouds_41 (by decide) ?_
  refine lv_goto (tgt := 64) hx hb dX11_clouds_42 (by decide) ?_
  refine W.widen (k := 0) (n := 0) (Nat.le_of_ble_eq_true rfl) (Nat.le_of_ble_eq_true rfl) ?_
  exact W.iret (v := 0) hx hb hr (fun t ht hW9 => ⟨⟨0, u172, rfl, ⟨rfl, h173⟩, by rw [ht]; exact hW.1⟩, hW.2.2.F ht⟩) hW.2.2.2.2 dX11_clouds_64

set_option maxHeartbeats 4000000 in
set_option maxRecDepth 100000 in
theorem m_X11_stoppedBy (l : Launch) (D : va_G) (cA : Nat → ClassId) (NL : List (Nat × Nat)) (ad : Nat → Nat → Nat) (ct : Nat → Nat → va_E) (A : Nat → Prop)  (em : Nat) (th : Int32) (x1 : Int32) (hmM : inM NL) (hf : frT th ad em ct) : Met l yX11_stoppedBy wsX11_stoppedBy ({ frames := 3, cells := 0, slots := 0, locals := 65 }) (pcPre D vwCl (tyL cA) [.ref (ad 11 0), .int x1] (fun H => va_P D vwCl (pcW NL ad ct) H ∧ va_D A (pcW NL ad ct) ∧ ∀ q, H.size ≤ q → A q)) (va_Qi (fun (r : Int32) (u : Nat → Nat → va_E) => r = 0 ∧ frT 1 ad em u) (fun u t => va_P D vwCl (pcW NL ad u) t.heap) A) 0 0 A := by
  refine Met.ofW (cc := cX11_stoppedBy) (maxL := 2) (ret := (some .int)) (by decide) rfl ?_
  intro p e s m args below meth c s₁ B hml hv
  obtain ⟨rfl, hX, ⟨hP0, hD, hA⟩⟩ := hv
  have hx := B.exec
  have hb := B.bytes
  have hr := B.returns
  have hts := atoms_spec (ws := wsX11_stoppedBy) B.pre
  have hown : s.vm.findClass RX11 = some m.cls := findClass_of_methodNamed B.named
  have hlocks := B.notSynchronized
  have hW : pcQ D vwCl (fun _ => False) s.heap NL ad ct s.heap [] := ⟨hP0, va_S.rf⟩
  have hl := lv_entry ([.ref (ad 11 0), .int x1]) (n := 2) (Nat.le_of_ble_eq_true rfl)
  rw [lg_entry_eq]
  generalize (lg_sl ([.ref (ad 11 0), .int x1]) ++ List.replicate (2 - (lg_sl ([.ref (ad 11 0), .int x1])).length) Slot.unset).toArray = ls at hl ⊢
  have hl : lv_has ls 2 [(0, .ref (ad 11 0)), (1, .int x1)] := hl
  refine lv_aload_n hx hb dX11_stoppedBy_0 rfl (lv_at hl 0 rfl) ?_
  refine lv_iload_n hx hb dX11_stoppedBy_1 rfl (lv_at hl 1 rfl) ?_
  have hW : pcS D vwCl A s.heap NL ad ct _ _ := ⟨hW.1, hD, vaS_mono hW.2⟩
  refine pc_mcalli (va_runV (As := [.int x1]) (rest := []) ⟨hx, hb, hml, hown, hts⟩ (m_X11_isNoSheet l D cA NL ad ct A em th x1 hmM hf ) (cwV 1 hts gX11_stoppedBy_X11_isNoSheet rfl rfl rfl (by decide +kernel) ⟨Nat.le_of_ble_eq_true rfl, Nat.le_of_ble_eq_true rfl⟩) (pc_preV pcN_ok hX hW.1 hmM.1 hf.1 rfl ⟨hW.1, hW.2.1, fun q h => hA q (Nat.le_trans hW.2.2.1 h)⟩) rfl rfl hl.1 rfl (lv_room (Nat.le_of_ble_eq_true rfl)) dX11_stoppedBy_2 ⟨Nat.le_of_ble_eq_true rfl, Nat.le_of_ble_eq_true rfl⟩) hW.2.2 (fun r175 u176 H locs hwr175 hB hS => ?_)
  obtain ⟨rfl, h177⟩ := hwr175
  have hD := pcD_ct (ct' := u176) hW.2.1
  have hW : pcS D vwCl A s.heap NL ad u176 H locs := ⟨hB, hD, hS⟩
  refine lv_if_eq (tgt := 12) hx hb dX11_stoppedBy_5 (by decide) (fun c178 => absurd c178 (by decide)) (fun _ => ?_)
  refine lv_iconst (v := 0) hx hb dX11_stoppedBy_8 (by decide) ?_
  refine lv_goto (tgt := 17) hx hb dX11_stoppedBy_9 (by decide) ?_
  refine W.widen (k := 0) (n := 0) (Nat.le_of_ble_eq_true rfl) (Nat.le_of_ble_eq_true rfl) ?_
  exact W.iret (v := 0) hx hb hr (fun t ht hW9 => ⟨⟨0, u176, rfl, ⟨rfl, h177⟩, by rw [ht]; exact hW.1⟩, hW.2.2.F ht⟩) hW.2.2.2.2 dX11_stoppedBy_17

set_option maxHeartbeats 4000000 in
set_option maxRecDepth 100000 in
theorem m_X11_clash (l : Launch) (D : va_G) (cA : Nat → ClassId) (NL : List (Nat × Nat)) (ad : Nat → Nat → Nat) (ct : Nat → Nat → va_E) (A : Nat → Prop)  (em : Nat) (th : Int32) (x1 : Int32) (x2 : Int32) (hmM : inM NL) (hf : frT th ad em ct) : Met l yX11_clash wsX11_clash ({ frames := 3, cells := 0, slots := 0, locals := 66 }) (pcPre D vwCl (tyL cA) [.ref (ad 11 0), .int x1, .int x2] (fun H => va_P D vwCl (pcW NL ad ct) H ∧ va_D A (pcW NL ad ct) ∧ ∀ q, H.size ≤ q → A q)) (va_Qi (fun (r : Int32) (u : Nat → Nat → va_E) => r = 0 ∧ frT 1 ad em u) (fun u t => va_P D vwCl (pcW NL ad u) t.heap) A) 0 0 A := by
  refine Met.ofW (cc := cX11_clash) (maxL := 3) (ret := (some .int)) (by decide) rfl ?_
  intro p e s m args below meth c s₁ B hml hv
  obtain ⟨rfl, hX, ⟨hP0, hD, hA⟩⟩ := hv
  have hx := B.exec
  have hb := B.bytes
  have hr := B.returns
  have hts := atoms_spec (ws := wsX11_clash) B.pre
  have hown : s.vm.findClass RX11 = some m.cls := findClass_of_methodNamed B.named
  have hlocks := B.notSynchronized
  have hW : pcQ D vwCl (fun _ => False) s.heap NL ad ct s.heap [] := ⟨hP0, va_S.rf⟩
  have hl := lv_entry ([.ref (ad 11 0), .int x1, .int x2]) (n := 3) (Nat.le_of_ble_eq_true rfl)
  rw [lg_entry_eq]
  generalize (lg_sl ([.ref (ad 11 0), .int x1, .int x2]) ++ List.replicate (3 - (lg_sl ([.ref (ad 11 0), .int x1, .int x2])).length) Slot.unset).toArray = ls at hl ⊢
  have hl : lv_has ls 3 [(0, .ref (ad 11 0)), (1, .int x1), (2, .int x2)] := hl
  refine lv_aload_n hx hb dX11_clash_0 rfl (lv_at hl 0 rfl) ?_
  refine lv_iload_n hx hb dX11_clash_1 rfl (lv_at hl 1 rfl) ?_
  refine lv_iload_n hx hb dX11_clash_2 rfl (lv_at hl 2 rfl) ?_
  have hW : pcS D vwCl A s.heap NL ad ct _ _ := ⟨hW.1, hD, vaS_mono hW.2⟩
  refine pc_mcalli (va_runV (As := [.int x1, .int x2]) (rest := []) ⟨hx, hb, hml, hown, hts⟩ (m_X11_isNoPair l D cA NL ad ct A em th x1 x2 hmM hf ) (cwV 2 hts gX11_clash_X11_isNoPair rfl rfl rfl (by decide +kernel) ⟨Nat.le_of_ble_eq_true rfl, Nat.le_of_ble_eq_true rfl⟩) (pc_preV pcN_ok hX hW.1 hmM.1 hf.1 rfl ⟨hW.1, hW.2.1, fun q h => hA q (Nat.le_trans hW.2.2.1 h)⟩) rfl rfl hl.1 rfl (lv_room (Nat.le_of_ble_eq_true rfl)) dX11_clash_3 ⟨Nat.le_of_ble_eq_true rfl, Nat.le_of_ble_eq_true rfl⟩) hW.2.2 (fun r179 u180 H locs hwr179 hB hS => ?_)
  obtain ⟨rfl, h181⟩ := hwr179
  have hD := pcD_ct (ct' := u180) hW.2.1
  have hW : pcS D vwCl A s.heap NL ad u180 H locs := ⟨hB, hD, hS⟩
  refine lv_if_eq (tgt := 13) hx hb dX11_clash_6 (by decide) (fun c182 => absurd c182 (by decide)) (fun _ => ?_)
  refine lv_iconst (v := 0) hx hb dX11_clash_9 (by decide) ?_
  refine lv_goto (tgt := 25) hx hb dX11_clash_10 (by decide) ?_
  refine W.widen (k := 0) (n := 0) (Nat.le_of_ble_eq_true rfl) (Nat.le_of_ble_eq_true rfl) ?_
  exact W.iret (v := 0) hx hb hr (fun t ht hW9 => ⟨⟨0, u180, rfl, ⟨rfl, h181⟩, by rw [ht]; exact hW.1⟩, hW.2.2.F ht⟩) hW.2.2.2.2 dX11_clash_25

set_option maxHeartbeats 4000000 in
set_option maxRecDepth 100000 in
theorem m_X11_excuse (l : Launch) (D : va_G) (cA : Nat → ClassId) (NL : List (Nat × Nat)) (ad : Nat → Nat → Nat) (ct : Nat → Nat → va_E) (A : Nat → Prop)  (em : Nat) (th : Int32) (x1 : Int32) (x2 : Int32) (hmM : inM NL) (hf : frT th ad em ct) : Met l yX11_excuse wsX11_excuse ({ frames := 3, cells := 0, slots := 0, locals := 66 }) (pcPre D vwCl (tyL cA) [.ref (ad 11 0), .int x1, .int x2] (fun H => va_P D vwCl (pcW NL ad ct) H ∧ va_D A (pcW NL ad ct) ∧ ∀ q, H.size ≤ q → A q)) (va_Qi (fun (r : Int32) (u : Nat → Nat → va_E) => r = 0 ∧ frT 1 ad em u) (fun u t => va_P D vwCl (pcW NL ad u) t.heap) A) 0 0 A := by
  refine Met.ofW (cc := cX11_excuse) (maxL := 4) (ret := (some .boolean)) (by decide) rfl ?_
  intro p e s m args below meth c s₁ B hml hv
  obtain ⟨rfl, hX, ⟨hP0, hD, hA⟩⟩ := hv
  have hx := B.exec
  have hb := B.bytes
  have hr := B.returns
  have hts := atoms_spec (ws := wsX11_excuse) B.pre
  have hown : s.vm.findClass RX11 = some m.cls := findClass_of_methodNamed B.named
  have hlocks := B.notSynchronized
  have hW : pcQ D vwCl (fun _ => False) s.heap NL ad ct s.heap [] := ⟨hP0, va_S.rf⟩
  have hl := lv_entry ([.ref (ad 11 0), .int x1, .int x2]) (n := 4) (Nat.le_of_ble_eq_true rfl)
  rw [lg_entry_eq]
  generalize (lg_sl ([.ref (ad 11 0), .int x1, .int x2]) ++ List.replicate (4 - (lg_sl ([.ref (ad 11 0), .int x1, .int x2])).length) Slot.unset).toArray = ls at hl ⊢
  have hl : lv_has ls 4 [(0, .ref (ad 11 0)), (1, .int x1), (2, .int x2)] := hl
  refine lv_aload_n hx hb dX11_excuse_0 rfl (lv_at hl 0 rfl) ?_
  refine lv_iload_n hx hb dX11_excuse_1 rfl (lv_at hl 1 rfl) ?_
  refine lv_iload_n hx hb dX11_excuse_2 rfl (lv_at hl 2 rfl) ?_
  have hW : pcS D vwCl A s.heap NL ad ct _ _ := ⟨hW.1, hD, vaS_mono hW.2⟩
  refine pc_mcalli (va_runV (As := [.int x1, .int x2]) (rest := []) ⟨hx, hb, hml, hown, hts⟩ (m_X11_isNoPair l D cA NL ad ct A em th x1 x2 hmM hf ) (cwV 2 hts gX11_excuse_X11_isNoPair rfl rfl rfl (by decide +kernel) ⟨Nat.le_of_ble_eq_true rfl, Nat.le_of_ble_eq_true rfl⟩) (pc_preV pcN_ok hX hW.1 hmM.1 hf.1 rfl ⟨hW.1, hW.2.1, fun q h => hA q (Nat.le_trans hW.2.2.1 h)⟩) rfl rfl hl.1 rfl (lv_room (Nat.le_of_ble_eq_true rfl)) dX11_excuse_3 ⟨Nat.le_of_ble_eq_true rfl, Nat.le_of_ble_eq_true rfl⟩) hW.2.2 (fun r183 u184 H locs hwr183 hB hS => ?_)
  obtain ⟨rfl, h185⟩ := hwr183
  have hD := pcD_ct (ct' := u184) hW.2.1
  have hW : pcS D vwCl A s.heap NL ad u184 H locs := ⟨hB, hD, hS⟩
  refine lv_if_eq (tgt := 11) hx hb dX11_excuse_6 (by decide) (fun c186 => absurd c186 (by decide)) (fun _ => ?_)
  refine lv_iconst (v := 0) hx hb dX11_excuse_9 (by decide) ?_
  refine W.widen (k := 0) (n := 0) (Nat.le_of_ble_eq_true rfl) (Nat.le_of_ble_eq_true rfl) ?_
  exact W.zret (v := 0) hx hb hr rfl (fun t ht hW9 => ⟨⟨0, u184, rfl, ⟨rfl, h185⟩, by rw [ht]; exact hW.1⟩, hW.2.2.F ht⟩) hW.2.2.2.2 dX11_excuse_10

set_option maxHeartbeats 4000000 in
set_option maxRecDepth 100000 in
theorem m_X11_answer (l : Launch) (D : va_G) (cA : Nat → ClassId) (NL : List (Nat × Nat)) (ad : Nat → Nat → Nat) (ct : Nat → Nat → va_E) (A : Nat → Prop)  (em : Nat) (th : Int32) (x1 : Int32) (x2 : Int32) (hmM : inM NL) (hf : frT th ad em ct) : Met l yX11_answer wsX11_answer ({ frames := 3, cells := 0, slots := 0, locals := 65 }) (pcPre D vwCl (tyL cA) [.ref (ad 11 0), .int x1, .int x2] (fun H => va_P D vwCl (pcW NL ad ct) H ∧ va_D A (pcW NL ad ct) ∧ ∀ q, H.size ≤ q → A q)) (va_Qi (fun (r : Int32) (u : Nat → Nat → va_E) => r = 0 ∧ frT 1 ad em u) (fun u t => va_P D vwCl (pcW NL ad u) t.heap) A) 0 0 A := by
  refine Met.ofW (cc := cX11_answer) (maxL := 3) (ret := (some .int)) (by decide) rfl ?_
  intro p e s m args below meth c s₁ B hml hv
  obtain ⟨rfl, hX, ⟨hP0, hD, hA⟩⟩ := hv
  have hx := B.exec
  have hb := B.bytes
  have hr := B.returns
  have hts := atoms_spec (ws := wsX11_answer) B.pre
  have hown : s.vm.findClass RX11 = some m.cls := findClass_of_methodNamed B.named
  have hlocks := B.notSynchronized
  have hW : pcQ D vwCl (fun _ => False) s.heap NL ad ct s.heap [] := ⟨hP0, va_S.rf⟩
  have hl := lv_entry ([.ref (ad 11 0), .int x1, .int x2]) (n := 3) (Nat.le_of_ble_eq_true rfl)
  rw [lg_entry_eq]
  generalize (lg_sl ([.ref (ad 11 0), .int x1, .int x2]) ++ List.replicate (3 - (lg_sl ([.ref (ad 11 0), .int x1, .int x2])).length) Slot.unset).toArray = ls at hl ⊢
  have hl : lv_has ls 3 [(0, .ref (ad 11 0)), (1, .int x1), (2, .int x2)] := hl
  refine lv_aload_n hx hb dX11_answer_0 rfl (lv_at hl 0 rfl) ?_
  refine lv_iload_n hx hb dX11_answer_1 rfl (lv_at hl 1 rfl) ?_
  have hW : pcS D vwCl A s.heap NL ad ct _ _ := ⟨hW.1, hD, vaS_mono hW.2⟩
  refine pc_mcalli (va_runV (As := [.int x1]) (rest := []) ⟨hx, hb, hml, hown, hts⟩ (m_X11_isNoQuery l D cA NL ad ct A em th x1 hmM hf ) (cwV 1 hts gX11_answer_X11_isNoQuery rfl rfl rfl (by decide +kernel) ⟨Nat.le_of_ble_eq_true rfl, Nat.le_of_ble_eq_true rfl⟩) (pc_preV pcN_ok hX hW.1 hmM.1 hf.1 rfl ⟨hW.1, hW.2.1, fun q h => hA q (Nat.le_trans hW.2.2.1 h)⟩) rfl rfl hl.1 rfl (lv_room (Nat.le_of_ble_eq_true rfl)) dX11_answer_2 ⟨Nat.le_of_ble_eq_true rfl, Nat.le_of_ble_eq_true rfl⟩) hW.2.2 (fun r187 u188 H locs hwr187 hB hS => ?_)
  obtain ⟨rfl, h189⟩ := hwr187
  have hD := pcD_ct (ct' := u188) hW.2.1
  have hW : pcS D vwCl A s.heap NL ad u188 H locs := ⟨hB, hD, hS⟩
  refine lv_if_ne (tgt := 40) hx hb dX11_answer_5 (by decide) (fun _ => ?_) (fun c190 => absurd (by decide) c190)
  refine lv_iconst (v := 0) hx hb dX11_answer_40 (by decide) ?_
  refine W.widen (k := 0) (n := 0) (Nat.le_of_ble_eq_true rfl) (Nat.le_of_ble_eq_true rfl) ?_
  exact W.iret (v := 0) hx hb hr (fun t ht hW9 => ⟨⟨0, u188, rfl, ⟨rfl, h189⟩, by rw [ht]; exact hW.1⟩, hW.2.2.F ht⟩) hW.2.2.2.2 dX11_answer_41

set_option maxHeartbeats 4000000 in
set_option maxRecDepth 100000 in
theorem m_X11_ofQuery (l : Launch) (D : va_G) (cA : Nat → ClassId) (NL : List (Nat × Nat)) (ad : Nat → Nat → Nat) (ct : Nat → Nat → va_E) (A : Nat → Prop)  (em : Nat) (th : Int32) (x1 : Int32) (hmM : inM NL) (hf : frT th ad em ct) : Met l yX11_ofQuery wsX11_ofQuery ({ frames := 3, cells := 0, slots := 0, locals := 65 }) (pcPre D vwCl (tyL cA) [.ref (ad 11 0), .int x1] (fun H => va_P D vwCl (pcW NL ad ct) H ∧ va_D A (pcW NL ad ct) ∧ ∀ q, H.size ≤ q → A q)) (va_Qi (fun (r : Int32) (u : Nat → Nat → va_E) => r = 0 ∧ frT 1 ad em u) (fun u t => va_P D vwCl (pcW NL ad u) t.heap) A) 0 0 A := by
  refine Met.ofW (cc := cX11_ofQuery) (maxL := 2) (ret := (some .int)) (by decide) rfl ?_
  intro p e s m args below meth c s₁ B hml hv
  obtain ⟨rfl, hX, ⟨hP0, hD, hA⟩⟩ := hv
  have hx := B.exec
  have hb := B.bytes
  have hr := B.returns
  have hts := atoms_spec (ws := wsX11_ofQuery) B.pre
  have hown : s.vm.findClass RX11 = some m.cls := findClass_of_methodNamed B.named
  have hlocks := B.notSynchronized
  have hW : pcQ D vwCl (fun _ => False) s.heap NL ad ct s.heap [] := ⟨hP0, va_S.rf⟩
  have hl := lv_entry ([.ref (ad 11 0), .int x1]) (n := 2) (Nat.le_of_ble_eq_true rfl)
  rw [lg_entry_eq]
  generalize (lg_sl ([.ref (ad 11 0), .int x1]) ++ List.replicate (2 - (lg_sl ([.ref (ad 11 0), .int x1])).length) Slot.unset).toArray = ls at hl ⊢
  have hl : lv_has ls 2 [(0, .ref (ad 11 0)), (1, .int x1)] := hl
  refine lv_aload_n hx hb dX11_ofQuery_0 rfl (lv_at hl 0 rfl) ?_
  refine lv_iload_n hx hb dX11_ofQuery_1 rfl (lv_at hl 1 rfl) ?_
  have hW : pcS D vwCl A s.heap NL ad ct _ _ := ⟨hW.1, hD, vaS_mono hW.2⟩
  refine pc_mcalli (va_runV (As := [.int x1]) (rest := []) ⟨hx, hb, hml, hown, hts⟩ (m_X11_isNoQuery l D cA NL ad ct A em th x1 hmM hf ) (cwV 1 hts gX11_ofQuery_X11_isNoQuery rfl rfl rfl (by decide +kernel) ⟨Nat.le_of_ble_eq_true rfl, Nat.le_of_ble_eq_true rfl⟩) (pc_preV pcN_ok hX hW.1 hmM.1 hf.1 rfl ⟨hW.1, hW.2.1, fun q h => hA q (Nat.le_trans hW.2.2.1 h)⟩) rfl rfl hl.1 rfl (lv_room (Nat.le_of_ble_eq_true rfl)) dX11_ofQuery_2 ⟨Nat.le_of_ble_eq_true rfl, Nat.le_of_ble_eq_true rfl⟩) hW.2.2 (fun r191 u192 H locs hwr191 hB hS => ?_)
  obtain ⟨rfl, h193⟩ := hwr191
  have hD := pcD_ct (ct' := u192) hW.2.1
  have hW : pcS D vwCl A s.heap NL ad u192 H locs := ⟨hB, hD, hS⟩
  refine lv_if_eq (tgt := 12) hx hb dX11_ofQuery_5 (by decide) (fun c194 => absurd c194 (by decide)) (fun _ => ?_)
  refine lv_iconst (v := 0) hx hb dX11_ofQuery_8 (by decide) ?_
  refine lv_goto (tgt := 28) hx hb dX11_ofQuery_9 (by decide) ?_
  refine W.widen (k := 0) (n := 0) (Nat.le_of_ble_eq_true rfl) (Nat.le_of_ble_eq_true rfl) ?_
  exact W.iret (v := 0) hx hb hr (fun t ht hW9 => ⟨⟨0, u192, rfl, ⟨rfl, h193⟩, by rw [ht]; exact hW.1⟩, hW.2.2.F ht⟩) hW.2.2.2.2 dX11_ofQuery_28

set_option maxHeartbeats 4000000 in
set_option maxRecDepth 100000 in
theorem m_X11_freedBy (l : Launch) (D : va_G) (cA : Nat → ClassId) (NL : List (Nat × Nat)) (ad : Nat → Nat → Nat) (ct : Nat → Nat → va_E) (A : Nat → Prop)  (em : Nat) (th : Int32) (x1 : Int32) (hmM : inM NL) (hf : frT th ad em ct) : Met l yX11_freedBy wsX11_freedBy ({ frames := 3, cells := 0, slots := 0, locals := 65 }) (pcPre D vwCl (tyL cA) [.ref (ad 11 0), .int x1] (fun H => va_P D vwCl (pcW NL ad ct) H ∧ va_D A (pcW NL ad ct) ∧ ∀ q, H.size ≤ q → A q)) (va_Qi (fun (r : Int32) (u : Nat → Nat → va_E) => r = 0 ∧ frT 1 ad em u) (fun u t => va_P D vwCl (pcW NL ad u) t.heap) A) 0 0 A := by
  refine Met.ofW (cc := cX11_freedBy) (maxL := 2) (ret := (some .int)) (by decide) rfl ?_
  intro p e s m args below meth c s₁ B hml hv
  obtain ⟨rfl, hX, ⟨hP0, hD, hA⟩⟩ := hv
  have hx := B.exec
  have hb := B.bytes
  have hr := B.returns
  have hts := atoms_spec (ws := wsX11_freedBy) B.pre
  have hown : s.vm.findClass RX11 = some m.cls := findClass_of_methodNamed B.named
  have hlocks := B.notSynchronized
  have hW : pcQ D vwCl (fun _ => False) s.heap NL ad ct s.heap [] := ⟨hP0, va_S.rf⟩
  have hl := lv_entry ([.ref (ad 11 0), .int x1]) (n := 2) (Nat.le_of_ble_eq_true rfl)
  rw [lg_entry_eq]
  generalize (lg_sl ([.ref (ad 11 0), .int x1]) ++ List.replicate (2 - (lg_sl ([.ref (ad 11 0), .int x1])).length) Slot.unset).toArray = ls at hl ⊢
  have hl : lv_has ls 2 [(0, .ref (ad 11 0)), (1, .int x1)] := hl
  refine lv_aload_n hx hb dX11_freedBy_0 rfl (lv_at hl 0 rfl) ?_
  refine lv_iload_n hx hb dX11_freedBy_1 rfl (lv_at hl 1 rfl) ?_
  have hW : pcS D vwCl A s.heap NL ad ct _ _ := ⟨hW.1, hD, vaS_mono hW.2⟩
  refine pc_mcalli (va_runV (As := [.int x1]) (rest := []) ⟨hx, hb, hml, hown, hts⟩ (m_X11_isNoQuery l D cA NL ad ct A em th x1 hmM hf ) (cwV 1 hts gX11_freedBy_X11_isNoQuery rfl rfl rfl (by decide +kernel) ⟨Nat.le_of_ble_eq_true rfl, Nat.le_of_ble_eq_true rfl⟩) (pc_preV pcN_ok hX hW.1 hmM.1 hf.1 rfl ⟨hW.1, hW.2.1, fun q h => hA q (Nat.le_trans hW.2.2.1 h)⟩) rfl rfl hl.1 rfl (lv_room (Nat.le_of_ble_eq_true rfl)) dX11_freedBy_2 ⟨Nat.le_of_ble_eq_true rfl, Nat.le_of_ble_eq_true rfl⟩) hW.2.2 (fun r195 u196 H locs hwr195 hB hS => ?_)
  obtain ⟨rfl, h197⟩ := hwr195
  have hD := pcD_ct (ct' := u196) hW.2.1
  have hW : pcS D vwCl A s.heap NL ad u196 H locs := ⟨hB, hD, hS⟩
  refine lv_if_eq (tgt := 12) hx hb dX11_freedBy_5 (by decide) (fun c198 => absurd c198 (by decide)) (fun _ => ?_)
  refine lv_iconst (v := 0) hx hb dX11_freedBy_8 (by decide) ?_
  refine lv_goto (tgt := 17) hx hb dX11_freedBy_9 (by decide) ?_
  refine W.widen (k := 0) (n := 0) (Nat.le_of_ble_eq_true rfl) (Nat.le_of_ble_eq_true rfl) ?_
  exact W.iret (v := 0) hx hb hr (fun t ht hW9 => ⟨⟨0, u196, rfl, ⟨rfl, h197⟩, by rw [ht]; exact hW.1⟩, hW.2.2.F ht⟩) hW.2.2.2.2 dX11_freedBy_17

set_option maxHeartbeats 4000000 in
set_option maxRecDepth 100000 in
theorem m_X11_place (l : Launch) (D : va_G) (cA : Nat → ClassId) (NL : List (Nat × Nat)) (ad : Nat → Nat → Nat) (ct : Nat → Nat → va_E) (A : Nat → Prop)  (em : Nat) (th : Int32) (x1 : Int32) (x2 : Int32) (x3 : Int32) (x4 : Int32) (x5 : Int32) (hmM : inM NL) (hf : frT th ad em ct) : Met l yX11_place wsX11_place ({ frames := 3, cells := 0, slots := 0, locals := 65 }) (pcPre D vwCl (tyL cA) [.ref (ad 11 0), .int x1, .int x2, .int x3, .int x4, .int x5] (fun H => va_P D vwCl (pcW NL ad ct) H ∧ va_D A (pcW NL ad ct) ∧ ∀ q, H.size ≤ q → A q)) (va_Qi (fun (r : Int32) (u : Nat → Nat → va_E) => r = 0 ∧ frT 1 ad em u) (fun u t => va_P D vwCl (pcW NL ad u) t.heap) A) 0 0 A := by
  refine Met.ofW (cc := cX11_place) (maxL := 6) (ret := (some .int)) (by decide) rfl ?_
  intro p e s m args below meth c s₁ B hml hv
  obtain ⟨rfl, hX, ⟨hP0, hD, hA⟩⟩ := hv
  have hx := B.exec
  have hb := B.bytes
  have hr := B.returns
  have hts := atoms_spec (ws := wsX11_place) B.pre
  have hown : s.vm.findClass RX11 = some m.cls := findClass_of_methodNamed B.named
  have hlocks := B.notSynchronized
  have hW : pcQ D vwCl (fun _ => False) s.heap NL ad ct s.heap [] := ⟨hP0, va_S.rf⟩
  have hl := lv_entry ([.ref (ad 11 0), .int x1, .int x2, .int x3, .int x4, .int x5]) (n := 6) (Nat.le_of_ble_eq_true rfl)
  rw [lg_entry_eq]
  generalize (lg_sl ([.ref (ad 11 0), .int x1, .int x2, .int x3, .int x4, .int x5]) ++ List.replicate (6 - (lg_sl ([.ref (ad 11 0), .int x1, .int x2, .int x3, .int x4, .int x5])).length) Slot.unset).toArray = ls at hl ⊢
  have hl : lv_has ls 6 [(0, .ref (ad 11 0)), (1, .int x1), (2, .int x2), (3, .int x3), (4, .int x4), (5, .int x5)] := hl
  refine lv_aload_n hx hb dX11_place_0 rfl (lv_at hl 0 rfl) ?_
  refine lv_iload_n hx hb dX11_place_1 rfl (lv_at hl 1 rfl) ?_
  have hW : pcS D vwCl A s.heap NL ad ct _ _ := ⟨hW.1, hD, vaS_mono hW.2⟩
  refine pc_mcalli (va_runV (As := [.int x1]) (rest := []) ⟨hx, hb, hml, hown, hts⟩ (m_X11_isNoPack l D cA NL ad ct A em th x1 hmM hf ) (cwV 1 hts gX11_place_X11_isNoPack rfl rfl rfl (by decide +kernel) ⟨Nat.le_of_ble_eq_true rfl, Nat.le_of_ble_eq_true rfl⟩) (pc_preV pcN_ok hX hW.1 hmM.1 hf.1 rfl ⟨hW.1, hW.2.1, fun q h => hA q (Nat.le_trans hW.2.2.1 h)⟩) rfl rfl hl.1 rfl (lv_room (Nat.le_of_ble_eq_true rfl)) dX11_place_2 ⟨Nat.le_of_ble_eq_true rfl, Nat.le_of_ble_eq_true rfl⟩) hW.2.2 (fun r199 u200 H locs hwr199 hB hS => ?_)
  obtain ⟨rfl, h201⟩ := hwr199
  have hD := pcD_ct (ct' := u200) hW.2.1
  have hW : pcS D vwCl A s.heap NL ad u200 H locs := ⟨hB, hD, hS⟩
  refine lv_if_ne (tgt := 59) hx hb dX11_place_5 (by decide) (fun _ => ?_) (fun c202 => absurd (by decide) c202)
  refine lv_iconst (v := 0) hx hb dX11_place_59 (by decide) ?_
  refine W.widen (k := 0) (n := 0) (Nat.le_of_ble_eq_true rfl) (Nat.le_of_ble_eq_true rfl) ?_
  exact W.iret (v := 0) hx hb hr (fun t ht hW9 => ⟨⟨0, u200, rfl, ⟨rfl, h201⟩, by rw [ht]; exact hW.1⟩, hW.2.2.F ht⟩) hW.2.2.2.2 dX11_place_60

set_option maxHeartbeats 4000000 in
set_option maxRecDepth 100000 in
theorem m_X11_start_ (l : Launch) (D : va_G) (cA : Nat → ClassId) (NL : List (Nat × Nat)) (ad : Nat → Nat → Nat) (ct : Nat → Nat → va_E) (A : Nat → Prop)  (em : Nat) (th : Int32) (x1 : Int32) (hmM : inM NL) (hf : frT th ad em ct) : Met l yX11_start_ wsX11_start_ ({ frames := 3, cells := 0, slots := 0, locals := 65 }) (pcPre D vwCl (tyL cA) [.ref (ad 11 0), .int x1] (fun H => va_P D vwCl (pcW NL ad ct) H ∧ va_D A (pcW NL ad ct) ∧ ∀ q, H.size ≤ q → A q)) (va_Qi (fun (r : Int32) (u : Nat → Nat → va_E) => r = 0 ∧ frT 1 ad em u) (fun u t => va_P D vwCl (pcW NL ad u) t.heap) A) 0 0 A := by
  refine Met.ofW (cc := cX11_start_) (maxL := 2) (ret := (some .int)) (by decide) rfl ?_
  intro p e s m args below meth c s₁ B hml hv
  obtain ⟨rfl, hX, ⟨hP0, hD, hA⟩⟩ := hv
  have hx := B.exec
  have hb := B.bytes
  have hr := B.returns
  have hts := atoms_spec (ws := wsX11_start_) B.pre
  have hown : s.vm.findClass RX11 = some m.cls := findClass_of_methodNamed B.named
  have hlocks := B.notSynchronized
  have hW : pcQ D vwCl (fun _ => False) s.heap NL ad ct s.heap [] := ⟨hP0, va_S.rf⟩
  have hl := lv_entry ([.ref (ad 11 0), .int x1]) (n := 2) (Nat.le_of_ble_eq_true rfl)
  rw [lg_entry_eq]
  generalize (lg_sl ([.ref (ad 11 0), .int x1]) ++ List.replicate (2 - (lg_sl ([.ref (ad 11 0), .int x1])).length) Slot.unset).toArray = ls at hl ⊢
  have hl : lv_has ls 2 [(0, .ref (ad 11 0)), (1, .int x1)] := hl
  refine lv_aload_n hx hb dX11_start__0 rfl (lv_at hl 0 rfl) ?_
  refine lv_iload_n hx hb dX11_start__1 rfl (lv_at hl 1 rfl) ?_
  have hW : pcS D vwCl A s.heap NL ad ct _ _ := ⟨hW.1, hD, vaS_mono hW.2⟩
  refine pc_mcalli (va_runV (As := [.int x1]) (rest := []) ⟨hx, hb, hml, hown, hts⟩ (m_X11_isNoPack l D cA NL ad ct A em th x1 hmM hf ) (cwV 1 hts gX11_start__X11_isNoPack rfl rfl rfl (by decide +kernel) ⟨Nat.le_of_ble_eq_true rfl, Nat.le_of_ble_eq_true rfl⟩) (pc_preV pcN_ok hX hW.1 hmM.1 hf.1 rfl ⟨hW.1, hW.2.1, fun q h => hA q (Nat.le_trans hW.2.2.1 h)⟩) rfl rfl hl.1 rfl (lv_room (Nat.le_of_ble_eq_true rfl)) dX11_start__2 ⟨Nat.le_of_ble_eq_true rfl, Nat.le_of_ble_eq_true rfl⟩) hW.2.2 (fun r203 u204 H locs hwr203 hB hS => ?_)
  obtain ⟨rfl, h205⟩ := hwr203
  have hD := pcD_ct (ct' := u204) hW.2.1
  have hW : pcS D vwCl A s.heap NL ad u204 H locs := ⟨hB, hD, hS⟩
  refine lv_if_ne (tgt := 45) hx hb dX11_start__5 (by decide) (fun _ => ?_) (fun c206 => absurd (by decide) c206)
  refine lv_iconst (v := 0) hx hb dX11_start__45 (by decide) ?_
  refine W.widen (k := 0) (n := 0) (Nat.le_of_ble_eq_true rfl) (Nat.le_of_ble_eq_true rfl) ?_
  exact W.iret (v := 0) hx hb hr (fun t ht hW9 => ⟨⟨0, u204, rfl, ⟨rfl, h205⟩, by rw [ht]; exact hW.1⟩, hW.2.2.F ht⟩) hW.2.2.2.2 dX11_start__46

set_option maxHeartbeats 4000000 in
set_option maxRecDepth 100000 in
theorem m_X11_ofPack (l : Launch) (D : va_G) (cA : Nat → ClassId) (NL : List (Nat × Nat)) (ad : Nat → Nat → Nat) (ct : Nat → Nat → va_E) (A : Nat → Prop)  (em : Nat) (th : Int32) (x1 : Int32) (x2 : Int32) (hmM : inM NL) (hf : frT th ad em ct) : Met l yX11_ofPack wsX11_ofPack ({ frames := 3, cells := 0, slots := 0, locals := 65 }) (pcPre D vwCl (tyL cA) [.ref (ad 11 0), .int x1, .int x2] (fun H => va_P D vwCl (pcW NL ad ct) H ∧ va_D A (pcW NL ad ct) ∧ ∀ q, H.size ≤ q → A q)) (va_Qi (fun (r : Int32) (u : Nat → Nat → va_E) => r = 0 ∧ frT 1 ad em u) (fun u t => va_P D vwCl (pcW NL ad u) t.heap) A) 0 0 A := by
  refine Met.ofW (cc := cX11_ofPack) (maxL := 3) (ret := (some .int)) (by decide) rfl ?_
  intro p e s m args below meth c s₁ B hml hv
  obtain ⟨rfl, hX, ⟨hP0, hD, hA⟩⟩ := hv
  have hx := B.exec
  have hb := B.bytes
  have hr := B.returns
  have hts := atoms_spec (ws := wsX11_ofPack) B.pre
  have hown : s.vm.findClass RX11 = some m.cls := findClass_of_methodNamed B.named
  have hlocks := B.notSynchronized
  have hW : pcQ D vwCl (fun _ => False) s.heap NL ad ct s.heap [] := ⟨hP0, va_S.rf⟩
  have hl := lv_entry ([.ref (ad 11 0), .int x1, .int x2]) (n := 3) (Nat.le_of_ble_eq_true rfl)
  rw [lg_entry_eq]
  generalize (lg_sl ([.ref (ad 11 0), .int x1, .int x2]) ++ List.replicate (3 - (lg_sl ([.ref (ad 11 0), .int x1, .int x2])).length) Slot.unset).toArray = ls at hl ⊢
  have hl : lv_has ls 3 [(0, .ref (ad 11 0)), (1, .int x1), (2, .int x2)] := hl
  refine lv_aload_n hx hb dX11_ofPack_0 rfl (lv_at hl 0 rfl) ?_
  refine lv_iload_n hx hb dX11_ofPack_1 rfl (lv_at hl 1 rfl) ?_
  have hW : pcS D vwCl A s.heap NL ad ct _ _ := ⟨hW.1, hD, vaS_mono hW.2⟩
  refine pc_mcalli (va_runV (As := [.int x1]) (rest := []) ⟨hx, hb, hml, hown, hts⟩ (m_X11_isNoPack l D cA NL ad ct A em th x1 hmM hf ) (cwV 1 hts gX11_ofPack_X11_isNoPack rfl rfl rfl (by decide +kernel) ⟨Nat.le_of_ble_eq_true rfl, Nat.le_of_ble_eq_true rfl⟩) (pc_preV pcN_ok hX hW.1 hmM.1 hf.1 rfl ⟨hW.1, hW.2.1, fun q h => hA q (Nat.le_trans hW.2.2.1 h)⟩) rfl rfl hl.1 rfl (lv_room (Nat.le_of_ble_eq_true rfl)) dX11_ofPack_2 ⟨Nat.le_of_ble_eq_true rfl, Nat.le_of_ble_eq_true rfl⟩) hW.2.2 (fun r207 u208 H locs hwr207 hB hS => ?_)
  obtain ⟨rfl, h209⟩ := hwr207
  have hD := pcD_ct (ct' := u208) hW.2.1
  have hW : pcS D vwCl A s.heap NL ad u208 H locs := ⟨hB, hD, hS⟩
  refine lv_if_ne (tgt := 31) hx hb dX11_ofPack_5 (by decide) (fun _ => ?_) (fun c210 => absurd (by decide) c210)
  refine lv_iconst (v := 0) hx hb dX11_ofPack_31 (by decide) ?_
  refine lv_goto (tgt := 54) hx hb dX11_ofPack_32 (by decide) ?_
  refine W.widen (k := 0) (n := 0) (Nat.le_of_ble_eq_true rfl) (Nat.le_of_ble_eq_true rfl) ?_
  exact W.iret (v := 0) hx hb hr (fun t ht hW9 => ⟨⟨0, u208, rfl, ⟨rfl, h209⟩, by rw [ht]; exact hW.1⟩, hW.2.2.F ht⟩) hW.2.2.2.2 dX11_ofPack_54

set_option maxHeartbeats 4000000 in
set_option maxRecDepth 100000 in
theorem m_X11_holds (l : Launch) (D : va_G) (cA : Nat → ClassId) (NL : List (Nat × Nat)) (ad : Nat → Nat → Nat) (ct : Nat → Nat → va_E) (A : Nat → Prop)  (em : Nat) (th : Int32) (x1 : Int32) (hmM : inM NL) (hf : frT th ad em ct) : Met l yX11_holds wsX11_holds ({ frames := 2, cells := 0, slots := 0, locals := 44 }) (pcPre D vwCl (tyL cA) [.ref (ad 11 0), .int x1] (fun H => va_P D vwCl (pcW NL ad ct) H ∧ va_D A (pcW NL ad ct) ∧ ∀ q, H.size ≤ q → A q)) (va_Qi (fun (r : Int32) (u : Nat → Nat → va_E) => r = 0 ∧ frT 1 ad em u) (fun u t => va_P D vwCl (pcW NL ad u) t.heap) A) 0 0 A := by
  refine Met.ofW (cc := cX11_holds) (maxL := 2) (ret := (some .boolean)) (by decide) rfl ?_
  intro p e s m args below meth c s₁ B hml hv
  obtain ⟨rfl, hX, ⟨hP0, hD, hA⟩⟩ := hv
  have hx := B.exec
  have hb := B.bytes
  have hr := B.returns
  have hts := atoms_spec (ws := wsX11_holds) B.pre
  have hown : s.vm.findClass RX11 = some m.cls := findClass_of_methodNamed B.named
  have hlocks := B.notSynchronized
  have hW : pcQ D vwCl (fun _ => False) s.heap NL ad ct s.heap [] := ⟨hP0, va_S.rf⟩
  have hl := lv_entry ([.ref (ad 11 0), .int x1]) (n := 2) (Nat.le_of_ble_eq_true rfl)
  rw [lg_entry_eq]
  generalize (lg_sl ([.ref (ad 11 0), .int x1]) ++ List.replicate (2 - (lg_sl ([.ref (ad 11 0), .int x1])).length) Slot.unset).toArray = ls at hl ⊢
  have hl : lv_has ls 2 [(0, .ref (ad 11 0)), (1, .int x1)] := hl
  refine lv_aload_n hx hb dX11_holds_0 rfl (lv_at hl 0 rfl) ?_
  refine lv_iload_n hx hb dX11_holds_1 rfl (lv_at hl 1 rfl) ?_
  refine lv_iconst (v := 0) hx hb dX11_holds_2 (by decide) ?_
  refine lv_aload_n hx hb dX11_holds_3 rfl (lv_at hl 0 rfl) ?_
  refine pc_get (C := RX11) (T := TX11) (N := 2) (ci := 12) hx hb hts (by decide +kernel) hown hX.1 hW.1 11 0 hmM.1 hf.1 rfl 1 (by decide) (hts (.fieldLink RX11 10 "DraftsmanOfficeModel" "office" "LDraftsmanOfficeModel$Office;") (by decide +kernel)) (fun _ h9 => h9) rfl dX11_holds_4 ?_
  refine pc_get (C := RX6) (T := TX6) (N := 10) (ci := 7) hx hb hts (by decide +kernel) hown hX.1 hW.1 6 0 hmM.2.1 hf.2.1 rfl 1 (by decide) (hts (.fieldLink RX11 116 "DraftsmanOfficeModel$Office" "references" "Ljava/util/ArrayList;") (by decide +kernel)) (fun _ h9 => h9) rfl dX11_holds_7 ?_
  refine pc_qcalli (va_runV (As := []) (rest := [.int 0, .int x1, .ref (ad 11 0)]) ⟨hx, hb, hml, hown, hts⟩ (r_Jx4a65c_size_8abf5 l D cA NL ad ct 60 1 em (hmM.2.2 1 (by decide)) (hf.2.2 1 (by decide))) (cwV 0 hts gX11_holds_Jx4a65c_size_8abf5 rfl rfl rfl (by decide +kernel) ⟨Nat.le_of_ble_eq_true rfl, Nat.le_of_ble_eq_true rfl⟩) (pc_preV pcN_ok hX hW.1 (hmM.2.2 1 (by decide)) (hf.2.2 1 (by decide)) rfl hW.1) rfl rfl hl.1 rfl (lv_room (Nat.le_of_ble_eq_true rfl)) dX11_holds_10 ⟨Nat.le_of_ble_eq_true rfl, Nat.le_of_ble_eq_true rfl⟩) hW (fun r211 H locs hwr211 hW => ?_)
  subst hwr211
  refine lv_iconst (v := 1) hx hb dX11_holds_13 (by decide) ?_
  refine lv_isub hx hb dX11_holds_14 ?_
  refine lv_topi (fun a212 ea212 => ?_)
  obtain rfl : a212 = (-1) := ea212.trans (by decide)
  refine pc_qcalli (va_runS (As := [.int x1, .int 0, .int (-1)]) (rest := [.ref (ad 11 0)]) ⟨hx, hb, hml, hown, hts⟩ (r_X11_isIn l D cA NL ad ct x1 0 (-1)) (va_cwS 3 hts gX11_holds_X11_isIn rfl rfl rfl (by decide +kernel) ⟨Nat.le_of_ble_eq_true rfl, Nat.le_of_ble_eq_true rfl⟩) (pc_preS pcN_ok hX hW.1) rfl rfl hl.1 rfl (lv_room (Nat.le_of_ble_eq_true rfl)) dX11_holds_15 ⟨Nat.le_of_ble_eq_true rfl, Nat.le_of_ble_eq_true rfl⟩) hW (fun r213 H locs hwr213 hW => ?_)
  rcases hwr213 with ⟨rfl, b214a, b214b⟩ | ⟨rfl, b214c⟩
  · exact (noIn b214a b214b).elim
  · refine lv_if_ne (tgt := 25) hx hb dX11_holds_18 (by decide) (fun c215 => absurd c215 (by decide)) (fun _ => ?_)
    refine lv_iconst (v := 1) hx hb dX11_holds_21 (by decide) ?_
    refine lv_goto (tgt := 26) hx hb dX11_holds_22 (by decide) ?_
    refine lv_iconst (v := 1) hx hb dX11_holds_26 (by decide) ?_
    have hW : pcS D vwCl A s.heap NL ad ct _ _ := ⟨hW.1, hD, vaS_mono hW.2⟩
    refine pc_mcalli (va_runV (As := [.int 1, .int 1]) (rest := []) ⟨hx, hb, hml, hown, hts⟩ (m_X11_start1 l D cA NL ad ct A em th 1 hmM hf (by decide)) (cwV 2 hts gX11_holds_X11_start rfl rfl rfl (by decide +kernel) ⟨Nat.le_of_ble_eq_true rfl, Nat.le_of_ble_eq_true rfl⟩) (pc_preV pcN_ok hX hW.1 hmM.1 hf.1 rfl ⟨hW.1, hW.2.1, fun q h => hA q (Nat.le_trans hW.2.2.1 h)⟩) rfl rfl hl.1 rfl (lv_room (Nat.le_of_ble_eq_true rfl)) dX11_holds_27 ⟨Nat.le_of_ble_eq_true rfl, Nat.le_of_ble_eq_true rfl⟩) hW.2.2 (fun r216 u217 H locs hwr216 hB hS => ?_)
    obtain ⟨rfl, h218⟩ := hwr216
    have hD := pcD_ct (ct' := u217) hW.2.1
    have hW : pcS D vwCl A s.heap NL ad u217 H locs := ⟨hB, hD, hS⟩
    refine lv_if_ne (tgt := 48) hx hb dX11_holds_30 (by decide) (fun _ => ?_) (fun c219 => absurd (by decide) c219)
    refine lv_iconst (v := 0) hx hb dX11_holds_48 (by decide) ?_
    refine W.widen (k := 0) (n := 0) (Nat.le_of_ble_eq_true rfl) (Nat.le_of_ble_eq_true rfl) ?_
    exact W.zret (v := 0) hx hb hr rfl (fun t ht hW9 => ⟨⟨0, u217, rfl, ⟨rfl, h218⟩, by rw [ht]; exact hW.1⟩, hW.2.2.F ht⟩) hW.2.2.2.2 dX11_holds_49

set_option maxHeartbeats 4000000 in
set_option maxRecDepth 100000 in
theorem m_X11_receive (l : Launch) (D : va_G) (cA : Nat → ClassId) (NL : List (Nat × Nat)) (ad : Nat → Nat → Nat) (ct : Nat → Nat → va_E) (A : Nat → Prop)  (em : Nat) (th : Int32) (x1 : Int32) (x2 : Int32) (hmM : inM NL) (hf : frT th ad em ct) : Met l yX11_receive wsX11_receive ({ frames := 2, cells := 0, slots := 0, locals := 44 }) (pcPre D vwCl (tyL cA) [.ref (ad 11 0), .int x1, .int x2] (fun H => va_P D vwCl (pcW NL ad ct) H ∧ va_D A (pcW NL ad ct) ∧ ∀ q, H.size ≤ q → A q)) (va_Qi (fun (r : Int32) (u : Nat → Nat → va_E) => r = 0 ∧ frT 1 ad em u) (fun u t => va_P D vwCl (pcW NL ad u) t.heap) A) 0 0 A := by
  refine Met.ofW (cc := cX11_receive) (maxL := 3) (ret := (some .int)) (by decide) rfl ?_
  intro p e s m args below meth c s₁ B hml hv
  obtain ⟨rfl, hX, ⟨hP0, hD, hA⟩⟩ := hv
  have hx := B.exec
  have hb := B.bytes
  have hr := B.returns
  have hts := atoms_spec (ws := wsX11_receive) B.pre
  have hown : s.vm.findClass RX11 = some m.cls := findClass_of_methodNamed B.named
  have hlocks := B.notSynchronized
  have hW : pcQ D vwCl (fun _ => False) s.heap NL ad ct s.heap [] := ⟨hP0, va_S.rf⟩
  have hl := lv_entry ([.ref (ad 11 0), .int x1, .int x2]) (n := 3) (Nat.le_of_ble_eq_true rfl)
  rw [lg_entry_eq]
  generalize (lg_sl ([.ref (ad 11 0), .int x1, .int x2]) ++ List.replicate (3 - (lg_sl ([.ref (ad 11 0), .int x1, .int x2])).length) Slot.unset).toArray = ls at hl ⊢
  have hl : lv_has ls 3 [(0, .ref (ad 11 0)), (1, .int x1), (2, .int x2)] := hl
  refine lv_aload_n hx hb dX11_receive_0 rfl (lv_at hl 0 rfl) ?_
  refine lv_iload_n hx hb dX11_receive_1 rfl (lv_at hl 1 rfl) ?_
  refine lv_iconst (v := 0) hx hb dX11_receive_2 (by decide) ?_
  refine lv_aload_n hx hb dX11_receive_3 rfl (lv_at hl 0 rfl) ?_
  refine pc_get (C := RX11) (T := TX11) (N := 2) (ci := 12) hx hb hts (by decide +kernel) hown hX.1 hW.1 11 0 hmM.1 hf.1 rfl 1 (by decide) (hts (.fieldLink RX11 10 "DraftsmanOfficeModel" "office" "LDraftsmanOfficeModel$Office;") (by decide +kernel)) (fun _ h9 => h9) rfl dX11_receive_4 ?_
  refine pc_get (C := RX6) (T := TX6) (N := 10) (ci := 7) hx hb hts (by decide +kernel) hown hX.1 hW.1 6 0 hmM.2.1 hf.2.1 rfl 3 (by decide) (hts (.fieldLink RX11 141 "DraftsmanOfficeModel$Office" "sendings" "Ljava/util/ArrayList;") (by decide +kernel)) (fun _ h9 => h9) rfl dX11_receive_7 ?_
  refine pc_qcalli (va_runV (As := []) (rest := [.int 0, .int x1, .ref (ad 11 0)]) ⟨hx, hb, hml, hown, hts⟩ (r_Jx4a65c_size_8abf5 l D cA NL ad ct 60 3 em (hmM.2.2 3 (by decide)) (hf.2.2 3 (by decide))) (cwV 0 hts gX11_receive_Jx4a65c_size_8abf5 rfl rfl rfl (by decide +kernel) ⟨Nat.le_of_ble_eq_true rfl, Nat.le_of_ble_eq_true rfl⟩) (pc_preV pcN_ok hX hW.1 (hmM.2.2 3 (by decide)) (hf.2.2 3 (by decide)) rfl hW.1) rfl rfl hl.1 rfl (lv_room (Nat.le_of_ble_eq_true rfl)) dX11_receive_10 ⟨Nat.le_of_ble_eq_true rfl, Nat.le_of_ble_eq_true rfl⟩) hW (fun r220 H locs hwr220 hW => ?_)
  subst hwr220
  refine lv_iconst (v := 1) hx hb dX11_receive_13 (by decide) ?_
  refine lv_isub hx hb dX11_receive_14 ?_
  refine lv_topi (fun a221 ea221 => ?_)
  obtain rfl : a221 = (-1) := ea221.trans (by decide)
  refine pc_qcalli (va_runS (As := [.int x1, .int 0, .int (-1)]) (rest := [.ref (ad 11 0)]) ⟨hx, hb, hml, hown, hts⟩ (r_X11_isIn l D cA NL ad ct x1 0 (-1)) (va_cwS 3 hts gX11_receive_X11_isIn rfl rfl rfl (by decide +kernel) ⟨Nat.le_of_ble_eq_true rfl, Nat.le_of_ble_eq_true rfl⟩) (pc_preS pcN_ok hX hW.1) rfl rfl hl.1 rfl (lv_room (Nat.le_of_ble_eq_true rfl)) dX11_receive_15 ⟨Nat.le_of_ble_eq_true rfl, Nat.le_of_ble_eq_true rfl⟩) hW (fun r222 H locs hwr222 hW => ?_)
  rcases hwr222 with ⟨rfl, b223a, b223b⟩ | ⟨rfl, b223c⟩
  · exact (noIn b223a b223b).elim
  · refine lv_if_eq (tgt := 28) hx hb dX11_receive_18 (by decide) (fun _ => ?_) (fun c224 => absurd (by decide) c224)
    refine lv_iconst (v := 1) hx hb dX11_receive_28 (by decide) ?_
    refine lv_goto (tgt := 33) hx hb dX11_receive_29 (by decide) ?_
    refine lv_iconst (v := 1) hx hb dX11_receive_33 (by decide) ?_
    have hW : pcS D vwCl A s.heap NL ad ct _ _ := ⟨hW.1, hD, vaS_mono hW.2⟩
    refine pc_mcalli (va_runV (As := [.int 1, .int 1]) (rest := []) ⟨hx, hb, hml, hown, hts⟩ (m_X11_start1 l D cA NL ad ct A em th 1 hmM hf (by decide)) (cwV 2 hts gX11_receive_X11_start rfl rfl rfl (by decide +kernel) ⟨Nat.le_of_ble_eq_true rfl, Nat.le_of_ble_eq_true rfl⟩) (pc_preV pcN_ok hX hW.1 hmM.1 hf.1 rfl ⟨hW.1, hW.2.1, fun q h => hA q (Nat.le_trans hW.2.2.1 h)⟩) rfl rfl hl.1 rfl (lv_room (Nat.le_of_ble_eq_true rfl)) dX11_receive_34 ⟨Nat.le_of_ble_eq_true rfl, Nat.le_of_ble_eq_true rfl⟩) hW.2.2 (fun r225 u226 H locs hwr225 hB hS => ?_)
    obtain ⟨rfl, h227⟩ := hwr225
    have hD := pcD_ct (ct' := u226) hW.2.1
    have hW : pcS D vwCl A s.heap NL ad u226 H locs := ⟨hB, hD, hS⟩
    refine lv_if_ne (tgt := 65) hx hb dX11_receive_37 (by decide) (fun _ => ?_) (fun c228 => absurd (by decide) c228)
    refine lv_iconst (v := 0) hx hb dX11_receive_65 (by decide) ?_
    refine W.widen (k := 0) (n := 0) (Nat.le_of_ble_eq_true rfl) (Nat.le_of_ble_eq_true rfl) ?_
    exact W.iret (v := 0) hx hb hr (fun t ht hW9 => ⟨⟨0, u226, rfl, ⟨rfl, h227⟩, by rw [ht]; exact hW.1⟩, hW.2.2.F ht⟩) hW.2.2.2.2 dX11_receive_66

set_option maxHeartbeats 4000000 in
set_option maxRecDepth 100000 in
theorem m_X11_has (l : Launch) (D : va_G) (cA : Nat → ClassId) (NL : List (Nat × Nat)) (ad : Nat → Nat → Nat) (ct : Nat → Nat → va_E) (A : Nat → Prop)  (em : Nat) (th : Int32) (x1 : Int32) (x2 : Int32) (hmM : inM NL) (hf : frT th ad em ct) : Met l yX11_has wsX11_has ({ frames := 2, cells := 0, slots := 0, locals := 44 }) (pcPre D vwCl (tyL cA) [.ref (ad 11 0), .int x1, .int x2] (fun H => va_P D vwCl (pcW NL ad ct) H ∧ va_D A (pcW NL ad ct) ∧ ∀ q, H.size ≤ q → A q)) (va_Qi (fun (r : Int32) (u : Nat → Nat → va_E) => r = 0 ∧ frT 1 ad em u) (fun u t => va_P D vwCl (pcW NL ad u) t.heap) A) 0 0 A := by
  refine Met.ofW (cc := cX11_has) (maxL := 3) (ret := (some .int)) (by decide) rfl ?_
  intro p e s m args below meth c s₁ B hml hv
  obtain ⟨rfl, hX, ⟨hP0, hD, hA⟩⟩ := hv
  have hx := B.exec
  have hb := B.bytes
  have hr := B.returns
  have hts := atoms_spec (ws := wsX11_has) B.pre
  have hown : s.vm.findClass RX11 = some m.cls := findClass_of_methodNamed B.named
  have hlocks := B.notSynchronized
  have hW : pcQ D vwCl (fun _ => False) s.heap NL ad ct s.heap [] := ⟨hP0, va_S.rf⟩
  have hl := lv_entry ([.ref (ad 11 0), .int x1, .int x2]) (n := 3) (Nat.le_of_ble_eq_true rfl)
  rw [lg_entry_eq]
  generalize (lg_sl ([.ref (ad 11 0), .int x1, .int x2]) ++ List.replicate (3 - (lg_sl ([.ref (ad 11 0), .int x1, .int x2])).length) Slot.unset).toArray = ls at hl ⊢
  have hl : lv_has ls 3 [(0, .ref (ad 11 0)), (1, .int x1), (2, .int x2)] := hl
  refine lv_aload_n hx hb dX11_has_0 rfl (lv_at hl 0 rfl) ?_
  refine lv_iload_n hx hb dX11_has_1 rfl (lv_at hl 1 rfl) ?_
  refine pc_qcalli (va_runS (As := [.int x1]) (rest := [.ref (ad 11 0)]) ⟨hx, hb, hml, hown, hts⟩ (r_X11_isNoCrew l D cA NL ad ct x1) (va_cwS 1 hts gX11_has_X11_isNoCrew rfl rfl rfl (by decide +kernel) ⟨Nat.le_of_ble_eq_true rfl, Nat.le_of_ble_eq_true rfl⟩) (pc_preS pcN_ok hX hW.1) rfl rfl hl.1 rfl (lv_room (Nat.le_of_ble_eq_true rfl)) dX11_has_2 ⟨Nat.le_of_ble_eq_true rfl, Nat.le_of_ble_eq_true rfl⟩) hW (fun r229 H locs hwr229 hW => ?_)
  rcases hwr229 with ⟨rfl, b230⟩ | ⟨rfl, b230⟩
  · refine lv_if_ne (tgt := 16) hx hb dX11_has_5 (by decide) (fun c231 => absurd c231 (by decide)) (fun _ => ?_)
    refine lv_aload_n hx hb dX11_has_8 rfl (lv_at hl 0 rfl) ?_
    refine lv_iload_n hx hb dX11_has_9 rfl (lv_at hl 2 rfl) ?_
    refine pc_qcalli (va_runV (As := [.int x2]) (rest := [.ref (ad 11 0)]) ⟨hx, hb, hml, hown, hts⟩ (r_X11_isNo l D cA NL ad ct em th x2 hmM hf) (cwV 1 hts gX11_has_X11_isNo rfl rfl rfl (by decide +kernel) ⟨Nat.le_of_ble_eq_true rfl, Nat.le_of_ble_eq_true rfl⟩) (pc_preV pcN_ok hX hW.1 hmM.1 hf.1 rfl hW.1) rfl rfl hl.1 rfl (lv_room (Nat.le_of_ble_eq_true rfl)) dX11_has_10 ⟨Nat.le_of_ble_eq_true rfl, Nat.le_of_ble_eq_true rfl⟩) hW (fun r232 H locs hwr232 hW => ?_)
    subst hwr232
    refine lv_if_eq (tgt := 20) hx hb dX11_has_13 (by decide) (fun c233 => absurd c233 (by decide)) (fun _ => ?_)
    refine lv_iconst (v := 1) hx hb dX11_has_16 (by decide) ?_
    refine lv_goto (tgt := 21) hx hb dX11_has_17 (by decide) ?_
    refine lv_iconst (v := 1) hx hb dX11_has_21 (by decide) ?_
    have hW : pcS D vwCl A s.heap NL ad ct _ _ := ⟨hW.1, hD, vaS_mono hW.2⟩
    refine pc_mcalli (va_runV (As := [.int 1, .int 1]) (rest := []) ⟨hx, hb, hml, hown, hts⟩ (m_X11_start1 l D cA NL ad ct A em th 1 hmM hf (by decide)) (cwV 2 hts gX11_has_X11_start rfl rfl rfl (by decide +kernel) ⟨Nat.le_of_ble_eq_true rfl, Nat.le_of_ble_eq_true rfl⟩) (pc_preV pcN_ok hX hW.1 hmM.1 hf.1 rfl ⟨hW.1, hW.2.1, fun q h => hA q (Nat.le_trans hW.2.2.1 h)⟩) rfl rfl hl.1 rfl (lv_room (Nat.le_of_ble_eq_true rfl)) dX11_has_22 ⟨Nat.le_of_ble_eq_true rfl, Nat.le_of_ble_eq_true rfl⟩) hW.2.2 (fun r234 u235 H locs hwr234 hB hS => ?_)
    obtain ⟨rfl, h236⟩ := hwr234
    have hD := pcD_ct (ct' := u235) hW.2.1
    have hW : pcS D vwCl A s.heap NL ad u235 H locs := ⟨hB, hD, hS⟩
    refine lv_if_eq (tgt := 32) hx hb dX11_has_25 (by decide) (fun c237 => absurd c237 (by decide)) (fun _ => ?_)
    refine lv_iconst (v := 0) hx hb dX11_has_28 (by decide) ?_
    refine lv_goto (tgt := 43) hx hb dX11_has_29 (by decide) ?_
    refine W.widen (k := 0) (n := 0) (Nat.le_of_ble_eq_true rfl) (Nat.le_of_ble_eq_true rfl) ?_
    exact W.iret (v := 0) hx hb hr (fun t ht hW9 => ⟨⟨0, u235, rfl, ⟨rfl, h236⟩, by rw [ht]; exact hW.1⟩, hW.2.2.F ht⟩) hW.2.2.2.2 dX11_has_43
  · refine lv_if_ne (tgt := 16) hx hb dX11_has_5 (by decide) (fun _ => ?_) (fun c238 => absurd (by decide) c238)
    refine lv_iconst (v := 1) hx hb dX11_has_16 (by decide) ?_
    refine lv_goto (tgt := 21) hx hb dX11_has_17 (by decide) ?_
    refine lv_iconst (v := 1) hx hb dX11_has_21 (by decide) ?_
    have hW : pcS D vwCl A s.heap NL ad ct _ _ := ⟨hW.1, hD, vaS_mono hW.2⟩
    refine pc_mcalli (va_runV (As := [.int 1, .int 1]) (rest := []) ⟨hx, hb, hml, hown, hts⟩ (m_X11_start1 l D cA NL ad ct A em th 1 hmM hf (by decide)) (cwV 2 hts gX11_has_X11_start rfl rfl rfl (by decide +kernel) ⟨Nat.le_of_ble_eq_true rfl, Nat.le_of_ble_eq_true rfl⟩) (pc_preV pcN_ok hX hW.1 hmM.1 hf.1 rfl ⟨hW.1, hW.2.1, fun q h => hA q (Nat.le_trans hW.2.2.1 h)⟩) rfl rfl hl.1 rfl (lv_room (Nat.le_of_ble_eq_true rfl)) dX11_has_22 ⟨Nat.le_of_ble_eq_true rfl, Nat.le_of_ble_eq_true rfl⟩) hW.2.2 (fun r239 u240 H locs hwr239 hB hS => ?_)
    obtain ⟨rfl, h241⟩ := hwr239
    have hD := pcD_ct (ct' := u240) hW.2.1
    have hW : pcS D vwCl A s.heap NL ad u240 H locs := ⟨hB, hD, hS⟩
    refine lv_if_eq (tgt := 32) hx hb dX11_has_25 (by decide) (fun c242 => absurd c242 (by decide)) (fun _ => ?_)
    refine lv_iconst (v := 0) hx hb dX11_has_28 (by decide) ?_
    refine lv_goto (tgt := 43) hx hb dX11_has_29 (by decide) ?_
    refine W.widen (k := 0) (n := 0) (Nat.le_of_ble_eq_true rfl) (Nat.le_of_ble_eq_true rfl) ?_
    exact W.iret (v := 0) hx hb hr (fun t ht hW9 => ⟨⟨0, u240, rfl, ⟨rfl, h241⟩, by rw [ht]; exact hW.1⟩, hW.2.2.F ht⟩) hW.2.2.2.2 dX11_has_43

set_option maxHeartbeats 4000000 in
set_option maxRecDepth 100000 in
theorem m_X11_send (l : Launch) (D : va_G) (cA : Nat → ClassId) (NL : List (Nat × Nat)) (ad : Nat → Nat → Nat) (ct : Nat → Nat → va_E) (A : Nat → Prop)  (em : Nat) (th : Int32) (x1 : Int32) (x2 : Int32) (hmM : inM NL) (hf : frT th ad em ct) : Met l yX11_send wsX11_send ({ frames := 2, cells := 0, slots := 0, locals := 44 }) (pcPre D vwCl (tyL cA) [.ref (ad 11 0), .int x1, .int x2] (fun H => va_P D vwCl (pcW NL ad ct) H ∧ va_D A (pcW NL ad ct) ∧ ∀ q, H.size ≤ q → A q)) (va_Qi (fun (r : Int32) (u : Nat → Nat → va_E) => r = 0 ∧ frT 1 ad em u) (fun u t => va_P D vwCl (pcW NL ad u) t.heap) A) 0 0 A := by
  refine Met.ofW (cc := cX11_send) (maxL := 7) (ret := (some .int)) (by decide) rfl ?_
  intro p e s m args below meth c s₁ B hml hv
  obtain ⟨rfl, hX, ⟨hP0, hD, hA⟩⟩ := hv
  have hx := B.exec
  have hb := B.bytes
  have hr := B.returns
  have hts := atoms_spec (ws := wsX11_send) B.pre
  have hown : s.vm.findClass RX11 = some m.cls := findClass_of_methodNamed B.named
  have hlocks := B.notSynchronized
  have hW : pcQ D vwCl (fun _ => False) s.heap NL ad ct s.heap [] := ⟨hP0, va_S.rf⟩
  have hl := lv_entry ([.ref (ad 11 0), .int x1, .int x2]) (n := 7) (Nat.le_of_ble_eq_true rfl)
  rw [lg_entry_eq]
  generalize (lg_sl ([.ref (ad 11 0), .int x1, .int x2]) ++ List.replicate (7 - (lg_sl ([.ref (ad 11 0), .int x1, .int x2])).length) Slot.unset).toArray = ls at hl ⊢
  have hl : lv_has ls 7 [(0, .ref (ad 11 0)), (1, .int x1), (2, .int x2)] := hl
  refine lv_aload_n hx hb dX11_send_0 rfl (lv_at hl 0 rfl) ?_
  refine lv_iload_n hx hb dX11_send_1 rfl (lv_at hl 1 rfl) ?_
  refine lv_iconst (v := 1) hx hb dX11_send_2 (by decide) ?_
  refine lv_bipush (v := 15) hx hb dX11_send_3 (by decide) ?_
  refine pc_qcalli (va_runS (As := [.int x1, .int 1, .int 15]) (rest := [.ref (ad 11 0)]) ⟨hx, hb, hml, hown, hts⟩ (r_X11_isIn l D cA NL ad ct x1 1 15) (va_cwS 3 hts gX11_send_X11_isIn rfl rfl rfl (by decide +kernel) ⟨Nat.le_of_ble_eq_true rfl, Nat.le_of_ble_eq_true rfl⟩) (pc_preS pcN_ok hX hW.1) rfl rfl hl.1 rfl (lv_room (Nat.le_of_ble_eq_true rfl)) dX11_send_5 ⟨Nat.le_of_ble_eq_true rfl, Nat.le_of_ble_eq_true rfl⟩) hW (fun r243 H locs hwr243 hW => ?_)
  rcases hwr243 with ⟨rfl, b244a, b244b⟩ | ⟨rfl, b244c⟩
  · refine lv_if_eq (tgt := 19) hx hb dX11_send_8 (by decide) (fun c245 => absurd c245 (by decide)) (fun _ => ?_)
    refine lv_aload_n hx hb dX11_send_11 rfl (lv_at hl 0 rfl) ?_
    refine lv_iload_n hx hb dX11_send_12 rfl (lv_at hl 2 rfl) ?_
    refine pc_qcalli (va_runV (As := [.int x2]) (rest := [.ref (ad 11 0)]) ⟨hx, hb, hml, hown, hts⟩ (r_X11_isNoSet l D cA NL ad ct em th x2 hmM hf) (cwV 1 hts gX11_send_X11_isNoSet rfl rfl rfl (by decide +kernel) ⟨Nat.le_of_ble_eq_true rfl, Nat.le_of_ble_eq_true rfl⟩) (pc_preV pcN_ok hX hW.1 hmM.1 hf.1 rfl hW.1) rfl rfl hl.1 rfl (lv_room (Nat.le_of_ble_eq_true rfl)) dX11_send_13 ⟨Nat.le_of_ble_eq_true rfl, Nat.le_of_ble_eq_true rfl⟩) hW (fun r246 H locs hwr246 hW => ?_)
    subst hwr246
    refine lv_if_eq (tgt := 23) hx hb dX11_send_16 (by decide) (fun c247 => absurd c247 (by decide)) (fun _ => ?_)
    refine lv_iconst (v := 1) hx hb dX11_send_19 (by decide) ?_
    refine lv_goto (tgt := 24) hx hb dX11_send_20 (by decide) ?_
    refine lv_iconst (v := 1) hx hb dX11_send_24 (by decide) ?_
    have hW : pcS D vwCl A s.heap NL ad ct _ _ := ⟨hW.1, hD, vaS_mono hW.2⟩
    refine pc_mcalli (va_runV (As := [.int 1, .int 1]) (rest := []) ⟨hx, hb, hml, hown, hts⟩ (m_X11_start1 l D cA NL ad ct A em th 1 hmM hf (by decide)) (cwV 2 hts gX11_send_X11_start rfl rfl rfl (by decide +kernel) ⟨Nat.le_of_ble_eq_true rfl, Nat.le_of_ble_eq_true rfl⟩) (pc_preV pcN_ok hX hW.1 hmM.1 hf.1 rfl ⟨hW.1, hW.2.1, fun q h => hA q (Nat.le_trans hW.2.2.1 h)⟩) rfl rfl hl.1 rfl (lv_room (Nat.le_of_ble_eq_true rfl)) dX11_send_25 ⟨Nat.le_of_ble_eq_true rfl, Nat.le_of_ble_eq_true rfl⟩) hW.2.2 (fun r248 u249 H locs hwr248 hB hS => ?_)
    obtain ⟨rfl, h250⟩ := hwr248
    have hD := pcD_ct (ct' := u249) hW.2.1
    have hW : pcS D vwCl A s.heap NL ad u249 H locs := ⟨hB, hD, hS⟩
    refine lv_if_eq (tgt := 33) hx hb dX11_send_28 (by decide) (fun c251 => absurd c251 (by decide)) (fun _ => ?_)
    refine lv_iconst (v := 0) hx hb dX11_send_31 (by decide) ?_
    refine W.widen (k := 0) (n := 0) (Nat.le_of_ble_eq_true rfl) (Nat.le_of_ble_eq_true rfl) ?_
    exact W.iret (v := 0) hx hb hr (fun t ht hW9 => ⟨⟨0, u249, rfl, ⟨rfl, h250⟩, by rw [ht]; exact hW.1⟩, hW.2.2.F ht⟩) hW.2.2.2.2 dX11_send_32
  · refine lv_if_eq (tgt := 19) hx hb dX11_send_8 (by decide) (fun _ => ?_) (fun c252 => absurd (by decide) c252)
    refine lv_iconst (v := 1) hx hb dX11_send_19 (by decide) ?_
    refine lv_goto (tgt := 24) hx hb dX11_send_20 (by decide) ?_
    refine lv_iconst (v := 1) hx hb dX11_send_24 (by decide) ?_
    have hW : pcS D vwCl A s.heap NL ad ct _ _ := ⟨hW.1, hD, vaS_mono hW.2⟩
    refine pc_mcalli (va_runV (As := [.int 1, .int 1]) (rest := []) ⟨hx, hb, hml, hown, hts⟩ (m_X11_start1 l D cA NL ad ct A em th 1 hmM hf (by decide)) (cwV 2 hts gX11_send_X11_start rfl rfl rfl (by decide +kernel) ⟨Nat.le_of_ble_eq_true rfl, Nat.le_of_ble_eq_true rfl⟩) (pc_preV pcN_ok hX hW.1 hmM.1 hf.1 rfl ⟨hW.1, hW.2.1, fun q h => hA q (Nat.le_trans hW.2.2.1 h)⟩) rfl rfl hl.1 rfl (lv_room (Nat.le_of_ble_eq_true rfl)) dX11_send_25 ⟨Nat.le_of_ble_eq_true rfl, Nat.le_of_ble_eq_true rfl⟩) hW.2.2 (fun r253 u254 H locs hwr253 hB hS => ?_)
    obtain ⟨rfl, h255⟩ := hwr253
    have hD := pcD_ct (ct' := u254) hW.2.1
    have hW : pcS D vwCl A s.heap NL ad u254 H locs := ⟨hB, hD, hS⟩
    refine lv_if_eq (tgt := 33) hx hb dX11_send_28 (by decide) (fun c256 => absurd c256 (by decide)) (fun _ => ?_)
    refine lv_iconst (v := 0) hx hb dX11_send_31 (by decide) ?_
    refine W.widen (k := 0) (n := 0) (Nat.le_of_ble_eq_true rfl) (Nat.le_of_ble_eq_true rfl) ?_
    exact W.iret (v := 0) hx hb hr (fun t ht hW9 => ⟨⟨0, u254, rfl, ⟨rfl, h255⟩, by rw [ht]; exact hW.1⟩, hW.2.2.F ht⟩) hW.2.2.2.2 dX11_send_32
