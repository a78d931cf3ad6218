set_option maxHeartbeats 4000000 in
set_option maxRecDepth 100000 in
theorem m_X11_refuse1 (l : Launch) (D : va_G) (cA : Nat → ClassId) (NL : List (Nat × Nat)) (ad : Nat → Nat → Nat) (ct : Nat → Nat → va_E) (A : Nat → Prop)  (em : Nat) (x2 : Int32) (hmM : inM NL) (hf : frT 0 ad em ct) (hw0 : 0 < x2) : Met l yX11_refuse wsX11_refuse ({ frames := 0, cells := 0, slots := 0, locals := 0 }) (pcPre D vwCl (tyL cA) [.ref (ad 11 0), .int 1, .int x2] (fun H => va_P D vwCl (pcW NL ad ct) H ∧ va_D A (pcW NL ad ct) ∧ ∀ q, H.size ≤ q → A q)) (va_Qi (fun (r : Int32) (u : Nat → Nat → va_E) => r = 1 ∧ frT x2 ad em u) (fun u t => va_P D vwCl (pcW NL ad u) t.heap) A) 0 0 A := by
  refine Met.ofW (cc := cX11_refuse) (maxL := 3) (ret := (some .boolean)) (by decide) rfl ?_
  intro p e s m args below meth c s₁ B hml hv
  obtain ⟨rfl, hX, ⟨hP0, hD, hA⟩⟩ := hv
  have hx := B.exec
  have hb := B.bytes
  have hr := B.returns
  have hts := atoms_spec (ws := wsX11_refuse) B.pre
  have hown : s.vm.findClass RX11 = some m.cls := findClass_of_methodNamed B.named
  have hlocks := B.notSynchronized
  have hW : pcQ D vwCl (fun _ => False) s.heap NL ad ct s.heap [] := ⟨hP0, va_S.rf⟩
  have hl := lv_entry ([.ref (ad 11 0), .int 1, .int x2]) (n := 3) (Nat.le_of_ble_eq_true rfl)
  rw [lg_entry_eq]
  generalize (lg_sl ([.ref (ad 11 0), .int 1, .int x2]) ++ List.replicate (3 - (lg_sl ([.ref (ad 11 0), .int 1, .int x2])).length) Slot.unset).toArray = ls at hl ⊢
  have hl : lv_has ls 3 [(0, .ref (ad 11 0)), (1, .int 1), (2, .int x2)] := hl
  refine lv_iload_n hx hb dX11_refuse_0 rfl (lv_at hl 1 rfl) ?_
  refine lv_if_eq (tgt := 16) hx hb dX11_refuse_1 (by decide) (fun c75 => absurd c75 (by decide)) (fun _ => ?_)
  refine lv_aload_n hx hb dX11_refuse_4 rfl (lv_at hl 0 rfl) ?_
  refine pc_get (C := RX11) (T := TX11) (N := 2) (ci := 12) hx hb hts (by decide +kernel) hown hX.1 hW.1 11 0 hmM.1 hf.1 rfl 0 (by decide) (hts (.fieldLink RX11 16 "DraftsmanOfficeModel" "thrown" "I") (by decide +kernel)) (fun _ h9 => h9) rfl dX11_refuse_5 ?_
  refine lv_if_ne (tgt := 16) hx hb dX11_refuse_8 (by decide) (fun c76 => absurd c76 (by decide)) (fun _ => ?_)
  refine lv_aload_n hx hb dX11_refuse_11 rfl (lv_at hl 0 rfl) ?_
  refine lv_iload_n hx hb dX11_refuse_12 rfl (lv_at hl 2 rfl) ?_
  have hW : pcS D vwCl A s.heap NL ad ct _ _ := ⟨hW.1, hD, vaS_mono hW.2⟩
  refine pc_put (C := RX11) (T := TX11) (N := 2) (ci := 12) (ty := .int) hx hb hts (by decide +kernel) tyX11 tyX11_ok nmX11 hown hX.1 hW 11 0 hmM.1 hf.1 rfl 0 (by decide) (hts (.fieldLink RX11 16 "DraftsmanOfficeModel" "thrown" "I") (by decide +kernel)) (fun _ h9 => h9) rfl (by decide +kernel) rfl rfl (Nat.le_of_ble_eq_true rfl) dX11_refuse_13 (fun H locs hW => ?_)
  obtain ⟨ct77, ect77⟩ : ∃ z, z = pcU ct 11 0 (.inr (12, [.int x2, .ref (ad 6 0)])) := ⟨_, rfl⟩
  have hW : pcS D vwCl A s.heap NL ad (pcU ct 11 0 (.inr (12, [.int x2, .ref (ad 6 0)]))) H locs := hW
  rw [← ect77] at hW
  have h78 : frT x2 ad em ct77 := ⟨by rw [ect77]; exact pcU_self _ _ _ _, by rw [ect77]; exact (pcU_k (by decide)).trans hf.2.1, fun j hj => by rw [ect77]; exact (pcU_k (by decide)).trans (hf.2.2 j hj)⟩
  refine lv_aload_n hx hb dX11_refuse_16 rfl (lv_at hl 0 rfl) ?_
  refine pc_get (C := RX11) (T := TX11) (N := 2) (ci := 12) hx hb hts (by decide +kernel) hown hX.1 hW.1 11 0 hmM.1 h78.1 rfl 0 (by decide) (hts (.fieldLink RX11 16 "DraftsmanOfficeModel" "thrown" "I") (by decide +kernel)) (fun _ h9 => h9) rfl dX11_refuse_17 ?_
  refine lv_if_le (tgt := 27) hx hb dX11_refuse_20 (by decide) (fun c79 => absurd c79 (Int32.not_le.mpr hw0)) (fun _ => ?_)
  refine lv_iconst (v := 1) hx hb dX11_refuse_23 (by decide) ?_
  refine lv_goto (tgt := 28) hx hb dX11_refuse_24 (by decide) ?_
  refine W.widen (k := 0) (n := 0) (Nat.le_of_ble_eq_true rfl) (Nat.le_of_ble_eq_true rfl) ?_
  exact W.zret (v := 1) hx hb hr rfl (fun t ht hW9 => ⟨⟨1, ct77, rfl, ⟨rfl, h78⟩, by show va_P _ _ _ t.heap; rw [ht]; exact hW.1⟩, hW.2.2.F ht⟩) hW.2.2.2.2 dX11_refuse_28

set_option maxHeartbeats 4000000 in
set_option maxRecDepth 100000 in
theorem m_X11_refuse0 (l : Launch) (D : va_G) (cA : Nat → ClassId) (NL : List (Nat × Nat)) (ad : Nat → Nat → Nat) (ct : Nat → Nat → va_E) (A : Nat → Prop)  (em : Nat) (x2 : Int32) (hmM : inM NL) (hf : frT 0 ad em ct) : Met l yX11_refuse wsX11_refuse ({ frames := 0, cells := 0, slots := 0, locals := 0 }) (pcPre D vwCl (tyL cA) [.ref (ad 11 0), .int 0, .int x2] (fun H => va_P D vwCl (pcW NL ad ct) H ∧ va_D A (pcW NL ad ct) ∧ ∀ q, H.size ≤ q → A q)) (va_Qi (fun (r : Int32) (u : Nat → Nat → va_E) => r = 0 ∧ frT 0 ad em u) (fun u t => va_P D vwCl (pcW NL ad u) t.heap) A) 0 0 A := by
  refine Met.ofW (cc := cX11_refuse) (maxL := 3) (ret := (some .boolean)) (by decide) rfl ?_
  intro p e s m args below meth c s₁ B hml hv
  obtain ⟨rfl, hX, ⟨hP0, hD, hA⟩⟩ := hv
  have hx := B.exec
  have hb := B.bytes
  have hr := B.returns
  have hts := atoms_spec (ws := wsX11_refuse) B.pre
  have hown : s.vm.findClass RX11 = some m.cls := findClass_of_methodNamed B.named
  have hlocks := B.notSynchronized
  have hW : pcQ D vwCl (fun _ => False) s.heap NL ad ct s.heap [] := ⟨hP0, va_S.rf⟩
  have hl := lv_entry ([.ref (ad 11 0), .int 0, .int x2]) (n := 3) (Nat.le_of_ble_eq_true rfl)
  rw [lg_entry_eq]
  generalize (lg_sl ([.ref (ad 11 0), .int 0, .int x2]) ++ List.replicate (3 - (lg_sl ([.ref (ad 11 0), .int 0, .int x2])).length) Slot.unset).toArray = ls at hl ⊢
  have hl : lv_has ls 3 [(0, .ref (ad 11 0)), (1, .int 0), (2, .int x2)] := hl
  refine lv_iload_n hx hb dX11_refuse_0 rfl (lv_at hl 1 rfl) ?_
  refine lv_if_eq (tgt := 16) hx hb dX11_refuse_1 (by decide) (fun _ => ?_) (fun c80 => absurd (by decide) c80)
  refine lv_aload_n hx hb dX11_refuse_16 rfl (lv_at hl 0 rfl) ?_
  refine pc_get (C := RX11) (T := TX11) (N := 2) (ci := 12) hx hb hts (by decide +kernel) hown hX.1 hW.1 11 0 hmM.1 hf.1 rfl 0 (by decide) (hts (.fieldLink RX11 16 "DraftsmanOfficeModel" "thrown" "I") (by decide +kernel)) (fun _ h9 => h9) rfl dX11_refuse_17 ?_
  refine lv_if_le (tgt := 27) hx hb dX11_refuse_20 (by decide) (fun _ => ?_) (fun c81 => absurd (by decide) c81)
  refine lv_iconst (v := 0) hx hb dX11_refuse_27 (by decide) ?_
  have hW : pcS D vwCl A s.heap NL ad ct _ _ := ⟨hW.1, hD, vaS_mono hW.2⟩
  refine W.widen (k := 0) (n := 0) (Nat.le_of_ble_eq_true rfl) (Nat.le_of_ble_eq_true rfl) ?_
  exact W.zret (v := 0) hx hb hr rfl (fun t ht hW9 => ⟨⟨0, ct, rfl, ⟨rfl, hf⟩, by show va_P _ _ _ t.heap; rw [ht]; exact hW.1⟩, hW.2.2.F ht⟩) hW.2.2.2.2 dX11_refuse_28

set_option maxHeartbeats 4000000 in
set_option maxRecDepth 100000 in
theorem m_X11_start1 (l : Launch) (D : va_G) (cA : Nat → ClassId) (NL : List (Nat × Nat)) (ad : Nat → Nat → Nat) (ct : Nat → Nat → va_E) (A : Nat → Prop)  (em : Nat) (th : Int32) (x2 : Int32) (hmM : inM NL) (hf : frT th ad em ct) (hw0 : 0 < x2) : Met l yX11_start wsX11_start ({ frames := 1, cells := 0, slots := 0, locals := 22 }) (pcPre D vwCl (tyL cA) [.ref (ad 11 0), .int 1, .int x2] (fun H => va_P D vwCl (pcW NL ad ct) H ∧ va_D A (pcW NL ad ct) ∧ ∀ q, H.size ≤ q → A q)) (va_Qi (fun (r : Int32) (u : Nat → Nat → va_E) => r = 1 ∧ frT x2 ad em u) (fun u t => va_P D vwCl (pcW NL ad u) t.heap) A) 0 0 A := by
  refine Met.ofW (cc := cX11_start) (maxL := 3) (ret := (some .boolean)) (by decide) rfl ?_
  intro p e s m args below meth c s₁ B hml hv
  obtain ⟨rfl, hX, ⟨hP0, hD, hA⟩⟩ := hv
  have hx := B.exec
  have hb := B.bytes
  have hr := B.returns
  have hts := atoms_spec (ws := wsX11_start) B.pre
  have hown : s.vm.findClass RX11 = some m.cls := findClass_of_methodNamed B.named
  have hlocks := B.notSynchronized
  have hW : pcQ D vwCl (fun _ => False) s.heap NL ad ct s.heap [] := ⟨hP0, va_S.rf⟩
  have hl := lv_entry ([.ref (ad 11 0), .int 1, .int x2]) (n := 3) (Nat.le_of_ble_eq_true rfl)
  rw [lg_entry_eq]
  generalize (lg_sl ([.ref (ad 11 0), .int 1, .int x2]) ++ List.replicate (3 - (lg_sl ([.ref (ad 11 0), .int 1, .int x2])).length) Slot.unset).toArray = ls at hl ⊢
  have hl : lv_has ls 3 [(0, .ref (ad 11 0)), (1, .int 1), (2, .int x2)] := hl
  refine lv_aload_n hx hb dX11_start_0 rfl (lv_at hl 0 rfl) ?_
  refine lv_iconst (v := 0) hx hb dX11_start_1 (by decide) ?_
  have hW : pcS D vwCl A s.heap NL ad ct _ _ := ⟨hW.1, hD, vaS_mono hW.2⟩
  refine pc_put (C := RX11) (T := TX11) (N := 2) (ci := 12) (ty := .int) hx hb hts (by decide +kernel) tyX11 tyX11_ok nmX11 hown hX.1 hW 11 0 hmM.1 hf.1 rfl 0 (by decide) (hts (.fieldLink RX11 16 "DraftsmanOfficeModel" "thrown" "I") (by decide +kernel)) (fun _ h9 => h9) rfl (by decide +kernel) rfl rfl (Nat.le_of_ble_eq_true rfl) dX11_start_2 (fun H locs hW => ?_)
  obtain ⟨ct82, ect82⟩ : ∃ z, z = pcU ct 11 0 (.inr (12, [.int 0, .ref (ad 6 0)])) := ⟨_, rfl⟩
  have hW : pcS D vwCl A s.heap NL ad (pcU ct 11 0 (.inr (12, [.int 0, .ref (ad 6 0)]))) H locs := hW
  rw [← ect82] at hW
  have h83 : frT 0 ad em ct82 := ⟨by rw [ect82]; exact pcU_self _ _ _ _, by rw [ect82]; exact (pcU_k (by decide)).trans hf.2.1, fun j hj => by rw [ect82]; exact (pcU_k (by decide)).trans (hf.2.2 j hj)⟩
  refine lv_aload_n hx hb dX11_start_5 rfl (lv_at hl 0 rfl) ?_
  refine lv_iload_n hx hb dX11_start_6 rfl (lv_at hl 1 rfl) ?_
  refine lv_iload_n hx hb dX11_start_7 rfl (lv_at hl 2 rfl) ?_
  refine pc_mcalli (va_runV (As := [.int 1, .int x2]) (rest := []) ⟨hx, hb, hml, hown, hts⟩ (m_X11_refuse1 l D cA NL ad ct82 A em x2 hmM h83 hw0) (cwV 2 hts gX11_start_X11_refuse rfl rfl rfl (by decide +kernel) ⟨Nat.le_of_ble_eq_true rfl, Nat.le_of_ble_eq_true rfl⟩) (pc_preV pcN_ok hX hW.1 hmM.1 h83.1 rfl ⟨hW.1, hW.2.1, fun q h => hA q (Nat.le_trans hW.2.2.1 h)⟩) rfl rfl hl.1 rfl (lv_room (Nat.le_of_ble_eq_true rfl)) dX11_start_8 ⟨Nat.le_of_ble_eq_true rfl, Nat.le_of_ble_eq_true rfl⟩) hW.2.2 (fun r84 u85 H locs hwr84 hB hS => ?_)
  obtain ⟨rfl, h86⟩ := hwr84
  have hD := pcD_ct (ct' := u85) hW.2.1
  have hW : pcS D vwCl A s.heap NL ad u85 H locs := ⟨hB, hD, hS⟩
  refine W.widen (k := 0) (n := 0) (Nat.le_of_ble_eq_true rfl) (Nat.le_of_ble_eq_true rfl) ?_
  exact W.zret (v := 1) hx hb hr rfl (fun t ht hW9 => ⟨⟨1, u85, rfl, ⟨rfl, h86⟩, by show va_P _ _ _ t.heap; rw [ht]; exact hW.1⟩, hW.2.2.F ht⟩) hW.2.2.2.2 dX11_start_11

set_option maxHeartbeats 4000000 in
set_option maxRecDepth 100000 in
theorem m_X11_start0 (l : Launch) (D : va_G) (cA : Nat → ClassId) (NL : List (Nat × Nat)) (ad : Nat → Nat → Nat) (ct : Nat → Nat → va_E) (A : Nat → Prop)  (em : Nat) (th : Int32) (x2 : Int32) (hmM : inM NL) (hf : frT th ad em ct) : Met l yX11_start wsX11_start ({ frames := 1, cells := 0, slots := 0, locals := 22 }) (pcPre D vwCl (tyL cA) [.ref (ad 11 0), .int 0, .int x2] (fun H => va_P D vwCl (pcW NL ad ct) H ∧ va_D A (pcW NL ad ct) ∧ ∀ q, H.size ≤ q → A q)) (va_Qi (fun (r : Int32) (u : Nat → Nat → va_E) => r = 0 ∧ frT 0 ad em u) (fun u t => va_P D vwCl (pcW NL ad u) t.heap) A) 0 0 A := by
  refine Met.ofW (cc := cX11_start) (maxL := 3) (ret := (some .boolean)) (by decide) rfl ?_
  intro p e s m args below meth c s₁ B hml hv
  obtain ⟨rfl, hX, ⟨hP0, hD, hA⟩⟩ := hv
  have hx := B.exec
  have hb := B.bytes
  have hr := B.returns
  have hts := atoms_spec (ws := wsX11_start) B.pre
  have hown : s.vm.findClass RX11 = some m.cls := findClass_of_methodNamed B.named
  have hlocks := B.notSynchronized
  have hW : pcQ D vwCl (fun _ => False) s.heap NL ad ct s.heap [] := ⟨hP0, va_S.rf⟩
  have hl := lv_entry ([.ref (ad 11 0), .int 0, .int x2]) (n := 3) (Nat.le_of_ble_eq_true rfl)
  rw [lg_entry_eq]
  generalize (lg_sl ([.ref (ad 11 0), .int 0, .int x2]) ++ List.replicate (3 - (lg_sl ([.ref (ad 11 0), .int 0, .int x2])).length) Slot.unset).toArray = ls at hl ⊢
  have hl : lv_has ls 3 [(0, .ref (ad 11 0)), (1, .int 0), (2, .int x2)] := hl
  refine lv_aload_n hx hb dX11_start_0 rfl (lv_at hl 0 rfl) ?_
  refine lv_iconst (v := 0) hx hb dX11_start_1 (by decide) ?_
  have hW : pcS D vwCl A s.heap NL ad ct _ _ := ⟨hW.1, hD, vaS_mono hW.2⟩
  refine pc_put (C := RX11) (T := TX11) (N := 2) (ci := 12) (ty := .int) hx hb hts (by decide +kernel) tyX11 tyX11_ok nmX11 hown hX.1 hW 11 0 hmM.1 hf.1 rfl 0 (by decide) (hts (.fieldLink RX11 16 "DraftsmanOfficeModel" "thrown" "I") (by decide +kernel)) (fun _ h9 => h9) rfl (by decide +kernel) rfl rfl (Nat.le_of_ble_eq_true rfl) dX11_start_2 (fun H locs hW => ?_)
  obtain ⟨ct87, ect87⟩ : ∃ z, z = pcU ct 11 0 (.inr (12, [.int 0, .ref (ad 6 0)])) := ⟨_, rfl⟩
  have hW : pcS D vwCl A s.heap NL ad (pcU ct 11 0 (.inr (12, [.int 0, .ref (ad 6 0)]))) H locs := hW
  rw [← ect87] at hW
  have h88 : frT 0 ad em ct87 := ⟨by rw [ect87]; exact pcU_self _ _ _ _, by rw [ect87]; exact (pcU_k (by decide)).trans hf.2.1, fun j hj => by rw [ect87]; exact (pcU_k (by decide)).trans (hf.2.2 j hj)⟩
  refine lv_aload_n hx hb dX11_start_5 rfl (lv_at hl 0 rfl) ?_
  refine lv_iload_n hx hb dX11_start_6 rfl (lv_at hl 1 rfl) ?_
  refine lv_iload_n hx hb dX11_start_7 rfl (lv_at hl 2 rfl) ?_
  refine pc_mcalli (va_runV (As := [.int 0, .int x2]) (rest := []) ⟨hx, hb, hml, hown, hts⟩ (m_X11_refuse0 l D cA NL ad ct87 A em x2 hmM h88 ) (cwV 2 hts gX11_start_X11_refuse rfl rfl rfl (by decide +kernel) ⟨Nat.le_of_ble_eq_true rfl, Nat.le_of_ble_eq_true rfl⟩) (pc_preV pcN_ok hX hW.1 hmM.1 h88.1 rfl ⟨hW.1, hW.2.1, fun q h => hA q (Nat.le_trans hW.2.2.1 h)⟩) rfl rfl hl.1 rfl (lv_room (Nat.le_of_ble_eq_true rfl)) dX11_start_8 ⟨Nat.le_of_ble_eq_true rfl, Nat.le_of_ble_eq_true rfl⟩) hW.2.2 (fun r89 u90 H locs hwr89 hB hS => ?_)
  obtain ⟨rfl, h91⟩ := hwr89
  have hD := pcD_ct (ct' := u90) hW.2.1
  have hW : pcS D vwCl A s.heap NL ad u90 H locs := ⟨hB, hD, hS⟩
  refine W.widen (k := 0) (n := 0) (Nat.le_of_ble_eq_true rfl) (Nat.le_of_ble_eq_true rfl) ?_
  exact W.zret (v := 0) hx hb hr rfl (fun t ht hW9 => ⟨⟨0, u90, rfl, ⟨rfl, h91⟩, by show va_P _ _ _ t.heap; rw [ht]; exact hW.1⟩, hW.2.2.F ht⟩) hW.2.2.2.2 dX11_start_11

set_option maxHeartbeats 4000000 in
set_option maxRecDepth 100000 in
theorem r_X11_isNo (l : Launch) (D : va_G) (cA : Nat → ClassId) (NL : List (Nat × Nat)) (ad : Nat → Nat → Nat) (ct : Nat → Nat → va_E)  (em : Nat) (th : Int32) (x1 : Int32) (hmM : inM NL) (hf : frT th ad em ct) : Met l yX11_isNo wsX11_isNo ({ frames := 1, cells := 0, slots := 0, locals := 22 }) (pcPre D vwCl (tyL cA) [.ref (ad 11 0), .int x1] (fun H => va_P D vwCl (pcW NL ad ct) H)) (va_Qi (fun (r : Int32) (_ : Unit) => r = 1) (fun _ _ => True) (fun _ => False)) 0 0 (fun _ => False) := by
  refine Met.ofW (cc := cX11_isNo) (maxL := 2) (ret := (some .boolean)) (by decide) rfl ?_
  intro p e s m args below meth c s₁ B hml hv
  obtain ⟨rfl, hX, hP0⟩ := hv
  have hx := B.exec
  have hb := B.bytes
  have hr := B.returns
  have hts := atoms_spec (ws := wsX11_isNo) B.pre
  have hown : s.vm.findClass RX11 = some m.cls := findClass_of_methodNamed B.named
  have hlocks := B.notSynchronized
  have hW : pcQ D vwCl (fun _ => False) s.heap NL ad ct s.heap [] := ⟨hP0, va_S.rf⟩
  have hl := lv_entry ([.ref (ad 11 0), .int x1]) (n := 2) (Nat.le_of_ble_eq_true rfl)
  rw [lg_entry_eq]
  generalize (lg_sl ([.ref (ad 11 0), .int x1]) ++ List.replicate (2 - (lg_sl ([.ref (ad 11 0), .int x1])).length) Slot.unset).toArray = ls at hl ⊢
  have hl : lv_has ls 2 [(0, .ref (ad 11 0)), (1, .int x1)] := hl
  refine lv_iload_n hx hb dX11_isNo_0 rfl (lv_at hl 1 rfl) ?_
  refine lv_iconst (v := 0) hx hb dX11_isNo_1 (by decide) ?_
  refine lv_aload_n hx hb dX11_isNo_2 rfl (lv_at hl 0 rfl) ?_
  refine pc_get (C := RX11) (T := TX11) (N := 2) (ci := 12) hx hb hts (by decide +kernel) hown hX.1 hW.1 11 0 hmM.1 hf.1 rfl 1 (by decide) (hts (.fieldLink RX11 10 "DraftsmanOfficeModel" "office" "LDraftsmanOfficeModel$Office;") (by decide +kernel)) (fun _ h9 => h9) rfl dX11_isNo_3 ?_
  refine pc_get (C := RX6) (T := TX6) (N := 10) (ci := 7) hx hb hts (by decide +kernel) hown hX.1 hW.1 6 0 hmM.2.1 hf.2.1 rfl 0 (by decide) (hts (.fieldLink RX11 24 "DraftsmanOfficeModel$Office" "sheets" "Ljava/util/ArrayList;") (by decide +kernel)) (fun _ h9 => h9) rfl dX11_isNo_6 ?_
  refine pc_qcalli (va_runV (As := []) (rest := [.int 0, .int x1]) ⟨hx, hb, hml, hown, hts⟩ (r_Jx4a65c_size_8abf5 l D cA NL ad ct 60 0 em (hmM.2.2 0 (by decide)) (hf.2.2 0 (by decide))) (cwV 0 hts gX11_isNo_Jx4a65c_size_8abf5 rfl rfl rfl (by decide +kernel) ⟨Nat.le_of_ble_eq_true rfl, Nat.le_of_ble_eq_true rfl⟩) (pc_preV pcN_ok hX hW.1 (hmM.2.2 0 (by decide)) (hf.2.2 0 (by decide)) rfl hW.1) rfl rfl hl.1 rfl (lv_room (Nat.le_of_ble_eq_true rfl)) dX11_isNo_9 ⟨Nat.le_of_ble_eq_true rfl, Nat.le_of_ble_eq_true rfl⟩) hW (fun r92 H locs hwr92 hW => ?_)
  subst hwr92
  refine lv_iconst (v := 1) hx hb dX11_isNo_12 (by decide) ?_
  refine lv_isub hx hb dX11_isNo_13 ?_
  refine lv_topi (fun a93 ea93 => ?_)
  obtain rfl : a93 = (-1) := ea93.trans (by decide)
  refine pc_qcalli (va_runS (As := [.int x1, .int 0, .int (-1)]) (rest := []) ⟨hx, hb, hml, hown, hts⟩ (r_X11_isIn l D cA NL ad ct x1 0 (-1)) (va_cwS 3 hts gX11_isNo_X11_isIn rfl rfl rfl (by decide +kernel) ⟨Nat.le_of_ble_eq_true rfl, Nat.le_of_ble_eq_true rfl⟩) (pc_preS pcN_ok hX hW.1) rfl rfl hl.1 rfl (lv_room (Nat.le_of_ble_eq_true rfl)) dX11_isNo_14 ⟨Nat.le_of_ble_eq_true rfl, Nat.le_of_ble_eq_true rfl⟩) hW (fun r94 H locs hwr94 hW => ?_)
  rcases hwr94 with ⟨rfl, b95a, b95b⟩ | ⟨rfl, b95c⟩
  · exact (noIn b95a b95b).elim
  · refine lv_if_ne (tgt := 24) hx hb dX11_isNo_17 (by decide) (fun c96 => absurd c96 (by decide)) (fun _ => ?_)
    refine lv_iconst (v := 1) hx hb dX11_isNo_20 (by decide) ?_
    refine lv_goto (tgt := 25) hx hb dX11_isNo_21 (by decide) ?_
    exact W.zret (v := 1) hx hb hr rfl (fun t ht hW9 => ⟨⟨1, (), rfl, rfl, trivial⟩, hW.2.F ht⟩) hW.2.2.2 dX11_isNo_25

set_option maxHeartbeats 4000000 in
set_option maxRecDepth 100000 in
theorem r_X11_isNoSet (l : Launch) (D : va_G) (cA : Nat → ClassId) (NL : List (Nat × Nat)) (ad : Nat → Nat → Nat) (ct : Nat → Nat → va_E)  (em : Nat) (th : Int32) (x1 : Int32) (hmM : inM NL) (hf : frT th ad em ct) : Met l yX11_isNoSet wsX11_isNoSet ({ frames := 1, cells := 0, slots := 0, locals := 20 }) (pcPre D vwCl (tyL cA) [.ref (ad 11 0), .int x1] (fun H => va_P D vwCl (pcW NL ad ct) H)) (va_Qi (fun (r : Int32) (_ : Unit) => r = 1) (fun _ _ => True) (fun _ => False)) 0 0 (fun _ => False) := by
  refine Met.ofW (cc := cX11_isNoSet) (maxL := 2) (ret := (some .boolean)) (by decide) rfl ?_
  intro p e s m args below meth c s₁ B hml hv
  obtain ⟨rfl, hX, hP0⟩ := hv
  have hx := B.exec
  have hb := B.bytes
  have hr := B.returns
  have hts := atoms_spec (ws := wsX11_isNoSet) B.pre
  have hown : s.vm.findClass RX11 = some m.cls := findClass_of_methodNamed B.named
  have hlocks := B.notSynchronized
  have hW : pcQ D vwCl (fun _ => False) s.heap NL ad ct s.heap [] := ⟨hP0, va_S.rf⟩
  have hl := lv_entry ([.ref (ad 11 0), .int x1]) (n := 2) (Nat.le_of_ble_eq_true rfl)
  rw [lg_entry_eq]
  generalize (lg_sl ([.ref (ad 11 0), .int x1]) ++ List.replicate (2 - (lg_sl ([.ref (ad 11 0), .int x1])).length) Slot.unset).toArray = ls at hl ⊢
  have hl : lv_has ls 2 [(0, .ref (ad 11 0)), (1, .int x1)] := hl
  refine lv_iload_n hx hb dX11_isNoSet_0 rfl (lv_at hl 1 rfl) ?_
  refine lv_iconst (v := 1) hx hb dX11_isNoSet_1 (by decide) ?_
  refine lv_icmp_lt (tgt := 21) hx hb dX11_isNoSet_2 (by decide) (fun c97 => ?_) (fun c97 => ?_)
  · refine lv_iconst (v := 1) hx hb dX11_isNoSet_21 (by decide) ?_
    refine lv_goto (tgt := 26) hx hb dX11_isNoSet_22 (by decide) ?_
    exact W.zret (v := 1) hx hb hr rfl (fun t ht hW9 => ⟨⟨1, (), rfl, rfl, trivial⟩, hW.2.F ht⟩) hW.2.2.2 dX11_isNoSet_26
  · refine lv_iload_n hx hb dX11_isNoSet_5 rfl (lv_at hl 1 rfl) ?_
    refine lv_iconst (v := 1) hx hb dX11_isNoSet_6 (by decide) ?_
    refine lv_aload_n hx hb dX11_isNoSet_7 rfl (lv_at hl 0 rfl) ?_
    refine pc_get (C := RX11) (T := TX11) (N := 2) (ci := 12) hx hb hts (by decide +kernel) hown hX.1 hW.1 11 0 hmM.1 hf.1 rfl 1 (by decide) (hts (.fieldLink RX11 10 "DraftsmanOfficeModel" "office" "LDraftsmanOfficeModel$Office;") (by decide +kernel)) (fun _ h9 => h9) rfl dX11_isNoSet_8 ?_
    refine pc_get (C := RX6) (T := TX6) (N := 10) (ci := 7) hx hb hts (by decide +kernel) hown hX.1 hW.1 6 0 hmM.2.1 hf.2.1 rfl 0 (by decide) (hts (.fieldLink RX11 24 "DraftsmanOfficeModel$Office" "sheets" "Ljava/util/ArrayList;") (by decide +kernel)) (fun _ h9 => h9) rfl dX11_isNoSet_11 ?_
    refine pc_qcalli (va_runV (As := []) (rest := [.int 1, .int x1]) ⟨hx, hb, hml, hown, hts⟩ (r_Jx4a65c_size_8abf5 l D cA NL ad ct 60 0 em (hmM.2.2 0 (by decide)) (hf.2.2 0 (by decide))) (cwV 0 hts gX11_isNoSet_Jx4a65c_size_8abf5 rfl rfl rfl (by decide +kernel) ⟨Nat.le_of_ble_eq_true rfl, Nat.le_of_ble_eq_true rfl⟩) (pc_preV pcN_ok hX hW.1 (hmM.2.2 0 (by decide)) (hf.2.2 0 (by decide)) rfl hW.1) rfl rfl hl.1 rfl (lv_room (Nat.le_of_ble_eq_true rfl)) dX11_isNoSet_14 ⟨Nat.le_of_ble_eq_true rfl, Nat.le_of_ble_eq_true rfl⟩) hW (fun r98 H locs hwr98 hW => ?_)
    subst hwr98
    refine lv_ishl hx hb dX11_isNoSet_17 ?_
    refine lv_topi (fun a99 ea99 => ?_)
    obtain rfl : a99 = 1 := ea99.trans (by decide)
    refine lv_icmp_lt (tgt := 25) hx hb dX11_isNoSet_18 (by decide) (fun c100 => absurd c100 (fun h => absurd h c97)) (fun _ => ?_)
    refine lv_iconst (v := 1) hx hb dX11_isNoSet_21 (by decide) ?_
    refine lv_goto (tgt := 26) hx hb dX11_isNoSet_22 (by decide) ?_
    exact W.zret (v := 1) hx hb hr rfl (fun t ht hW9 => ⟨⟨1, (), rfl, rfl, trivial⟩, hW.2.F ht⟩) hW.2.2.2 dX11_isNoSet_26

set_option maxHeartbeats 4000000 in
set_option maxRecDepth 100000 in
theorem m_X11_isNoSheet (l : Launch) (D : va_G) (cA : Nat → ClassId) (NL : List (Nat × Nat)) (ad : Nat → Nat → Nat) (ct : Nat → Nat → va_E) (A : Nat → Prop)  (em : Nat) (th : Int32) (x1 : Int32) (hmM : inM NL) (hf : frT th ad em ct) : Met l yX11_isNoSheet wsX11_isNoSheet ({ frames := 2, cells := 0, slots := 0, locals := 44 }) (pcPre D vwCl (tyL cA) [.ref (ad 11 0), .int x1] (fun H => va_P D vwCl (pcW NL ad ct) H ∧ va_D A (pcW NL ad ct) ∧ ∀ q, H.size ≤ q → A q)) (va_Qi (fun (r : Int32) (u : Nat → Nat → va_E) => r = 1 ∧ frT 1 ad em u) (fun u t => va_P D vwCl (pcW NL ad u) t.heap) A) 0 0 A := by
  refine Met.ofW (cc := cX11_isNoSheet) (maxL := 2) (ret := (some .boolean)) (by decide) rfl ?_
  intro p e s m args below meth c s₁ B hml hv
  obtain ⟨rfl, hX, ⟨hP0, hD, hA⟩⟩ := hv
  have hx := B.exec
  have hb := B.bytes
  have hr := B.returns
  have hts := atoms_spec (ws := wsX11_isNoSheet) B.pre
  have hown : s.vm.findClass RX11 = some m.cls := findClass_of_methodNamed B.named
  have hlocks := B.notSynchronized
  have hW : pcQ D vwCl (fun _ => False) s.heap NL ad ct s.heap [] := ⟨hP0, va_S.rf⟩
  have hl := lv_entry ([.ref (ad 11 0), .int x1]) (n := 2) (Nat.le_of_ble_eq_true rfl)
  rw [lg_entry_eq]
  generalize (lg_sl ([.ref (ad 11 0), .int x1]) ++ List.replicate (2 - (lg_sl ([.ref (ad 11 0), .int x1])).length) Slot.unset).toArray = ls at hl ⊢
  have hl : lv_has ls 2 [(0, .ref (ad 11 0)), (1, .int x1)] := hl
  refine lv_aload_n hx hb dX11_isNoSheet_0 rfl (lv_at hl 0 rfl) ?_
  refine lv_aload_n hx hb dX11_isNoSheet_1 rfl (lv_at hl 0 rfl) ?_
  refine lv_iload_n hx hb dX11_isNoSheet_2 rfl (lv_at hl 1 rfl) ?_
  refine pc_qcalli (va_runV (As := [.int x1]) (rest := [.ref (ad 11 0)]) ⟨hx, hb, hml, hown, hts⟩ (r_X11_isNo l D cA NL ad ct em th x1 hmM hf) (cwV 1 hts gX11_isNoSheet_X11_isNo rfl rfl rfl (by decide +kernel) ⟨Nat.le_of_ble_eq_true rfl, Nat.le_of_ble_eq_true rfl⟩) (pc_preV pcN_ok hX hW.1 hmM.1 hf.1 rfl hW.1) rfl rfl hl.1 rfl (lv_room (Nat.le_of_ble_eq_true rfl)) dX11_isNoSheet_3 ⟨Nat.le_of_ble_eq_true rfl, Nat.le_of_ble_eq_true rfl⟩) hW (fun r101 H locs hwr101 hW => ?_)
  subst hwr101
  refine lv_iconst (v := 1) hx hb dX11_isNoSheet_6 (by decide) ?_
  have hW : pcS D vwCl A s.heap NL ad ct _ _ := ⟨hW.1, hD, vaS_mono hW.2⟩
  refine pc_mcalli (va_runV (As := [.int 1, .int 1]) (rest := []) ⟨hx, hb, hml, hown, hts⟩ (m_X11_start1 l D cA NL ad ct A em th 1 hmM hf (by decide)) (cwV 2 hts gX11_isNoSheet_X11_start rfl rfl rfl (by decide +kernel) ⟨Nat.le_of_ble_eq_true rfl, Nat.le_of_ble_eq_true rfl⟩) (pc_preV pcN_ok hX hW.1 hmM.1 hf.1 rfl ⟨hW.1, hW.2.1, fun q h => hA q (Nat.le_trans hW.2.2.1 h)⟩) rfl rfl hl.1 rfl (lv_room (Nat.le_of_ble_eq_true rfl)) dX11_isNoSheet_7 ⟨Nat.le_of_ble_eq_true rfl, Nat.le_of_ble_eq_true rfl⟩) hW.2.2 (fun r102 u103 H locs hwr102 hB hS => ?_)
  obtain ⟨rfl, h104⟩ := hwr102
  have hD := pcD_ct (ct' := u103) hW.2.1
  have hW : pcS D vwCl A s.heap NL ad u103 H locs := ⟨hB, hD, hS⟩
  refine W.widen (k := 0) (n := 0) (Nat.le_of_ble_eq_true rfl) (Nat.le_of_ble_eq_true rfl) ?_
  exact W.zret (v := 1) hx hb hr rfl (fun t ht hW9 => ⟨⟨1, u103, rfl, ⟨rfl, h104⟩, by show va_P _ _ _ t.heap; rw [ht]; exact hW.1⟩, hW.2.2.F ht⟩) hW.2.2.2.2 dX11_isNoSheet_10

set_option maxHeartbeats 4000000 in
set_option maxRecDepth 100000 in
theorem m_X11_isNoQuery (l : Launch) (D : va_G) (cA : Nat → ClassId) (NL : List (Nat × Nat)) (ad : Nat → Nat → Nat) (ct : Nat → Nat → va_E) (A : Nat → Prop)  (em : Nat) (th : Int32) (x1 : Int32) (hmM : inM NL) (hf : frT th ad em ct) : Met l yX11_isNoQuery wsX11_isNoQuery ({ frames := 2, cells := 0, slots := 0, locals := 44 }) (pcPre D vwCl (tyL cA) [.ref (ad 11 0), .int x1] (fun H => va_P D vwCl (pcW NL ad ct) H ∧ va_D A (pcW NL ad ct) ∧ ∀ q, H.size ≤ q → A q)) (va_Qi (fun (r : Int32) (u : Nat → Nat → va_E) => r = 1 ∧ frT 1 ad em u) (fun u t => va_P D vwCl (pcW NL ad u) t.heap) A) 0 0 A := by
  refine Met.ofW (cc := cX11_isNoQuery) (maxL := 2) (ret := (some .boolean)) (by decide) rfl ?_
  intro p e s m args below meth c s₁ B hml hv
  obtain ⟨rfl, hX, ⟨hP0, hD, hA⟩⟩ := hv
  have hx := B.exec
  have hb := B.bytes
  have hr := B.returns
  have hts := atoms_spec (ws := wsX11_isNoQuery) B.pre
  have hown : s.vm.findClass RX11 = some m.cls := findClass_of_methodNamed B.named
  have hlocks := B.notSynchronized
  have hW : pcQ D vwCl (fun _ => False) s.heap NL ad ct s.heap [] := ⟨hP0, va_S.rf⟩
  have hl := lv_entry ([.ref (ad 11 0), .int x1]) (n := 2) (Nat.le_of_ble_eq_true rfl)
  rw [lg_entry_eq]
  generalize (lg_sl ([.ref (ad 11 0), .int x1]) ++ List.replicate (2 - (lg_sl ([.ref (ad 11 0), .int x1])).length) Slot.unset).toArray = ls at hl ⊢
  have hl : lv_has ls 2 [(0, .ref (ad 11 0)), (1, .int x1)] := hl
  refine lv_aload_n hx hb dX11_isNoQuery_0 rfl (lv_at hl 0 rfl) ?_
  refine lv_iload_n hx hb dX11_isNoQuery_1 rfl (lv_at hl 1 rfl) ?_
  refine lv_iconst (v := 0) hx hb dX11_isNoQuery_2 (by decide) ?_
  refine lv_aload_n hx hb dX11_isNoQuery_3 rfl (lv_at hl 0 rfl) ?_
  refine pc_get (C := RX11) (T := TX11) (N := 2) (ci := 12) hx hb hts (by decide +kernel) hown hX.1 hW.1 11 0 hmM.1 hf.1 rfl 1 (by decide) (hts (.fieldLink RX11 10 "DraftsmanOfficeModel" "office" "LDraftsmanOfficeModel$Office;") (by decide +kernel)) (fun _ h9 => h9) rfl dX11_isNoQuery_4 ?_
  refine pc_get (C := RX6) (T := TX6) (N := 10) (ci := 7) hx hb hts (by decide +kernel) hown hX.1 hW.1 6 0 hmM.2.1 hf.2.1 rfl 5 (by decide) (hts (.fieldLink RX11 167 "DraftsmanOfficeModel$Office" "queries" "Ljava/util/ArrayList;") (by decide +kernel)) (fun _ h9 => h9) rfl dX11_isNoQuery_7 ?_
  refine pc_qcalli (va_runV (As := []) (rest := [.int 0, .int x1, .ref (ad 11 0)]) ⟨hx, hb, hml, hown, hts⟩ (r_Jx4a65c_size_8abf5 l D cA NL ad ct 60 4 em (hmM.2.2 4 (by decide)) (hf.2.2 4 (by decide))) (cwV 0 hts gX11_isNoQuery_Jx4a65c_size_8abf5 rfl rfl rfl (by decide +kernel) ⟨Nat.le_of_ble_eq_true rfl, Nat.le_of_ble_eq_true rfl⟩) (pc_preV pcN_ok hX hW.1 (hmM.2.2 4 (by decide)) (hf.2.2 4 (by decide)) rfl hW.1) rfl rfl hl.1 rfl (lv_room (Nat.le_of_ble_eq_true rfl)) dX11_isNoQuery_10 ⟨Nat.le_of_ble_eq_true rfl, Nat.le_of_ble_eq_true rfl⟩) hW (fun r105 H locs hwr105 hW => ?_)
  subst hwr105
  refine lv_iconst (v := 1) hx hb dX11_isNoQuery_13 (by decide) ?_
  refine lv_isub hx hb dX11_isNoQuery_14 ?_
  refine lv_topi (fun a106 ea106 => ?_)
  obtain rfl : a106 = (-1) := ea106.trans (by decide)
  refine pc_qcalli (va_runS (As := [.int x1, .int 0, .int (-1)]) (rest := [.ref (ad 11 0)]) ⟨hx, hb, hml, hown, hts⟩ (r_X11_isIn l D cA NL ad ct x1 0 (-1)) (va_cwS 3 hts gX11_isNoQuery_X11_isIn rfl rfl rfl (by decide +kernel) ⟨Nat.le_of_ble_eq_true rfl, Nat.le_of_ble_eq_true rfl⟩) (pc_preS pcN_ok hX hW.1) rfl rfl hl.1 rfl (lv_room (Nat.le_of_ble_eq_true rfl)) dX11_isNoQuery_15 ⟨Nat.le_of_ble_eq_true rfl, Nat.le_of_ble_eq_true rfl⟩) hW (fun r107 H locs hwr107 hW => ?_)
  rcases hwr107 with ⟨rfl, b108a, b108b⟩ | ⟨rfl, b108c⟩
  · exact (noIn b108a b108b).elim
  · refine lv_if_ne (tgt := 25) hx hb dX11_isNoQuery_18 (by decide) (fun c109 => absurd c109 (by decide)) (fun _ => ?_)
    refine lv_iconst (v := 1) hx hb dX11_isNoQuery_21 (by decide) ?_
    refine lv_goto (tgt := 26) hx hb dX11_isNoQuery_22 (by decide) ?_
    refine lv_iconst (v := 1) hx hb dX11_isNoQuery_26 (by decide) ?_
    have hW : pcS D vwCl A s.heap NL ad ct _ _ := ⟨hW.1, hD, vaS_mono hW.2⟩
    refine pc_mcalli (va_runV (As := [.int 1, .int 1]) (rest := []) ⟨hx, hb, hml, hown, hts⟩ (m_X11_start1 l D cA NL ad ct A em th 1 hmM hf (by decide)) (cwV 2 hts gX11_isNoQuery_X11_start rfl rfl rfl (by decide +kernel) ⟨Nat.le_of_ble_eq_true rfl, Nat.le_of_ble_eq_true rfl⟩) (pc_preV pcN_ok hX hW.1 hmM.1 hf.1 rfl ⟨hW.1, hW.2.1, fun q h => hA q (Nat.le_trans hW.2.2.1 h)⟩) rfl rfl hl.1 rfl (lv_room (Nat.le_of_ble_eq_true rfl)) dX11_isNoQuery_27 ⟨Nat.le_of_ble_eq_true rfl, Nat.le_of_ble_eq_true rfl⟩) hW.2.2 (fun r110 u111 H locs hwr110 hB hS => ?_)
    obtain ⟨rfl, h112⟩ := hwr110
    have hD := pcD_ct (ct' := u111) hW.2.1
    have hW : pcS D vwCl A s.heap NL ad u111 H locs := ⟨hB, hD, hS⟩
    refine W.widen (k := 0) (n := 0) (Nat.le_of_ble_eq_true rfl) (Nat.le_of_ble_eq_true rfl) ?_
    exact W.zret (v := 1) hx hb hr rfl (fun t ht hW9 => ⟨⟨1, u111, rfl, ⟨rfl, h112⟩, by show va_P _ _ _ t.heap; rw [ht]; exact hW.1⟩, hW.2.2.F ht⟩) hW.2.2.2.2 dX11_isNoQuery_30

set_option maxHeartbeats 4000000 in
set_option maxRecDepth 100000 in
theorem m_X11_isNoPack (l : Launch) (D : va_G) (cA : Nat → ClassId) (NL : List (Nat × Nat)) (ad : Nat → Nat → Nat) (ct : Nat → Nat → va_E) (A : Nat → Prop)  (em : Nat) (th : Int32) (x1 : Int32) (hmM : inM NL) (hf : frT th ad em ct) : Met l yX11_isNoPack wsX11_isNoPack ({ frames := 2, cells := 0, slots := 0, locals := 44 }) (pcPre D vwCl (tyL cA) [.ref (ad 11 0), .int x1] (fun H => va_P D vwCl (pcW NL ad ct) H ∧ va_D A (pcW NL ad ct) ∧ ∀ q, H.size ≤ q → A q)) (va_Qi (fun (r : Int32) (u : Nat → Nat → va_E) => r = 1 ∧ frT 1 ad em u) (fun u t => va_P D vwCl (pcW NL ad u) t.heap) A) 0 0 A := by
  refine Met.ofW (cc := cX11_isNoPack) (maxL := 2) (ret := (some .boolean)) (by decide) rfl ?_
  intro p e s m args below meth c s₁ B hml hv
  obtain ⟨rfl, hX, ⟨hP0, hD, hA⟩⟩ := hv
  have hx := B.exec
  have hb := B.bytes
  have hr := B.returns
  have hts := atoms_spec (ws := wsX11_isNoPack) B.pre
  have hown : s.vm.findClass RX11 = some m.cls := findClass_of_methodNamed B.named
  have hlocks := B.notSynchronized
  have hW : pcQ D vwCl (fun _ => False) s.heap NL ad ct s.heap [] := ⟨hP0, va_S.rf⟩
  have hl := lv_entry ([.ref (ad 11 0), .int x1]) (n := 2) (Nat.le_of_ble_eq_true rfl)
  rw [lg_entry_eq]
  generalize (lg_sl ([.ref (ad 11 0), .int x1]) ++ List.replicate (2 - (lg_sl ([.ref (ad 11 0), .int x1])).length) Slot.unset).toArray = ls at hl ⊢
  have hl : lv_has ls 2 [(0, .ref (ad 11 0)), (1, .int x1)] := hl
  refine lv_aload_n hx hb dX11_isNoPack_0 rfl (lv_at hl 0 rfl) ?_
  refine lv_iload_n hx hb dX11_isNoPack_1 rfl (lv_at hl 1 rfl) ?_
  refine lv_iconst (v := 0) hx hb dX11_isNoPack_2 (by decide) ?_
  refine lv_aload_n hx hb dX11_isNoPack_3 rfl (lv_at hl 0 rfl) ?_
  refine pc_get (C := RX11) (T := TX11) (N := 2) (ci := 12) hx hb hts (by decide +kernel) hown hX.1 hW.1 11 0 hmM.1 hf.1 rfl 1 (by decide) (hts (.fieldLink RX11 10 "DraftsmanOfficeModel" "office" "LDraftsmanOfficeModel$Office;") (by decide +kernel)) (fun _ h9 => h9) rfl dX11_isNoPack_4 ?_
  refine pc_get (C := RX6) (T := TX6) (N := 10) (ci := 7) hx hb hts (by decide +kernel) hown hX.1 hW.1 6 0 hmM.2.1 hf.2.1 rfl 8 (by decide) (hts (.fieldLink RX11 193 "DraftsmanOfficeModel$Office" "packs" "Ljava/util/ArrayList;") (by decide +kernel)) (fun _ h9 => h9) rfl dX11_isNoPack_7 ?_
  refine pc_qcalli (va_runV (As := []) (rest := [.int 0, .int x1, .ref (ad 11 0)]) ⟨hx, hb, hml, hown, hts⟩ (r_Jx4a65c_size_8abf5 l D cA NL ad ct 60 6 em (hmM.2.2 6 (by decide)) (hf.2.2 6 (by decide))) (cwV 0 hts gX11_isNoPack_Jx4a65c_size_8abf5 rfl rfl rfl (by decide +kernel) ⟨Nat.le_of_ble_eq_true rfl, Nat.le_of_ble_eq_true rfl⟩) (pc_preV pcN_ok hX hW.1 (hmM.2.2 6 (by decide)) (hf.2.2 6 (by decide)) rfl hW.1) rfl rfl hl.1 rfl (lv_room (Nat.le_of_ble_eq_true rfl)) dX11_isNoPack_10 ⟨Nat.le_of_ble_eq_true rfl, Nat.le_of_ble_eq_true rfl⟩) hW (fun r113 H locs hwr113 hW => ?_)
  subst hwr113
  refine lv_iconst (v := 1) hx hb dX11_isNoPack_13 (by decide) ?_
  refine lv_isub hx hb dX11_isNoPack_14 ?_
  refine lv_topi (fun a114 ea114 => ?_)
  obtain rfl : a114 = (-1) := ea114.trans (by decide)
  refine pc_qcalli (va_runS (As := [.int x1, .int 0, .int (-1)]) (rest := [.ref (ad 11 0)]) ⟨hx, hb, hml, hown, hts⟩ (r_X11_isIn l D cA NL ad ct x1 0 (-1)) (va_cwS 3 hts gX11_isNoPack_X11_isIn rfl rfl rfl (by decide +kernel) ⟨Nat.le_of_ble_eq_true rfl, Nat.le_of_ble_eq_true rfl⟩) (pc_preS pcN_ok hX hW.1) rfl rfl hl.1 rfl (lv_room (Nat.le_of_ble_eq_true rfl)) dX11_isNoPack_15 ⟨Nat.le_of_ble_eq_true rfl, Nat.le_of_ble_eq_true rfl⟩) hW (fun r115 H locs hwr115 hW => ?_)
  rcases hwr115 with ⟨rfl, b116a, b116b⟩ | ⟨rfl, b116c⟩
  · exact (noIn b116a b116b).elim
  · refine lv_if_ne (tgt := 25) hx hb dX11_isNoPack_18 (by decide) (fun c117 => absurd c117 (by decide)) (fun _ => ?_)
    refine lv_iconst (v := 1) hx hb dX11_isNoPack_21 (by decide) ?_
    refine lv_goto (tgt := 26) hx hb dX11_isNoPack_22 (by decide) ?_
    refine lv_iconst (v := 1) hx hb dX11_isNoPack_26 (by decide) ?_
    have hW : pcS D vwCl A s.heap NL ad ct _ _ := ⟨hW.1, hD, vaS_mono hW.2⟩
    refine pc_mcalli (va_runV (As := [.int 1, .int 1]) (rest := []) ⟨hx, hb, hml, hown, hts⟩ (m_X11_start1 l D cA NL ad ct A em th 1 hmM hf (by decide)) (cwV 2 hts gX11_isNoPack_X11_start rfl rfl rfl (by decide +kernel) ⟨Nat.le_of_ble_eq_true rfl, Nat.le_of_ble_eq_true rfl⟩) (pc_preV pcN_ok hX hW.1 hmM.1 hf.1 rfl ⟨hW.1, hW.2.1, fun q h => hA q (Nat.le_trans hW.2.2.1 h)⟩) rfl rfl hl.1 rfl (lv_room (Nat.le_of_ble_eq_true rfl)) dX11_isNoPack_27 ⟨Nat.le_of_ble_eq_true rfl, Nat.le_of_ble_eq_true rfl⟩) hW.2.2 (fun r118 u119 H locs hwr118 hB hS => ?_)
    obtain ⟨rfl, h120⟩ := hwr118
    have hD := pcD_ct (ct' := u119) hW.2.1
    have hW : pcS D vwCl A s.heap NL ad u119 H locs := ⟨hB, hD, hS⟩
    refine W.widen (k := 0) (n := 0) (Nat.le_of_ble_eq_true rfl) (Nat.le_of_ble_eq_true rfl) ?_
    exact W.zret (v := 1) hx hb hr rfl (fun t ht hW9 => ⟨⟨1, u119, rfl, ⟨rfl, h120⟩, by show va_P _ _ _ t.heap; rw [ht]; exact hW.1⟩, hW.2.2.F ht⟩) hW.2.2.2.2 dX11_isNoPack_30

set_option maxHeartbeats 4000000 in
set_option maxRecDepth 100000 in
theorem m_X11_isNoPair (l : Launch) (D : va_G) (cA : Nat → ClassId) (NL : List (Nat × Nat)) (ad : Nat → Nat → Nat) (ct : Nat → Nat → va_E) (A : Nat → Prop)  (em : Nat) (th : Int32) (x1 : Int32) (x2 : Int32) (hmM : inM NL) (hf : frT th ad em ct) : Met l yX11_isNoPair wsX11_isNoPair ({ frames := 2, cells := 0, slots := 0, locals := 44 }) (pcPre D vwCl (tyL cA) [.ref (ad 11 0), .int x1, .int x2] (fun H => va_P D vwCl (pcW NL ad ct) H ∧ va_D A (pcW NL ad ct) ∧ ∀ q, H.size ≤ q → A q)) (va_Qi (fun (r : Int32) (u : Nat → Nat → va_E) => r = 1 ∧ frT 1 ad em u) (fun u t => va_P D vwCl (pcW NL ad u) t.heap) A) 0 0 A := by
  refine Met.ofW (cc := cX11_isNoPair) (maxL := 3) (ret := (some .boolean)) (by decide) rfl ?_
  intro p e s m args below meth c s₁ B hml hv
  obtain ⟨rfl, hX, ⟨hP0, hD, hA⟩⟩ := hv
  have hx := B.exec
  have hb := B.bytes
  have hr := B.returns
  have hts := atoms_spec (ws := wsX11_isNoPair) B.pre
  have hown : s.vm.findClass RX11 = some m.cls := findClass_of_methodNamed B.named
  have hlocks := B.notSynchronized
  have hW : pcQ D vwCl (fun _ => False) s.heap NL ad ct s.heap [] := ⟨hP0, va_S.rf⟩
  have hl := lv_entry ([.ref (ad 11 0), .int x1, .int x2]) (n := 3) (Nat.le_of_ble_eq_true rfl)
  rw [lg_entry_eq]
  generalize (lg_sl ([.ref (ad 11 0), .int x1, .int x2]) ++ List.replicate (3 - (lg_sl ([.ref (ad 11 0), .int x1, .int x2])).length) Slot.unset).toArray = ls at hl ⊢
  have hl : lv_has ls 3 [(0, .ref (ad 11 0)), (1, .int x1), (2, .int x2)] := hl
  refine lv_aload_n hx hb dX11_isNoPair_0 rfl (lv_at hl 0 rfl) ?_
  refine lv_aload_n hx hb dX11_isNoPair_1 rfl (lv_at hl 0 rfl) ?_
  refine lv_iload_n hx hb dX11_isNoPair_2 rfl (lv_at hl 1 rfl) ?_
  refine pc_qcalli (va_runV (As := [.int x1]) (rest := [.ref (ad 11 0)]) ⟨hx, hb, hml, hown, hts⟩ (r_X11_isNo l D cA NL ad ct em th x1 hmM hf) (cwV 1 hts gX11_isNoPair_X11_isNo rfl rfl rfl (by decide +kernel) ⟨Nat.le_of_ble_eq_true rfl, Nat.le_of_ble_eq_true rfl⟩) (pc_preV pcN_ok hX hW.1 hmM.1 hf.1 rfl hW.1) rfl rfl hl.1 rfl (lv_room (Nat.le_of_ble_eq_true rfl)) dX11_isNoPair_3 ⟨Nat.le_of_ble_eq_true rfl, Nat.le_of_ble_eq_true rfl⟩) hW (fun r121 H locs hwr121 hW => ?_)
  subst hwr121
  refine lv_if_ne (tgt := 17) hx hb dX11_isNoPair_6 (by decide) (fun _ => ?_) (fun c122 => absurd c122 (by decide))
  refine lv_iconst (v := 1) hx hb dX11_isNoPair_17 (by decide) ?_
  refine lv_goto (tgt := 22) hx hb dX11_isNoPair_18 (by decide) ?_
  refine lv_iconst (v := 1) hx hb dX11_isNoPair_22 (by decide) ?_
  have hW : pcS D vwCl A s.heap NL ad ct _ _ := ⟨hW.1, hD, vaS_mono hW.2⟩
  refine pc_mcalli (va_runV (As := [.int 1, .int 1]) (rest := []) ⟨hx, hb, hml, hown, hts⟩ (m_X11_start1 l D cA NL ad ct A em th 1 hmM hf (by decide)) (cwV 2 hts gX11_isNoPair_X11_start rfl rfl rfl (by decide +kernel) ⟨Nat.le_of_ble_eq_true rfl, Nat.le_of_ble_eq_true rfl⟩) (pc_preV pcN_ok hX hW.1 hmM.1 hf.1 rfl ⟨hW.1, hW.2.1, fun q h => hA q (Nat.le_trans hW.2.2.1 h)⟩) rfl rfl hl.1 rfl (lv_room (Nat.le_of_ble_eq_true rfl)) dX11_isNoPair_23 ⟨Nat.le_of_ble_eq_true rfl, Nat.le_of_ble_eq_true rfl⟩) hW.2.2 (fun r123 u124 H locs hwr123 hB hS => ?_)
  obtain ⟨rfl, h125⟩ := hwr123
  have hD := pcD_ct (ct' := u124) hW.2.1
  have hW : pcS D vwCl A s.heap NL ad u124 H locs := ⟨hB, hD, hS⟩
  refine lv_if_ne (tgt := 47) hx hb dX11_isNoPair_26 (by decide) (fun _ => ?_) (fun c126 => absurd c126 (by decide))
  refine lv_iconst (v := 1) hx hb dX11_isNoPair_47 (by decide) ?_
  refine lv_goto (tgt := 52) hx hb dX11_isNoPair_48 (by decide) ?_
  refine W.widen (k := 0) (n := 0) (Nat.le_of_ble_eq_true rfl) (Nat.le_of_ble_eq_true rfl) ?_
  exact W.zret (v := 1) hx hb hr rfl (fun t ht hW9 => ⟨⟨1, u124, rfl, ⟨rfl, h125⟩, by show va_P _ _ _ t.heap; rw [ht]; exact hW.1⟩, hW.2.2.F ht⟩) hW.2.2.2.2 dX11_isNoPair_52

set_option maxHeartbeats 4000000 in
set_option maxRecDepth 100000 in
theorem m_X11_draw (l : Launch) (D : va_G) (cA : Nat → ClassId) (NL : List (Nat × Nat)) (ad : Nat → Nat → Nat) (ct : Nat → Nat → va_E) (A : Nat → Prop)  (em : Nat) (th : Int32) (x1 : Int32) (x2 : Int32) (x3 : Int32) (x4 : Int32) (x5 : Int32) (x6 : Int32) (hmM : inM NL) (hf : frT th ad em ct) : Met l yX11_draw wsX11_draw ({ frames := 3, cells := 0, slots := 0, locals := 65 }) (pcPre D vwCl (tyL cA) [.ref (ad 11 0), .int x1, .int x2, .int x3, .int x4, .int x5, .int x6] (fun H => va_P D vwCl (pcW NL ad ct) H ∧ va_D A (pcW NL ad ct) ∧ ∀ q, H.size ≤ q → A q)) (va_Qi (fun (r : Int32) (u : Nat → Nat → va_E) => r = 0 ∧ frT 1 ad em u) (fun u t => va_P D vwCl (pcW NL ad u) t.heap) A) 0 0 A := by
  refine Met.ofW (cc := cX11_draw) (maxL := 7) (ret := (some .int)) (by decide) rfl ?_
  intro p e s m args below meth c s₁ B hml hv
  obtain ⟨rfl, hX, ⟨hP0, hD, hA⟩⟩ := hv
  have hx := B.exec
  have hb := B.bytes
  have hr := B.returns
  have hts := atoms_spec (ws := wsX11_draw) B.pre
  have hown : s.vm.findClass RX11 = some m.cls := findClass_of_methodNamed B.named
  have hlocks := B.notSynchronized
  have hW : pcQ D vwCl (fun _ => False) s.heap NL ad ct s.heap [] := ⟨hP0, va_S.rf⟩
  have hl := lv_entry ([.ref (ad 11 0), .int x1, .int x2, .int x3, .int x4, .int x5, .int x6]) (n := 7) (Nat.le_of_ble_eq_true rfl)
  rw [lg_entry_eq]
  generalize (lg_sl ([.ref (ad 11 0), .int x1, .int x2, .int x3, .int x4, .int x5, .int x6]) ++ List.replicate (7 - (lg_sl ([.ref (ad 11 0), .int x1, .int x2, .int x3, .int x4, .int x5, .int x6])).length) Slot.unset).toArray = ls at hl ⊢
  have hl : lv_has ls 7 [(0, .ref (ad 11 0)), (1, .int x1), (2, .int x2), (3, .int x3), (4, .int x4), (5, .int x5), (6, .int x6)] := hl
  refine lv_aload_n hx hb dX11_draw_0 rfl (lv_at hl 0 rfl) ?_
  refine lv_iload_n hx hb dX11_draw_1 rfl (lv_at hl 1 rfl) ?_
  have hW : pcS D vwCl A s.heap NL ad ct _ _ := ⟨hW.1, hD, vaS_mono hW.2⟩
  refine pc_mcalli (va_runV (As := [.int x1]) (rest := []) ⟨hx, hb, hml, hown, hts⟩ (m_X11_isNoSheet l D cA NL ad ct A em th x1 hmM hf ) (cwV 1 hts gX11_draw_X11_isNoSheet rfl rfl rfl (by decide +kernel) ⟨Nat.le_of_ble_eq_true rfl, Nat.le_of_ble_eq_true rfl⟩) (pc_preV pcN_ok hX hW.1 hmM.1 hf.1 rfl ⟨hW.1, hW.2.1, fun q h => hA q (Nat.le_trans hW.2.2.1 h)⟩) rfl rfl hl.1 rfl (lv_room (Nat.le_of_ble_eq_true rfl)) dX11_draw_2 ⟨Nat.le_of_ble_eq_true rfl, Nat.le_of_ble_eq_true rfl⟩) hW.2.2 (fun r127 u128 H locs hwr127 hB hS => ?_)
  obtain ⟨rfl, h129⟩ := hwr127
  have hD := pcD_ct (ct' := u128) hW.2.1
  have hW : pcS D vwCl A s.heap NL ad u128 H locs := ⟨hB, hD, hS⟩
  refine lv_if_ne (tgt := 72) hx hb dX11_draw_5 (by decide) (fun _ => ?_) (fun c130 => absurd c130 (by decide))
  refine lv_iconst (v := 0) hx hb dX11_draw_72 (by decide) ?_
  refine W.widen (k := 0) (n := 0) (Nat.le_of_ble_eq_true rfl) (Nat.le_of_ble_eq_true rfl) ?_
  exact W.iret (v := 0) hx hb hr (fun t ht hW9 => ⟨⟨0, u128, rfl, ⟨rfl, h129⟩, by show va_P _ _ _ t.heap; rw [ht]; exact hW.1⟩, hW.2.2.F ht⟩) hW.2.2.2.2 dX11_draw_73

set_option maxHeartbeats 4000000 in
set_option maxRecDepth 100000 in
theorem m_X11_revise (l : Launch) (D : va_G) (cA : Nat → ClassId) (NL : List (Nat × Nat)) (ad : Nat → Nat → Nat) (ct : Nat → Nat → va_E) (A : Nat → Prop)  (em : Nat) (th : Int32) (x1 : Int32) (hmM : inM NL) (hf : frT th ad em ct) : Met l yX11_revise wsX11_revise ({ frames := 3, cells := 0, slots := 0, locals := 65 }) (pcPre D vwCl (tyL cA) [.ref (ad 11 0), .int x1] (fun H => va_P D vwCl (pcW NL ad ct) H ∧ va_D A (pcW NL ad ct) ∧ ∀ q, H.size ≤ q → A q)) (va_Qi (fun (r : Int32) (u : Nat → Nat → va_E) => r = 0 ∧ frT 1 ad em u) (fun u t => va_P D vwCl (pcW NL ad u) t.heap) A) 0 0 A := by
  refine Met.ofW (cc := cX11_revise) (maxL := 3) (ret := (some .int)) (by decide) rfl ?_
  intro p e s m args below meth c s₁ B hml hv
  obtain ⟨rfl, hX, ⟨hP0, hD, hA⟩⟩ := hv
  have hx := B.exec
  have hb := B.bytes
  have hr := B.returns
  have hts := atoms_spec (ws := wsX11_revise) B.pre
  have hown : s.vm.findClass RX11 = some m.cls := findClass_of_methodNamed B.named
  have hlocks := B.notSynchronized
  have hW : pcQ D vwCl (fun _ => False) s.heap NL ad ct s.heap [] := ⟨hP0, va_S.rf⟩
  have hl := lv_entry ([.ref (ad 11 0), .int x1]) (n := 3) (Nat.le_of_ble_eq_true rfl)
  rw [lg_entry_eq]
  generalize (lg_sl ([.ref (ad 11 0), .int x1]) ++ List.replicate (3 - (lg_sl ([.ref (ad 11 0), .int x1])).length) Slot.unset).toArray = ls at hl ⊢
  have hl : lv_has ls 3 [(0, .ref (ad 11 0)), (1, .int x1)] := hl
  refine lv_aload_n hx hb dX11_revise_0 rfl (lv_at hl 0 rfl) ?_
  refine lv_iload_n hx hb dX11_revise_1 rfl (lv_at hl 1 rfl) ?_
  have hW : pcS D vwCl A s.heap NL ad ct _ _ := ⟨hW.1, hD, vaS_mono hW.2⟩
  refine pc_mcalli (va_runV (As := [.int x1]) (rest := []) ⟨hx, hb, hml, hown, hts⟩ (m_X11_isNoSheet l D cA NL ad ct A em th x1 hmM hf ) (cwV 1 hts gX11_revise_X11_isNoSheet rfl rfl rfl (by decide +kernel) ⟨Nat.le_of_ble_eq_true rfl, Nat.le_of_ble_eq_true rfl⟩) (pc_preV pcN_ok hX hW.1 hmM.1 hf.1 rfl ⟨hW.1, hW.2.1, fun q h => hA q (Nat.le_trans hW.2.2.1 h)⟩) rfl rfl hl.1 rfl (lv_room (Nat.le_of_ble_eq_true rfl)) dX11_revise_2 ⟨Nat.le_of_ble_eq_true rfl, Nat.le_of_ble_eq_true rfl⟩) hW.2.2 (fun r131 u132 H locs hwr131 hB hS => ?_)
  obtain ⟨rfl, h133⟩ := hwr131
  have hD := pcD_ct (ct' := u132) hW.2.1
  have hW : pcS D vwCl A s.heap NL ad u132 H locs := ⟨hB, hD, hS⟩
  refine lv_if_ne (tgt := 52) hx hb dX11_revise_5 (by decide) (fun _ => ?_) (fun c134 => absurd c134 (by decide))
  refine lv_iconst (v := 0) hx hb dX11_revise_52 (by decide) ?_
  refine W.widen (k := 0) (n := 0) (Nat.le_of_ble_eq_true rfl) (Nat.le_of_ble_eq_true rfl) ?_
  exact W.iret (v := 0) hx hb hr (fun t ht hW9 => ⟨⟨0, u132, rfl, ⟨rfl, h133⟩, by show va_P _ _ _ t.heap; rw [ht]; exact hW.1⟩, hW.2.2.F ht⟩) hW.2.2.2.2 dX11_revise_53

set_option maxHeartbeats 4000000 in
set_option maxRecDepth 100000 in
theorem m_X11_check (l : Launch) (D : va_G) (cA : Nat → ClassId) (NL : List (Nat × Nat)) (ad : Nat → Nat → Nat) (ct : Nat → Nat → va_E) (A : Nat → Prop)  (em : Nat) (th : Int32) (x1 : Int32) (hmM : inM NL) (hf : frT th ad em ct) : Met l yX11_check wsX11_check ({ frames := 3, cells := 0, slots := 0, locals := 65 }) (pcPre D vwCl (tyL cA) [.ref (ad 11 0), .int x1] (fun H => va_P D vwCl (pcW NL ad ct) H ∧ va_D A (pcW NL ad ct) ∧ ∀ q, H.size ≤ q → A q)) (va_Qi (fun (r : Int32) (u : Nat → Nat → va_E) => r = 0 ∧ frT 1 ad em u) (fun u t => va_P D vwCl (pcW NL ad u) t.heap) A) 0 0 A := by
  refine Met.ofW (cc := cX11_check) (maxL := 2) (ret := (some .int)) (by decide) rfl ?_
  intro p e s m args below meth c s₁ B hml hv
  obtain ⟨rfl, hX, ⟨hP0, hD, hA⟩⟩ := hv
  have hx := B.exec
  have hb := B.bytes
  have hr := B.returns
  have hts := atoms_spec (ws := wsX11_check) B.pre
  have hown : s.vm.findClass RX11 = some m.cls := findClass_of_methodNamed B.named
  have hlocks := B.notSynchronized
  have hW : pcQ D vwCl (fun _ => False) s.heap NL ad ct s.heap [] := ⟨hP0, va_S.rf⟩
  have hl := lv_entry ([.ref (ad 11 0), .int x1]) (n := 2) (Nat.le_of_ble_eq_true rfl)
  rw [lg_entry_eq]
  generalize (lg_sl ([.ref (ad 11 0), .int x1]) ++ List.replicate (2 - (lg_sl ([.ref (ad 11 0), .int x1])).length) Slot.unset).toArray = ls at hl ⊢
  have hl : lv_has ls 2 [(0, .ref (ad 11 0)), (1, .int x1)] := hl
  refine lv_aload_n hx hb dX11_check_0 rfl (lv_at hl 0 rfl) ?_
  refine lv_iload_n hx hb dX11_check_1 rfl (lv_at hl 1 rfl) ?_
  have hW : pcS D vwCl A s.heap NL ad ct _ _ := ⟨hW.1, hD, vaS_mono hW.2⟩
  refine pc_mcalli (va_runV (As := [.int x1]) (rest := []) ⟨hx, hb, hml, hown, hts⟩ (m_X11_isNoSheet l D cA NL ad ct A em th x1 hmM hf ) (cwV 1 hts gX11_check_X11_isNoSheet rfl rfl rfl (by decide +kernel) ⟨Nat.le_of_ble_eq_true rfl, Nat.le_of_ble_eq_true rfl⟩) (pc_preV pcN_ok hX hW.1 hmM.1 hf.1 rfl ⟨hW.1, hW.2.1, fun q h => hA q (Nat.le_trans hW.2.2.1 h)⟩) rfl rfl hl.1 rfl (lv_room (Nat.le_of_ble_eq_true rfl)) dX11_check_2 ⟨Nat.le_of_ble_eq_true rfl, Nat.le_of_ble_eq_true rfl⟩) hW.2.2 (fun r135 u136 H locs hwr135 hB hS => ?_)
  obtain ⟨rfl, h137⟩ := hwr135
  have hD := pcD_ct (ct' := u136) hW.2.1
  have hW : pcS D vwCl A s.heap NL ad u136 H locs := ⟨hB, hD, hS⟩
  refine lv_if_ne (tgt := 35) hx hb dX11_check_5 (by decide) (fun _ => ?_) (fun c138 => absurd c138 (by decide))
  refine lv_iconst (v := 0) hx hb dX11_check_35 (by decide) ?_
  refine W.widen (k := 0) (n := 0) (Nat.le_of_ble_eq_true rfl) (Nat.le_of_ble_eq_true rfl) ?_
  exact W.iret (v := 0) hx hb hr (fun t ht hW9 => ⟨⟨0, u136, rfl, ⟨rfl, h137⟩, by show va_P _ _ _ t.heap; rw [ht]; exact hW.1⟩, hW.2.2.F ht⟩) hW.2.2.2.2 dX11_check_36

set_option maxHeartbeats 4000000 in
set_option maxRecDepth 100000 in
theorem m_X11_issue (l : Launch) (D : va_G) (cA : Nat → ClassId) (NL : List (Nat × Nat)) (ad : Nat → Nat → Nat) (ct : Nat → Nat → va_E) (A : Nat → Prop)  (em : Nat) (th : Int32) (x1 : Int32) (hmM : inM NL) (hf : frT th ad em ct) : Met l yX11_issue wsX11_issue ({ frames := 3, cells := 0, slots := 0, locals := 65 }) (pcPre D vwCl (tyL cA) [.ref (ad 11 0), .int x1] (fun H => va_P D vwCl (pcW NL ad ct) H ∧ va_D A (pcW NL ad ct) ∧ ∀ q, H.size ≤ q → A q)) (va_Qi (fun (r : Int32) (u : Nat → Nat → va_E) => r = 0 ∧ frT 1 ad em u) (fun u t => va_P D vwCl (pcW NL ad u) t.heap) A) 0 0 A := by
  refine Met.ofW (cc := cX11_issue) (maxL := 2) (ret := (some .int)) (by decide) rfl ?_
  intro p e s m args below meth c s₁ B hml hv
  obtain ⟨rfl, hX, ⟨hP0, hD, hA⟩⟩ := hv
  have hx := B.exec
  have hb := B.bytes
  have hr := B.returns
  have hts := atoms_spec (ws := wsX11_issue) B.pre
  have hown : s.vm.findClass RX11 = some m.cls := findClass_of_methodNamed B.named
  have hlocks := B.notSynchronized
  have hW : pcQ D vwCl (fun _ => False) s.heap NL ad ct s.heap [] := ⟨hP0, va_S.rf⟩
  have hl := lv_entry ([.ref (ad 11 0), .int x1]) (n := 2) (Nat.le_of_ble_eq_true rfl)
  rw [lg_entry_eq]
  generalize (lg_sl ([.ref (ad 11 0), .int x1]) ++ List.replicate (2 - (lg_sl ([.ref (ad 11 0), .int x1])).length) Slot.unset).toArray = ls at hl ⊢
  have hl : lv_has ls 2 [(0, .ref (ad 11 0)), (1, .int x1)] := hl
  refine lv_aload_n hx hb dX11_issue_0 rfl (lv_at hl 0 rfl) ?_
  refine lv_iload_n hx hb dX11_issue_1 rfl (lv_at hl 1 rfl) ?_
  have hW : pcS D vwCl A s.heap NL ad ct _ _ := ⟨hW.1, hD, vaS_mono hW.2⟩
  refine pc_mcalli (va_runV (As := [.int x1]) (rest := []) ⟨hx, hb, hml, hown, hts⟩ (m_X11_isNoSheet l D cA NL ad ct A em th x1 hmM hf ) (cwV 1 hts gX11_issue_X11_isNoSheet rfl rfl rfl (by decide +kernel) ⟨Nat.le_of_ble_eq_true rfl, Nat.le_of_ble_eq_true rfl⟩) (pc_preV pcN_ok hX hW.1 hmM.1 hf.1 rfl ⟨hW.1, hW.2.1, fun q h => hA q (Nat.le_trans hW.2.2.1 h)⟩) rfl rfl hl.1 rfl (lv_room (Nat.le_of_ble_eq_true rfl)) dX11_issue_2 ⟨Nat.le_of_ble_eq_true rfl, Nat.le_of_ble_eq_true rfl⟩) hW.2.2 (fun r139 u140 H locs hwr139 hB hS => ?_)
  obtain ⟨rfl, h141⟩ := hwr139
  have hD := pcD_ct (ct' := u140) hW.2.1
  have hW : pcS D vwCl A s.heap NL ad u140 H locs := ⟨hB, hD, hS⟩
  refine lv_if_ne (tgt := 32) hx hb dX11_issue_5 (by decide) (fun _ => ?_) (fun c142 => absurd c142 (by decide))
  refine lv_iconst (v := 0) hx hb dX11_issue_32 (by decide) ?_
  refine lv_goto (tgt := 44) hx hb dX11_issue_33 (by decide) ?_
  refine W.widen (k := 0) (n := 0) (Nat.le_of_ble_eq_true rfl) (Nat.le_of_ble_eq_true rfl) ?_
  exact W.iret (v := 0) hx hb hr (fun t ht hW9 => ⟨⟨0, u140, rfl, ⟨rfl, h141⟩, by show va_P _ _ _ t.heap; rw [ht]; exact hW.1⟩, hW.2.2.F ht⟩) hW.2.2.2.2 dX11_issue_44

set_option maxHeartbeats 4000000 in
set_option maxRecDepth 100000 in
theorem m_X11_refer (l : Launch) (D : va_G) (cA : Nat → ClassId) (NL : List (Nat × Nat)) (ad : Nat → Nat → Nat) (ct : Nat → Nat → va_E) (A : Nat → Prop)  (em : Nat) (th : Int32) (x1 : Int32) (x2 : Int32) (x3 : Int32) (hmM : inM NL) (hf : frT th ad em ct) : Met l yX11_refer wsX11_refer ({ frames := 2, cells := 0, slots := 0, locals := 44 }) (pcPre D vwCl (tyL cA) [.ref (ad 11 0), .int x1, .int x2, .int x3] (fun H => va_P D vwCl (pcW NL ad ct) H ∧ va_D A (pcW NL ad ct) ∧ ∀ q, H.size ≤ q → A q)) (va_Qi (fun (r : Int32) (u : Nat → Nat → va_E) => r = 0 ∧ frT 1 ad em u) (fun u t => va_P D vwCl (pcW NL ad u) t.heap) A) 0 0 A := by
  refine Met.ofW (cc := cX11_refer) (maxL := 4) (ret := (some .int)) (by decide) rfl ?_
  intro p e s m args below meth c s₁ B hml hv
  obtain ⟨rfl, hX, ⟨hP0, hD, hA⟩⟩ := hv
  have hx := B.exec
  have hb := B.bytes
  have hr := B.returns
  have hts := atoms_spec (ws := wsX11_refer) B.pre
  have hown : s.vm.findClass RX11 = some m.cls := findClass_of_methodNamed B.named
  have hlocks := B.notSynchronized
  have hW : pcQ D vwCl (fun _ => False) s.heap NL ad ct s.heap [] := ⟨hP0, va_S.rf⟩
  have hl := lv_entry ([.ref (ad 11 0), .int x1, .int x2, .int x3]) (n := 4) (Nat.le_of_ble_eq_true rfl)
  rw [lg_entry_eq]
  generalize (lg_sl ([.ref (ad 11 0), .int x1, .int x2, .int x3]) ++ List.replicate (4 - (lg_sl ([.ref (ad 11 0), .int x1, .int x2, .int x3])).length) Slot.unset).toArray = ls at hl ⊢
  have hl : lv_has ls 4 [(0, .ref (ad 11 0)), (1, .int x1), (2, .int x2), (3, .int x3)] := hl
  refine lv_aload_n hx hb dX11_refer_0 rfl (lv_at hl 0 rfl) ?_
  refine lv_aload_n hx hb dX11_refer_1 rfl (lv_at hl 0 rfl) ?_
  refine lv_iload_n hx hb dX11_refer_2 rfl (lv_at hl 1 rfl) ?_
  refine pc_qcalli (va_runV (As := [.int x1]) (rest := [.ref (ad 11 0)]) ⟨hx, hb, hml, hown, hts⟩ (r_X11_isNo l D cA NL ad ct em th x1 hmM hf) (cwV 1 hts gX11_refer_X11_isNo rfl rfl rfl (by decide +kernel) ⟨Nat.le_of_ble_eq_true rfl, Nat.le_of_ble_eq_true rfl⟩) (pc_preV pcN_ok hX hW.1 hmM.1 hf.1 rfl hW.1) rfl rfl hl.1 rfl (lv_room (Nat.le_of_ble_eq_true rfl)) dX11_refer_3 ⟨Nat.le_of_ble_eq_true rfl, Nat.le_of_ble_eq_true rfl⟩) hW (fun r143 H locs hwr143 hW => ?_)
  subst hwr143
  refine lv_if_ne (tgt := 17) hx hb dX11_refer_6 (by decide) (fun _ => ?_) (fun c144 => absurd c144 (by decide))
  refine lv_iconst (v := 1) hx hb dX11_refer_17 (by decide) ?_
  refine lv_goto (tgt := 22) hx hb dX11_refer_18 (by decide) ?_
  refine lv_iconst (v := 1) hx hb dX11_refer_22 (by decide) ?_
  have hW : pcS D vwCl A s.heap NL ad ct _ _ := ⟨hW.1, hD, vaS_mono hW.2⟩
  refine pc_mcalli (va_runV (As := [.int 1, .int 1]) (rest := []) ⟨hx, hb, hml, hown, hts⟩ (m_X11_start1 l D cA NL ad ct A em th 1 hmM hf (by decide)) (cwV 2 hts gX11_refer_X11_start rfl rfl rfl (by decide +kernel) ⟨Nat.le_of_ble_eq_true rfl, Nat.le_of_ble_eq_true rfl⟩) (pc_preV pcN_ok hX hW.1 hmM.1 hf.1 rfl ⟨hW.1, hW.2.1, fun q h => hA q (Nat.le_trans hW.2.2.1 h)⟩) rfl rfl hl.1 rfl (lv_room (Nat.le_of_ble_eq_true rfl)) dX11_refer_23 ⟨Nat.le_of_ble_eq_true rfl, Nat.le_of_ble_eq_true rfl⟩) hW.2.2 (fun r145 u146 H locs hwr145 hB hS => ?_)
  obtain ⟨rfl, h147⟩ := hwr145
  have hD := pcD_ct (ct' := u146) hW.2.1
  have hW : pcS D vwCl A s.heap NL ad u146 H locs := ⟨hB, hD, hS⟩
  refine lv_if_ne (tgt := 99) hx hb dX11_refer_26 (by decide) (fun _ => ?_) (fun c148 => absurd c148 (by decide))
  refine lv_iconst (v := 0) hx hb dX11_refer_99 (by decide) ?_
  refine W.widen (k := 0) (n := 0) (Nat.le_of_ble_eq_true rfl) (Nat.le_of_ble_eq_true rfl) ?_
  exact W.iret (v := 0) hx hb hr (fun t ht hW9 => ⟨⟨0, u146, rfl, ⟨rfl, h147⟩, by show va_P _ _ _ t.heap; rw [ht]; exact hW.1⟩, hW.2.2.F ht⟩) hW.2.2.2.2 dX11_refer_100

set_option maxHeartbeats 4000000 in
set_option maxRecDepth 100000 in
theorem m_X11_ofSheet (l : Launch) (D : va_G) (cA : Nat → ClassId) (NL : List (Nat × Nat)) (ad : Nat → Nat → Nat) (ct : Nat → Nat → va_E) (A : Nat → Prop)  (em : Nat) (th : Int32) (x1 : Int32) (x2 : Int32) (hmM : inM NL) (hf : frT th ad em ct) : Met l yX11_ofSheet wsX11_ofSheet ({ frames := 3, cells := 0, slots := 0, locals := 65 }) (pcPre D vwCl (tyL cA) [.ref (ad 11 0), .int x1, .int x2] (fun H => va_P D vwCl (pcW NL ad ct) H ∧ va_D A (pcW NL ad ct) ∧ ∀ q, H.size ≤ q → A q)) (va_Qi (fun (r : Int32) (u : Nat → Nat → va_E) => r = 0 ∧ frT 1 ad em u) (fun u t => va_P D vwCl (pcW NL ad u) t.heap) A) 0 0 A := by
  refine Met.ofW (cc := cX11_ofSheet) (maxL := 3) (ret := (some .int)) (by decide) rfl ?_
  intro p e s m args below meth c s₁ B hml hv
  obtain ⟨rfl, hX, ⟨hP0, hD, hA⟩⟩ := hv
  have hx := B.exec
  have hb := B.bytes
  have hr := B.returns
  have hts := atoms_spec (ws := wsX11_ofSheet) B.pre
  have hown : s.vm.findClass RX11 = some m.cls := findClass_of_methodNamed B.named
  have hlocks := B.notSynchronized
  have hW : pcQ D vwCl (fun _ => False) s.heap NL ad ct s.heap [] := ⟨hP0, va_S.rf⟩
  have hl := lv_entry ([.ref (ad 11 0), .int x1, .int x2]) (n := 3) (Nat.le_of_ble_eq_true rfl)
  rw [lg_entry_eq]
  generalize (lg_sl ([.ref (ad 11 0), .int x1, .int x2]) ++ List.replicate (3 - (lg_sl ([.ref (ad 11 0), .int x1, .int x2])).length) Slot.unset).toArray = ls at hl ⊢
  have hl : lv_has ls 3 [(0, .ref (ad 11 0)), (1, .int x1), (2, .int x2)] := hl
  refine lv_aload_n hx hb dX11_ofSheet_0 rfl (lv_at hl 0 rfl) ?_
  refine lv_iload_n hx hb dX11_ofSheet_1 rfl (lv_at hl 1 rfl) ?_
  have hW : pcS D vwCl A s.heap NL ad ct _ _ := ⟨hW.1, hD, vaS_mono hW.2⟩
  refine pc_mcalli (va_runV (As := [.int x1]) (rest := []) ⟨hx, hb, hml, hown, hts⟩ (m_X11_isNoSheet l D cA NL ad ct A em th x1 hmM hf ) (cwV 1 hts gX11_ofSheet_X11_isNoSheet rfl rfl rfl (by decide +kernel) ⟨Nat.le_of_ble_eq_true rfl, Nat.le_of_ble_eq_true rfl⟩) (pc_preV pcN_ok hX hW.1 hmM.1 hf.1 rfl ⟨hW.1, hW.2.1, fun q h => hA q (Nat.le_trans hW.2.2.1 h)⟩) rfl rfl hl.1 rfl (lv_room (Nat.le_of_ble_eq_true rfl)) dX11_ofSheet_2 ⟨Nat.le_of_ble_eq_true rfl, Nat.le_of_ble_eq_true rfl⟩) hW.2.2 (fun r149 u150 H locs hwr149 hB hS => ?_)
  obtain ⟨rfl, h151⟩ := hwr149
  have hD := pcD_ct (ct' := u150) hW.2.1
  have hW : pcS D vwCl A s.heap NL ad u150 H locs := ⟨hB, hD, hS⟩
  refine lv_if_ne (tgt := 31) hx hb dX11_ofSheet_5 (by decide) (fun _ => ?_) (fun c152 => absurd c152 (by decide))
  refine lv_iconst (v := 0) hx hb dX11_ofSheet_31 (by decide) ?_
  refine lv_goto (tgt := 41) hx hb dX11_ofSheet_32 (by decide) ?_
  refine W.widen (k := 0) (n := 0) (Nat.le_of_ble_eq_true rfl) (Nat.le_of_ble_eq_true rfl) ?_
  exact W.iret (v := 0) hx hb hr (fun t ht hW9 => ⟨⟨0, u150, rfl, ⟨rfl, h151⟩, by show va_P _ _ _ t.heap; rw [ht]; exact hW.1⟩, hW.2.2.F ht⟩) hW.2.2.2.2 dX11_ofSheet_41

set_option maxHeartbeats 4000000 in
set_option maxRecDepth 100000 in
theorem m_X11_status (l : Launch) (D : va_G) (cA : Nat → ClassId) (NL : List (Nat × Nat)) (ad : Nat → Nat → Nat) (ct : Nat → Nat → va_E) (A : Nat → Prop)  (em : Nat) (th : Int32) (x1 : Int32) (x2 : Int32) (hmM : inM NL) (hf : frT th ad em ct) : Met l yX11_status wsX11_status ({ frames := 3, cells := 0, slots := 0, locals := 65 }) (pcPre D vwCl (tyL cA) [.ref (ad 11 0), .int x1, .int x2] (fun H => va_P D vwCl (pcW NL ad ct) H ∧ va_D A (pcW NL ad ct) ∧ ∀ q, H.size ≤ q → A q)) (va_Qi (fun (r : Int32) (u : Nat → Nat → va_E) => r = 0 ∧ frT 1 ad em u) (fun u t => va_P D vwCl (pcW NL ad u) t.heap) A) 0 0 A := by
  refine Met.ofW (cc := cX11_status) (maxL := 3) (ret := (some .int)) (by decide) rfl ?_
  intro p e s m args below meth c s₁ B hml hv
  obtain ⟨rfl, hX, ⟨hP0, hD, hA⟩⟩ := hv
  have hx := B.exec
  have hb := B.bytes
  have hr := B.returns
  have hts := atoms_spec (ws := wsX11_status) B.pre
  have hown : s.vm.findClass RX11 = some m.cls := findClass_of_methodNamed B.named
  have hlocks := B.notSynchronized
  have hW : pcQ D vwCl (fun _ => False) s.heap NL ad ct s.heap [] := ⟨hP0, va_S.rf⟩
  have hl := lv_entry ([.ref (ad 11 0), .int x1, .int x2]) (n := 3) (Nat.le_of_ble_eq_true rfl)
  rw [lg_entry_eq]
  generalize (lg_sl ([.ref (ad 11 0), .int x1, .int x2]) ++ List.replicate (3 - (lg_sl ([.ref (ad 11 0), .int x1, .int x2])).length) Slot.unset).toArray = ls at hl ⊢
  have hl : lv_has ls 3 [(0, .ref (ad 11 0)), (1, .int x1), (2, .int x2)] := hl
  refine lv_aload_n hx hb dX11_status_0 rfl (lv_at hl 0 rfl) ?_
  refine lv_iload_n hx hb dX11_status_1 rfl (lv_at hl 1 rfl) ?_
  have hW : pcS D vwCl A s.heap NL ad ct _ _ := ⟨hW.1, hD, vaS_mono hW.2⟩
  refine pc_mcalli (va_runV (As := [.int x1]) (rest := []) ⟨hx, hb, hml, hown, hts⟩ (m_X11_isNoSheet l D cA NL ad ct A em th x1 hmM hf ) (cwV 1 hts gX11_status_X11_isNoSheet rfl rfl rfl (by decide +kernel) ⟨Nat.le_of_ble_eq_true rfl, Nat.le_of_ble_eq_true rfl⟩) (pc_preV pcN_ok hX hW.1 hmM.1 hf.1 rfl ⟨hW.1, hW.2.1, fun q h => hA q (Nat.le_trans hW.2.2.1 h)⟩) rfl rfl hl.1 rfl (lv_room (Nat.le_of_ble_eq_true rfl)) dX11_status_2 ⟨Nat.le_of_ble_eq_true rfl, Nat.le_of_ble_eq_true rfl⟩) hW.2.2 (fun r153 u154 H locs hwr153 hB hS => ?_)
  obtain ⟨rfl, h155⟩ := hwr153
  have hD := pcD_ct (ct' := u154) hW.2.1
  have hW : pcS D vwCl A s.heap NL ad u154 H locs := ⟨hB, hD, hS⟩
  refine lv_if_ne (tgt := 42) hx hb dX11_status_5 (by decide) (fun _ => ?_) (fun c156 => absurd c156 (by decide))
  refine lv_iconst (v := 0) hx hb dX11_status_42 (by decide) ?_
  refine lv_goto (tgt := 64) hx hb dX11_status_43 (by decide) ?_
  refine W.widen (k := 0) (n := 0) (Nat.le_of_ble_eq_true rfl) (Nat.le_of_ble_eq_true rfl) ?_
  exact W.iret (v := 0) hx hb hr (fun t ht hW9 => ⟨⟨0, u154, rfl, ⟨rfl, h155⟩, by show va_P _ _ _ t.heap; rw [ht]; exact hW.1⟩, hW.2.2.F ht⟩) hW.2.2.2.2 dX11_status_64

set_option maxHeartbeats 4000000 in
set_option maxRecDepth 100000 in
theorem m_X11_query (l : Launch) (D : va_G) (cA : Nat → ClassId) (NL : List (Nat × Nat)) (ad : Nat → Nat → Nat) (ct : Nat → Nat → va_E) (A : Nat → Prop)  (em : Nat) (th : Int32) (x1 : Int32) (x2 : Int32) (x3 : Int32) (x4 : Int32) (x5 : Int32) (hmM : inM NL) (hf : frT th ad em ct) : Met l yX11_query wsX11_query ({ frames := 3, cells := 0, slots := 0, locals := 65 }) (pcPre D vwCl (tyL cA) [.ref (ad 11 0), .int x1, .int x2, .int x3, .int x4, .int x5] (fun H => va_P D vwCl (pcW NL ad ct) H ∧ va_D A (pcW NL ad ct) ∧ ∀ q, H.size ≤ q → A q)) (va_Qi (fun (r : Int32) (u : Nat → Nat → va_E) => r = 0 ∧ frT 1 ad em u) (fun u t => va_P D vwCl (pcW NL ad u) t.heap) A) 0 0 A := by
  refine Met.ofW (cc := cX11_query) (maxL := 6) (ret := (some .int)) (by decide) rfl ?_
  intro p e s m args below meth c s₁ B hml hv
  obtain ⟨rfl, hX, ⟨hP0, hD, hA⟩⟩ := hv
  have hx := B.exec
  have hb := B.bytes
  have hr := B.returns
  have hts := atoms_spec (ws := wsX11_query) B.pre
  have hown : s.vm.findClass RX11 = some m.cls := findClass_of_methodNamed B.named
  have hlocks := B.notSynchronized
  have hW : pcQ D vwCl (fun _ => False) s.heap NL ad ct s.heap [] := ⟨hP0, va_S.rf⟩
  have hl := lv_entry ([.ref (ad 11 0), .int x1, .int x2, .int x3, .int x4, .int x5]) (n := 6) (Nat.le_of_ble_eq_true rfl)
  rw [lg_entry_eq]
  generalize (lg_sl ([.ref (ad 11 0), .int x1, .int x2, .int x3, .int x4, .int x5]) ++ List.replicate (6 - (lg_sl ([.ref (ad 11 0), .int x1, .int x2, .int x3, .int x4, .int x5])).length) Slot.unset).toArray = ls at hl ⊢
  have hl : lv_has ls 6 [(0, .ref (ad 11 0)), (1, .int x1), (2, .int x2), (3, .int x3), (4, .int x4), (5, .int x5)] := hl
  refine lv_aload_n hx hb dX11_query_0 rfl (lv_at hl 0 rfl) ?_
  refine lv_iload_n hx hb dX11_query_1 rfl (lv_at hl 1 rfl) ?_
  have hW : pcS D vwCl A s.heap NL ad ct _ _ := ⟨hW.1, hD, vaS_mono hW.2⟩
  refine pc_mcalli (va_runV (As := [.int x1]) (rest := []) ⟨hx, hb, hml, hown, hts⟩ (m_X11_isNoSheet l D cA NL ad ct A em th x1 hmM hf ) (cwV 1 hts gX11_query_X11_isNoSheet rfl rfl rfl (by decide +kernel) ⟨Nat.le_of_ble_eq_true rfl, Nat.le_of_ble_eq_true rfl⟩) (pc_preV pcN_ok hX hW.1 hmM.1 hf.1 rfl ⟨hW.1, hW.2.1, fun q h => hA q (Nat.le_trans hW.2.2.1 h)⟩) rfl rfl hl.1 rfl (lv_room (Nat.le_of_ble_eq_true rfl)) dX11_query_2 ⟨Nat.le_of_ble_eq_true rfl, Nat.le_of_ble_eq_true rfl⟩) hW.2.2 (fun r157 u158 H locs hwr157 hB hS => ?_)
  obtain ⟨rfl, h159⟩ := hwr157
  have hD := pcD_ct (ct' := u158) hW.2.1
  have hW : pcS D vwCl A s.heap NL ad u158 H locs := ⟨hB, hD, hS⟩
  refine lv_if_ne (tgt := 65) hx hb dX11_query_5 (by decide) (fun _ => ?_) (fun c160 => absurd c160 (by decide))
  refine lv_iconst (v := 0) hx hb dX11_query_65 (by decide) ?_
  refine W.widen (k := 0) (n := 0) (Nat.le_of_ble_eq_true rfl) (Nat.le_of_ble_eq_true rfl) ?_
  exact W.iret (v := 0) hx hb hr (fun t ht hW9 => ⟨⟨0, u158, rfl, ⟨rfl, h159⟩, by show va_P _ _ _ t.heap; rw [ht]; exact hW.1⟩, hW.2.2.F ht⟩) hW.2.2.2.2 dX11_query_66

set_option maxHeartbeats 4000000 in
set_option maxRecDepth 100000 in
theorem m_X11_clouds (l : Launch) (D : va_G) (cA : Nat → ClassId) (NL : List (Nat × Nat)) (ad : Nat → Nat → Nat) (ct : Nat → Nat → va_E) (A : Nat → Prop)  (em : Nat) (th : Int32) (x1 : Int32) (x2 : Int32) (x3 : Int32) (hmM : inM NL) (hf : frT th ad em ct) : Met l yX11_clouds wsX11_clouds ({ frames := 3, cells := 0, slots := 0, locals := 65 }) (pcPre D vwCl (tyL cA) [.ref (ad 11 0), .int x1, .int x2, .int x3] (fun H => va_P D vwCl (pcW NL ad ct) H ∧ va_D A (pcW NL ad ct) ∧ ∀ q, H.size ≤ q → A q)) (va_Qi (fun (r : Int32) (u : Nat → Nat → va_E) => r = 0 ∧ frT 1 ad em u) (fun u t => va_P D vwCl (pcW NL ad u) t.heap) A) 0 0 A := by
  refine Met.ofW (cc := cX11_clouds) (maxL := 4) (ret := (some .int)) (by decide) rfl ?_
  intro p e s m args below meth c s₁ B hml hv
  obtain ⟨rfl, hX, ⟨hP0, hD, hA⟩⟩ := hv
  have hx := B.exec
  have hb := B.bytes
  have hr := B.returns
  have hts := atoms_spec (ws := wsX11_clouds) B.pre
  have hown : s.vm.findClass RX11 = some m.cls := findClass_of_methodNamed B.named
  have hlocks := B.notSynchronized
  have hW : pcQ D vwCl (fun _ => False) s.heap NL ad ct s.heap [] := ⟨hP0, va_S.rf⟩
  have hl := lv_entry ([.ref (ad 11 0), .int x1, .int x2, .int x3]) (n := 4) (Nat.le_of_ble_eq_true rfl)
  rw [lg_entry_eq]
  generalize (lg_sl ([.ref (ad 11 0), .int x1, .int x2, .int x3]) ++ List.replicate (4 - (lg_sl ([.ref (ad 11 0), .int x1, .int x2, .int x3])).length) Slot.unset).toArray = ls at hl ⊢
  have hl : lv_has ls 4 [(0, .ref (ad 11 0)), (1, .int x1), (2, .int x2), (3, .int x3)] := hl
  refine lv_aload_n hx hb dX11_clouds_0 rfl (lv_at hl 0 rfl) ?_
  refine lv_iload_n hx hb dX11_clouds_1 rfl (lv_at hl 1 rfl) ?_
  have hW : pcS D vwCl A s.heap NL ad ct _ _ := ⟨hW.1, hD, vaS_mono hW.2⟩
  refine pc_mcalli (va_runV (As := [.int x1]) (rest := []) ⟨hx, hb, hml, hown, hts⟩ (m_X11_isNoSheet l D cA NL ad ct A em th x1 hmM hf ) (cwV 1 hts gX11_clouds_X11_isNoSheet rfl rfl rfl (by decide +kernel) ⟨Nat.le_of_ble_eq_true rfl, Nat.le_of_ble_eq_true rfl⟩) (pc_preV pcN_ok hX hW.1 hmM.1 hf.1 rfl ⟨hW.1, hW.2.1, fun q h => hA q (Nat.le_trans hW.2.2.1 h)⟩) rfl rfl hl.1 rfl (lv_room (Nat.le_of_ble_eq_true rfl)) dX11_clouds_2 ⟨Nat.le_of_ble_eq_true rfl, Nat.le_of_ble_eq_true rfl⟩) hW.2.2 (fun r161 u162 H locs hwr161 hB hS => ?_)
  obtain ⟨rfl, h163⟩ := hwr161
  have hD := pcD_ct (ct' := u162) hW.2.1
  have hW : pcS D vwCl A s.heap NL ad u162 H locs := ⟨hB, hD, hS⟩
  refine lv_if_ne (tgt := 41) hx hb dX11_clouds_5 (by decide) (fun _ => ?_) (fun c164 => absurd c164 (by decide))
  refine lv_iconst (v := 0) hx hb dX11_clouds_41 (by decide) ?_
  refine lv_goto (tgt := 64) hx hb dX11_clouds_42 (by decide) ?_
  refine W.widen (k := 0) (n := 0) (Nat.le_of_ble_eq_true rfl) (Nat.le_of_ble_eq_true rfl) ?_
  exact W.iret (v := 0) hx hb hr (fun t ht hW9 => ⟨⟨0, u162, rfl, ⟨rfl, h163⟩, by show va_P _ _ _ t.heap; rw [ht]; exact hW.1⟩, hW.2.2.F ht⟩) hW.2.2.2.2 dX11_clouds_64

set_option maxHeartbeats 4000000 in
set_option maxRecDepth 100000 in
theorem m_X11_stoppedBy (l : Launch) (D : va_G) (cA : Nat → ClassId) (NL : List (Nat × Nat)) (ad : Nat → Nat → Nat) (ct : Nat → Nat → va_E) (A : Nat → Prop)  (em : Nat) (th : Int32) (x1 : Int32) (hmM : inM NL) (hf : frT th ad em ct) : Met l yX11_stoppedBy wsX11_stoppedBy ({ frames := 3, cells := 0, slots := 0, locals := 65 }) (pcPre D vwCl (tyL cA) [.ref (ad 11 0), .int x1] (fun H => va_P D vwCl (pcW NL ad ct) H ∧ va_D A (pcW NL ad ct) ∧ ∀ q, H.size ≤ q → A q)) (va_Qi (fun (r : Int32) (u : Nat → Nat → va_E) => r = 0 ∧ frT 1 ad em u) (fun u t => va_P D vwCl (pcW NL ad u) t.heap) A) 0 0 A := by
  refine Met.ofW (cc := cX11_stoppedBy) (maxL := 2) (ret := (some .int)) (by decide) rfl ?_
  intro p e s m args below meth c s₁ B hml hv
  obtain ⟨rfl, hX, ⟨hP0, hD, hA⟩⟩ := hv
  have hx := B.exec
  have hb := B.bytes
  have hr := B.returns
  have hts := atoms_spec (ws := wsX11_stoppedBy) B.pre
  have hown : s.vm.findClass RX11 = some m.cls := findClass_of_methodNamed B.named
  have hlocks := B.notSynchronized
  have hW : pcQ D vwCl (fun _ => False) s.heap NL ad ct s.heap [] := ⟨hP0, va_S.rf⟩
  have hl := lv_entry ([.ref (ad 11 0), .int x1]) (n := 2) (Nat.le_of_ble_eq_true rfl)
  rw [lg_entry_eq]
  generalize (lg_sl ([.ref (ad 11 0), .int x1]) ++ List.replicate (2 - (lg_sl ([.ref (ad 11 0), .int x1])).length) Slot.unset).toArray = ls at hl ⊢
  have hl : lv_has ls 2 [(0, .ref (ad 11 0)), (1, .int x1)] := hl
  refine lv_aload_n hx hb dX11_stoppedBy_0 rfl (lv_at hl 0 rfl) ?_
  refine lv_iload_n hx hb dX11_stoppedBy_1 rfl (lv_at hl 1 rfl) ?_
  have hW : pcS D vwCl A s.heap NL ad ct _ _ := ⟨hW.1, hD, vaS_mono hW.2⟩
  refine pc_mcalli (va_runV (As := [.int x1]) (rest := []) ⟨hx, hb, hml, hown, hts⟩ (m_X11_isNoSheet l D cA NL ad ct A em th x1 hmM hf ) (cwV 1 hts gX11_stoppedBy_X11_isNoSheet rfl rfl rfl (by decide +kernel) ⟨Nat.le_of_ble_eq_true rfl, Nat.le_of_ble_eq_true rfl⟩) (pc_preV pcN_ok hX hW.1 hmM.1 hf.1 rfl ⟨hW.1, hW.2.1, fun q h => hA q (Nat.le_trans hW.2.2.1 h)⟩) rfl rfl hl.1 rfl (lv_room (Nat.le_of_ble_eq_true rfl)) dX11_stoppedBy_2 ⟨Nat.le_of_ble_eq_true rfl, Nat.le_of_ble_eq_true rfl⟩) hW.2.2 (fun r165 u166 H locs hwr165 hB hS => ?_)
  obtain ⟨rfl, h167⟩ := hwr165
  have hD := pcD_ct (ct' := u166) hW.2.1
  have hW : pcS D vwCl A s.heap NL ad u166 H locs := ⟨hB, hD, hS⟩
  refine lv_if_eq (tgt := 12) hx hb dX11_stoppedBy_5 (by decide) (fun c168 => absurd c168 (by decide)) (fun _ => ?_)
  refine lv_iconst (v := 0) hx hb dX11_stoppedBy_8 (by decide) ?_
  refine lv_goto (tgt := 17) hx hb dX11_stoppedBy_9 (by decide) ?_
  refine W.widen (k := 0) (n := 0) (Nat.le_of_ble_eq_true rfl) (Nat.le_of_ble_eq_true rfl) ?_
  exact W.iret (v := 0) hx hb hr (fun t ht hW9 => ⟨⟨0, u166, rfl, ⟨rfl, h167⟩, by show va_P _ _ _ t.heap; rw [ht]; exact hW.1⟩, hW.2.2.F ht⟩) hW.2.2.2.2 dX11_stoppedBy_17

set_option maxHeartbeats 4000000 in
set_option maxRecDepth 100000 in
theorem m_X11_clash (l : Launch) (D : va_G) (cA : Nat → ClassId) (NL : List (Nat × Nat)) (ad : Nat → Nat → Nat) (ct : Nat → Nat → va_E) (A : Nat → Prop)  (em : Nat) (th : Int32) (x1 : Int32) (x2 : Int32) (hmM : inM NL) (hf : frT th ad em ct) : Met l yX11_clash wsX11_clash ({ frames := 3, cells := 0, slots := 0, locals := 66 }) (pcPre D vwCl (tyL cA) [.ref (ad 11 0), .int x1, .int x2] (fun H => va_P D vwCl (pcW NL ad ct) H ∧ va_D A (pcW NL ad ct) ∧ ∀ q, H.size ≤ q → A q)) (va_Qi (fun (r : Int32) (u : Nat → Nat → va_E) => r = 0 ∧ frT 1 ad em u) (fun u t => va_P D vwCl (pcW NL ad u) t.heap) A) 0 0 A := by
  refine Met.ofW (cc := cX11_clash) (maxL := 3) (ret := (some .int)) (by decide) rfl ?_
  intro p e s m args below meth c s₁ B hml hv
  obtain ⟨rfl, hX, ⟨hP0, hD, hA⟩⟩ := hv
  have hx := B.exec
  have hb := B.bytes
  have hr := B.returns
  have hts := atoms_spec (ws := wsX11_clash) B.pre
  have hown : s.vm.findClass RX11 = some m.cls := findClass_of_methodNamed B.named
  have hlocks := B.notSynchronized
  have hW : pcQ D vwCl (fun _ => False) s.heap NL ad ct s.heap [] := ⟨hP0, va_S.rf⟩
  have hl := lv_entry ([.ref (ad 11 0), .int x1, .int x2]) (n := 3) (Nat.le_of_ble_eq_true rfl)
  rw [lg_entry_eq]
  generalize (lg_sl ([.ref (ad 11 0), .int x1, .int x2]) ++ List.replicate (3 - (lg_sl ([.ref (ad 11 0), .int x1, .int x2])).length) Slot.unset).toArray = ls at hl ⊢
  have hl : lv_has ls 3 [(0, .ref (ad 11 0)), (1, .int x1), (2, .int x2)] := hl
  refine lv_aload_n hx hb dX11_clash_0 rfl (lv_at hl 0 rfl) ?_
  refine lv_iload_n hx hb dX11_clash_1 rfl (lv_at hl 1 rfl) ?_
  refine lv_iload_n hx hb dX11_clash_2 rfl (lv_at hl 2 rfl) ?_
  have hW : pcS D vwCl A s.heap NL ad ct _ _ := ⟨hW.1, hD, vaS_mono hW.2⟩
  refine pc_mcalli (va_runV (As := [.int x1, .int x2]) (rest := []) ⟨hx, hb, hml, hown, hts⟩ (m_X11_isNoPair l D cA NL ad ct A em th x1 x2 hmM hf ) (cwV 2 hts gX11_clash_X11_isNoPair rfl rfl rfl (by decide +kernel) ⟨Nat.le_of_ble_eq_true rfl, Nat.le_of_ble_eq_true rfl⟩) (pc_preV pcN_ok hX hW.1 hmM.1 hf.1 rfl ⟨hW.1, hW.2.1, fun q h => hA q (Nat.le_trans hW.2.2.1 h)⟩) rfl rfl hl.1 rfl (lv_room (Nat.le_of_ble_eq_true rfl)) dX11_clash_3 ⟨Nat.le_of_ble_eq_true rfl, Nat.le_of_ble_eq_true rfl⟩) hW.2.2 (fun r169 u170 H locs hwr169 hB hS => ?_)
  obtain ⟨rfl, h171⟩ := hwr169
  have hD := pcD_ct (ct' := u170) hW.2.1
  have hW : pcS D vwCl A s.heap NL ad u170 H locs := ⟨hB, hD, hS⟩
  refine lv_if_eq (tgt := 13) hx hb dX11_clash_6 (by decide) (fun c172 => absurd c172 (by decide)) (fun _ => ?_)
  refine lv_iconst (v := 0) hx hb dX11_clash_9 (by decide) ?_
  refine lv_goto (tgt := 25) hx hb dX11_clash_10 (by decide) ?_
  refine W.widen (k := 0) (n := 0) (Nat.le_of_ble_eq_true rfl) (Nat.le_of_ble_eq_true rfl) ?_
  exact W.iret (v := 0) hx hb hr (fun t ht hW9 => ⟨⟨0, u170, rfl, ⟨rfl, h171⟩, by show va_P _ _ _ t.heap; rw [ht]; exact hW.1⟩, hW.2.2.F ht⟩) hW.2.2.2.2 dX11_clash_25

set_option maxHeartbeats 4000000 in
set_option maxRecDepth 100000 in
theorem m_X11_excuse (l : Launch) (D : va_G) (cA : Nat → ClassId) (NL : List (Nat × Nat)) (ad : Nat → Nat → Nat) (ct : Nat → Nat → va_E) (A : Nat → Prop)  (em : Nat) (th : Int32) (x1 : Int32) (x2 : Int32) (hmM : inM NL) (hf : frT th ad em ct) : Met l yX11_excuse wsX11_excuse ({ frames := 3, cells := 0, slots := 0, locals := 66 }) (pcPre D vwCl (tyL cA) [.ref (ad 11 0), .int x1, .int x2] (fun H => va_P D vwCl (pcW NL ad ct) H ∧ va_D A (pcW NL ad ct) ∧ ∀ q, H.size ≤ q → A q)) (va_Qi (fun (r : Int32) (u : Nat → Nat → va_E) => r = 0 ∧ frT 1 ad em u) (fun u t => va_P D vwCl (pcW NL ad u) t.heap) A) 0 0 A := by
  refine Met.ofW (cc := cX11_excuse) (maxL := 4) (ret := (some .boolean)) (by decide) rfl ?_
  intro p e s m args below meth c s₁ B hml hv
  obtain ⟨rfl, hX, ⟨hP0, hD, hA⟩⟩ := hv
  have hx := B.exec
  have hb := B.bytes
  have hr := B.returns
  have hts := atoms_spec (ws := wsX11_excuse) B.pre
  have hown : s.vm.findClass RX11 = some m.cls := findClass_of_methodNamed B.named
  have hlocks := B.notSynchronized
  have hW : pcQ D vwCl (fun _ => False) s.heap NL ad ct s.heap [] := ⟨hP0, va_S.rf⟩
  have hl := lv_entry ([.ref (ad 11 0), .int x1, .int x2]) (n := 4) (Nat.le_of_ble_eq_true rfl)
  rw [lg_entry_eq]
  generalize (lg_sl ([.ref (ad 11 0), .int x1, .int x2]) ++ List.replicate (4 - (lg_sl ([.ref (ad 11 0), .int x1, .int x2])).length) Slot.unset).toArray = ls at hl ⊢
  have hl : lv_has ls 4 [(0, .ref (ad 11 0)), (1, .int x1), (2, .int x2)] := hl
  refine lv_aload_n hx hb dX11_excuse_0 rfl (lv_at hl 0 rfl) ?_
  refine lv_iload_n hx hb dX11_excuse_1 rfl (lv_at hl 1 rfl) ?_
  refine lv_iload_n hx hb dX11_excuse_2 rfl (lv_at hl 2 rfl) ?_
  have hW : pcS D vwCl A s.heap NL ad ct _ _ := ⟨hW.1, hD, vaS_mono hW.2⟩
  refine pc_mcalli (va_runV (As := [.int x1, .int x2]) (rest := []) ⟨hx, hb, hml, hown, hts⟩ (m_X11_isNoPair l D cA NL ad ct A em th x1 x2 hmM hf ) (cwV 2 hts gX11_excuse_X11_isNoPair rfl rfl rfl (by decide +kernel) ⟨Nat.le_of_ble_eq_true rfl, Nat.le_of_ble_eq_true rfl⟩) (pc_preV pcN_ok hX hW.1 hmM.1 hf.1 rfl ⟨hW.1, hW.2.1, fun q h => hA q (Nat.le_trans hW.2.2.1 h)⟩) rfl rfl hl.1 rfl (lv_room (Nat.le_of_ble_eq_true rfl)) dX11_excuse_3 ⟨Nat.le_of_ble_eq_true rfl, Nat.le_of_ble_eq_true rfl⟩) hW.2.2 (fun r173 u174 H locs hwr173 hB hS => ?_)
  obtain ⟨rfl, h175⟩ := hwr173
  have hD := pcD_ct (ct' := u174) hW.2.1
  have hW : pcS D vwCl A s.heap NL ad u174 H locs := ⟨hB, hD, hS⟩
  refine lv_if_eq (tgt := 11) hx hb dX11_excuse_6 (by decide) (fun c176 => absurd c176 (by decide)) (fun _ => ?_)
  refine lv_iconst (v := 0) hx hb dX11_excuse_9 (by decide) ?_
  refine W.widen (k := 0) (n := 0) (Nat.le_of_ble_eq_true rfl) (Nat.le_of_ble_eq_true rfl) ?_
  exact W.zret (v := 0) hx hb hr rfl (fun t ht hW9 => ⟨⟨0, u174, rfl, ⟨rfl, h175⟩, by show va_P _ _ _ t.heap; rw [ht]; exact hW.1⟩, hW.2.2.F ht⟩) hW.2.2.2.2 dX11_excuse_10

set_option maxHeartbeats 4000000 in
set_option maxRecDepth 100000 in
theorem m_X11_answer (l : Launch) (D : va_G) (cA : Nat → ClassId) (NL : List (Nat × Nat)) (ad : Nat → Nat → Nat) (ct : Nat → Nat → va_E) (A : Nat → Prop)  (em : Nat) (th : Int32) (x1 : Int32) (x2 : Int32) (hmM : inM NL) (hf : frT th ad em ct) : Met l yX11_answer wsX11_answer ({ frames := 3, cells := 0, slots := 0, locals := 65 }) (pcPre D vwCl (tyL cA) [.ref (ad 11 0), .int x1, .int x2] (fun H => va_P D vwCl (pcW NL ad ct) H ∧ va_D A (pcW NL ad ct) ∧ ∀ q, H.size ≤ q → A q)) (va_Qi (fun (r : Int32) (u : Nat → Nat → va_E) => r = 0 ∧ frT 1 ad em u) (fun u t => va_P D vwCl (pcW NL ad u) t.heap) A) 0 0 A := by
  refine Met.ofW (cc := cX11_answer) (maxL := 3) (ret := (some .int)) (by decide) rfl ?_
  intro p e s m args below meth c s₁ B hml hv
  obtain ⟨rfl, hX, ⟨hP0, hD, hA⟩⟩ := hv
  have hx := B.exec
  have hb := B.bytes
  have hr := B.returns
  have hts := atoms_spec (ws := wsX11_answer) B.pre
  have hown : s.vm.findClass RX11 = some m.cls := findClass_of_methodNamed B.named
  have hlocks := B.notSynchronized
  have hW : pcQ D vwCl (fun _ => False) s.heap NL ad ct s.heap [] := ⟨hP0, va_S.rf⟩
  have hl := lv_entry ([.ref (ad 11 0), .int x1, .int x2]) (n := 3) (Nat.le_of_ble_eq_true rfl)
  rw [lg_entry_eq]
  generalize (lg_sl ([.ref (ad 11 0), .int x1, .int x2]) ++ List.replicate (3 - (lg_sl ([.ref (ad 11 0), .int x1, .int x2])).length) Slot.unset).toArray = ls at hl ⊢
  have hl : lv_has ls 3 [(0, .ref (ad 11 0)), (1, .int x1), (2, .int x2)] := hl
  refine lv_aload_n hx hb dX11_answer_0 rfl (lv_at hl 0 rfl) ?_
  refine lv_iload_n hx hb dX11_answer_1 rfl (lv_at hl 1 rfl) ?_
  have hW : pcS D vwCl A s.heap NL ad ct _ _ := ⟨hW.1, hD, vaS_mono hW.2⟩
  refine pc_mcalli (va_runV (As := [.int x1]) (rest := []) ⟨hx, hb, hml, hown, hts⟩ (m_X11_isNoQuery l D cA NL ad ct A em th x1 hmM hf ) (cwV 1 hts gX11_answer_X11_isNoQuery rfl rfl rfl (by decide +kernel) ⟨Nat.le_of_ble_eq_true rfl, Nat.le_of_ble_eq_true rfl⟩) (pc_preV pcN_ok hX hW.1 hmM.1 hf.1 rfl ⟨hW.1, hW.2.1, fun q h => hA q (Nat.le_trans hW.2.2.1 h)⟩) rfl rfl hl.1 rfl (lv_room (Nat.le_of_ble_eq_true rfl)) dX11_answer_2 ⟨Nat.le_of_ble_eq_true rfl, Nat.le_of_ble_eq_true rfl⟩) hW.2.2 (fun r177 u178 H locs hwr177 hB hS => ?_)
  obtain ⟨rfl, h179⟩ := hwr177
  have hD := pcD_ct (ct' := u178) hW.2.1
  have hW : pcS D vwCl A s.heap NL ad u178 H locs := ⟨hB, hD, hS⟩
  refine lv_if_ne (tgt := 40) hx hb dX11_answer_5 (by decide) (fun _ => ?_) (fun c180 => absurd c180 (by decide))
  refine lv_iconst (v := 0) hx hb dX11_answer_40 (by decide) ?_
  refine W.widen (k := 0) (n := 0) (Nat.le_of_ble_eq_true rfl) (Nat.le_of_ble_eq_true rfl) ?_
  exact W.iret (v := 0) hx hb hr (fun t ht hW9 => ⟨⟨0, u178, rfl, ⟨rfl, h179⟩, by show va_P _ _ _ t.heap; rw [ht]; exact hW.1⟩, hW.2.2.F ht⟩) hW.2.2.2.2 dX11_answer_41

set_option maxHeartbeats 4000000 in
set_option maxRecDepth 100000 in
theorem m_X11_ofQuery (l : Launch) (D : va_G) (cA : Nat → ClassId) (NL : List (Nat × Nat)) (ad : Nat → Nat → Nat) (ct : Nat → Nat → va_E) (A : Nat → Prop)  (em : Nat) (th : Int32) (x1 : Int32) (hmM : inM NL) (hf : frT th ad em ct) : Met l yX11_ofQuery wsX11_ofQuery ({ frames := 3, cells := 0, slots := 0, locals := 65 }) (pcPre D vwCl (tyL cA) [.ref (ad 11 0), .int x1] (fun H => va_P D vwCl (pcW NL ad ct) H ∧ va_D A (pcW NL ad ct) ∧ ∀ q, H.size ≤ q → A q)) (va_Qi (fun (r : Int32) (u : Nat → Nat → va_E) => r = 0 ∧ frT 1 ad em u) (fun u t => va_P D vwCl (pcW NL ad u) t.heap) A) 0 0 A := by
  refine Met.ofW (cc := cX11_ofQuery) (maxL := 2) (ret := (some .int)) (by decide) rfl ?_
  intro p e s m args below meth c s₁ B hml hv
  obtain ⟨rfl, hX, ⟨hP0, hD, hA⟩⟩ := hv
  have hx := B.exec
  have hb := B.bytes
  have hr := B.returns
  have hts := atoms_spec (ws := wsX11_ofQuery) B.pre
  have hown : s.vm.findClass RX11 = some m.cls := findClass_of_methodNamed B.named
  have hlocks := B.notSynchronized
  have hW : pcQ D vwCl (fun _ => False) s.heap NL ad ct s.heap [] := ⟨hP0, va_S.rf⟩
  have hl := lv_entry ([.ref (ad 11 0), .int x1]) (n := 2) (Nat.le_of_ble_eq_true rfl)
  rw [lg_entry_eq]
  generalize (lg_sl ([.ref (ad 11 0), .int x1]) ++ List.replicate (2 - (lg_sl ([.ref (ad 11 0), .int x1])).length) Slot.unset).toArray = ls at hl ⊢
  have hl : lv_has ls 2 [(0, .ref (ad 11 0)), (1, .int x1)] := hl
  refine lv_aload_n hx hb dX11_ofQuery_0 rfl (lv_at hl 0 rfl) ?_
  refine lv_iload_n hx hb dX11_ofQuery_1 rfl (lv_at hl 1 rfl) ?_
  have hW : pcS D vwCl A s.heap NL ad ct _ _ := ⟨hW.1, hD, vaS_mono hW.2⟩
  refine pc_mcalli (va_runV (As := [.int x1]) (rest := []) ⟨hx, hb, hml, hown, hts⟩ (m_X11_isNoQuery l D cA NL ad ct A em th x1 hmM hf ) (cwV 1 hts gX11_ofQuery_X11_isNoQuery rfl rfl rfl (by decide +kernel) ⟨Nat.le_of_ble_eq_true rfl, Nat.le_of_ble_eq_true rfl⟩) (pc_preV pcN_ok hX hW.1 hmM.1 hf.1 rfl ⟨hW.1, hW.2.1, fun q h => hA q (Nat.le_trans hW.2.2.1 h)⟩) rfl rfl hl.1 rfl (lv_room (Nat.le_of_ble_eq_true rfl)) dX11_ofQuery_2 ⟨Nat.le_of_ble_eq_true rfl, Nat.le_of_ble_eq_true rfl⟩) hW.2.2 (fun r181 u182 H locs hwr181 hB hS => ?_)
  obtain ⟨rfl, h183⟩ := hwr181
  have hD := pcD_ct (ct' := u182) hW.2.1
  have hW : pcS D vwCl A s.heap NL ad u182 H locs := ⟨hB, hD, hS⟩
  refine lv_if_eq (tgt := 12) hx hb dX11_ofQuery_5 (by decide) (fun c184 => absurd c184 (by decide)) (fun _ => ?_)
  refine lv_iconst (v := 0) hx hb dX11_ofQuery_8 (by decide) ?_
  refine lv_goto (tgt := 28) hx hb dX11_ofQuery_9 (by decide) ?_
  refine W.widen (k := 0) (n := 0) (Nat.le_of_ble_eq_true rfl) (Nat.le_of_ble_eq_true rfl) ?_
  exact W.iret (v := 0) hx hb hr (fun t ht hW9 => ⟨⟨0, u182, rfl, ⟨rfl, h183⟩, by show va_P _ _ _ t.heap; rw [ht]; exact hW.1⟩, hW.2.2.F ht⟩) hW.2.2.2.2 dX11_ofQuery_28

set_option maxHeartbeats 4000000 in
set_option maxRecDepth 100000 in
theorem m_X11_freedBy (l : Launch) (D : va_G) (cA : Nat → ClassId) (NL : List (Nat × Nat)) (ad : Nat → Nat → Nat) (ct : Nat → Nat → va_E) (A : Nat → Prop)  (em : Nat) (th : Int32) (x1 : Int32) (hmM : inM NL) (hf : frT th ad em ct) : Met l yX11_freedBy wsX11_freedBy ({ frames := 3, cells := 0, slots := 0, locals := 65 }) (pcPre D vwCl (tyL cA) [.ref (ad 11 0), .int x1] (fun H => va_P D vwCl (pcW NL ad ct) H ∧ va_D A (pcW NL ad ct) ∧ ∀ q, H.size ≤ q → A q)) (va_Qi (fun (r : Int32) (u : Nat → Nat → va_E) => r = 0 ∧ frT 1 ad em u) (fun u t => va_P D vwCl (pcW NL ad u) t.heap) A) 0 0 A := by
  refine Met.ofW (cc := cX11_freedBy) (maxL := 2) (ret := (some .int)) (by decide) rfl ?_
  intro p e s m args below meth c s₁ B hml hv
  obtain ⟨rfl, hX, ⟨hP0, hD, hA⟩⟩ := hv
  have hx := B.exec
  have hb := B.bytes
  have hr := B.returns
  have hts := atoms_spec (ws := wsX11_freedBy) B.pre
  have hown : s.vm.findClass RX11 = some m.cls := findClass_of_methodNamed B.named
  have hlocks := B.notSynchronized
  have hW : pcQ D vwCl (fun _ => False) s.heap NL ad ct s.heap [] := ⟨hP0, va_S.rf⟩
  have hl := lv_entry ([.ref (ad 11 0), .int x1]) (n := 2) (Nat.le_of_ble_eq_true rfl)
  rw [lg_entry_eq]
  generalize (lg_sl ([.ref (ad 11 0), .int x1]) ++ List.replicate (2 - (lg_sl ([.ref (ad 11 0), .int x1])).length) Slot.unset).toArray = ls at hl ⊢
  have hl : lv_has ls 2 [(0, .ref (ad 11 0)), (1, .int x1)] := hl
  refine lv_aload_n hx hb dX11_freedBy_0 rfl (lv_at hl 0 rfl) ?_
  refine lv_iload_n hx hb dX11_freedBy_1 rfl (lv_at hl 1 rfl) ?_
  have hW : pcS D vwCl A s.heap NL ad ct _ _ := ⟨hW.1, hD, vaS_mono hW.2⟩
  refine pc_mcalli (va_runV (As := [.int x1]) (rest := []) ⟨hx, hb, hml, hown, hts⟩ (m_X11_isNoQuery l D cA NL ad ct A em th x1 hmM hf ) (cwV 1 hts gX11_freedBy_X11_isNoQuery rfl rfl rfl (by decide +kernel) ⟨Nat.le_of_ble_eq_true rfl, Nat.le_of_ble_eq_true rfl⟩) (pc_preV pcN_ok hX hW.1 hmM.1 hf.1 rfl ⟨hW.1, hW.2.1, fun q h => hA q (Nat.le_trans hW.2.2.1 h)⟩) rfl rfl hl.1 rfl (lv_room (Nat.le_of_ble_eq_true rfl)) dX11_freedBy_2 ⟨Nat.le_of_ble_eq_true rfl, Nat.le_of_ble_eq_true rfl⟩) hW.2.2 (fun r185 u186 H locs hwr185 hB hS => ?_)
  obtain ⟨rfl, h187⟩ := hwr185
  have hD := pcD_ct (ct' := u186) hW.2.1
  have hW : pcS D vwCl A s.heap NL ad u186 H locs := ⟨hB, hD, hS⟩
  refine lv_if_eq (tgt := 12) hx hb dX11_freedBy_5 (by decide) (fun c188 => absurd c188 (by decide)) (fun _ => ?_)
  refine lv_iconst (v := 0) hx hb dX11_freedBy_8 (by decide) ?_
  refine lv_goto (tgt := 17) hx hb dX11_freedBy_9 (by decide) ?_
  refine W.widen (k := 0) (n := 0) (Nat.le_of_ble_eq_true rfl) (Nat.le_of_ble_eq_true rfl) ?_
  exact W.iret (v := 0) hx hb hr (fun t ht hW9 => ⟨⟨0, u186, rfl, ⟨rfl, h187⟩, by show va_P _ _ _ t.heap; rw [ht]; exact hW.1⟩, hW.2.2.F ht⟩) hW.2.2.2.2 dX11_freedBy_17

set_option maxHeartbeats 4000000 in
set_option maxRecDepth 100000 in
theorem m_X11_place (l : Launch) (D : va_G) (cA : Nat → ClassId) (NL : List (Nat × Nat)) (ad : Nat → Nat → Nat) (ct : Nat → Nat → va_E) (A : Nat → Prop)  (em : Nat) (th : Int32) (x1 : Int32) (x2 : Int32) (x3 : Int32) (x4 : Int32) (x5 : Int32) (hmM : inM NL) (hf : frT th ad em ct) : Met l yX11_place wsX11_place ({ frames := 3, cells := 0, slots := 0, locals := 65 }) (pcPre D vwCl (tyL cA) [.ref (ad 11 0), .int x1, .int x2, .int x3, .int x4, .int x5] (fun H => va_P D vwCl (pcW NL ad ct) H ∧ va_D A (pcW NL ad ct) ∧ ∀ q, H.size ≤ q → A q)) (va_Qi (fun (r : Int32) (u : Nat → Nat → va_E) => r = 0 ∧ frT 1 ad em u) (fun u t => va_P D vwCl (pcW NL ad u) t.heap) A) 0 0 A := by
  refine Met.ofW (cc := cX11_place) (maxL := 6) (ret := (some .int)) (by decide) rfl ?_
  intro p e s m args below meth c s₁ B hml hv
  obtain ⟨rfl, hX, ⟨hP0, hD, hA⟩⟩ := hv
  have hx := B.exec
  have hb := B.bytes
  have hr := B.returns
  have hts := atoms_spec (ws := wsX11_place) B.pre
  have hown : s.vm.findClass RX11 = some m.cls := findClass_of_methodNamed B.named
  have hlocks := B.notSynchronized
  have hW : pcQ D vwCl (fun _ => False) s.heap NL ad ct s.heap [] := ⟨hP0, va_S.rf⟩
  have hl := lv_entry ([.ref (ad 11 0), .int x1, .int x2, .int x3, .int x4, .int x5]) (n := 6) (Nat.le_of_ble_eq_true rfl)
  rw [lg_entry_eq]
  generalize (lg_sl ([.ref (ad 11 0), .int x1, .int x2, .int x3, .int x4, .int x5]) ++ List.replicate (6 - (lg_sl ([.ref (ad 11 0), .int x1, .int x2, .int x3, .int x4, .int x5])).length) Slot.unset).toArray = ls at hl ⊢
  have hl : lv_has ls 6 [(0, .ref (ad 11 0)), (1, .int x1), (2, .int x2), (3, .int x3), (4, .int x4), (5, .int x5)] := hl
  refine lv_aload_n hx hb dX11_place_0 rfl (lv_at hl 0 rfl) ?_
  refine lv_iload_n hx hb dX11_place_1 rfl (lv_at hl 1 rfl) ?_
  have hW : pcS D vwCl A s.heap NL ad ct _ _ := ⟨hW.1, hD, vaS_mono hW.2⟩
  refine pc_mcalli (va_runV (As := [.int x1]) (rest := []) ⟨hx, hb, hml, hown, hts⟩ (m_X11_isNoPack l D cA NL ad ct A em th x1 hmM hf ) (cwV 1 hts gX11_place_X11_isNoPack rfl rfl rfl (by decide +kernel) ⟨Nat.le_of_ble_eq_true rfl, Nat.le_of_ble_eq_true rfl⟩) (pc_preV pcN_ok hX hW.1 hmM.1 hf.1 rfl ⟨hW.1, hW.2.1, fun q h => hA q (Nat.le_trans hW.2.2.1 h)⟩) rfl rfl hl.1 rfl (lv_room (Nat.le_of_ble_eq_true rfl)) dX11_place_2 ⟨Nat.le_of_ble_eq_true rfl, Nat.le_of_ble_eq_true rfl⟩) hW.2.2 (fun r189 u190 H locs hwr189 hB hS => ?_)
  obtain ⟨rfl, h191⟩ := hwr189
  have hD := pcD_ct (ct' := u190) hW.2.1
  have hW : pcS D vwCl A s.heap NL ad u190 H locs := ⟨hB, hD, hS⟩
  refine lv_if_ne (tgt := 59) hx hb dX11_place_5 (by decide) (fun _ => ?_) (fun c192 => absurd c192 (by decide))
  refine lv_iconst (v := 0) hx hb dX11_place_59 (by decide) ?_
  refine W.widen (k := 0) (n := 0) (Nat.le_of_ble_eq_true rfl) (Nat.le_of_ble_eq_true rfl) ?_
  exact W.iret (v := 0) hx hb hr (fun t ht hW9 => ⟨⟨0, u190, rfl, ⟨rfl, h191⟩, by show va_P _ _ _ t.heap; rw [ht]; exact hW.1⟩, hW.2.2.F ht⟩) hW.2.2.2.2 dX11_place_60

set_option maxHeartbeats 4000000 in
set_option maxRecDepth 100000 in
theorem m_X11_start_ (l : Launch) (D : va_G) (cA : Nat → ClassId) (NL : List (Nat × Nat)) (ad : Nat → Nat → Nat) (ct : Nat → Nat → va_E) (A : Nat → Prop)  (em : Nat) (th : Int32) (x1 : Int32) (hmM : inM NL) (hf : frT th ad em ct) : Met l yX11_start_ wsX11_start_ ({ frames := 3, cells := 0, slots := 0, locals := 65 }) (pcPre D vwCl (tyL cA) [.ref (ad 11 0), .int x1] (fun H => va_P D vwCl (pcW NL ad ct) H ∧ va_D A (pcW NL ad ct) ∧ ∀ q, H.size ≤ q → A q)) (va_Qi (fun (r : Int32) (u : Nat → Nat → va_E) => r = 0 ∧ frT 1 ad em u) (fun u t => va_P D vwCl (pcW NL ad u) t.heap) A) 0 0 A := by
  refine Met.ofW (cc := cX11_start_) (maxL := 2) (ret := (some .int)) (by decide) rfl ?_
  intro p e s m args below meth c s₁ B hml hv
  obtain ⟨rfl, hX, ⟨hP0, hD, hA⟩⟩ := hv
  have hx := B.exec
  have hb := B.bytes
  have hr := B.returns
  have hts := atoms_spec (ws := wsX11_start_) B.pre
  have hown : s.vm.findClass RX11 = some m.cls := findClass_of_methodNamed B.named
  have hlocks := B.notSynchronized
  have hW : pcQ D vwCl (fun _ => False) s.heap NL ad ct s.heap [] := ⟨hP0, va_S.rf⟩
  have hl := lv_entry ([.ref (ad 11 0), .int x1]) (n := 2) (Nat.le_of_ble_eq_true rfl)
  rw [lg_entry_eq]
  generalize (lg_sl ([.ref (ad 11 0), .int x1]) ++ List.replicate (2 - (lg_sl ([.ref (ad 11 0), .int x1])).length) Slot.unset).toArray = ls at hl ⊢
  have hl : lv_has ls 2 [(0, .ref (ad 11 0)), (1, .int x1)] := hl
  refine lv_aload_n hx hb dX11_start__0 rfl (lv_at hl 0 rfl) ?_
  refine lv_iload_n hx hb dX11_start__1 rfl (lv_at hl 1 rfl) ?_
  have hW : pcS D vwCl A s.heap NL ad ct _ _ := ⟨hW.1, hD, vaS_mono hW.2⟩
  refine pc_mcalli (va_runV (As := [.int x1]) (rest := []) ⟨hx, hb, hml, hown, hts⟩ (m_X11_isNoPack l D cA NL ad ct A em th x1 hmM hf ) (cwV 1 hts gX11_start__X11_isNoPack rfl rfl rfl (by decide +kernel) ⟨Nat.le_of_ble_eq_true rfl, Nat.le_of_ble_eq_true rfl⟩) (pc_preV pcN_ok hX hW.1 hmM.1 hf.1 rfl ⟨hW.1, hW.2.1, fun q h => hA q (Nat.le_trans hW.2.2.1 h)⟩) rfl rfl hl.1 rfl (lv_room (Nat.le_of_ble_eq_true rfl)) dX11_start__2 ⟨Nat.le_of_ble_eq_true rfl, Nat.le_of_ble_eq_true rfl⟩) hW.2.2 (fun r193 u194 H locs hwr193 hB hS => ?_)
  obtain ⟨rfl, h195⟩ := hwr193
  have hD := pcD_ct (ct' := u194) hW.2.1
  have hW : pcS D vwCl A s.heap NL ad u194 H locs := ⟨hB, hD, hS⟩
  refine lv_if_ne (tgt := 45) hx hb dX11_start__5 (by decide) (fun _ => ?_) (fun c196 => absurd c196 (by decide))
  refine lv_iconst (v := 0) hx hb dX11_start__45 (by decide) ?_
  refine W.widen (k := 0) (n := 0) (Nat.le_of_ble_eq_true rfl) (Nat.le_of_ble_eq_true rfl) ?_
  exact W.iret (v := 0) hx hb hr (fun t ht hW9 => ⟨⟨0, u194, rfl, ⟨rfl, h195⟩, by show va_P _ _ _ t.heap; rw [ht]; exact hW.1⟩, hW.2.2.F ht⟩) hW.2.2.2.2 dX11_start__46

set_option maxHeartbeats 4000000 in
set_option maxRecDepth 100000 in
theorem m_X11_ofPack (l : Launch) (D : va_G) (cA : Nat → ClassId) (NL : List (Nat × Nat)) (ad : Nat → Nat → Nat) (ct : Nat → Nat → va_E) (A : Nat → Prop)  (em : Nat) (th : Int32) (x1 : Int32) (x2 : Int32) (hmM : inM NL) (hf : frT th ad em ct) : Met l yX11_ofPack wsX11_ofPack ({ frames := 3, cells := 0, slots := 0, locals := 65 }) (pcPre D vwCl (tyL cA) [.ref (ad 11 0), .int x1, .int x2] (fun H => va_P D vwCl (pcW NL ad ct) H ∧ va_D A (pcW NL ad ct) ∧ ∀ q, H.size ≤ q → A q)) (va_Qi (fun (r : Int32) (u : Nat → Nat → va_E) => r = 0 ∧ frT 1 ad em u) (fun u t => va_P D vwCl (pcW NL ad u) t.heap) A) 0 0 A := by
  refine Met.ofW (cc := cX11_ofPack) (maxL := 3) (ret := (some .int)) (by decide) rfl ?_
  intro p e s m args below meth c s₁ B hml hv
  obtain ⟨rfl, hX, ⟨hP0, hD, hA⟩⟩ := hv
  have hx := B.exec
  have hb := B.bytes
  have hr := B.returns
  have hts := atoms_spec (ws := wsX11_ofPack) B.pre
  have hown : s.vm.findClass RX11 = some m.cls := findClass_of_methodNamed B.named
  have hlocks := B.notSynchronized
  have hW : pcQ D vwCl (fun _ => False) s.heap NL ad ct s.heap [] := ⟨hP0, va_S.rf⟩
  have hl := lv_entry ([.ref (ad 11 0), .int x1, .int x2]) (n := 3) (Nat.le_of_ble_eq_true rfl)
  rw [lg_entry_eq]
  generalize (lg_sl ([.ref (ad 11 0), .int x1, .int x2]) ++ List.replicate (3 - (lg_sl ([.ref (ad 11 0), .int x1, .int x2])).length) Slot.unset).toArray = ls at hl ⊢
  have hl : lv_has ls 3 [(0, .ref (ad 11 0)), (1, .int x1), (2, .int x2)] := hl
  refine lv_aload_n hx hb dX11_ofPack_0 rfl (lv_at hl 0 rfl) ?_
  refine lv_iload_n hx hb dX11_ofPack_1 rfl (lv_at hl 1 rfl) ?_
  have hW : pcS D vwCl A s.heap NL ad ct _ _ := ⟨hW.1, hD, vaS_mono hW.2⟩
  refine pc_mcalli (va_runV (As := [.int x1]) (rest := []) ⟨hx, hb, hml, hown, hts⟩ (m_X11_isNoPack l D cA NL ad ct A em th x1 hmM hf ) (cwV 1 hts gX11_ofPack_X11_isNoPack rfl rfl rfl (by decide +kernel) ⟨Nat.le_of_ble_eq_true rfl, Nat.le_of_ble_eq_true rfl⟩) (pc_preV pcN_ok hX hW.1 hmM.1 hf.1 rfl ⟨hW.1, hW.2.1, fun q h => hA q (Nat.le_trans hW.2.2.1 h)⟩) rfl rfl hl.1 rfl (lv_room (Nat.le_of_ble_eq_true rfl)) dX11_ofPack_2 ⟨Nat.le_of_ble_eq_true rfl, Nat.le_of_ble_eq_true rfl⟩) hW.2.2 (fun r197 u198 H locs hwr197 hB hS => ?_)
  obtain ⟨rfl, h199⟩ := hwr197
  have hD := pcD_ct (ct' := u198) hW.2.1
  have hW : pcS D vwCl A s.heap NL ad u198 H locs := ⟨hB, hD, hS⟩
  refine lv_if_ne (tgt := 31) hx hb dX11_ofPack_5 (by decide) (fun _ => ?_) (fun c200 => absurd c200 (by decide))
  refine lv_iconst (v := 0) hx hb dX11_ofPack_31 (by decide) ?_
  refine lv_goto (tgt := 54) hx hb dX11_ofPack_32 (by decide) ?_
  refine W.widen (k := 0) (n := 0) (Nat.le_of_ble_eq_true rfl) (Nat.le_of_ble_eq_true rfl) ?_
  exact W.iret (v := 0) hx hb hr (fun t ht hW9 => ⟨⟨0, u198, rfl, ⟨rfl, h199⟩, by show va_P _ _ _ t.heap; rw [ht]; exact hW.1⟩, hW.2.2.F ht⟩) hW.2.2.2.2 dX11_ofPack_54

set_option maxHeartbeats 4000000 in
set_option maxRecDepth 100000 in
theorem m_X11_holds (l : Launch) (D : va_G) (cA : Nat → ClassId) (NL : List (Nat × Nat)) (ad : Nat → Nat → Nat) (ct : Nat → Nat → va_E) (A : Nat → Prop)  (em : Nat) (th : Int32) (x1 : Int32) (hmM : inM NL) (hf : frT th ad em ct) : Met l yX11_holds wsX11_holds ({ frames := 2, cells := 0, slots := 0, locals := 44 }) (pcPre D vwCl (tyL cA) [.ref (ad 11 0), .int x1] (fun H => va_P D vwCl (pcW NL ad ct) H ∧ va_D A (pcW NL ad ct) ∧ ∀ q, H.size ≤ q → A q)) (va_Qi (fun (r : Int32) (u : Nat → Nat → va_E) => r = 0 ∧ frT 1 ad em u) (fun u t => va_P D vwCl (pcW NL ad u) t.heap) A) 0 0 A := by
  refine Met.ofW (cc := cX11_holds) (maxL := 2) (ret := (some .boolean)) (by decide) rfl ?_
  intro p e s m args below meth c s₁ B hml hv
  obtain ⟨rfl, hX, ⟨hP0, hD, hA⟩⟩ := hv
  have hx := B.exec
  have hb := B.bytes
  have hr := B.returns
  have hts := atoms_spec (ws := wsX11_holds) B.pre
  have hown : s.vm.findClass RX11 = some m.cls := findClass_of_methodNamed B.named
  have hlocks := B.notSynchronized
  have hW : pcQ D vwCl (fun _ => False) s.heap NL ad ct s.heap [] := ⟨hP0, va_S.rf⟩
  have hl := lv_entry ([.ref (ad 11 0), .int x1]) (n := 2) (Nat.le_of_ble_eq_true rfl)
  rw [lg_entry_eq]
  generalize (lg_sl ([.ref (ad 11 0), .int x1]) ++ List.replicate (2 - (lg_sl ([.ref (ad 11 0), .int x1])).length) Slot.unset).toArray = ls at hl ⊢
  have hl : lv_has ls 2 [(0, .ref (ad 11 0)), (1, .int x1)] := hl
  refine lv_aload_n hx hb dX11_holds_0 rfl (lv_at hl 0 rfl) ?_
  refine lv_iload_n hx hb dX11_holds_1 rfl (lv_at hl 1 rfl) ?_
  refine lv_iconst (v := 0) hx hb dX11_holds_2 (by decide) ?_
  refine lv_aload_n hx hb dX11_holds_3 rfl (lv_at hl 0 rfl) ?_
  refine pc_get (C := RX11) (T := TX11) (N := 2) (ci := 12) hx hb hts (by decide +kernel) hown hX.1 hW.1 11 0 hmM.1 hf.1 rfl 1 (by decide) (hts (.fieldLink RX11 10 "DraftsmanOfficeModel" "office" "LDraftsmanOfficeModel$Office;") (by decide +kernel)) (fun _ h9 => h9) rfl dX11_holds_4 ?_
  refine pc_get (C := RX6) (T := TX6) (N := 10) (ci := 7) hx hb hts (by decide +kernel) hown hX.1 hW.1 6 0 hmM.2.1 hf.2.1 rfl 1 (by decide) (hts (.fieldLink RX11 116 "DraftsmanOfficeModel$Office" "references" "Ljava/util/ArrayList;") (by decide +kernel)) (fun _ h9 => h9) rfl dX11_holds_7 ?_
  refine pc_qcalli (va_runV (As := []) (rest := [.int 0, .int x1, .ref (ad 11 0)]) ⟨hx, hb, hml, hown, hts⟩ (r_Jx4a65c_size_8abf5 l D cA NL ad ct 60 1 em (hmM.2.2 1 (by decide)) (hf.2.2 1 (by decide))) (cwV 0 hts gX11_holds_Jx4a65c_size_8abf5 rfl rfl rfl (by decide +kernel) ⟨Nat.le_of_ble_eq_true rfl, Nat.le_of_ble_eq_true rfl⟩) (pc_preV pcN_ok hX hW.1 (hmM.2.2 1 (by decide)) (hf.2.2 1 (by decide)) rfl hW.1) rfl rfl hl.1 rfl (lv_room (Nat.le_of_ble_eq_true rfl)) dX11_holds_10 ⟨Nat.le_of_ble_eq_true rfl, Nat.le_of_ble_eq_true rfl⟩) hW (fun r201 H locs hwr201 hW => ?_)
  subst hwr201
  refine lv_iconst (v := 1) hx hb dX11_holds_13 (by decide) ?_
  refine lv_isub hx hb dX11_holds_14 ?_
  refine lv_topi (fun a202 ea202 => ?_)
  obtain rfl : a202 = (-1) := ea202.trans (by decide)
  refine pc_qcalli (va_runS (As := [.int x1, .int 0, .int (-1)]) (rest := [.ref (ad 11 0)]) ⟨hx, hb, hml, hown, hts⟩ (r_X11_isIn l D cA NL ad ct x1 0 (-1)) (va_cwS 3 hts gX11_holds_X11_isIn rfl rfl rfl (by decide +kernel) ⟨Nat.le_of_ble_eq_true rfl, Nat.le_of_ble_eq_true rfl⟩) (pc_preS pcN_ok hX hW.1) rfl rfl hl.1 rfl (lv_room (Nat.le_of_ble_eq_true rfl)) dX11_holds_15 ⟨Nat.le_of_ble_eq_true rfl, Nat.le_of_ble_eq_true rfl⟩) hW (fun r203 H locs hwr203 hW => ?_)
  rcases hwr203 with ⟨rfl, b204a, b204b⟩ | ⟨rfl, b204c⟩
  · exact (noIn b204a b204b).elim
  · refine lv_if_ne (tgt := 25) hx hb dX11_holds_18 (by decide) (fun c205 => absurd c205 (by decide)) (fun _ => ?_)
    refine lv_iconst (v := 1) hx hb dX11_holds_21 (by decide) ?_
    refine lv_goto (tgt := 26) hx hb dX11_holds_22 (by decide) ?_
    refine lv_iconst (v := 1) hx hb dX11_holds_26 (by decide) ?_
    have hW : pcS D vwCl A s.heap NL ad ct _ _ := ⟨hW.1, hD, vaS_mono hW.2⟩
    refine pc_mcalli (va_runV (As := [.int 1, .int 1]) (rest := []) ⟨hx, hb, hml, hown, hts⟩ (m_X11_start1 l D cA NL ad ct A em th 1 hmM hf (by decide)) (cwV 2 hts gX11_holds_X11_start rfl rfl rfl (by decide +kernel) ⟨Nat.le_of_ble_eq_true rfl, Nat.le_of_ble_eq_true rfl⟩) (pc_preV pcN_ok hX hW.1 hmM.1 hf.1 rfl ⟨hW.1, hW.2.1, fun q h => hA q (Nat.le_trans hW.2.2.1 h)⟩) rfl rfl hl.1 rfl (lv_room (Nat.le_of_ble_eq_true rfl)) dX11_holds_27 ⟨Nat.le_of_ble_eq_true rfl, Nat.le_of_ble_eq_true rfl⟩) hW.2.2 (fun r206 u207 H locs hwr206 hB hS => ?_)
    obtain ⟨rfl, h208⟩ := hwr206
    have hD := pcD_ct (ct' := u207) hW.2.1
    have hW : pcS D vwCl A s.heap NL ad u207 H locs := ⟨hB, hD, hS⟩
    refine lv_if_ne (tgt := 48) hx hb dX11_holds_30 (by decide) (fun _ => ?_) (fun c209 => absurd c209 (by decide))
    refine lv_iconst (v := 0) hx hb dX11_holds_48 (by decide) ?_
    refine W.widen (k := 0) (n := 0) (Nat.le_of_ble_eq_true rfl) (Nat.le_of_ble_eq_true rfl) ?_
    exact W.zret (v := 0) hx hb hr rfl (fun t ht hW9 => ⟨⟨0, u207, rfl, ⟨rfl, h208⟩, by show va_P _ _ _ t.heap; rw [ht]; exact hW.1⟩, hW.2.2.F ht⟩) hW.2.2.2.2 dX11_holds_49

set_option maxHeartbeats 4000000 in
set_option maxRecDepth 100000 in
theorem m_X11_receive (l : Launch) (D : va_G) (cA : Nat → ClassId) (NL : List (Nat × Nat)) (ad : Nat → Nat → Nat) (ct : Nat → Nat → va_E) (A : Nat → Prop)  (em : Nat) (th : Int32) (x1 : Int32) (x2 : Int32) (hmM : inM NL) (hf : frT th ad em ct) : Met l yX11_receive wsX11_receive ({ frames := 2, cells := 0, slots := 0, locals := 44 }) (pcPre D vwCl (tyL cA) [.ref (ad 11 0), .int x1, .int x2] (fun H => va_P D vwCl (pcW NL ad ct) H ∧ va_D A (pcW NL ad ct) ∧ ∀ q, H.size ≤ q → A q)) (va_Qi (fun (r : Int32) (u : Nat → Nat → va_E) => r = 0 ∧ frT 1 ad em u) (fun u t => va_P D vwCl (pcW NL ad u) t.heap) A) 0 0 A := by
  refine Met.ofW (cc := cX11_receive) (maxL := 3) (ret := (some .int)) (by decide) rfl ?_
  intro p e s m args below meth c s₁ B hml hv
  obtain ⟨rfl, hX, ⟨hP0, hD, hA⟩⟩ := hv
  have hx := B.exec
  have hb := B.bytes
  have hr := B.returns
  have hts := atoms_spec (ws := wsX11_receive) B.pre
  have hown : s.vm.findClass RX11 = some m.cls := findClass_of_methodNamed B.named
  have hlocks := B.notSynchronized
  have hW : pcQ D vwCl (fun _ => False) s.heap NL ad ct s.heap [] := ⟨hP0, va_S.rf⟩
  have hl := lv_entry ([.ref (ad 11 0), .int x1, .int x2]) (n := 3) (Nat.le_of_ble_eq_true rfl)
  rw [lg_entry_eq]
  generalize (lg_sl ([.ref (ad 11 0), .int x1, .int x2]) ++ List.replicate (3 - (lg_sl ([.ref (ad 11 0), .int x1, .int x2])).length) Slot.unset).toArray = ls at hl ⊢
  have hl : lv_has ls 3 [(0, .ref (ad 11 0)), (1, .int x1), (2, .int x2)] := hl
  refine lv_aload_n hx hb dX11_receive_0 rfl (lv_at hl 0 rfl) ?_
  refine lv_iload_n hx hb dX11_receive_1 rfl (lv_at hl 1 rfl) ?_
  refine lv_iconst (v := 0) hx hb dX11_receive_2 (by decide) ?_
  refine lv_aload_n hx hb dX11_receive_3 rfl (lv_at hl 0 rfl) ?_
  refine pc_get (C := RX11) (T := TX11) (N := 2) (ci := 12) hx hb hts (by decide +kernel) hown hX.1 hW.1 11 0 hmM.1 hf.1 rfl 1 (by decide) (hts (.fieldLink RX11 10 "DraftsmanOfficeModel" "office" "LDraftsmanOfficeModel$Office;") (by decide +kernel)) (fun _ h9 => h9) rfl dX11_receive_4 ?_
  refine pc_get (C := RX6) (T := TX6) (N := 10) (ci := 7) hx hb hts (by decide +kernel) hown hX.1 hW.1 6 0 hmM.2.1 hf.2.1 rfl 3 (by decide) (hts (.fieldLink RX11 141 "DraftsmanOfficeModel$Office" "sendings" "Ljava/util/ArrayList;") (by decide +kernel)) (fun _ h9 => h9) rfl dX11_receive_7 ?_
  refine pc_qcalli (va_runV (As := []) (rest := [.int 0, .int x1, .ref (ad 11 0)]) ⟨hx, hb, hml, hown, hts⟩ (r_Jx4a65c_size_8abf5 l D cA NL ad ct 60 3 em (hmM.2.2 3 (by decide)) (hf.2.2 3 (by decide))) (cwV 0 hts gX11_receive_Jx4a65c_size_8abf5 rfl rfl rfl (by decide +kernel) ⟨Nat.le_of_ble_eq_true rfl, Nat.le_of_ble_eq_true rfl⟩) (pc_preV pcN_ok hX hW.1 (hmM.2.2 3 (by decide)) (hf.2.2 3 (by decide)) rfl hW.1) rfl rfl hl.1 rfl (lv_room (Nat.le_of_ble_eq_true rfl)) dX11_receive_10 ⟨Nat.le_of_ble_eq_true rfl, Nat.le_of_ble_eq_true rfl⟩) hW (fun r210 H locs hwr210 hW => ?_)
  subst hwr210
  refine lv_iconst (v := 1) hx hb dX11_receive_13 (by decide) ?_
  refine lv_isub hx hb dX11_receive_14 ?_
  refine lv_topi (fun a211 ea211 => ?_)
  obtain rfl : a211 = (-1) := ea211.trans (by decide)
  refine pc_qcalli (va_runS (As := [.int x1, .int 0, .int (-1)]) (rest := [.ref (ad 11 0)]) ⟨hx, hb, hml, hown, hts⟩ (r_X11_isIn l D cA NL ad ct x1 0 (-1)) (va_cwS 3 hts gX11_receive_X11_isIn rfl rfl rfl (by decide +kernel) ⟨Nat.le_of_ble_eq_true rfl, Nat.le_of_ble_eq_true rfl⟩) (pc_preS pcN_ok hX hW.1) rfl rfl hl.1 rfl (lv_room (Nat.le_of_ble_eq_true rfl)) dX11_receive_15 ⟨Nat.le_of_ble_eq_true rfl, Nat.le_of_ble_eq_true rfl⟩) hW (fun r212 H locs hwr212 hW => ?_)
  rcases hwr212 with ⟨rfl, b213a, b213b⟩ | ⟨rfl, b213c⟩
  · exact (noIn b213a b213b).elim
  · refine lv_if_eq (tgt := 28) hx hb dX11_receive_18 (by decide) (fun _ => ?_) (fun c214 => absurd (by decide) c214)
    refine lv_iconst (v := 1) hx hb dX11_receive_28 (by decide) ?_
    refine lv_goto (tgt := 33) hx hb dX11_receive_29 (by decide) ?_
    refine lv_iconst (v := 1) hx hb dX11_receive_33 (by decide) ?_
    have hW : pcS D vwCl A s.heap NL ad ct _ _ := ⟨hW.1, hD, vaS_mono hW.2⟩
    refine pc_mcalli (va_runV (As := [.int 1, .int 1]) (rest := []) ⟨hx, hb, hml, hown, hts⟩ (m_X11_start1 l D cA NL ad ct A em th 1 hmM hf (by decide)) (cwV 2 hts gX11_receive_X11_start rfl rfl rfl (by decide +kernel) ⟨Nat.le_of_ble_eq_true rfl, Nat.le_of_ble_eq_true rfl⟩) (pc_preV pcN_ok hX hW.1 hmM.1 hf.1 rfl ⟨hW.1, hW.2.1, fun q h => hA q (Nat.le_trans hW.2.2.1 h)⟩) rfl rfl hl.1 rfl (lv_room (Nat.le_of_ble_eq_true rfl)) dX11_receive_34 ⟨Nat.le_of_ble_eq_true rfl, Nat.le_of_ble_eq_true rfl⟩) hW.2.2 (fun r215 u216 H locs hwr215 hB hS => ?_)
    obtain ⟨rfl, h217⟩ := hwr215
    have hD := pcD_ct (ct' := u216) hW.2.1
    have hW : pcS D vwCl A s.heap NL ad u216 H locs := ⟨hB, hD, hS⟩
    refine lv_if_ne (tgt := 65) hx hb dX11_receive_37 (by decide) (fun _ => ?_) (fun c218 => absurd c218 (by decide))
    refine lv_iconst (v := 0) hx hb dX11_receive_65 (by decide) ?_
    refine W.widen (k := 0) (n := 0) (Nat.le_of_ble_eq_true rfl) (Nat.le_of_ble_eq_true rfl) ?_
    exact W.iret (v := 0) hx hb hr (fun t ht hW9 => ⟨⟨0, u216, rfl, ⟨rfl, h217⟩, by show va_P _ _ _ t.heap; rw [ht]; exact hW.1⟩, hW.2.2.F ht⟩) hW.2.2.2.2 dX11_receive_66

set_option maxHeartbeats 4000000 in
set_option maxRecDepth 100000 in
theorem m_X11_has (l : Launch) (D : va_G) (cA : Nat → ClassId) (NL : List (Nat × Nat)) (ad : Nat → Nat → Nat) (ct : Nat → Nat → va_E) (A : Nat → Prop)  (em : Nat) (th : Int32) (x1 : Int32) (x2 : Int32) (hmM : inM NL) (hf : frT th ad em ct) : Met l yX11_has wsX11_has ({ frames := 2, cells := 0, slots := 0, locals := 44 }) (pcPre D vwCl (tyL cA) [.ref (ad 11 0), .int x1, .int x2] (fun H => va_P D vwCl (pcW NL ad ct) H ∧ va_D A (pcW NL ad ct) ∧ ∀ q, H.size ≤ q → A q)) (va_Qi (fun (r : Int32) (u : Nat → Nat → va_E) => r = 0 ∧ frT 1 ad em u) (fun u t => va_P D vwCl (pcW NL ad u) t.heap) A) 0 0 A := by
  refine Met.ofW (cc := cX11_has) (maxL := 3) (ret := (some .int)) (by decide) rfl ?_
  intro p e s m args below meth c s₁ B hml hv
  obtain ⟨rfl, hX, ⟨hP0, hD, hA⟩⟩ := hv
  have hx := B.exec
  have hb := B.bytes
  have hr := B.returns
  have hts := atoms_spec (ws := wsX11_has) B.pre
  have hown : s.vm.findClass RX11 = some m.cls := findClass_of_methodNamed B.named
  have hlocks := B.notSynchronized
  have hW : pcQ D vwCl (fun _ => False) s.heap NL ad ct s.heap [] := ⟨hP0, va_S.rf⟩
  have hl := lv_entry ([.ref (ad 11 0), .int x1, .int x2]) (n := 3) (Nat.le_of_ble_eq_true rfl)
  rw [lg_entry_eq]
  generalize (lg_sl ([.ref (ad 11 0), .int x1, .int x2]) ++ List.replicate (3 - (lg_sl ([.ref (ad 11 0), .int x1, .int x2])).length) Slot.unset).toArray = ls at hl ⊢
  have hl : lv_has ls 3 [(0, .ref (ad 11 0)), (1, .int x1), (2, .int x2)] := hl
  refine lv_aload_n hx hb dX11_has_0 rfl (lv_at hl 0 rfl) ?_
  refine lv_iload_n hx hb dX11_has_1 rfl (lv_at hl 1 rfl) ?_
  refine pc_qcalli (va_runS (As := [.int x1]) (rest := [.ref (ad 11 0)]) ⟨hx, hb, hml, hown, hts⟩ (r_X11_isNoCrew l D cA NL ad ct x1) (va_cwS 1 hts gX11_has_X11_isNoCrew rfl rfl rfl (by decide +kernel) ⟨Nat.le_of_ble_eq_true rfl, Nat.le_of_ble_eq_true rfl⟩) (pc_preS pcN_ok hX hW.1) rfl rfl hl.1 rfl (lv_room (Nat.le_of_ble_eq_true rfl)) dX11_has_2 ⟨Nat.le_of_ble_eq_true rfl, Nat.le_of_ble_eq_true rfl⟩) hW (fun r219 H locs hwr219 hW => ?_)
  rcases hwr219 with ⟨rfl, b220⟩ | ⟨rfl, b220⟩
  · refine lv_if_ne (tgt := 16) hx hb dX11_has_5 (by decide) (fun c221 => absurd c221 (by decide)) (fun _ => ?_)
    refine lv_aload_n hx hb dX11_has_8 rfl (lv_at hl 0 rfl) ?_
    refine lv_iload_n hx hb dX11_has_9 rfl (lv_at hl 2 rfl) ?_
    refine pc_qcalli (va_runV (As := [.int x2]) (rest := [.ref (ad 11 0)]) ⟨hx, hb, hml, hown, hts⟩ (r_X11_isNo l D cA NL ad ct em th x2 hmM hf) (cwV 1 hts gX11_has_X11_isNo rfl rfl rfl (by decide +kernel) ⟨Nat.le_of_ble_eq_true rfl, Nat.le_of_ble_eq_true rfl⟩) (pc_preV pcN_ok hX hW.1 hmM.1 hf.1 rfl hW.1) rfl rfl hl.1 rfl (lv_room (Nat.le_of_ble_eq_true rfl)) dX11_has_10 ⟨Nat.le_of_ble_eq_true rfl, Nat.le_of_ble_eq_true rfl⟩) hW (fun r222 H locs hwr222 hW => ?_)
    subst hwr222
    refine lv_if_eq (tgt := 20) hx hb dX11_has_13 (by decide) (fun c223 => absurd c223 (by decide)) (fun _ => ?_)
    refine lv_iconst (v := 1) hx hb dX11_has_16 (by decide) ?_
    refine lv_goto (tgt := 21) hx hb dX11_has_17 (by decide) ?_
    refine lv_iconst (v := 1) hx hb dX11_has_21 (by decide) ?_
    have hW : pcS D vwCl A s.heap NL ad ct _ _ := ⟨hW.1, hD, vaS_mono hW.2⟩
    refine pc_mcalli (va_runV (As := [.int 1, .int 1]) (rest := []) ⟨hx, hb, hml, hown, hts⟩ (m_X11_start1 l D cA NL ad ct A em th 1 hmM hf (by decide)) (cwV 2 hts gX11_has_X11_start rfl rfl rfl (by decide +kernel) ⟨Nat.le_of_ble_eq_true rfl, Nat.le_of_ble_eq_true rfl⟩) (pc_preV pcN_ok hX hW.1 hmM.1 hf.1 rfl ⟨hW.1, hW.2.1, fun q h => hA q (Nat.le_trans hW.2.2.1 h)⟩) rfl rfl hl.1 rfl (lv_room (Nat.le_of_ble_eq_true rfl)) dX11_has_22 ⟨Nat.le_of_ble_eq_true rfl, Nat.le_of_ble_eq_true rfl⟩) hW.2.2 (fun r224 u225 H locs hwr224 hB hS => ?_)
    obtain ⟨rfl, h226⟩ := hwr224
    have hD := pcD_ct (ct' := u225) hW.2.1
    have hW : pcS D vwCl A s.heap NL ad u225 H locs := ⟨hB, hD, hS⟩
    refine lv_if_eq (tgt := 32) hx hb dX11_has_25 (by decide) (fun c227 => absurd c227 (by decide)) (fun _ => ?_)
    refine lv_iconst (v := 0) hx hb dX11_has_28 (by decide) ?_
    refine lv_goto (tgt := 43) hx hb dX11_has_29 (by decide) ?_
    refine W.widen (k := 0) (n := 0) (Nat.le_of_ble_eq_true rfl) (Nat.le_of_ble_eq_true rfl) ?_
    exact W.iret (v := 0) hx hb hr (fun t ht hW9 => ⟨⟨0, u225, rfl, ⟨rfl, h226⟩, by show va_P _ _ _ t.heap; rw [ht]; exact hW.1⟩, hW.2.2.F ht⟩) hW.2.2.2.2 dX11_has_43
  · refine lv_if_ne (tgt := 16) hx hb dX11_has_5 (by decide) (fun _ => ?_) (fun c228 => absurd c228 (by decide))
    refine lv_iconst (v := 1) hx hb dX11_has_16 (by decide) ?_
    refine lv_goto (tgt := 21) hx hb dX11_has_17 (by decide) ?_
    refine lv_iconst (v := 1) hx hb dX11_has_21 (by decide) ?_
    have hW : pcS D vwCl A s.heap NL ad ct _ _ := ⟨hW.1, hD, vaS_mono hW.2⟩
    refine pc_mcalli (va_runV (As := [.int 1, .int 1]) (rest := []) ⟨hx, hb, hml, hown, hts⟩ (m_X11_start1 l D cA NL ad ct A em th 1 hmM hf (by decide)) (cwV 2 hts gX11_has_X11_start rfl rfl rfl (by decide +kernel) ⟨Nat.le_of_ble_eq_true rfl, Nat.le_of_ble_eq_true rfl⟩) (pc_preV pcN_ok hX hW.1 hmM.1 hf.1 rfl ⟨hW.1, hW.2.1, fun q h => hA q (Nat.le_trans hW.2.2.1 h)⟩) rfl rfl hl.1 rfl (lv_room (Nat.le_of_ble_eq_true rfl)) dX11_has_22 ⟨Nat.le_of_ble_eq_true rfl, Nat.le_of_ble_eq_true rfl⟩) hW.2.2 (fun r229 u230 H locs hwr229 hB hS => ?_)
    obtain ⟨rfl, h231⟩ := hwr229
    have hD := pcD_ct (ct' := u230) hW.2.1
    have hW : pcS D vwCl A s.heap NL ad u230 H locs := ⟨hB, hD, hS⟩
    refine lv_if_eq (tgt := 32) hx hb dX11_has_25 (by decide) (fun c232 => absurd c232 (by decide)) (fun _ => ?_)
    refine lv_iconst (v := 0) hx hb dX11_has_28 (by decide) ?_
    refine lv_goto (tgt := 43) hx hb dX11_has_29 (by decide) ?_
    refine W.widen (k := 0) (n := 0) (Nat.le_of_ble_eq_true rfl) (Nat.le_of_ble_eq_true rfl) ?_
    exact W.iret (v := 0) hx hb hr (fun t ht hW9 => ⟨⟨0, u230, rfl, ⟨rfl, h231⟩, by show va_P _ _ _ t.heap; rw [ht]; exact hW.1⟩, hW.2.2.F ht⟩) hW.2.2.2.2 dX11_has_43

set_option maxHeartbeats 4000000 in
set_option maxRecDepth 100000 in
theorem m_X11_send (l : Launch) (D : va_G) (cA : Nat → ClassId) (NL : List (Nat × Nat)) (ad : Nat → Nat → Nat) (ct : Nat → Nat → va_E) (A : Nat → Prop)  (em : Nat) (th : Int32) (x1 : Int32) (x2 : Int32) (hmM : inM NL) (hf : frT th ad em ct) : Met l yX11_send wsX11_send ({ frames := 2, cells := 0, slots := 0, locals := 44 }) (pcPre D vwCl (tyL cA) [.ref (ad 11 0), .int x1, .int x2] (fun H => va_P D vwCl (pcW NL ad ct) H ∧ va_D A (pcW NL ad ct) ∧ ∀ q, H.size ≤ q → A q)) (va_Qi (fun (r : Int32) (u : Nat → Nat → va_E) => r = 0 ∧ frT 1 ad em u) (fun u t => va_P D vwCl (pcW NL ad u) t.heap) A) 0 0 A := by
  refine Met.ofW (cc := cX11_send) (maxL := 7) (ret := (some .int)) (by decide) rfl ?_
  intro p e s m args below meth c s₁ B hml hv
  obtain ⟨rfl, hX, ⟨hP0, hD, hA⟩⟩ := hv
  have hx := B.exec
  have hb := B.bytes
  have hr := B.returns
  have hts := atoms_spec (ws := wsX11_send) B.pre
  have hown : s.vm.findClass RX11 = some m.cls := findClass_of_methodNamed B.named
  have hlocks := B.notSynchronized
  have hW : pcQ D vwCl (fun _ => False) s.heap NL ad ct s.heap [] := ⟨hP0, va_S.rf⟩
  have hl := lv_entry ([.ref (ad 11 0), .int x1, .int x2]) (n := 7) (Nat.le_of_ble_eq_true rfl)
  rw [lg_entry_eq]
  generalize (lg_sl ([.ref (ad 11 0), .int x1, .int x2]) ++ List.replicate (7 - (lg_sl ([.ref (ad 11 0), .int x1, .int x2])).length) Slot.unset).toArray = ls at hl ⊢
  have hl : lv_has ls 7 [(0, .ref (ad 11 0)), (1, .int x1), (2, .int x2)] := hl
  refine lv_aload_n hx hb dX11_send_0 rfl (lv_at hl 0 rfl) ?_
  refine lv_iload_n hx hb dX11_send_1 rfl (lv_at hl 1 rfl) ?_
  refine lv_iconst (v := 1) hx hb dX11_send_2 (by decide) ?_
  refine lv_bipush (v := 15) hx hb dX11_send_3 (by decide) ?_
  refine pc_qcalli (va_runS (As := [.int x1, .int 1, .int 15]) (rest := [.ref (ad 11 0)]) ⟨hx, hb, hml, hown, hts⟩ (r_X11_isIn l D cA NL ad ct x1 1 15) (va_cwS 3 hts gX11_send_X11_isIn rfl rfl rfl (by decide +kernel) ⟨Nat.le_of_ble_eq_true rfl, Nat.le_of_ble_eq_true rfl⟩) (pc_preS pcN_ok hX hW.1) rfl rfl hl.1 rfl (lv_room (Nat.le_of_ble_eq_true rfl)) dX11_send_5 ⟨Nat.le_of_ble_eq_true rfl, Nat.le_of_ble_eq_true rfl⟩) hW (fun r233 H locs hwr233 hW => ?_)
  rcases hwr233 with ⟨rfl, b234a, b234b⟩ | ⟨rfl, b234c⟩
  · refine lv_if_eq (tgt := 19) hx hb dX11_send_8 (by decide) (fun c235 => absurd c235 (by decide)) (fun _ => ?_)
    refine lv_aload_n hx hb dX11_send_11 rfl (lv_at hl 0 rfl) ?_
    refine lv_iload_n hx hb dX11_send_12 rfl (lv_at hl 2 rfl) ?_
    refine pc_qcalli (va_runV (As := [.int x2]) (rest := [.ref (ad 11 0)]) ⟨hx, hb, hml, hown, hts⟩ (r_X11_isNoSet l D cA NL ad ct em th x2 hmM hf) (cwV 1 hts gX11_send_X11_isNoSet rfl rfl rfl (by decide +kernel) ⟨Nat.le_of_ble_eq_true rfl, Nat.le_of_ble_eq_true rfl⟩) (pc_preV pcN_ok hX hW.1 hmM.1 hf.1 rfl hW.1) rfl rfl hl.1 rfl (lv_room (Nat.le_of_ble_eq_true rfl)) dX11_send_13 ⟨Nat.le_of_ble_eq_true rfl, Nat.le_of_ble_eq_true rfl⟩) hW (fun r236 H locs hwr236 hW => ?_)
    subst hwr236
    refine lv_if_eq (tgt := 23) hx hb dX11_send_16 (by decide) (fun c237 => absurd c237 (by decide)) (fun _ => ?_)
    refine lv_iconst (v := 1) hx hb dX11_send_19 (by decide) ?_
    refine lv_goto (tgt := 24) hx hb dX11_send_20 (by decide) ?_
    refine lv_iconst (v := 1) hx hb dX11_send_24 (by decide) ?_
    have hW : pcS D vwCl A s.heap NL ad ct _ _ := ⟨hW.1, hD, vaS_mono hW.2⟩
    refine pc_mcalli (va_runV (As := [.int 1, .int 1]) (rest := []) ⟨hx, hb, hml, hown, hts⟩ (m_X11_start1 l D cA NL ad ct A em th 1 hmM hf (by decide)) (cwV 2 hts gX11_send_X11_start rfl rfl rfl (by decide +kernel) ⟨Nat.le_of_ble_eq_true rfl, Nat.le_of_ble_eq_true rfl⟩) (pc_preV pcN_ok hX hW.1 hmM.1 hf.1 rfl ⟨hW.1, hW.2.1, fun q h => hA q (Nat.le_trans hW.2.2.1 h)⟩) rfl rfl hl.1 rfl (lv_room (Nat.le_of_ble_eq_true rfl)) dX11_send_25 ⟨Nat.le_of_ble_eq_true rfl, Nat.le_of_ble_eq_true rfl⟩) hW.2.2 (fun r238 u239 H locs hwr238 hB hS => ?_)
    obtain ⟨rfl, h240⟩ := hwr238
    have hD := pcD_ct (ct' := u239) hW.2.1
    have hW : pcS D vwCl A s.heap NL ad u239 H locs := ⟨hB, hD, hS⟩
    refine lv_if_eq (tgt := 33) hx hb dX11_send_28 (by decide) (fun c241 => absurd c241 (by decide)) (fun _ => ?_)
    refine lv_iconst (v := 0) hx hb dX11_send_31 (by decide) ?_
    refine W.widen (k := 0) (n := 0) (Nat.le_of_ble_eq_true rfl) (Nat.le_of_ble_eq_true rfl) ?_
    exact W.iret (v := 0) hx hb hr (fun t ht hW9 => ⟨⟨0, u239, rfl, ⟨rfl, h240⟩, by show va_P _ _ _ t.heap; rw [ht]; exact hW.1⟩, hW.2.2.F ht⟩) hW.2.2.2.2 dX11_send_32
  · refine lv_if_eq (tgt := 19) hx hb dX11_send_8 (by decide) (fun _ => ?_) (fun c242 => absurd (by decide) c242)
    refine lv_iconst (v := 1) hx hb dX11_send_19 (by decide) ?_
    refine lv_goto (tgt := 24) hx hb dX11_send_20 (by decide) ?_
    refine lv_iconst (v := 1) hx hb dX11_send_24 (by decide) ?_
    have hW : pcS D vwCl A s.heap NL ad ct _ _ := ⟨hW.1, hD, vaS_mono hW.2⟩
    refine pc_mcalli (va_runV (As := [.int 1, .int 1]) (rest := []) ⟨hx, hb, hml, hown, hts⟩ (m_X11_start1 l D cA NL ad ct A em th 1 hmM hf (by decide)) (cwV 2 hts gX11_send_X11_start rfl rfl rfl (by decide +kernel) ⟨Nat.le_of_ble_eq_true rfl, Nat.le_of_ble_eq_true rfl⟩) (pc_preV pcN_ok hX hW.1 hmM.1 hf.1 rfl ⟨hW.1, hW.2.1, fun q h => hA q (Nat.le_trans hW.2.2.1 h)⟩) rfl rfl hl.1 rfl (lv_room (Nat.le_of_ble_eq_true rfl)) dX11_send_25 ⟨Nat.le_of_ble_eq_true rfl, Nat.le_of_ble_eq_true rfl⟩) hW.2.2 (fun r243 u244 H locs hwr243 hB hS => ?_)
    obtain ⟨rfl, h245⟩ := hwr243
    have hD := pcD_ct (ct' := u244) hW.2.1
    have hW : pcS D vwCl A s.heap NL ad u244 H locs := ⟨hB, hD, hS⟩
    refine lv_if_eq (tgt := 33) hx hb dX11_send_28 (by decide) (fun c246 => absurd c246 (by decide)) (fun _ => ?_)
    refine lv_iconst (v := 0) hx hb dX11_send_31 (by decide) ?_
    refine W.widen (k := 0) (n := 0) (Nat.le_of_ble_eq_true rfl) (Nat.le_of_ble_eq_true rfl) ?_
    exact W.iret (v := 0) hx hb hr (fun t ht hW9 => ⟨⟨0, u244, rfl, ⟨rfl, h245⟩, by show va_P _ _ _ t.heap; rw [ht]; exact hW.1⟩, hW.2.2.F ht⟩) hW.2.2.2.2 dX11_send_32
