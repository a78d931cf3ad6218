set_option maxHeartbeats 4000000 in
set_option maxRecDepth 100000 in
theorem l_X11_thrownl (l : Launch) (D : va_G) (cA : Nat → ClassId) (A : Nat → Prop) (m0 o0 : Nat) (th : Int32)  : Met l yX11_thrown wsX11_thrown ({ frames := 0, cells := 0, slots := 0, locals := 0 }) (pcPre D vwCl (tyL cA) [.ref m0] (fun H => va_P D vwCl [(m0, .inr (12, [.int th, .ref o0]))] H ∧ va_D A [(m0, .inr (12, [.int th, .ref o0]))] ∧ (∀ q, H.size ≤ q → A q))) (va_Qi (fun (r : Int32) (u : Unit) => r = th) (fun (u : Unit) t => va_P D vwCl [(m0, .inr (12, [.int th, .ref o0]))] t.heap ∧ va_D A [(m0, .inr (12, [.int th, .ref o0]))]) A) 0 0 A := by
  refine Met.ofW (cc := cX11_thrown) (maxL := 1) (ret := (some .int)) (by decide) rfl ?_
  intro p e s m args below meth c s₁ B hml hv
  obtain ⟨rfl, hX, hP, hD, hA⟩ := hv
  have hx := B.exec
  have hb := B.bytes
  have hr := B.returns
  have hts := atoms_spec (ws := wsX11_thrown) B.pre
  have hown : s.vm.findClass RX11 = some m.cls := findClass_of_methodNamed B.named
  have hlocks := B.notSynchronized
  have hS : va_S A s.heap s.heap [] := va_S.rf
  have hl := lv_entry ([.ref m0]) (n := 1) (Nat.le_of_ble_eq_true rfl)
  rw [lg_entry_eq]
  generalize (lg_sl ([.ref m0]) ++ List.replicate (1 - (lg_sl ([.ref m0])).length) Slot.unset).toArray = ls at hl ⊢
  have hl : lv_has ls 1 [(0, .ref m0)] := hl
  refine lv_aload_n hx hb dX11_thrown_0 rfl (lv_at hl 0 rfl) ?_
  refine va_get (D := D) (ci := 12) (v := .int th) (C := RX11) (T := TX11) (N := 2) hx hb hts (by decide +kernel) hown hX.1 hP 0 rfl rfl 0 (by decide) (hts (.fieldLink RX11 16 "DraftsmanOfficeModel" "thrown" "I") (by decide +kernel)) (fun _ h9 => h9) rfl dX11_thrown_1 ?_
  have hP9 := hP.sub (ws' := [(m0, .inr (12, [.int th, .ref o0]))]) [0] rfl
  have hD9 := hD.sub (ws' := [(m0, .inr (12, [.int th, .ref o0]))]) [0] (by decide) rfl
  refine W.widen (k := 0) (n := 0) (Nat.le_of_ble_eq_true rfl) (Nat.le_of_ble_eq_true rfl) ?_
  exact W.iret (v := th) hx hb hr (fun t ht hW9 => ⟨⟨th, (), rfl, rfl, ⟨by show va_P _ _ _ t.heap; rw [ht]; exact hP9, hD9⟩⟩, hS.F ht⟩) hS.2.2 dX11_thrown_4
