set_option maxHeartbeats 4000000 in
set_option maxRecDepth 100000 in
theorem l_J7_fill_53178 (l : Launch) (D : va_G) (cA : Nat → ClassId) (A : Nat → Prop) (h0 n : Nat) (f : Nat → Int32) (v : Int32) (hn : n < 2 ^ 31) : Met l yJ7_fill_53178 wsJ7_fill_53178 ({ frames := 0, cells := 0, slots := 0, locals := 0 }) (pcPre D vwCl (tyL cA) [.ref h0, .int v] (fun H => va_P D vwCl [(h0, .inl (cA 0, n, .inl f))] H ∧ va_D A [(h0, .inl (cA 0, n, .inl f))] ∧ (∀ q, H.size ≤ q → A q))) (va_Qv (fun (u : Nat → Int32) => ∀ j, j < n → u j = v) (fun (u : Nat → Int32) t => va_P D vwCl [(h0, .inl (cA 0, n, .inl u))] t.heap ∧ va_D A [(h0, .inl (cA 0, n, .inl u))]) A) 0 0 A := by
  refine Met.ofW (cc := cJ7_fill_53178) (maxL := 4) (ret := none) (by decide) rfl ?_
  intro p e s m args below meth c s₁ B hml hv
  obtain ⟨rfl, hX, hP, hD, hA⟩ := hv
  have hx := B.exec
  have hb := B.bytes
  have hr := B.returns
  have hts := atoms_spec (ws := wsJ7_fill_53178) B.pre
  have hown : s.vm.findClass RJ7 = some m.cls := findClass_of_methodNamed B.named
  have hlocks := B.notSynchronized
  have hS : va_S A s.heap s.heap [] := va_S.rf
  have hl := lv_entry ([.ref h0, .int v]) (n := 4) (Nat.le_of_ble_eq_true rfl)
  rw [lg_entry_eq]
  generalize (lg_sl ([.ref h0, .int v]) ++ List.replicate (4 - (lg_sl ([.ref h0, .int v])).length) Slot.unset).toArray = ls at hl ⊢
  have hl : lv_has ls 4 [(0, .ref h0), (1, .int v)] := hl
  refine lv_iconst (v := 0) hx hb dJ7_fill_53178_0 (by decide) ?_
  refine lv_istore_n (lv' := [(2, .int 0), (0, .ref h0), (1, .int v)]) hx hb dJ7_fill_53178_1 rfl hl (by decide) rfl (fun ls hl => ?_)
  refine lv_aload_n hx hb dJ7_fill_53178_2 rfl (lv_at hl 1 rfl) ?_
  refine va_alen (v := nI n) hx hb hX.1 hP 0 0 rfl rfl rfl dJ7_fill_53178_3 ?_
  refine lv_istore_n (lv' := [(3, .int ((nI n))), (2, .int 0), (0, .ref h0), (1, .int v)]) hx hb dJ7_fill_53178_4 rfl hl (by decide) rfl (fun ls hl => ?_)
  have K : ∀ (k i : Nat) (f1 : Nat → Int32) (H : Heap) (locs : List Loc) (ls : Array Slot), i + k = n → (∀ j, j < i → f1 j = v) → va_P D vwCl [(h0, .inl (cA 0, n, .inl f1))] H → va_D A [(h0, .inl (cA 0, n, .inl f1))] → va_S A s.heap H locs → lv_has ls 4 [(2, .int (nI i)), (3, .int (nI n)), (0, .ref h0), (1, .int v)] → W p l e (headSpec wsJ7_fill_53178 ({ frames := 0, cells := 0, slots := 0, locals := 0 })).room s m ([.ref h0, .int v] : List Value).toArray below meth c H locs 0 0 (MQ below (va_Qv (fun (u : Nat → Int32) => ∀ j, j < n → u j = v) (fun (u : Nat → Int32) t => va_P D vwCl [(h0, .inl (cA 0, n, .inl u))] t.heap ∧ va_D A [(h0, .inl (cA 0, n, .inl u))]) A) ([.ref h0, .int v] : List Value).toArray s 0 0 A) (F0 m 5 ls []) := by
    intro k
    induction k with
    | zero =>
      intro i f1 H locs ls hk hf hP hD hS hl
      have ei : i = n := by omega
      subst ei
      refine lv_iload_n hx hb dJ7_fill_53178_5 rfl (lv_at hl 0 rfl) ?_
      refine lv_iload_n hx hb dJ7_fill_53178_6 rfl (lv_at hl 1 rfl) ?_
      refine lv_icmp_ge (tgt := 20) hx hb dJ7_fill_53178_7 (by decide) (fun _ => ?_) (fun c247 => absurd (Int32.le_refl _) c247)
      have hP9 := hP.sub (ws' := [(h0, .inl (cA 0, i, .inl f1))]) [0] rfl
      have hD9 := hD.sub (ws' := [(h0, .inl (cA 0, i, .inl f1))]) [0] (by decide) rfl
      refine W.widen (k := 0) (n := 0) (Nat.le_of_ble_eq_true rfl) (Nat.le_of_ble_eq_true rfl) ?_
      exact W.vret hx hb hr (fun t ht hW9 => ⟨⟨f1, rfl, hf, ⟨by show va_P _ _ _ t.heap; rw [ht]; exact hP9, hD9⟩⟩, hS.F ht⟩) hS.2.2 dJ7_fill_53178_20
    | succ k ih =>
      intro i f1 H locs ls hk hf hP hD hS hl
      have hlt : i < n := by omega
      refine lv_iload_n hx hb dJ7_fill_53178_5 rfl (lv_at hl 0 rfl) ?_
      refine lv_iload_n hx hb dJ7_fill_53178_6 rfl (lv_at hl 1 rfl) ?_
      refine lv_icmp_ge (tgt := 20) hx hb dJ7_fill_53178_7 (by decide) (fun c248 => absurd c248 (nI_ge hlt hn)) (fun _ => ?_)
      refine lv_aload_n hx hb dJ7_fill_53178_10 rfl (lv_at hl 2 rfl) ?_
      refine lv_iload_n hx hb dJ7_fill_53178_11 rfl (lv_at hl 0 rfl) ?_
      refine lv_iload_n hx hb dJ7_fill_53178_12 rfl (lv_at hl 3 rfl) ?_
      refine va_iast hx hb hX.1 hP hD hS 0 0 rfl rfl (vp_in_nI hlt hn) dJ7_fill_53178_13 (fun H locs hP hD hS => ?_)
      rw [nI_clamp (Nat.lt_trans hlt hn)] at hP hD
      refine lv_iinc (v := nI (i + 1)) (lv' := [(2, .int (nI (i + 1))), (3, .int (nI n)), (0, .ref h0), (1, .int v)]) hx hb dJ7_fill_53178_14 hl (k := 0) rfl (nI_1 i) (by decide) rfl (fun ls hl => ?_)
      refine lv_goto (tgt := 5) hx hb dJ7_fill_53178_17 (by decide) ?_
      exact ih (i + 1) (upd f1 i v) H locs ls (by omega) (fun j hj => by unfold upd; split <;> first | rfl | (exact hf j (by omega))) hP hD hS (lv_sub hl [0, 1, 2, 3] rfl)
  exact K n 0 f _ _ ls (Nat.zero_add n) (fun j hj => absurd hj (Nat.not_lt_zero j)) hP hD hS (lv_sub hl [1, 0, 2, 3] rfl)

set_option maxHeartbeats 4000000 in
set_option maxRecDepth 100000 in
theorem l_X5_init (l : Launch) (D : va_G) (cA : Nat → ClassId) (A : Nat → Prop) (h0 : Nat)  : Met l yX5_init wsX5_init ({ frames := 1, cells := 11, slots := 132, locals := 23 }) (pcPre D vwCl (tyL cA) [.ref h0] (fun H => va_P D vwCl [(h0, .inr (6, [.null, .null, .null, .null, .null, .null, .null, .int 0, .int 0, .int 0, .int 0, .int 0, .int 0]))] H ∧ va_D A [(h0, .inr (6, [.null, .null, .null, .null, .null, .null, .null, .int 0, .int 0, .int 0, .int 0, .int 0, .int 0]))] ∧ (∀ q, H.size ≤ q → A q))) (va_Qv (fun (u : Unit) => True) (fun (u : Unit) t => ∃ (q249 : Nat) (q252 : Nat) (q255 : Nat) (q258 : Nat) (q261 : Nat) (q264 : Nat) (q276 : Nat) (q272 : Nat) (q273 : Nat) (q274 : Nat) (q275 : Nat) (u280 : Nat → Int32)  (u285 : Nat → Int32)  (u290 : Nat → Int32)  (u295 : Nat → Int32), va_P D vwCl [(h0, .inr (6, [.ref q249, .ref q252, .ref q255, .ref q258, .ref q261, .ref q264, .ref q276, .int 0, .int 0, .int 0, .int 0, .int 0, .int 0])), (q249, .inl (cA 3, 10, .inr (.inr (.inr (.inr (fun _ => none)))))), (q252, .inl (cA 4, 20, .inr (.inr (.inr (.inr (fun _ => none)))))), (q255, .inl (cA 5, 20, .inr (.inr (.inr (.inr (fun _ => none)))))), (q258, .inl (cA 6, 20, .inr (.inr (.inr (.inr (fun _ => none)))))), (q261, .inl (cA 7, 8, .inr (.inr (.inr (.inr (fun _ => none)))))), (q264, .inl (cA 9, 4, .inr (.inr (.inr (.inr (fun i => ([q272, q273, q274, q275] : List Nat)[i]?)))))), (q276, .inl (cA 0, 10, .inl (fun _ => 0))), (q272, .inl (cA 0, 10, .inl u280)), (q273, .inl (cA 0, 10, .inl u285)), (q274, .inl (cA 0, 10, .inl u290)), (q275, .inl (cA 0, 10, .inl u295))] t.heap ∧ va_D A [(h0, .inr (6, [.ref q249, .ref q252, .ref q255, .ref q258, .ref q261, .ref q264, .ref q276, .int 0, .int 0, .int 0, .int 0, .int 0, .int 0])), (q249, .inl (cA 3, 10, .inr (.inr (.inr (.inr (fun _ => none)))))), (q252, .inl (cA 4, 20, .inr (.inr (.inr (.inr (fun _ => none)))))), (q255, .inl (cA 5, 20, .inr (.inr (.inr (.inr (fun _ => none)))))), (q258, .inl (cA 6, 20, .inr (.inr (.inr (.inr (fun _ => none)))))), (q261, .inl (cA 7, 8, .inr (.inr (.inr (.inr (fun _ => none)))))), (q264, .inl (cA 9, 4, .inr (.inr (.inr (.inr (fun i => ([q272, q273, q274, q275] : List Nat)[i]?)))))), (q276, .inl (cA 0, 10, .inl (fun _ => 0))), (q272, .inl (cA 0, 10, .inl u280)), (q273, .inl (cA 0, 10, .inl u285)), (q274, .inl (cA 0, 10, .inl u290)), (q275, .inl (cA 0, 10, .inl u295))]) A) 11 132 A := by
  refine Met.ofW (cc := cX5_init) (maxL := 2) (ret := none) (by decide) rfl ?_
  intro p e s m args below meth c s₁ B hml hv
  obtain ⟨rfl, hX, hP, hD, hA⟩ := hv
  have hx := B.exec
  have hb := B.bytes
  have hr := B.returns
  have hts := atoms_spec (ws := wsX5_init) B.pre
  have hown : s.vm.findClass RX5 = some m.cls := findClass_of_methodNamed B.named
  have hlocks := B.notSynchronized
  have hin : meth.name = "<init>" := (name_of_methodNamed B.named B.method).1
  have hS : va_S A s.heap s.heap [] := va_S.rf
  have hl := lv_entry ([.ref h0]) (n := 2) (Nat.le_of_ble_eq_true rfl)
  rw [lg_entry_eq]
  generalize (lg_sl ([.ref h0]) ++ List.replicate (2 - (lg_sl ([.ref h0])).length) Slot.unset).toArray = ls at hl ⊢
  have hl : lv_has ls 2 [(0, .ref h0)] := hl
  refine lv_aload_n hx hb dX5_init_0 rfl (lv_at hl 0 rfl) ?_
  refine W.objInit hx hb hown (hts (.methodLink RX5 3 objectInit) (by decide +kernel)) (hts (.instanceMethod objectInit) (by decide +kernel)) (hts (.code objectInit ⟨#[0xb1]⟩ 1 none) (by decide +kernel)) rfl (by rw [hml]; exact hl.1) rfl dX5_init_1 (Nat.le_of_ble_eq_true rfl) (Nat.le_of_ble_eq_true rfl) ?_
  refine W.eq (g2 := F0 m 4 ls []) rfl ?_
  refine lv_aload_n hx hb dX5_init_4 rfl (lv_at hl 0 rfl) ?_
  refine lv_bipush (v := 10) hx hb dX5_init_5 (by decide) ?_
  refine va_newq (C := RX3) (N' := 10) hx hb hown (hts (.classLink RX5 9 RX3) (by decide +kernel)) (hX.2.2.1 RX3 (by decide +kernel)) hX.1 hP hD hS hA (by decide) (by decide) (Nat.le_of_ble_eq_true rfl) (Nat.le_of_ble_eq_true rfl) (Nat.le_of_ble_eq_true rfl) dX5_init_7 (fun q249 y250 H hK9 hP hD hS => ?_)
  obtain rfl : y250 = cA 3 := va_K_last (t0 := 3) hX.1 rfl hK9
  have hP : va_P D vwCl [(h0, .inr (6, [.null, .null, .null, .null, .null, .null, .null, .int 0, .int 0, .int 0, .int 0, .int 0, .int 0])), (q249, .inl (cA 3, 10, .inr (.inr (.inr (.inr (fun _ => none))))))] H := hP
  have hD : va_D A [(h0, .inr (6, [.null, .null, .null, .null, .null, .null, .null, .int 0, .int 0, .int 0, .int 0, .int 0, .int 0])), (q249, .inl (cA 3, 10, .inr (.inr (.inr (.inr (fun _ => none))))))] := hD
  refine W.widen (k := 1) (n := 10) (Nat.le_of_ble_eq_true rfl) (Nat.le_of_ble_eq_true rfl) ?_
  refine va_putF (D := D) (ci := 6) (v := .ref q249) (ty := .array (.object "DraftsmanOffice$Sheet")) (C := RX5) (T := TX5) (N := 13) hx hb hts (by decide +kernel) tyX5 tyX5_ok nmX5 hown hX.1 hP hD hS 0 rfl rfl 0 (by decide) (hts (.fieldLink RX5 11 "DraftsmanOffice" "sheets" "[LDraftsmanOffice$Sheet;") (by decide +kernel)) (fun _ h9 => h9) rfl hin rfl (by decide +kernel) rfl rfl (Nat.le_of_ble_eq_true rfl) dX5_init_10 (fun H locs hP hD hS => ?_)
  have hP : va_P D vwCl [(h0, .inr (6, [.ref q249, .null, .null, .null, .null, .null, .null, .int 0, .int 0, .int 0, .int 0, .int 0, .int 0])), (q249, .inl (cA 3, 10, .inr (.inr (.inr (.inr (fun _ => none))))))] H := hP
  have hD : va_D A [(h0, .inr (6, [.ref q249, .null, .null, .null, .null, .null, .null, .int 0, .int 0, .int 0, .int 0, .int 0, .int 0])), (q249, .inl (cA 3, 10, .inr (.inr (.inr (.inr (fun _ => none))))))] := hD
  refine lv_aload_n hx hb dX5_init_13 rfl (lv_at hl 0 rfl) ?_
  refine lv_bipush (v := 20) hx hb dX5_init_14 (by decide) ?_
  refine va_newq (C := RX1) (N' := 20) hx hb hown (hts (.classLink RX5 15 RX1) (by decide +kernel)) (hX.2.2.1 RX1 (by decide +kernel)) hX.1 hP hD hS hA (by decide) (by decide) (Nat.le_of_ble_eq_true rfl) (Nat.le_of_ble_eq_true rfl) (Nat.le_of_ble_eq_true rfl) dX5_init_16 (fun q252 y253 H hK9 hP hD hS => ?_)
  obtain rfl : y253 = cA 4 := va_K_last (t0 := 4) hX.1 rfl hK9
  have hP : va_P D vwCl [(h0, .inr (6, [.ref q249, .null, .null, .null, .null, .null, .null, .int 0, .int 0, .int 0, .int 0, .int 0, .int 0])), (q249, .inl (cA 3, 10, .inr (.inr (.inr (.inr (fun _ => none)))))), (q252, .inl (cA 4, 20, .inr (.inr (.inr (.inr (fun _ => none))))))] H := hP
  have hD : va_D A [(h0, .inr (6, [.ref q249, .null, .null, .null, .null, .null, .null, .int 0, .int 0, .int 0, .int 0, .int 0, .int 0])), (q249, .inl (cA 3, 10, .inr (.inr (.inr (.inr (fun _ => none)))))), (q252, .inl (cA 4, 20, .inr (.inr (.inr (.inr (fun _ => none))))))] := hD
  refine W.widen (k := 2) (n := 30) (Nat.le_of_ble_eq_true rfl) (Nat.le_of_ble_eq_true rfl) ?_
  refine va_putF (D := D) (ci := 6) (v := .ref q252) (ty := .array (.object "DraftsmanOffice$Reference")) (C := RX5) (T := TX5) (N := 13) hx hb hts (by decide +kernel) tyX5 tyX5_ok nmX5 hown hX.1 hP hD hS 0 rfl rfl 1 (by decide) (hts (.fieldLink RX5 17 "DraftsmanOffice" "references" "[LDraftsmanOffice$Reference;") (by decide +kernel)) (fun _ h9 => h9) rfl hin rfl (by decide +kernel) rfl rfl (Nat.le_of_ble_eq_true rfl) dX5_init_19 (fun H locs hP hD hS => ?_)
  have hP : va_P D vwCl [(h0, .inr (6, [.ref q249, .ref q252, .null, .null, .null, .null, .null, .int 0, .int 0, .int 0, .int 0, .int 0, .int 0])), (q249, .inl (cA 3, 10, .inr (.inr (.inr (.inr (fun _ => none)))))), (q252, .inl (cA 4, 20, .inr (.inr (.inr (.inr (fun _ => none))))))] H := hP
  have hD : va_D A [(h0, .inr (6, [.ref q249, .ref q252, .null, .null, .null, .null, .null, .int 0, .int 0, .int 0, .int 0, .int 0, .int 0])), (q249, .inl (cA 3, 10, .inr (.inr (.inr (.inr (fun _ => none)))))), (q252, .inl (cA 4, 20, .inr (.inr (.inr (.inr (fun _ => none))))))] := hD
  refine lv_aload_n hx hb dX5_init_22 rfl (lv_at hl 0 rfl) ?_
  refine lv_bipush (v := 20) hx hb dX5_init_23 (by decide) ?_
  refine va_newq (C := RX2) (N' := 20) hx hb hown (hts (.classLink RX5 21 RX2) (by decide +kernel)) (hX.2.2.1 RX2 (by decide +kernel)) hX.1 hP hD hS hA (by decide) (by decide) (Nat.le_of_ble_eq_true rfl) (Nat.le_of_ble_eq_true rfl) (Nat.le_of_ble_eq_true rfl) dX5_init_25 (fun q255 y256 H hK9 hP hD hS => ?_)
  obtain rfl : y256 = cA 5 := va_K_last (t0 := 5) hX.1 rfl hK9
  have hP : va_P D vwCl [(h0, .inr (6, [.ref q249, .ref q252, .null, .null, .null, .null, .null, .int 0, .int 0, .int 0, .int 0, .int 0, .int 0])), (q249, .inl (cA 3, 10, .inr (.inr (.inr (.inr (fun _ => none)))))), (q252, .inl (cA 4, 20, .inr (.inr (.inr (.inr (fun _ => none)))))), (q255, .inl (cA 5, 20, .inr (.inr (.inr (.inr (fun _ => none))))))] H := hP
  have hD : va_D A [(h0, .inr (6, [.ref q249, .ref q252, .null, .null, .null, .null, .null, .int 0, .int 0, .int 0, .int 0, .int 0, .int 0])), (q249, .inl (cA 3, 10, .inr (.inr (.inr (.inr (fun _ => none)))))), (q252, .inl (cA 4, 20, .inr (.inr (.inr (.inr (fun _ => none)))))), (q255, .inl (cA 5, 20, .inr (.inr (.inr (.inr (fun _ => none))))))] := hD
  refine W.widen (k := 3) (n := 50) (Nat.le_of_ble_eq_true rfl) (Nat.le_of_ble_eq_true rfl) ?_
  refine va_putF (D := D) (ci := 6) (v := .ref q255) (ty := .array (.object "DraftsmanOffice$Sending")) (C := RX5) (T := TX5) (N := 13) hx hb hts (by decide +kernel) tyX5 tyX5_ok nmX5 hown hX.1 hP hD hS 0 rfl rfl 2 (by decide) (hts (.fieldLink RX5 23 "DraftsmanOffice" "sendings" "[LDraftsmanOffice$Sending;") (by decide +kernel)) (fun _ h9 => h9) rfl hin rfl (by decide +kernel) rfl rfl (Nat.le_of_ble_eq_true rfl) dX5_init_28 (fun H locs hP hD hS => ?_)
  have hP : va_P D vwCl [(h0, .inr (6, [.ref q249, .ref q252, .ref q255, .null, .null, .null, .null, .int 0, .int 0, .int 0, .int 0, .int 0, .int 0])), (q249, .inl (cA 3, 10, .inr (.inr (.inr (.inr (fun _ => none)))))), (q252, .inl (cA 4, 20, .inr (.inr (.inr (.inr (fun _ => none)))))), (q255, .inl (cA 5, 20, .inr (.inr (.inr (.inr (fun _ => none))))))] H := hP
  have hD : va_D A [(h0, .inr (6, [.ref q249, .ref q252, .ref q255, .null, .null, .null, .null, .int 0, .int 0, .int 0, .int 0, .int 0, .int 0])), (q249, .inl (cA 3, 10, .inr (.inr (.inr (.inr (fun _ => none)))))), (q252, .inl (cA 4, 20, .inr (.inr (.inr (.inr (fun _ => none)))))), (q255, .inl (cA 5, 20, .inr (.inr (.inr (.inr (fun _ => none))))))] := hD
  refine lv_aload_n hx hb dX5_init_31 rfl (lv_at hl 0 rfl) ?_
  refine lv_bipush (v := 20) hx hb dX5_init_32 (by decide) ?_
  refine va_newq (C := RX0) (N' := 20) hx hb hown (hts (.classLink RX5 27 RX0) (by decide +kernel)) (hX.2.2.1 RX0 (by decide +kernel)) hX.1 hP hD hS hA (by decide) (by decide) (Nat.le_of_ble_eq_true rfl) (Nat.le_of_ble_eq_true rfl) (Nat.le_of_ble_eq_true rfl) dX5_init_34 (fun q258 y259 H hK9 hP hD hS => ?_)
  obtain rfl : y259 = cA 6 := va_K_last (t0 := 6) hX.1 rfl hK9
  have hP : va_P D vwCl [(h0, .inr (6, [.ref q249, .ref q252, .ref q255, .null, .null, .null, .null, .int 0, .int 0, .int 0, .int 0, .int 0, .int 0])), (q249, .inl (cA 3, 10, .inr (.inr (.inr (.inr (fun _ => none)))))), (q252, .inl (cA 4, 20, .inr (.inr (.inr (.inr (fun _ => none)))))), (q255, .inl (cA 5, 20, .inr (.inr (.inr (.inr (fun _ => none)))))), (q258, .inl (cA 6, 20, .inr (.inr (.inr (.inr (fun _ => none))))))] H := hP
  have hD : va_D A [(h0, .inr (6, [.ref q249, .ref q252, .ref q255, .null, .null, .null, .null, .int 0, .int 0, .int 0, .int 0, .int 0, .int 0])), (q249, .inl (cA 3, 10, .inr (.inr (.inr (.inr (fun _ => none)))))), (q252, .inl (cA 4, 20, .inr (.inr (.inr (.inr (fun _ => none)))))), (q255, .inl (cA 5, 20, .inr (.inr (.inr (.inr (fun _ => none)))))), (q258, .inl (cA 6, 20, .inr (.inr (.inr (.inr (fun _ => none))))))] := hD
  refine W.widen (k := 4) (n := 70) (Nat.le_of_ble_eq_true rfl) (Nat.le_of_ble_eq_true rfl) ?_
  refine va_putF (D := D) (ci := 6) (v := .ref q258) (ty := .array (.object "DraftsmanOffice$Query")) (C := RX5) (T := TX5) (N := 13) hx hb hts (by decide +kernel) tyX5 tyX5_ok nmX5 hown hX.1 hP hD hS 0 rfl rfl 3 (by decide) (hts (.fieldLink RX5 29 "DraftsmanOffice" "queries" "[LDraftsmanOffice$Query;") (by decide +kernel)) (fun _ h9 => h9) rfl hin rfl (by decide +kernel) rfl rfl (Nat.le_of_ble_eq_true rfl) dX5_init_37 (fun H locs hP hD hS => ?_)
  have hP : va_P D vwCl [(h0, .inr (6, [.ref q249, .ref q252, .ref q255, .ref q258, .null, .null, .null, .int 0, .int 0, .int 0, .int 0, .int 0, .int 0])), (q249, .inl (cA 3, 10, .inr (.inr (.inr (.inr (fun _ => none)))))), (q252, .inl (cA 4, 20, .inr (.inr (.inr (.inr (fun _ => none)))))), (q255, .inl (cA 5, 20, .inr (.inr (.inr (.inr (fun _ => none)))))), (q258, .inl (cA 6, 20, .inr (.inr (.inr (.inr (fun _ => none))))))] H := hP
  have hD : va_D A [(h0, .inr (6, [.ref q249, .ref q252, .ref q255, .ref q258, .null, .null, .null, .int 0, .int 0, .int 0, .int 0, .int 0, .int 0])), (q249, .inl (cA 3, 10, .inr (.inr (.inr (.inr (fun _ => none)))))), (q252, .inl (cA 4, 20, .inr (.inr (.inr (.inr (fun _ => none)))))), (q255, .inl (cA 5, 20, .inr (.inr (.inr (.inr (fun _ => none)))))), (q258, .inl (cA 6, 20, .inr (.inr (.inr (.inr (fun _ => none))))))] := hD
  refine lv_aload_n hx hb dX5_init_40 rfl (lv_at hl 0 rfl) ?_
  refine lv_bipush (v := 8) hx hb dX5_init_41 (by decide) ?_
  refine va_newq (C := RX4) (N' := 8) hx hb hown (hts (.classLink RX5 33 RX4) (by decide +kernel)) (hX.2.2.1 RX4 (by decide +kernel)) hX.1 hP hD hS hA (by decide) (by decide) (Nat.le_of_ble_eq_true rfl) (Nat.le_of_ble_eq_true rfl) (Nat.le_of_ble_eq_true rfl) dX5_init_43 (fun q261 y262 H hK9 hP hD hS => ?_)
  obtain rfl : y262 = cA 7 := va_K_last (t0 := 7) hX.1 rfl hK9
  have hP : va_P D vwCl [(h0, .inr (6, [.ref q249, .ref q252, .ref q255, .ref q258, .null, .null, .null, .int 0, .int 0, .int 0, .int 0, .int 0, .int 0])), (q249, .inl (cA 3, 10, .inr (.inr (.inr (.inr (fun _ => none)))))), (q252, .inl (cA 4, 20, .inr (.inr (.inr (.inr (fun _ => none)))))), (q255, .inl (cA 5, 20, .inr (.inr (.inr (.inr (fun _ => none)))))), (q258, .inl (cA 6, 20, .inr (.inr (.inr (.inr (fun _ => none)))))), (q261, .inl (cA 7, 8, .inr (.inr (.inr (.inr (fun _ => none))))))] H := hP
  have hD : va_D A [(h0, .inr (6, [.ref q249, .ref q252, .ref q255, .ref q258, .null, .null, .null, .int 0, .int 0, .int 0, .int 0, .int 0, .int 0])), (q249, .inl (cA 3, 10, .inr (.inr (.inr (.inr (fun _ => none)))))), (q252, .inl (cA 4, 20, .inr (.inr (.inr (.inr (fun _ => none)))))), (q255, .inl (cA 5, 20, .inr (.inr (.inr (.inr (fun _ => none)))))), (q258, .inl (cA 6, 20, .inr (.inr (.inr (.inr (fun _ => none)))))), (q261, .inl (cA 7, 8, .inr (.inr (.inr (.inr (fun _ => none))))))] := hD
  refine W.widen (k := 5) (n := 78) (Nat.le_of_ble_eq_true rfl) (Nat.le_of_ble_eq_true rfl) ?_
  refine va_putF (D := D) (ci := 6) (v := .ref q261) (ty := .array (.object "DraftsmanOffice$WorkPackage")) (C := RX5) (T := TX5) (N := 13) hx hb hts (by decide +kernel) tyX5 tyX5_ok nmX5 hown hX.1 hP hD hS 0 rfl rfl 4 (by decide) (hts (.fieldLink RX5 35 "DraftsmanOffice" "packages" "[LDraftsmanOffice$WorkPackage;") (by decide +kernel)) (fun _ h9 => h9) rfl hin rfl (by decide +kernel) rfl rfl (Nat.le_of_ble_eq_true rfl) dX5_init_46 (fun H locs hP hD hS => ?_)
  have hP : va_P D vwCl [(h0, .inr (6, [.ref q249, .ref q252, .ref q255, .ref q258, .ref q261, .null, .null, .int 0, .int 0, .int 0, .int 0, .int 0, .int 0])), (q249, .inl (cA 3, 10, .inr (.inr (.inr (.inr (fun _ => none)))))), (q252, .inl (cA 4, 20, .inr (.inr (.inr (.inr (fun _ => none)))))), (q255, .inl (cA 5, 20, .inr (.inr (.inr (.inr (fun _ => none)))))), (q258, .inl (cA 6, 20, .inr (.inr (.inr (.inr (fun _ => none)))))), (q261, .inl (cA 7, 8, .inr (.inr (.inr (.inr (fun _ => none))))))] H := hP
  have hD : va_D A [(h0, .inr (6, [.ref q249, .ref q252, .ref q255, .ref q258, .ref q261, .null, .null, .int 0, .int 0, .int 0, .int 0, .int 0, .int 0])), (q249, .inl (cA 3, 10, .inr (.inr (.inr (.inr (fun _ => none)))))), (q252, .inl (cA 4, 20, .inr (.inr (.inr (.inr (fun _ => none)))))), (q255, .inl (cA 5, 20, .inr (.inr (.inr (.inr (fun _ => none)))))), (q258, .inl (cA 6, 20, .inr (.inr (.inr (.inr (fun _ => none)))))), (q261, .inl (cA 7, 8, .inr (.inr (.inr (.inr (fun _ => none))))))] := hD
  refine lv_aload_n hx hb dX5_init_49 rfl (lv_at hl 0 rfl) ?_
  refine lv_iconst (v := 4) hx hb dX5_init_50 (by decide) ?_
  refine lv_bipush (v := 10) hx hb dX5_init_51 (by decide) ?_
  refine va_mna (X := [(h0, .inr (6, [.ref q249, .ref q252, .ref q255, .ref q258, .ref q261, .null, .null, .int 0, .int 0, .int 0, .int 0, .int 0, .int 0])), (q249, .inl (cA 3, 10, .inr (.inr (.inr (.inr (fun _ => none)))))), (q252, .inl (cA 4, 20, .inr (.inr (.inr (.inr (fun _ => none)))))), (q255, .inl (cA 5, 20, .inr (.inr (.inr (.inr (fun _ => none)))))), (q258, .inl (cA 6, 20, .inr (.inr (.inr (.inr (fun _ => none)))))), (q261, .inl (cA 7, 8, .inr (.inr (.inr (.inr (fun _ => none))))))]) (L := []) (f := fun _ => .inr (0, [])) (ty := .int) (cy := cA 0) (N' := 4) (K' := 10) (z := (10, .inl (fun _ => 0))) hx hb hown (hts (.classLink RX5 39 "[[I") (by decide +kernel)) (hX.2.2.2 .int (by decide +kernel)) (hts (.arrayClass .int) (by decide +kernel)) (hX.1.2 0 _ rfl).2 hX.1 hP hD hS hA (by decide) (by decide) (by decide) (by decide) (Nat.le_of_ble_eq_true rfl) (Nat.le_of_ble_eq_true rfl) (Nat.le_of_ble_eq_true rfl) rfl rfl (Nat.le_of_ble_eq_true rfl) (Nat.le_of_ble_eq_true rfl) (fun _ => rfl) dX5_init_53 (fun q264 g265 y266 H _ _ hK9 hP hD hS => ?_)
  obtain rfl : y266 = cA 9 := va_K_last (t0 := 9) hX.1 rfl hK9
  rw [vr_rowsN, vr_sel] at hP hD
  have hP : va_P D vwCl [(h0, .inr (6, [.ref q249, .ref q252, .ref q255, .ref q258, .ref q261, .null, .null, .int 0, .int 0, .int 0, .int 0, .int 0, .int 0])), (q249, .inl (cA 3, 10, .inr (.inr (.inr (.inr (fun _ => none)))))), (q252, .inl (cA 4, 20, .inr (.inr (.inr (.inr (fun _ => none)))))), (q255, .inl (cA 5, 20, .inr (.inr (.inr (.inr (fun _ => none)))))), (q258, .inl (cA 6, 20, .inr (.inr (.inr (.inr (fun _ => none)))))), (q261, .inl (cA 7, 8, .inr (.inr (.inr (.inr (fun _ => none)))))), (q264, .inl (cA 9, 4, .inr (.inr (.inr (.inr (fun i => ([(g265 0), (g265 1), (g265 2), (g265 3)] : List Nat)[i]?)))))), ((g265 0), .inl (cA 0, 10, .inl (fun _ => 0))), ((g265 1), .inl (cA 0, 10, .inl (fun _ => 0))), ((g265 2), .inl (cA 0, 10, .inl (fun _ => 0))), ((g265 3), .inl (cA 0, 10, .inl (fun _ => 0)))] H := hP
  have hD : va_D A [(h0, .inr (6, [.ref q249, .ref q252, .ref q255, .ref q258, .ref q261, .null, .null, .int 0, .int 0, .int 0, .int 0, .int 0, .int 0])), (q249, .inl (cA 3, 10, .inr (.inr (.inr (.inr (fun _ => none)))))), (q252, .inl (cA 4, 20, .inr (.inr (.inr (.inr (fun _ => none)))))), (q255, .inl (cA 5, 20, .inr (.inr (.inr (.inr (fun _ => none)))))), (q258, .inl (cA 6, 20, .inr (.inr (.inr (.inr (fun _ => none)))))), (q261, .inl (cA 7, 8, .inr (.inr (.inr (.inr (fun _ => none)))))), (q264, .inl (cA 9, 4, .inr (.inr (.inr (.inr (fun i => ([(g265 0), (g265 1), (g265 2), (g265 3)] : List Nat)[i]?)))))), ((g265 0), .inl (cA 0, 10, .inl (fun _ => 0))), ((g265 1), .inl (cA 0, 10, .inl (fun _ => 0))), ((g265 2), .inl (cA 0, 10, .inl (fun _ => 0))), ((g265 3), .inl (cA 0, 10, .inl (fun _ => 0)))] := hD
  generalize g265 0 = q272 at hP hD
  generalize g265 1 = q273 at hP hD
  generalize g265 2 = q274 at hP hD
  generalize g265 3 = q275 at hP hD
  have hP : va_P D vwCl [(h0, .inr (6, [.ref q249, .ref q252, .ref q255, .ref q258, .ref q261, .null, .null, .int 0, .int 0, .int 0, .int 0, .int 0, .int 0])), (q249, .inl (cA 3, 10, .inr (.inr (.inr (.inr (fun _ => none)))))), (q252, .inl (cA 4, 20, .inr (.inr (.inr (.inr (fun _ => none)))))), (q255, .inl (cA 5, 20, .inr (.inr (.inr (.inr (fun _ => none)))))), (q258, .inl (cA 6, 20, .inr (.inr (.inr (.inr (fun _ => none)))))), (q261, .inl (cA 7, 8, .inr (.inr (.inr (.inr (fun _ => none)))))), (q264, .inl (cA 9, 4, .inr (.inr (.inr (.inr (fun i => ([q272, q273, q274, q275] : List Nat)[i]?)))))), (q272, .inl (cA 0, 10, .inl (fun _ => 0))), (q273, .inl (cA 0, 10, .inl (fun _ => 0))), (q274, .inl (cA 0, 10, .inl (fun _ => 0))), (q275, .inl (cA 0, 10, .inl (fun _ => 0)))] H := hP
  have hD : va_D A [(h0, .inr (6, [.ref q249, .ref q252, .ref q255, .ref q258, .ref q261, .null, .null, .int 0, .int 0, .int 0, .int 0, .int 0, .int 0])), (q249, .inl (cA 3, 10, .inr (.inr (.inr (.inr (fun _ => none)))))), (q252, .inl (cA 4, 20, .inr (.inr (.inr (.inr (fun _ => none)))))), (q255, .inl (cA 5, 20, .inr (.inr (.inr (.inr (fun _ => none)))))), (q258, .inl (cA 6, 20, .inr (.inr (.inr (.inr (fun _ => none)))))), (q261, .inl (cA 7, 8, .inr (.inr (.inr (.inr (fun _ => none)))))), (q264, .inl (cA 9, 4, .inr (.inr (.inr (.inr (fun i => ([q272, q273, q274, q275] : List Nat)[i]?)))))), (q272, .inl (cA 0, 10, .inl (fun _ => 0))), (q273, .inl (cA 0, 10, .inl (fun _ => 0))), (q274, .inl (cA 0, 10, .inl (fun _ => 0))), (q275, .inl (cA 0, 10, .inl (fun _ => 0)))] := hD
  refine W.widen (k := 10) (n := 122) (Nat.le_of_ble_eq_true rfl) (Nat.le_of_ble_eq_true rfl) ?_
  refine va_putF (D := D) (ci := 6) (v := .ref q264) (ty := .array (.array .int)) (C := RX5) (T := TX5) (N := 13) hx hb hts (by decide +kernel) tyX5 tyX5_ok nmX5 hown hX.1 hP hD hS 0 rfl rfl 5 (by decide) (hts (.fieldLink RX5 41 "DraftsmanOffice" "crewHas" "[[I") (by decide +kernel)) (fun _ h9 => h9) rfl hin rfl (by decide +kernel) rfl rfl (Nat.le_of_ble_eq_true rfl) dX5_init_57 (fun H locs hP hD hS => ?_)
  have hP : va_P D vwCl [(h0, .inr (6, [.ref q249, .ref q252, .ref q255, .ref q258, .ref q261, .ref q264, .null, .int 0, .int 0, .int 0, .int 0, .int 0, .int 0])), (q249, .inl (cA 3, 10, .inr (.inr (.inr (.inr (fun _ => none)))))), (q252, .inl (cA 4, 20, .inr (.inr (.inr (.inr (fun _ => none)))))), (q255, .inl (cA 5, 20, .inr (.inr (.inr (.inr (fun _ => none)))))), (q258, .inl (cA 6, 20, .inr (.inr (.inr (.inr (fun _ => none)))))), (q261, .inl (cA 7, 8, .inr (.inr (.inr (.inr (fun _ => none)))))), (q264, .inl (cA 9, 4, .inr (.inr (.inr (.inr (fun i => ([q272, q273, q274, q275] : List Nat)[i]?)))))), (q272, .inl (cA 0, 10, .inl (fun _ => 0))), (q273, .inl (cA 0, 10, .inl (fun _ => 0))), (q274, .inl (cA 0, 10, .inl (fun _ => 0))), (q275, .inl (cA 0, 10, .inl (fun _ => 0)))] H := hP
  have hD : va_D A [(h0, .inr (6, [.ref q249, .ref q252, .ref q255, .ref q258, .ref q261, .ref q264, .null, .int 0, .int 0, .int 0, .int 0, .int 0, .int 0])), (q249, .inl (cA 3, 10, .inr (.inr (.inr (.inr (fun _ => none)))))), (q252, .inl (cA 4, 20, .inr (.inr (.inr (.inr (fun _ => none)))))), (q255, .inl (cA 5, 20, .inr (.inr (.inr (.inr (fun _ => none)))))), (q258, .inl (cA 6, 20, .inr (.inr (.inr (.inr (fun _ => none)))))), (q261, .inl (cA 7, 8, .inr (.inr (.inr (.inr (fun _ => none)))))), (q264, .inl (cA 9, 4, .inr (.inr (.inr (.inr (fun i => ([q272, q273, q274, q275] : List Nat)[i]?)))))), (q272, .inl (cA 0, 10, .inl (fun _ => 0))), (q273, .inl (cA 0, 10, .inl (fun _ => 0))), (q274, .inl (cA 0, 10, .inl (fun _ => 0))), (q275, .inl (cA 0, 10, .inl (fun _ => 0)))] := hD
  refine lv_aload_n hx hb dX5_init_60 rfl (lv_at hl 0 rfl) ?_
  refine lv_bipush (v := 10) hx hb dX5_init_61 (by decide) ?_
  refine va_newa (atype := .int) (ty := .int) (N' := 10) (a0 := (10, .inl (fun _ => 0))) hx hb (hts (.arrayClass .int) (by decide +kernel)) rfl hX.1 hP hD hS hA (fun _ => rfl) (by decide) (by decide) (Nat.le_of_ble_eq_true rfl) (Nat.le_of_ble_eq_true rfl) (Nat.le_of_ble_eq_true rfl) dX5_init_63 (fun q276 y277 H hK9 hP hD hS => ?_)
  obtain rfl : y277 = cA 0 := va_K_last (t0 := 0) hX.1 rfl hK9
  have hP : va_P D vwCl [(h0, .inr (6, [.ref q249, .ref q252, .ref q255, .ref q258, .ref q261, .ref q264, .null, .int 0, .int 0, .int 0, .int 0, .int 0, .int 0])), (q249, .inl (cA 3, 10, .inr (.inr (.inr (.inr (fun _ => none)))))), (q252, .inl (cA 4, 20, .inr (.inr (.inr (.inr (fun _ => none)))))), (q255, .inl (cA 5, 20, .inr (.inr (.inr (.inr (fun _ => none)))))), (q258, .inl (cA 6, 20, .inr (.inr (.inr (.inr (fun _ => none)))))), (q261, .inl (cA 7, 8, .inr (.inr (.inr (.inr (fun _ => none)))))), (q264, .inl (cA 9, 4, .inr (.inr (.inr (.inr (fun i => ([q272, q273, q274, q275] : List Nat)[i]?)))))), (q272, .inl (cA 0, 10, .inl (fun _ => 0))), (q273, .inl (cA 0, 10, .inl (fun _ => 0))), (q274, .inl (cA 0, 10, .inl (fun _ => 0))), (q275, .inl (cA 0, 10, .inl (fun _ => 0))), (q276, .inl (cA 0, 10, .inl (fun _ => 0)))] H := hP
  have hD : va_D A [(h0, .inr (6, [.ref q249, .ref q252, .ref q255, .ref q258, .ref q261, .ref q264, .null, .int 0, .int 0, .int 0, .int 0, .int 0, .int 0])), (q249, .inl (cA 3, 10, .inr (.inr (.inr (.inr (fun _ => none)))))), (q252, .inl (cA 4, 20, .inr (.inr (.inr (.inr (fun _ => none)))))), (q255, .inl (cA 5, 20, .inr (.inr (.inr (.inr (fun _ => none)))))), (q258, .inl (cA 6, 20, .inr (.inr (.inr (.inr (fun _ => none)))))), (q261, .inl (cA 7, 8, .inr (.inr (.inr (.inr (fun _ => none)))))), (q264, .inl (cA 9, 4, .inr (.inr (.inr (.inr (fun i => ([q272, q273, q274, q275] : List Nat)[i]?)))))), (q272, .inl (cA 0, 10, .inl (fun _ => 0))), (q273, .inl (cA 0, 10, .inl (fun _ => 0))), (q274, .inl (cA 0, 10, .inl (fun _ => 0))), (q275, .inl (cA 0, 10, .inl (fun _ => 0))), (q276, .inl (cA 0, 10, .inl (fun _ => 0)))] := hD
  refine W.widen (k := 11) (n := 132) (Nat.le_of_ble_eq_true rfl) (Nat.le_of_ble_eq_true rfl) ?_
  refine va_putF (D := D) (ci := 6) (v := .ref q276) (ty := .array .int) (C := RX5) (T := TX5) (N := 13) hx hb hts (by decide +kernel) tyX5 tyX5_ok nmX5 hown hX.1 hP hD hS 0 rfl rfl 6 (by decide) (hts (.fieldLink RX5 44 "DraftsmanOffice" "wouldHave" "[I") (by decide +kernel)) (fun _ h9 => h9) rfl hin rfl (by decide +kernel) rfl rfl (Nat.le_of_ble_eq_true rfl) dX5_init_65 (fun H locs hP hD hS => ?_)
  have hP : va_P D vwCl [(h0, .inr (6, [.ref q249, .ref q252, .ref q255, .ref q258, .ref q261, .ref q264, .ref q276, .int 0, .int 0, .int 0, .int 0, .int 0, .int 0])), (q249, .inl (cA 3, 10, .inr (.inr (.inr (.inr (fun _ => none)))))), (q252, .inl (cA 4, 20, .inr (.inr (.inr (.inr (fun _ => none)))))), (q255, .inl (cA 5, 20, .inr (.inr (.inr (.inr (fun _ => none)))))), (q258, .inl (cA 6, 20, .inr (.inr (.inr (.inr (fun _ => none)))))), (q261, .inl (cA 7, 8, .inr (.inr (.inr (.inr (fun _ => none)))))), (q264, .inl (cA 9, 4, .inr (.inr (.inr (.inr (fun i => ([q272, q273, q274, q275] : List Nat)[i]?)))))), (q272, .inl (cA 0, 10, .inl (fun _ => 0))), (q273, .inl (cA 0, 10, .inl (fun _ => 0))), (q274, .inl (cA 0, 10, .inl (fun _ => 0))), (q275, .inl (cA 0, 10, .inl (fun _ => 0))), (q276, .inl (cA 0, 10, .inl (fun _ => 0)))] H := hP
  have hD : va_D A [(h0, .inr (6, [.ref q249, .ref q252, .ref q255, .ref q258, .ref q261, .ref q264, .ref q276, .int 0, .int 0, .int 0, .int 0, .int 0, .int 0])), (q249, .inl (cA 3, 10, .inr (.inr (.inr (.inr (fun _ => none)))))), (q252, .inl (cA 4, 20, .inr (.inr (.inr (.inr (fun _ => none)))))), (q255, .inl (cA 5, 20, .inr (.inr (.inr (.inr (fun _ => none)))))), (q258, .inl (cA 6, 20, .inr (.inr (.inr (.inr (fun _ => none)))))), (q261, .inl (cA 7, 8, .inr (.inr (.inr (.inr (fun _ => none)))))), (q264, .inl (cA 9, 4, .inr (.inr (.inr (.inr (fun i => ([q272, q273, q274, q275] : List Nat)[i]?)))))), (q272, .inl (cA 0, 10, .inl (fun _ => 0))), (q273, .inl (cA 0, 10, .inl (fun _ => 0))), (q274, .inl (cA 0, 10, .inl (fun _ => 0))), (q275, .inl (cA 0, 10, .inl (fun _ => 0))), (q276, .inl (cA 0, 10, .inl (fun _ => 0)))] := hD
  refine lv_aload_n hx hb dX5_init_68 rfl (lv_at hl 0 rfl) ?_
  refine lv_iconst (v := 0) hx hb dX5_init_69 (by decide) ?_
  refine va_put (D := D) (ci := 6) (v := .int 0) (ty := .int) (C := RX5) (T := TX5) (N := 13) hx hb hts (by decide +kernel) tyX5 tyX5_ok nmX5 hown hX.1 hP hD hS 0 rfl rfl 7 (by decide) (hts (.fieldLink RX5 48 "DraftsmanOffice" "sheetCount" "I") (by decide +kernel)) (fun _ h9 => h9) rfl (by decide +kernel) rfl rfl (Nat.le_of_ble_eq_true rfl) dX5_init_70 (fun H locs hP hD hS => ?_)
  have hP : va_P D vwCl [(h0, .inr (6, [.ref q249, .ref q252, .ref q255, .ref q258, .ref q261, .ref q264, .ref q276, .int 0, .int 0, .int 0, .int 0, .int 0, .int 0])), (q249, .inl (cA 3, 10, .inr (.inr (.inr (.inr (fun _ => none)))))), (q252, .inl (cA 4, 20, .inr (.inr (.inr (.inr (fun _ => none)))))), (q255, .inl (cA 5, 20, .inr (.inr (.inr (.inr (fun _ => none)))))), (q258, .inl (cA 6, 20, .inr (.inr (.inr (.inr (fun _ => none)))))), (q261, .inl (cA 7, 8, .inr (.inr (.inr (.inr (fun _ => none)))))), (q264, .inl (cA 9, 4, .inr (.inr (.inr (.inr (fun i => ([q272, q273, q274, q275] : List Nat)[i]?)))))), (q272, .inl (cA 0, 10, .inl (fun _ => 0))), (q273, .inl (cA 0, 10, .inl (fun _ => 0))), (q274, .inl (cA 0, 10, .inl (fun _ => 0))), (q275, .inl (cA 0, 10, .inl (fun _ => 0))), (q276, .inl (cA 0, 10, .inl (fun _ => 0)))] H := hP
  have hD : va_D A [(h0, .inr (6, [.ref q249, .ref q252, .ref q255, .ref q258, .ref q261, .ref q264, .ref q276, .int 0, .int 0, .int 0, .int 0, .int 0, .int 0])), (q249, .inl (cA 3, 10, .inr (.inr (.inr (.inr (fun _ => none)))))), (q252, .inl (cA 4, 20, .inr (.inr (.inr (.inr (fun _ => none)))))), (q255, .inl (cA 5, 20, .inr (.inr (.inr (.inr (fun _ => none)))))), (q258, .inl (cA 6, 20, .inr (.inr (.inr (.inr (fun _ => none)))))), (q261, .inl (cA 7, 8, .inr (.inr (.inr (.inr (fun _ => none)))))), (q264, .inl (cA 9, 4, .inr (.inr (.inr (.inr (fun i => ([q272, q273, q274, q275] : List Nat)[i]?)))))), (q272, .inl (cA 0, 10, .inl (fun _ => 0))), (q273, .inl (cA 0, 10, .inl (fun _ => 0))), (q274, .inl (cA 0, 10, .inl (fun _ => 0))), (q275, .inl (cA 0, 10, .inl (fun _ => 0))), (q276, .inl (cA 0, 10, .inl (fun _ => 0)))] := hD
  refine lv_aload_n hx hb dX5_init_73 rfl (lv_at hl 0 rfl) ?_
  refine lv_iconst (v := 0) hx hb dX5_init_74 (by decide) ?_
  refine va_put (D := D) (ci := 6) (v := .int 0) (ty := .int) (C := RX5) (T := TX5) (N := 13) hx hb hts (by decide +kernel) tyX5 tyX5_ok nmX5 hown hX.1 hP hD hS 0 rfl rfl 8 (by decide) (hts (.fieldLink RX5 52 "DraftsmanOffice" "referenceCount" "I") (by decide +kernel)) (fun _ h9 => h9) rfl (by decide +kernel) rfl rfl (Nat.le_of_ble_eq_true rfl) dX5_init_75 (fun H locs hP hD hS => ?_)
  have hP : va_P D vwCl [(h0, .inr (6, [.ref q249, .ref q252, .ref q255, .ref q258, .ref q261, .ref q264, .ref q276, .int 0, .int 0, .int 0, .int 0, .int 0, .int 0])), (q249, .inl (cA 3, 10, .inr (.inr (.inr (.inr (fun _ => none)))))), (q252, .inl (cA 4, 20, .inr (.inr (.inr (.inr (fun _ => none)))))), (q255, .inl (cA 5, 20, .inr (.inr (.inr (.inr (fun _ => none)))))), (q258, .inl (cA 6, 20, .inr (.inr (.inr (.inr (fun _ => none)))))), (q261, .inl (cA 7, 8, .inr (.inr (.inr (.inr (fun _ => none)))))), (q264, .inl (cA 9, 4, .inr (.inr (.inr (.inr (fun i => ([q272, q273, q274, q275] : List Nat)[i]?)))))), (q272, .inl (cA 0, 10, .inl (fun _ => 0))), (q273, .inl (cA 0, 10, .inl (fun _ => 0))), (q274, .inl (cA 0, 10, .inl (fun _ => 0))), (q275, .inl (cA 0, 10, .inl (fun _ => 0))), (q276, .inl (cA 0, 10, .inl (fun _ => 0)))] H := hP
  have hD : va_D A [(h0, .inr (6, [.ref q249, .ref q252, .ref q255, .ref q258, .ref q261, .ref q264, .ref q276, .int 0, .int 0, .int 0, .int 0, .int 0, .int 0])), (q249, .inl (cA 3, 10, .inr (.inr (.inr (.inr (fun _ => none)))))), (q252, .inl (cA 4, 20, .inr (.inr (.inr (.inr (fun _ => none)))))), (q255, .inl (cA 5, 20, .inr (.inr (.inr (.inr (fun _ => none)))))), (q258, .inl (cA 6, 20, .inr (.inr (.inr (.inr (fun _ => none)))))), (q261, .inl (cA 7, 8, .inr (.inr (.inr (.inr (fun _ => none)))))), (q264, .inl (cA 9, 4, .inr (.inr (.inr (.inr (fun i => ([q272, q273, q274, q275] : List Nat)[i]?)))))), (q272, .inl (cA 0, 10, .inl (fun _ => 0))), (q273, .inl (cA 0, 10, .inl (fun _ => 0))), (q274, .inl (cA 0, 10, .inl (fun _ => 0))), (q275, .inl (cA 0, 10, .inl (fun _ => 0))), (q276, .inl (cA 0, 10, .inl (fun _ => 0)))] := hD
  refine lv_aload_n hx hb dX5_init_78 rfl (lv_at hl 0 rfl) ?_
  refine lv_iconst (v := 0) hx hb dX5_init_79 (by decide) ?_
  refine va_put (D := D) (ci := 6) (v := .int 0) (ty := .int) (C := RX5) (T := TX5) (N := 13) hx hb hts (by decide +kernel) tyX5 tyX5_ok nmX5 hown hX.1 hP hD hS 0 rfl rfl 9 (by decide) (hts (.fieldLink RX5 55 "DraftsmanOffice" "sendingCount" "I") (by decide +kernel)) (fun _ h9 => h9) rfl (by decide +kernel) rfl rfl (Nat.le_of_ble_eq_true rfl) dX5_init_80 (fun H locs hP hD hS => ?_)
  have hP : va_P D vwCl [(h0, .inr (6, [.ref q249, .ref q252, .ref q255, .ref q258, .ref q261, .ref q264, .ref q276, .int 0, .int 0, .int 0, .int 0, .int 0, .int 0])), (q249, .inl (cA 3, 10, .inr (.inr (.inr (.inr (fun _ => none)))))), (q252, .inl (cA 4, 20, .inr (.inr (.inr (.inr (fun _ => none)))))), (q255, .inl (cA 5, 20, .inr (.inr (.inr (.inr (fun _ => none)))))), (q258, .inl (cA 6, 20, .inr (.inr (.inr (.inr (fun _ => none)))))), (q261, .inl (cA 7, 8, .inr (.inr (.inr (.inr (fun _ => none)))))), (q264, .inl (cA 9, 4, .inr (.inr (.inr (.inr (fun i => ([q272, q273, q274, q275] : List Nat)[i]?)))))), (q272, .inl (cA 0, 10, .inl (fun _ => 0))), (q273, .inl (cA 0, 10, .inl (fun _ => 0))), (q274, .inl (cA 0, 10, .inl (fun _ => 0))), (q275, .inl (cA 0, 10, .inl (fun _ => 0))), (q276, .inl (cA 0, 10, .inl (fun _ => 0)))] H := hP
  have hD : va_D A [(h0, .inr (6, [.ref q249, .ref q252, .ref q255, .ref q258, .ref q261, .ref q264, .ref q276, .int 0, .int 0, .int 0, .int 0, .int 0, .int 0])), (q249, .inl (cA 3, 10, .inr (.inr (.inr (.inr (fun _ => none)))))), (q252, .inl (cA 4, 20, .inr (.inr (.inr (.inr (fun _ => none)))))), (q255, .inl (cA 5, 20, .inr (.inr (.inr (.inr (fun _ => none)))))), (q258, .inl (cA 6, 20, .inr (.inr (.inr (.inr (fun _ => none)))))), (q261, .inl (cA 7, 8, .inr (.inr (.inr (.inr (fun _ => none)))))), (q264, .inl (cA 9, 4, .inr (.inr (.inr (.inr (fun i => ([q272, q273, q274, q275] : List Nat)[i]?)))))), (q272, .inl (cA 0, 10, .inl (fun _ => 0))), (q273, .inl (cA 0, 10, .inl (fun _ => 0))), (q274, .inl (cA 0, 10, .inl (fun _ => 0))), (q275, .inl (cA 0, 10, .inl (fun _ => 0))), (q276, .inl (cA 0, 10, .inl (fun _ => 0)))] := hD
  refine lv_aload_n hx hb dX5_init_83 rfl (lv_at hl 0 rfl) ?_
  refine lv_iconst (v := 0) hx hb dX5_init_84 (by decide) ?_
  refine va_put (D := D) (ci := 6) (v := .int 0) (ty := .int) (C := RX5) (T := TX5) (N := 13) hx hb hts (by decide +kernel) tyX5 tyX5_ok nmX5 hown hX.1 hP hD hS 0 rfl rfl 10 (by decide) (hts (.fieldLink RX5 58 "DraftsmanOffice" "queryCount" "I") (by decide +kernel)) (fun _ h9 => h9) rfl (by decide +kernel) rfl rfl (Nat.le_of_ble_eq_true rfl) dX5_init_85 (fun H locs hP hD hS => ?_)
  have hP : va_P D vwCl [(h0, .inr (6, [.ref q249, .ref q252, .ref q255, .ref q258, .ref q261, .ref q264, .ref q276, .int 0, .int 0, .int 0, .int 0, .int 0, .int 0])), (q249, .inl (cA 3, 10, .inr (.inr (.inr (.inr (fun _ => none)))))), (q252, .inl (cA 4, 20, .inr (.inr (.inr (.inr (fun _ => none)))))), (q255, .inl (cA 5, 20, .inr (.inr (.inr (.inr (fun _ => none)))))), (q258, .inl (cA 6, 20, .inr (.inr (.inr (.inr (fun _ => none)))))), (q261, .inl (cA 7, 8, .inr (.inr (.inr (.inr (fun _ => none)))))), (q264, .inl (cA 9, 4, .inr (.inr (.inr (.inr (fun i => ([q272, q273, q274, q275] : List Nat)[i]?)))))), (q272, .inl (cA 0, 10, .inl (fun _ => 0))), (q273, .inl (cA 0, 10, .inl (fun _ => 0))), (q274, .inl (cA 0, 10, .inl (fun _ => 0))), (q275, .inl (cA 0, 10, .inl (fun _ => 0))), (q276, .inl (cA 0, 10, .inl (fun _ => 0)))] H := hP
  have hD : va_D A [(h0, .inr (6, [.ref q249, .ref q252, .ref q255, .ref q258, .ref q261, .ref q264, .ref q276, .int 0, .int 0, .int 0, .int 0, .int 0, .int 0])), (q249, .inl (cA 3, 10, .inr (.inr (.inr (.inr (fun _ => none)))))), (q252, .inl (cA 4, 20, .inr (.inr (.inr (.inr (fun _ => none)))))), (q255, .inl (cA 5, 20, .inr (.inr (.inr (.inr (fun _ => none)))))), (q258, .inl (cA 6, 20, .inr (.inr (.inr (.inr (fun _ => none)))))), (q261, .inl (cA 7, 8, .inr (.inr (.inr (.inr (fun _ => none)))))), (q264, .inl (cA 9, 4, .inr (.inr (.inr (.inr (fun i => ([q272, q273, q274, q275] : List Nat)[i]?)))))), (q272, .inl (cA 0, 10, .inl (fun _ => 0))), (q273, .inl (cA 0, 10, .inl (fun _ => 0))), (q274, .inl (cA 0, 10, .inl (fun _ => 0))), (q275, .inl (cA 0, 10, .inl (fun _ => 0))), (q276, .inl (cA 0, 10, .inl (fun _ => 0)))] := hD
  refine lv_aload_n hx hb dX5_init_88 rfl (lv_at hl 0 rfl) ?_
  refine lv_iconst (v := 0) hx hb dX5_init_89 (by decide) ?_
  refine va_put (D := D) (ci := 6) (v := .int 0) (ty := .int) (C := RX5) (T := TX5) (N := 13) hx hb hts (by decide +kernel) tyX5 tyX5_ok nmX5 hown hX.1 hP hD hS 0 rfl rfl 11 (by decide) (hts (.fieldLink RX5 61 "DraftsmanOffice" "packageCount" "I") (by decide +kernel)) (fun _ h9 => h9) rfl (by decide +kernel) rfl rfl (Nat.le_of_ble_eq_true rfl) dX5_init_90 (fun H locs hP hD hS => ?_)
  have hP : va_P D vwCl [(h0, .inr (6, [.ref q249, .ref q252, .ref q255, .ref q258, .ref q261, .ref q264, .ref q276, .int 0, .int 0, .int 0, .int 0, .int 0, .int 0])), (q249, .inl (cA 3, 10, .inr (.inr (.inr (.inr (fun _ => none)))))), (q252, .inl (cA 4, 20, .inr (.inr (.inr (.inr (fun _ => none)))))), (q255, .inl (cA 5, 20, .inr (.inr (.inr (.inr (fun _ => none)))))), (q258, .inl (cA 6, 20, .inr (.inr (.inr (.inr (fun _ => none)))))), (q261, .inl (cA 7, 8, .inr (.inr (.inr (.inr (fun _ => none)))))), (q264, .inl (cA 9, 4, .inr (.inr (.inr (.inr (fun i => ([q272, q273, q274, q275] : List Nat)[i]?)))))), (q272, .inl (cA 0, 10, .inl (fun _ => 0))), (q273, .inl (cA 0, 10, .inl (fun _ => 0))), (q274, .inl (cA 0, 10, .inl (fun _ => 0))), (q275, .inl (cA 0, 10, .inl (fun _ => 0))), (q276, .inl (cA 0, 10, .inl (fun _ => 0)))] H := hP
  have hD : va_D A [(h0, .inr (6, [.ref q249, .ref q252, .ref q255, .ref q258, .ref q261, .ref q264, .ref q276, .int 0, .int 0, .int 0, .int 0, .int 0, .int 0])), (q249, .inl (cA 3, 10, .inr (.inr (.inr (.inr (fun _ => none)))))), (q252, .inl (cA 4, 20, .inr (.inr (.inr (.inr (fun _ => none)))))), (q255, .inl (cA 5, 20, .inr (.inr (.inr (.inr (fun _ => none)))))), (q258, .inl (cA 6, 20, .inr (.inr (.inr (.inr (fun _ => none)))))), (q261, .inl (cA 7, 8, .inr (.inr (.inr (.inr (fun _ => none)))))), (q264, .inl (cA 9, 4, .inr (.inr (.inr (.inr (fun i => ([q272, q273, q274, q275] : List Nat)[i]?)))))), (q272, .inl (cA 0, 10, .inl (fun _ => 0))), (q273, .inl (cA 0, 10, .inl (fun _ => 0))), (q274, .inl (cA 0, 10, .inl (fun _ => 0))), (q275, .inl (cA 0, 10, .inl (fun _ => 0))), (q276, .inl (cA 0, 10, .inl (fun _ => 0)))] := hD
  refine lv_aload_n hx hb dX5_init_93 rfl (lv_at hl 0 rfl) ?_
  refine lv_iconst (v := 0) hx hb dX5_init_94 (by decide) ?_
  refine va_put (D := D) (ci := 6) (v := .int 0) (ty := .int) (C := RX5) (T := TX5) (N := 13) hx hb hts (by decide +kernel) tyX5 tyX5_ok nmX5 hown hX.1 hP hD hS 0 rfl rfl 12 (by decide) (hts (.fieldLink RX5 64 "DraftsmanOffice" "today" "I") (by decide +kernel)) (fun _ h9 => h9) rfl (by decide +kernel) rfl rfl (Nat.le_of_ble_eq_true rfl) dX5_init_95 (fun H locs hP hD hS => ?_)
  have hP : va_P D vwCl [(h0, .inr (6, [.ref q249, .ref q252, .ref q255, .ref q258, .ref q261, .ref q264, .ref q276, .int 0, .int 0, .int 0, .int 0, .int 0, .int 0])), (q249, .inl (cA 3, 10, .inr (.inr (.inr (.inr (fun _ => none)))))), (q252, .inl (cA 4, 20, .inr (.inr (.inr (.inr (fun _ => none)))))), (q255, .inl (cA 5, 20, .inr (.inr (.inr (.inr (fun _ => none)))))), (q258, .inl (cA 6, 20, .inr (.inr (.inr (.inr (fun _ => none)))))), (q261, .inl (cA 7, 8, .inr (.inr (.inr (.inr (fun _ => none)))))), (q264, .inl (cA 9, 4, .inr (.inr (.inr (.inr (fun i => ([q272, q273, q274, q275] : List Nat)[i]?)))))), (q272, .inl (cA 0, 10, .inl (fun _ => 0))), (q273, .inl (cA 0, 10, .inl (fun _ => 0))), (q274, .inl (cA 0, 10, .inl (fun _ => 0))), (q275, .inl (cA 0, 10, .inl (fun _ => 0))), (q276, .inl (cA 0, 10, .inl (fun _ => 0)))] H := hP
  have hD : va_D A [(h0, .inr (6, [.ref q249, .ref q252, .ref q255, .ref q258, .ref q261, .ref q264, .ref q276, .int 0, .int 0, .int 0, .int 0, .int 0, .int 0])), (q249, .inl (cA 3, 10, .inr (.inr (.inr (.inr (fun _ => none)))))), (q252, .inl (cA 4, 20, .inr (.inr (.inr (.inr (fun _ => none)))))), (q255, .inl (cA 5, 20, .inr (.inr (.inr (.inr (fun _ => none)))))), (q258, .inl (cA 6, 20, .inr (.inr (.inr (.inr (fun _ => none)))))), (q261, .inl (cA 7, 8, .inr (.inr (.inr (.inr (fun _ => none)))))), (q264, .inl (cA 9, 4, .inr (.inr (.inr (.inr (fun i => ([q272, q273, q274, q275] : List Nat)[i]?)))))), (q272, .inl (cA 0, 10, .inl (fun _ => 0))), (q273, .inl (cA 0, 10, .inl (fun _ => 0))), (q274, .inl (cA 0, 10, .inl (fun _ => 0))), (q275, .inl (cA 0, 10, .inl (fun _ => 0))), (q276, .inl (cA 0, 10, .inl (fun _ => 0)))] := hD
  refine lv_iconst (v := 0) hx hb dX5_init_98 (by decide) ?_
  refine lv_istore_n (lv' := [(1, .int 0), (0, .ref h0)]) hx hb dX5_init_99 rfl hl (by decide) rfl (fun ls hl => ?_)
  refine lv_iload_n hx hb dX5_init_100 rfl (lv_at hl 0 rfl) ?_
  refine lv_iconst (v := 4) hx hb dX5_init_101 (by decide) ?_
  refine lv_icmp_ge (tgt := 121) hx hb dX5_init_102 (by decide) (fun c279 => absurd c279 (by decide)) (fun _ => ?_)
  refine lv_aload_n hx hb dX5_init_105 rfl (lv_at hl 1 rfl) ?_
  refine va_get (D := D) (ci := 6) (v := .ref q264) (C := RX5) (T := TX5) (N := 13) hx hb hts (by decide +kernel) hown hX.1 hP 0 rfl rfl 5 (by decide) (hts (.fieldLink RX5 41 "DraftsmanOffice" "crewHas" "[[I") (by decide +kernel)) (fun _ h9 => h9) rfl dX5_init_106 ?_
  refine lv_iload_n hx hb dX5_init_109 rfl (lv_at hl 0 rfl) ?_
  refine ll_aald (r := .ref q272) hx hb hX.1 hP 6 9 rfl rfl rfl (vp_in_nI (n := 0) (by decide) (by decide)) rfl dX5_init_110 ?_
  refine lv_iconst (v := -1) hx hb dX5_init_111 (by decide) ?_
  have hPc := hP.sub (ws' := [(q272, .inl (cA 0, 10, .inl (fun _ => 0)))]) [7] rfl
  have hDc := (hD.sub (ws' := [(q272, .inl (cA 0, 10, .inl (fun _ => 0)))]) [7] (by decide) rfl).self (sz := H.size)
  have hFc := va_free (wc := [(q272, .inl (cA 0, 10, .inl (fun _ => 0)))]) hD hS hA [7] rfl
  refine va_callv (va_runS (As := [.ref q272, .int (-1)]) (rest := []) ⟨hx, hb, hml, hown, hts⟩ (l_J7_fill_53178 l D cA (va_A [(q272, .inl (cA 0, 10, .inl (fun _ => 0)))] H.size) q272 10 (fun _ => 0) (-1) (by decide)) (va_cwS 2 hts gX5_init_J7_fill_53178 rfl rfl rfl (by decide +kernel) ⟨Nat.le_of_ble_eq_true rfl, Nat.le_of_ble_eq_true rfl⟩) (pc_preS pcN_ok hX ⟨hPc, hDc, fun q h => Or.inr h⟩) rfl rfl hl.1 rfl (lv_room (Nat.le_of_ble_eq_true rfl)) dX5_init_112 ⟨Nat.le_of_ble_eq_true rfl, Nat.le_of_ble_eq_true rfl⟩) hS (fun q _ h => hFc q h) hFc (fun u280 t H1 locs ht hvm hw hB hz1 hk1 hS => ?_)
  obtain ⟨hP1, hD1⟩ := hB
  rw [ht] at hP1
  obtain ⟨hP, hD⟩ := va_join (wr := [(h0, .inr (6, [.ref q249, .ref q252, .ref q255, .ref q258, .ref q261, .ref q264, .ref q276, .int 0, .int 0, .int 0, .int 0, .int 0, .int 0])), (q249, .inl (cA 3, 10, .inr (.inr (.inr (.inr (fun _ => none)))))), (q252, .inl (cA 4, 20, .inr (.inr (.inr (.inr (fun _ => none)))))), (q255, .inl (cA 5, 20, .inr (.inr (.inr (.inr (fun _ => none)))))), (q258, .inl (cA 6, 20, .inr (.inr (.inr (.inr (fun _ => none)))))), (q261, .inl (cA 7, 8, .inr (.inr (.inr (.inr (fun _ => none)))))), (q264, .inl (cA 9, 4, .inr (.inr (.inr (.inr (fun i => ([q272, q273, q274, q275] : List Nat)[i]?)))))), (q273, .inl (cA 0, 10, .inl (fun _ => 0))), (q274, .inl (cA 0, 10, .inl (fun _ => 0))), (q275, .inl (cA 0, 10, .inl (fun _ => 0))), (q276, .inl (cA 0, 10, .inl (fun _ => 0)))]) (w1 := [(q272, .inl (cA 0, 10, .inl u280))]) hP hD [7] [0, 1, 2, 3, 4, 5, 6, 8, 9, 10, 11] rfl rfl (by decide) (by decide) hk1 hFc hP1 hD1
  generalize H1 = H at hP hS ⊢
  have hP : va_P D vwCl [(h0, .inr (6, [.ref q249, .ref q252, .ref q255, .ref q258, .ref q261, .ref q264, .ref q276, .int 0, .int 0, .int 0, .int 0, .int 0, .int 0])), (q249, .inl (cA 3, 10, .inr (.inr (.inr (.inr (fun _ => none)))))), (q252, .inl (cA 4, 20, .inr (.inr (.inr (.inr (fun _ => none)))))), (q255, .inl (cA 5, 20, .inr (.inr (.inr (.inr (fun _ => none)))))), (q258, .inl (cA 6, 20, .inr (.inr (.inr (.inr (fun _ => none)))))), (q261, .inl (cA 7, 8, .inr (.inr (.inr (.inr (fun _ => none)))))), (q264, .inl (cA 9, 4, .inr (.inr (.inr (.inr (fun i => ([q272, q273, q274, q275] : List Nat)[i]?)))))), (q273, .inl (cA 0, 10, .inl (fun _ => 0))), (q274, .inl (cA 0, 10, .inl (fun _ => 0))), (q275, .inl (cA 0, 10, .inl (fun _ => 0))), (q276, .inl (cA 0, 10, .inl (fun _ => 0))), (q272, .inl (cA 0, 10, .inl u280))] H := hP
  have hD : va_D A [(h0, .inr (6, [.ref q249, .ref q252, .ref q255, .ref q258, .ref q261, .ref q264, .ref q276, .int 0, .int 0, .int 0, .int 0, .int 0, .int 0])), (q249, .inl (cA 3, 10, .inr (.inr (.inr (.inr (fun _ => none)))))), (q252, .inl (cA 4, 20, .inr (.inr (.inr (.inr (fun _ => none)))))), (q255, .inl (cA 5, 20, .inr (.inr (.inr (.inr (fun _ => none)))))), (q258, .inl (cA 6, 20, .inr (.inr (.inr (.inr (fun _ => none)))))), (q261, .inl (cA 7, 8, .inr (.inr (.inr (.inr (fun _ => none)))))), (q264, .inl (cA 9, 4, .inr (.inr (.inr (.inr (fun i => ([q272, q273, q274, q275] : List Nat)[i]?)))))), (q273, .inl (cA 0, 10, .inl (fun _ => 0))), (q274, .inl (cA 0, 10, .inl (fun _ => 0))), (q275, .inl (cA 0, 10, .inl (fun _ => 0))), (q276, .inl (cA 0, 10, .inl (fun _ => 0))), (q272, .inl (cA 0, 10, .inl u280))] := hD
  refine W.widen (k := 11) (n := 132) (Nat.le_of_ble_eq_true rfl) (Nat.le_of_ble_eq_true rfl) ?_
  refine lv_iinc (v := 1) (lv' := [(1, .int 1), (0, .ref h0)]) hx hb dX5_init_115 hl (k := 0) rfl (by decide) (by decide) rfl (fun ls hl => ?_)
  refine lv_goto (tgt := 100) hx hb dX5_init_118 (by decide) ?_
  refine lv_iload_n hx hb dX5_init_100 rfl (lv_at hl 0 rfl) ?_
  refine lv_iconst (v := 4) hx hb dX5_init_101 (by decide) ?_
  refine lv_icmp_ge (tgt := 121) hx hb dX5_init_102 (by decide) (fun c284 => absurd c284 (by decide)) (fun _ => ?_)
  refine lv_aload_n hx hb dX5_init_105 rfl (lv_at hl 1 rfl) ?_
  refine va_get (D := D) (ci := 6) (v := .ref q264) (C := RX5) (T := TX5) (N := 13) hx hb hts (by decide +kernel) hown hX.1 hP 0 rfl rfl 5 (by decide) (hts (.fieldLink RX5 41 "DraftsmanOffice" "crewHas" "[[I") (by decide +kernel)) (fun _ h9 => h9) rfl dX5_init_106 ?_
  refine lv_iload_n hx hb dX5_init_109 rfl (lv_at hl 0 rfl) ?_
  refine ll_aald (r := .ref q273) hx hb hX.1 hP 6 9 rfl rfl rfl (vp_in_nI (n := 1) (by decide) (by decide)) rfl dX5_init_110 ?_
  refine lv_iconst (v := -1) hx hb dX5_init_111 (by decide) ?_
  have hPc := hP.sub (ws' := [(q273, .inl (cA 0, 10, .inl (fun _ => 0)))]) [7] rfl
  have hDc := (hD.sub (ws' := [(q273, .inl (cA 0, 10, .inl (fun _ => 0)))]) [7] (by decide) rfl).self (sz := H.size)
  have hFc := va_free (wc := [(q273, .inl (cA 0, 10, .inl (fun _ => 0)))]) hD hS hA [7] rfl
  refine va_callv (va_runS (As := [.ref q273, .int (-1)]) (rest := []) ⟨hx, hb, hml, hown, hts⟩ (l_J7_fill_53178 l D cA (va_A [(q273, .inl (cA 0, 10, .inl (fun _ => 0)))] H.size) q273 10 (fun _ => 0) (-1) (by decide)) (va_cwS 2 hts gX5_init_J7_fill_53178 rfl rfl rfl (by decide +kernel) ⟨Nat.le_of_ble_eq_true rfl, Nat.le_of_ble_eq_true rfl⟩) (pc_preS pcN_ok hX ⟨hPc, hDc, fun q h => Or.inr h⟩) rfl rfl hl.1 rfl (lv_room (Nat.le_of_ble_eq_true rfl)) dX5_init_112 ⟨Nat.le_of_ble_eq_true rfl, Nat.le_of_ble_eq_true rfl⟩) hS (fun q _ h => hFc q h) hFc (fun u285 t H1 locs ht hvm hw hB hz1 hk1 hS => ?_)
  obtain ⟨hP1, hD1⟩ := hB
  rw [ht] at hP1
  obtain ⟨hP, hD⟩ := va_join (wr := [(h0, .inr (6, [.ref q249, .ref q252, .ref q255, .ref q258, .ref q261, .ref q264, .ref q276, .int 0, .int 0, .int 0, .int 0, .int 0, .int 0])), (q249, .inl (cA 3, 10, .inr (.inr (.inr (.inr (fun _ => none)))))), (q252, .inl (cA 4, 20, .inr (.inr (.inr (.inr (fun _ => none)))))), (q255, .inl (cA 5, 20, .inr (.inr (.inr (.inr (fun _ => none)))))), (q258, .inl (cA 6, 20, .inr (.inr (.inr (.inr (fun _ => none)))))), (q261, .inl (cA 7, 8, .inr (.inr (.inr (.inr (fun _ => none)))))), (q264, .inl (cA 9, 4, .inr (.inr (.inr (.inr (fun i => ([q272, q273, q274, q275] : List Nat)[i]?)))))), (q274, .inl (cA 0, 10, .inl (fun _ => 0))), (q275, .inl (cA 0, 10, .inl (fun _ => 0))), (q276, .inl (cA 0, 10, .inl (fun _ => 0))), (q272, .inl (cA 0, 10, .inl u280))]) (w1 := [(q273, .inl (cA 0, 10, .inl u285))]) hP hD [7] [0, 1, 2, 3, 4, 5, 6, 8, 9, 10, 11] rfl rfl (by decide) (by decide) hk1 hFc hP1 hD1
  generalize H1 = H at hP hS ⊢
  have hP : va_P D vwCl [(h0, .inr (6, [.ref q249, .ref q252, .ref q255, .ref q258, .ref q261, .ref q264, .ref q276, .int 0, .int 0, .int 0, .int 0, .int 0, .int 0])), (q249, .inl (cA 3, 10, .inr (.inr (.inr (.inr (fun _ => none)))))), (q252, .inl (cA 4, 20, .inr (.inr (.inr (.inr (fun _ => none)))))), (q255, .inl (cA 5, 20, .inr (.inr (.inr (.inr (fun _ => none)))))), (q258, .inl (cA 6, 20, .inr (.inr (.inr (.inr (fun _ => none)))))), (q261, .inl (cA 7, 8, .inr (.inr (.inr (.inr (fun _ => none)))))), (q264, .inl (cA 9, 4, .inr (.inr (.inr (.inr (fun i => ([q272, q273, q274, q275] : List Nat)[i]?)))))), (q274, .inl (cA 0, 10, .inl (fun _ => 0))), (q275, .inl (cA 0, 10, .inl (fun _ => 0))), (q276, .inl (cA 0, 10, .inl (fun _ => 0))), (q272, .inl (cA 0, 10, .inl u280)), (q273, .inl (cA 0, 10, .inl u285))] H := hP
  have hD : va_D A [(h0, .inr (6, [.ref q249, .ref q252, .ref q255, .ref q258, .ref q261, .ref q264, .ref q276, .int 0, .int 0, .int 0, .int 0, .int 0, .int 0])), (q249, .inl (cA 3, 10, .inr (.inr (.inr (.inr (fun _ => none)))))), (q252, .inl (cA 4, 20, .inr (.inr (.inr (.inr (fun _ => none)))))), (q255, .inl (cA 5, 20, .inr (.inr (.inr (.inr (fun _ => none)))))), (q258, .inl (cA 6, 20, .inr (.inr (.inr (.inr (fun _ => none)))))), (q261, .inl (cA 7, 8, .inr (.inr (.inr (.inr (fun _ => none)))))), (q264, .inl (cA 9, 4, .inr (.inr (.inr (.inr (fun i => ([q272, q273, q274, q275] : List Nat)[i]?)))))), (q274, .inl (cA 0, 10, .inl (fun _ => 0))), (q275, .inl (cA 0, 10, .inl (fun _ => 0))), (q276, .inl (cA 0, 10, .inl (fun _ => 0))), (q272, .inl (cA 0, 10, .inl u280)), (q273, .inl (cA 0, 10, .inl u285))] := hD
  refine W.widen (k := 11) (n := 132) (Nat.le_of_ble_eq_true rfl) (Nat.le_of_ble_eq_true rfl) ?_
  refine lv_iinc (v := 2) (lv' := [(1, .int 2), (0, .ref h0)]) hx hb dX5_init_115 hl (k := 0) rfl (by decide) (by decide) rfl (fun ls hl => ?_)
  refine lv_goto (tgt := 100) hx hb dX5_init_118 (by decide) ?_
  refine lv_iload_n hx hb dX5_init_100 rfl (lv_at hl 0 rfl) ?_
  refine lv_iconst (v := 4) hx hb dX5_init_101 (by decide) ?_
  refine lv_icmp_ge (tgt := 121) hx hb dX5_init_102 (by decide) (fun c289 => absurd c289 (by decide)) (fun _ => ?_)
  refine lv_aload_n hx hb dX5_init_105 rfl (lv_at hl 1 rfl) ?_
  refine va_get (D := D) (ci := 6) (v := .ref q264) (C := RX5) (T := TX5) (N := 13) hx hb hts (by decide +kernel) hown hX.1 hP 0 rfl rfl 5 (by decide) (hts (.fieldLink RX5 41 "DraftsmanOffice" "crewHas" "[[I") (by decide +kernel)) (fun _ h9 => h9) rfl dX5_init_106 ?_
  refine lv_iload_n hx hb dX5_init_109 rfl (lv_at hl 0 rfl) ?_
  refine ll_aald (r := .ref q274) hx hb hX.1 hP 6 9 rfl rfl rfl (vp_in_nI (n := 2) (by decide) (by decide)) rfl dX5_init_110 ?_
  refine lv_iconst (v := -1) hx hb dX5_init_111 (by decide) ?_
  have hPc := hP.sub (ws' := [(q274, .inl (cA 0, 10, .inl (fun _ => 0)))]) [7] rfl
  have hDc := (hD.sub (ws' := [(q274, .inl (cA 0, 10, .inl (fun _ => 0)))]) [7] (by decide) rfl).self (sz := H.size)
  have hFc := va_free (wc := [(q274, .inl (cA 0, 10, .inl (fun _ => 0)))]) hD hS hA [7] rfl
  refine va_callv (va_runS (As := [.ref q274, .int (-1)]) (rest := []) ⟨hx, hb, hml, hown, hts⟩ (l_J7_fill_53178 l D cA (va_A [(q274, .inl (cA 0, 10, .inl (fun _ => 0)))] H.size) q274 10 (fun _ => 0) (-1) (by decide)) (va_cwS 2 hts gX5_init_J7_fill_53178 rfl rfl rfl (by decide +kernel) ⟨Nat.le_of_ble_eq_true rfl, Nat.le_of_ble_eq_true rfl⟩) (pc_preS pcN_ok hX ⟨hPc, hDc, fun q h => Or.inr h⟩) rfl rfl hl.1 rfl (lv_room (Nat.le_of_ble_eq_true rfl)) dX5_init_112 ⟨Nat.le_of_ble_eq_true rfl, Nat.le_of_ble_eq_true rfl⟩) hS (fun q _ h => hFc q h) hFc (fun u290 t H1 locs ht hvm hw hB hz1 hk1 hS => ?_)
  obtain ⟨hP1, hD1⟩ := hB
  rw [ht] at hP1
  obtain ⟨hP, hD⟩ := va_join (wr := [(h0, .inr (6, [.ref q249, .ref q252, .ref q255, .ref q258, .ref q261, .ref q264, .ref q276, .int 0, .int 0, .int 0, .int 0, .int 0, .int 0])), (q249, .inl (cA 3, 10, .inr (.inr (.inr (.inr (fun _ => none)))))), (q252, .inl (cA 4, 20, .inr (.inr (.inr (.inr (fun _ => none)))))), (q255, .inl (cA 5, 20, .inr (.inr (.inr (.inr (fun _ => none)))))), (q258, .inl (cA 6, 20, .inr (.inr (.inr (.inr (fun _ => none)))))), (q261, .inl (cA 7, 8, .inr (.inr (.inr (.inr (fun _ => none)))))), (q264, .inl (cA 9, 4, .inr (.inr (.inr (.inr (fun i => ([q272, q273, q274, q275] : List Nat)[i]?)))))), (q275, .inl (cA 0, 10, .inl (fun _ => 0))), (q276, .inl (cA 0, 10, .inl (fun _ => 0))), (q272, .inl (cA 0, 10, .inl u280)), (q273, .inl (cA 0, 10, .inl u285))]) (w1 := [(q274, .inl (cA 0, 10, .inl u290))]) hP hD [7] [0, 1, 2, 3, 4, 5, 6, 8, 9, 10, 11] rfl rfl (by decide) (by decide) hk1 hFc hP1 hD1
  generalize H1 = H at hP hS ⊢
  have hP : va_P D vwCl [(h0, .inr (6, [.ref q249, .ref q252, .ref q255, .ref q258, .ref q261, .ref q264, .ref q276, .int 0, .int 0, .int 0, .int 0, .int 0, .int 0])), (q249, .inl (cA 3, 10, .inr (.inr (.inr (.inr (fun _ => none)))))), (q252, .inl (cA 4, 20, .inr (.inr (.inr (.inr (fun _ => none)))))), (q255, .inl (cA 5, 20, .inr (.inr (.inr (.inr (fun _ => none)))))), (q258, .inl (cA 6, 20, .inr (.inr (.inr (.inr (fun _ => none)))))), (q261, .inl (cA 7, 8, .inr (.inr (.inr (.inr (fun _ => none)))))), (q264, .inl (cA 9, 4, .inr (.inr (.inr (.inr (fun i => ([q272, q273, q274, q275] : List Nat)[i]?)))))), (q275, .inl (cA 0, 10, .inl (fun _ => 0))), (q276, .inl (cA 0, 10, .inl (fun _ => 0))), (q272, .inl (cA 0, 10, .inl u280)), (q273, .inl (cA 0, 10, .inl u285)), (q274, .inl (cA 0, 10, .inl u290))] H := hP
  have hD : va_D A [(h0, .inr (6, [.ref q249, .ref q252, .ref q255, .ref q258, .ref q261, .ref q264, .ref q276, .int 0, .int 0, .int 0, .int 0, .int 0, .int 0])), (q249, .inl (cA 3, 10, .inr (.inr (.inr (.inr (fun _ => none)))))), (q252, .inl (cA 4, 20, .inr (.inr (.inr (.inr (fun _ => none)))))), (q255, .inl (cA 5, 20, .inr (.inr (.inr (.inr (fun _ => none)))))), (q258, .inl (cA 6, 20, .inr (.inr (.inr (.inr (fun _ => none)))))), (q261, .inl (cA 7, 8, .inr (.inr (.inr (.inr (fun _ => none)))))), (q264, .inl (cA 9, 4, .inr (.inr (.inr (.inr (fun i => ([q272, q273, q274, q275] : List Nat)[i]?)))))), (q275, .inl (cA 0, 10, .inl (fun _ => 0))), (q276, .inl (cA 0, 10, .inl (fun _ => 0))), (q272, .inl (cA 0, 10, .inl u280)), (q273, .inl (cA 0, 10, .inl u285)), (q274, .inl (cA 0, 10, .inl u290))] := hD
  refine W.widen (k := 11) (n := 132) (Nat.le_of_ble_eq_true rfl) (Nat.le_of_ble_eq_true rfl) ?_
  refine lv_iinc (v := 3) (lv' := [(1, .int 3), (0, .ref h0)]) hx hb dX5_init_115 hl (k := 0) rfl (by decide) (by decide) rfl (fun ls hl => ?_)
  refine lv_goto (tgt := 100) hx hb dX5_init_118 (by decide) ?_
  refine lv_iload_n hx hb dX5_init_100 rfl (lv_at hl 0 rfl) ?_
  refine lv_iconst (v := 4) hx hb dX5_init_101 (by decide) ?_
  refine lv_icmp_ge (tgt := 121) hx hb dX5_init_102 (by decide) (fun c294 => absurd c294 (by decide)) (fun _ => ?_)
  refine lv_aload_n hx hb dX5_init_105 rfl (lv_at hl 1 rfl) ?_
  refine va_get (D := D) (ci := 6) (v := .ref q264) (C := RX5) (T := TX5) (N := 13) hx hb hts (by decide +kernel) hown hX.1 hP 0 rfl rfl 5 (by decide) (hts (.fieldLink RX5 41 "DraftsmanOffice" "crewHas" "[[I") (by decide +kernel)) (fun _ h9 => h9) rfl dX5_init_106 ?_
  refine lv_iload_n hx hb dX5_init_109 rfl (lv_at hl 0 rfl) ?_
  refine ll_aald (r := .ref q275) hx hb hX.1 hP 6 9 rfl rfl rfl (vp_in_nI (n := 3) (by decide) (by decide)) rfl dX5_init_110 ?_
  refine lv_iconst (v := -1) hx hb dX5_init_111 (by decide) ?_
  have hPc := hP.sub (ws' := [(q275, .inl (cA 0, 10, .inl (fun _ => 0)))]) [7] rfl
  have hDc := (hD.sub (ws' := [(q275, .inl (cA 0, 10, .inl (fun _ => 0)))]) [7] (by decide) rfl).self (sz := H.size)
  have hFc := va_free (wc := [(q275, .inl (cA 0, 10, .inl (fun _ => 0)))]) hD hS hA [7] rfl
  refine va_callv (va_runS (As := [.ref q275, .int (-1)]) (rest := []) ⟨hx, hb, hml, hown, hts⟩ (l_J7_fill_53178 l D cA (va_A [(q275, .inl (cA 0, 10, .inl (fun _ => 0)))] H.size) q275 10 (fun _ => 0) (-1) (by decide)) (va_cwS 2 hts gX5_init_J7_fill_53178 rfl rfl rfl (by decide +kernel) ⟨Nat.le_of_ble_eq_true rfl, Nat.le_of_ble_eq_true rfl⟩) (pc_preS pcN_ok hX ⟨hPc, hDc, fun q h => Or.inr h⟩) rfl rfl hl.1 rfl (lv_room (Nat.le_of_ble_eq_true rfl)) dX5_init_112 ⟨Nat.le_of_ble_eq_true rfl, Nat.le_of_ble_eq_true rfl⟩) hS (fun q _ h => hFc q h) hFc (fun u295 t H1 locs ht hvm hw hB hz1 hk1 hS => ?_)
  obtain ⟨hP1, hD1⟩ := hB
  rw [ht] at hP1
  obtain ⟨hP, hD⟩ := va_join (wr := [(h0, .inr (6, [.ref q249, .ref q252, .ref q255, .ref q258, .ref q261, .ref q264, .ref q276, .int 0, .int 0, .int 0, .int 0, .int 0, .int 0])), (q249, .inl (cA 3, 10, .inr (.inr (.inr (.inr (fun _ => none)))))), (q252, .inl (cA 4, 20, .inr (.inr (.inr (.inr (fun _ => none)))))), (q255, .inl (cA 5, 20, .inr (.inr (.inr (.inr (fun _ => none)))))), (q258, .inl (cA 6, 20, .inr (.inr (.inr (.inr (fun _ => none)))))), (q261, .inl (cA 7, 8, .inr (.inr (.inr (.inr (fun _ => none)))))), (q264, .inl (cA 9, 4, .inr (.inr (.inr (.inr (fun i => ([q272, q273, q274, q275] : List Nat)[i]?)))))), (q276, .inl (cA 0, 10, .inl (fun _ => 0))), (q272, .inl (cA 0, 10, .inl u280)), (q273, .inl (cA 0, 10, .inl u285)), (q274, .inl (cA 0, 10, .inl u290))]) (w1 := [(q275, .inl (cA 0, 10, .inl u295))]) hP hD [7] [0, 1, 2, 3, 4, 5, 6, 8, 9, 10, 11] rfl rfl (by decide) (by decide) hk1 hFc hP1 hD1
  generalize H1 = H at hP hS ⊢
  have hP : va_P D vwCl [(h0, .inr (6, [.ref q249, .ref q252, .ref q255, .ref q258, .ref q261, .ref q264, .ref q276, .int 0, .int 0, .int 0, .int 0, .int 0, .int 0])), (q249, .inl (cA 3, 10, .inr (.inr (.inr (.inr (fun _ => none)))))), (q252, .inl (cA 4, 20, .inr (.inr (.inr (.inr (fun _ => none)))))), (q255, .inl (cA 5, 20, .inr (.inr (.inr (.inr (fun _ => none)))))), (q258, .inl (cA 6, 20, .inr (.inr (.inr (.inr (fun _ => none)))))), (q261, .inl (cA 7, 8, .inr (.inr (.inr (.inr (fun _ => none)))))), (q264, .inl (cA 9, 4, .inr (.inr (.inr (.inr (fun i => ([q272, q273, q274, q275] : List Nat)[i]?)))))), (q276, .inl (cA 0, 10, .inl (fun _ => 0))), (q272, .inl (cA 0, 10, .inl u280)), (q273, .inl (cA 0, 10, .inl u285)), (q274, .inl (cA 0, 10, .inl u290)), (q275, .inl (cA 0, 10, .inl u295))] H := hP
  have hD : va_D A [(h0, .inr (6, [.ref q249, .ref q252, .ref q255, .ref q258, .ref q261, .ref q264, .ref q276, .int 0, .int 0, .int 0, .int 0, .int 0, .int 0])), (q249, .inl (cA 3, 10, .inr (.inr (.inr (.inr (fun _ => none)))))), (q252, .inl (cA 4, 20, .inr (.inr (.inr (.inr (fun _ => none)))))), (q255, .inl (cA 5, 20, .inr (.inr (.inr (.inr (fun _ => none)))))), (q258, .inl (cA 6, 20, .inr (.inr (.inr (.inr (fun _ => none)))))), (q261, .inl (cA 7, 8, .inr (.inr (.inr (.inr (fun _ => none)))))), (q264, .inl (cA 9, 4, .inr (.inr (.inr (.inr (fun i => ([q272, q273, q274, q275] : List Nat)[i]?)))))), (q276, .inl (cA 0, 10, .inl (fun _ => 0))), (q272, .inl (cA 0, 10, .inl u280)), (q273, .inl (cA 0, 10, .inl u285)), (q274, .inl (cA 0, 10, .inl u290)), (q275, .inl (cA 0, 10, .inl u295))] := hD
  refine W.widen (k := 11) (n := 132) (Nat.le_of_ble_eq_true rfl) (Nat.le_of_ble_eq_true rfl) ?_
  refine lv_iinc (v := 4) (lv' := [(1, .int 4), (0, .ref h0)]) hx hb dX5_init_115 hl (k := 0) rfl (by decide) (by decide) rfl (fun ls hl => ?_)
  refine lv_goto (tgt := 100) hx hb dX5_init_118 (by decide) ?_
  refine lv_iload_n hx hb dX5_init_100 rfl (lv_at hl 0 rfl) ?_
  refine lv_iconst (v := 4) hx hb dX5_init_101 (by decide) ?_
  refine lv_icmp_ge (tgt := 121) hx hb dX5_init_102 (by decide) (fun _ => ?_) (fun c299 => absurd (by decide) c299)
  have hP9 := hP.sub (ws' := [(h0, .inr (6, [.ref q249, .ref q252, .ref q255, .ref q258, .ref q261, .ref q264, .ref q276, .int 0, .int 0, .int 0, .int 0, .int 0, .int 0])), (q249, .inl (cA 3, 10, .inr (.inr (.inr (.inr (fun _ => none)))))), (q252, .inl (cA 4, 20, .inr (.inr (.inr (.inr (fun _ => none)))))), (q255, .inl (cA 5, 20, .inr (.inr (.inr (.inr (fun _ => none)))))), (q258, .inl (cA 6, 20, .inr (.inr (.inr (.inr (fun _ => none)))))), (q261, .inl (cA 7, 8, .inr (.inr (.inr (.inr (fun _ => none)))))), (q264, .inl (cA 9, 4, .inr (.inr (.inr (.inr (fun i => ([q272, q273, q274, q275] : List Nat)[i]?)))))), (q276, .inl (cA 0, 10, .inl (fun _ => 0))), (q272, .inl (cA 0, 10, .inl u280)), (q273, .inl (cA 0, 10, .inl u285)), (q274, .inl (cA 0, 10, .inl u290)), (q275, .inl (cA 0, 10, .inl u295))]) [0, 1, 2, 3, 4, 5, 6, 7, 8, 9, 10, 11] rfl
  have hD9 := hD.sub (ws' := [(h0, .inr (6, [.ref q249, .ref q252, .ref q255, .ref q258, .ref q261, .ref q264, .ref q276, .int 0, .int 0, .int 0, .int 0, .int 0, .int 0])), (q249, .inl (cA 3, 10, .inr (.inr (.inr (.inr (fun _ => none)))))), (q252, .inl (cA 4, 20, .inr (.inr (.inr (.inr (fun _ => none)))))), (q255, .inl (cA 5, 20, .inr (.inr (.inr (.inr (fun _ => none)))))), (q258, .inl (cA 6, 20, .inr (.inr (.inr (.inr (fun _ => none)))))), (q261, .inl (cA 7, 8, .inr (.inr (.inr (.inr (fun _ => none)))))), (q264, .inl (cA 9, 4, .inr (.inr (.inr (.inr (fun i => ([q272, q273, q274, q275] : List Nat)[i]?)))))), (q276, .inl (cA 0, 10, .inl (fun _ => 0))), (q272, .inl (cA 0, 10, .inl u280)), (q273, .inl (cA 0, 10, .inl u285)), (q274, .inl (cA 0, 10, .inl u290)), (q275, .inl (cA 0, 10, .inl u295))]) [0, 1, 2, 3, 4, 5, 6, 7, 8, 9, 10, 11] (by decide) rfl
  refine W.widen (k := 11) (n := 132) (Nat.le_of_ble_eq_true rfl) (Nat.le_of_ble_eq_true rfl) ?_
  exact W.vret hx hb hr (fun t ht hW9 => ⟨⟨(), rfl, trivial, ⟨q249, q252, q255, q258, q261, q264, q276, q272, q273, q274, q275, u280, u285, u290, u295, by show va_P _ _ _ t.heap; rw [ht]; exact hP9, hD9⟩⟩, hS.F ht⟩) hS.2.2 dX5_init_121

set_option maxHeartbeats 4000000 in
set_option maxRecDepth 100000 in
theorem l_X3_init (l : Launch) (D : va_G) (cA : Nat → ClassId) (A : Nat → Prop) (h0 : Nat) (x1 : Int32)  : Met l yX3_init wsX3_init ({ frames := 1, cells := 2, slots := 12, locals := 20 }) (pcPre D vwCl (tyL cA) [.ref h0, .int x1] (fun H => va_P D vwCl [(h0, .inr (4, [.int 0, .null, .null, .int 0, .int 0, .int 0, .long 0, .int 0, .int 0, .int 0]))] H ∧ va_D A [(h0, .inr (4, [.int 0, .null, .null, .int 0, .int 0, .int 0, .long 0, .int 0, .int 0, .int 0]))] ∧ (∀ q, H.size ≤ q → A q))) (va_Qv (fun (u : Unit) => True) (fun (u : Unit) t => ∃ (q300 : Nat) (q303 : Nat), va_P D vwCl [(h0, .inr (4, [.int x1, .ref q300, .ref q303, .int 0, .int 0, .int (-1), .long 0, .int 0, .int 0, .int 0])), (q300, .inl (cA 1, 6, .inr (.inl (vp_updL (fun _ => 0) 0 1048577)))), (q303, .inl (cA 0, 6, .inl (fun _ => 0)))] t.heap ∧ va_D A [(h0, .inr (4, [.int x1, .ref q300, .ref q303, .int 0, .int 0, .int (-1), .long 0, .int 0, .int 0, .int 0])), (q300, .inl (cA 1, 6, .inr (.inl (vp_updL (fun _ => 0) 0 1048577)))), (q303, .inl (cA 0, 6, .inl (fun _ => 0)))]) A) 2 12 A := by
  refine Met.ofW (cc := cX3_init) (maxL := 2) (ret := none) (by decide) rfl ?_
  intro p e s m args below meth c s₁ B hml hv
  obtain ⟨rfl, hX, hP, hD, hA⟩ := hv
  have hx := B.exec
  have hb := B.bytes
  have hr := B.returns
  have hts := atoms_spec (ws := wsX3_init) B.pre
  have hown : s.vm.findClass RX3 = some m.cls := findClass_of_methodNamed B.named
  have hlocks := B.notSynchronized
  have hin : meth.name = "<init>" := (name_of_methodNamed B.named B.method).1
  have hS : va_S A s.heap s.heap [] := va_S.rf
  have hl := lv_entry ([.ref h0, .int x1]) (n := 2) (Nat.le_of_ble_eq_true rfl)
  rw [lg_entry_eq]
  generalize (lg_sl ([.ref h0, .int x1]) ++ List.replicate (2 - (lg_sl ([.ref h0, .int x1])).length) Slot.unset).toArray = ls at hl ⊢
  have hl : lv_has ls 2 [(0, .ref h0), (1, .int x1)] := hl
  refine lv_aload_n hx hb dX3_init_0 rfl (lv_at hl 0 rfl) ?_
  refine W.objInit hx hb hown (hts (.methodLink RX3 3 objectInit) (by decide +kernel)) (hts (.instanceMethod objectInit) (by decide +kernel)) (hts (.code objectInit ⟨#[0xb1]⟩ 1 none) (by decide +kernel)) rfl (by rw [hml]; exact hl.1) rfl dX3_init_1 (Nat.le_of_ble_eq_true rfl) (Nat.le_of_ble_eq_true rfl) ?_
  refine W.eq (g2 := F0 m 4 ls []) rfl ?_
  refine lv_aload_n hx hb dX3_init_4 rfl (lv_at hl 0 rfl) ?_
  refine lv_bipush (v := 6) hx hb dX3_init_5 (by decide) ?_
  refine va_newa (atype := .long) (ty := .long) (N' := 6) (a0 := (6, .inr (.inl (fun _ => 0)))) hx hb (hts (.arrayClass .long) (by decide +kernel)) rfl hX.1 hP hD hS hA (fun _ => rfl) (by decide) (by decide) (Nat.le_of_ble_eq_true rfl) (Nat.le_of_ble_eq_true rfl) (Nat.le_of_ble_eq_true rfl) dX3_init_7 (fun q300 y301 H hK9 hP hD hS => ?_)
  obtain rfl : y301 = cA 1 := va_K_last (t0 := 1) hX.1 rfl hK9
  have hP : va_P D vwCl [(h0, .inr (4, [.int 0, .null, .null, .int 0, .int 0, .int 0, .long 0, .int 0, .int 0, .int 0])), (q300, .inl (cA 1, 6, .inr (.inl (fun _ => 0))))] H := hP
  have hD : va_D A [(h0, .inr (4, [.int 0, .null, .null, .int 0, .int 0, .int 0, .long 0, .int 0, .int 0, .int 0])), (q300, .inl (cA 1, 6, .inr (.inl (fun _ => 0))))] := hD
  refine W.widen (k := 1) (n := 6) (Nat.le_of_ble_eq_true rfl) (Nat.le_of_ble_eq_true rfl) ?_
  refine va_putF (D := D) (ci := 4) (v := .ref q300) (ty := .array .long) (C := RX3) (T := TX3) (N := 10) hx hb hts (by decide +kernel) tyX3 tyX3_ok nmX3 hown hX.1 hP hD hS 0 rfl rfl 1 (by decide) (hts (.fieldLink RX3 9 "DraftsmanOffice$Sheet" "regions" "[J") (by decide +kernel)) (fun _ h9 => h9) rfl hin rfl (by decide +kernel) rfl rfl (Nat.le_of_ble_eq_true rfl) dX3_init_9 (fun H locs hP hD hS => ?_)
  have hP : va_P D vwCl [(h0, .inr (4, [.int 0, .ref q300, .null, .int 0, .int 0, .int 0, .long 0, .int 0, .int 0, .int 0])), (q300, .inl (cA 1, 6, .inr (.inl (fun _ => 0))))] H := hP
  have hD : va_D A [(h0, .inr (4, [.int 0, .ref q300, .null, .int 0, .int 0, .int 0, .long 0, .int 0, .int 0, .int 0])), (q300, .inl (cA 1, 6, .inr (.inl (fun _ => 0))))] := hD
  refine lv_aload_n hx hb dX3_init_12 rfl (lv_at hl 0 rfl) ?_
  refine lv_bipush (v := 6) hx hb dX3_init_13 (by decide) ?_
  refine va_newa (atype := .int) (ty := .int) (N' := 6) (a0 := (6, .inl (fun _ => 0))) hx hb (hts (.arrayClass .int) (by decide +kernel)) rfl hX.1 hP hD hS hA (fun _ => rfl) (by decide) (by decide) (Nat.le_of_ble_eq_true rfl) (Nat.le_of_ble_eq_true rfl) (Nat.le_of_ble_eq_true rfl) dX3_init_15 (fun q303 y304 H hK9 hP hD hS => ?_)
  obtain rfl : y304 = cA 0 := va_K_last (t0 := 0) hX.1 rfl hK9
  have hP : va_P D vwCl [(h0, .inr (4, [.int 0, .ref q300, .null, .int 0, .int 0, .int 0, .long 0, .int 0, .int 0, .int 0])), (q300, .inl (cA 1, 6, .inr (.inl (fun _ => 0)))), (q303, .inl (cA 0, 6, .inl (fun _ => 0)))] H := hP
  have hD : va_D A [(h0, .inr (4, [.int 0, .ref q300, .null, .int 0, .int 0, .int 0, .long 0, .int 0, .int 0, .int 0])), (q300, .inl (cA 1, 6, .inr (.inl (fun _ => 0)))), (q303, .inl (cA 0, 6, .inl (fun _ => 0)))] := hD
  refine W.widen (k := 2) (n := 12) (Nat.le_of_ble_eq_true rfl) (Nat.le_of_ble_eq_true rfl) ?_
  refine va_putF (D := D) (ci := 4) (v := .ref q303) (ty := .array .int) (C := RX3) (T := TX3) (N := 10) hx hb hts (by decide +kernel) tyX3 tyX3_ok nmX3 hown hX.1 hP hD hS 0 rfl rfl 2 (by decide) (hts (.fieldLink RX3 15 "DraftsmanOffice$Sheet" "details" "[I") (by decide +kernel)) (fun _ h9 => h9) rfl hin rfl (by decide +kernel) rfl rfl (Nat.le_of_ble_eq_true rfl) dX3_init_17 (fun H locs hP hD hS => ?_)
  have hP : va_P D vwCl [(h0, .inr (4, [.int 0, .ref q300, .ref q303, .int 0, .int 0, .int 0, .long 0, .int 0, .int 0, .int 0])), (q300, .inl (cA 1, 6, .inr (.inl (fun _ => 0)))), (q303, .inl (cA 0, 6, .inl (fun _ => 0)))] H := hP
  have hD : va_D A [(h0, .inr (4, [.int 0, .ref q300, .ref q303, .int 0, .int 0, .int 0, .long 0, .int 0, .int 0, .int 0])), (q300, .inl (cA 1, 6, .inr (.inl (fun _ => 0)))), (q303, .inl (cA 0, 6, .inl (fun _ => 0)))] := hD
  refine lv_aload_n hx hb dX3_init_20 rfl (lv_at hl 0 rfl) ?_
  refine lv_iconst (v := 0) hx hb dX3_init_21 (by decide) ?_
  refine va_put (D := D) (ci := 4) (v := .int 0) (ty := .int) (C := RX3) (T := TX3) (N := 10) hx hb hts (by decide +kernel) tyX3 tyX3_ok nmX3 hown hX.1 hP hD hS 0 rfl rfl 3 (by decide) (hts (.fieldLink RX3 19 "DraftsmanOffice$Sheet" "last" "I") (by decide +kernel)) (fun _ h9 => h9) rfl (by decide +kernel) rfl rfl (Nat.le_of_ble_eq_true rfl) dX3_init_22 (fun H locs hP hD hS => ?_)
  have hP : va_P D vwCl [(h0, .inr (4, [.int 0, .ref q300, .ref q303, .int 0, .int 0, .int 0, .long 0, .int 0, .int 0, .int 0])), (q300, .inl (cA 1, 6, .inr (.inl (fun _ => 0)))), (q303, .inl (cA 0, 6, .inl (fun _ => 0)))] H := hP
  have hD : va_D A [(h0, .inr (4, [.int 0, .ref q300, .ref q303, .int 0, .int 0, .int 0, .long 0, .int 0, .int 0, .int 0])), (q300, .inl (cA 1, 6, .inr (.inl (fun _ => 0)))), (q303, .inl (cA 0, 6, .inl (fun _ => 0)))] := hD
  refine lv_aload_n hx hb dX3_init_25 rfl (lv_at hl 0 rfl) ?_
  refine lv_iconst (v := 0) hx hb dX3_init_26 (by decide) ?_
  refine va_put (D := D) (ci := 4) (v := .int 0) (ty := .boolean) (C := RX3) (T := TX3) (N := 10) hx hb hts (by decide +kernel) tyX3 tyX3_ok nmX3 hown hX.1 hP hD hS 0 rfl rfl 4 (by decide) (hts (.fieldLink RX3 23 "DraftsmanOffice$Sheet" "isLastChecked" "Z") (by decide +kernel)) (fun _ h9 => h9) rfl (by decide +kernel) rfl rfl (Nat.le_of_ble_eq_true rfl) dX3_init_27 (fun H locs hP hD hS => ?_)
  have hP : va_P D vwCl [(h0, .inr (4, [.int 0, .ref q300, .ref q303, .int 0, .int 0, .int 0, .long 0, .int 0, .int 0, .int 0])), (q300, .inl (cA 1, 6, .inr (.inl (fun _ => 0)))), (q303, .inl (cA 0, 6, .inl (fun _ => 0)))] H := hP
  have hD : va_D A [(h0, .inr (4, [.int 0, .ref q300, .ref q303, .int 0, .int 0, .int 0, .long 0, .int 0, .int 0, .int 0])), (q300, .inl (cA 1, 6, .inr (.inl (fun _ => 0)))), (q303, .inl (cA 0, 6, .inl (fun _ => 0)))] := hD
  refine lv_aload_n hx hb dX3_init_30 rfl (lv_at hl 0 rfl) ?_
  refine lv_iconst (v := -1) hx hb dX3_init_31 (by decide) ?_
  refine va_put (D := D) (ci := 4) (v := .int (-1)) (ty := .int) (C := RX3) (T := TX3) (N := 10) hx hb hts (by decide +kernel) tyX3 tyX3_ok nmX3 hown hX.1 hP hD hS 0 rfl rfl 5 (by decide) (hts (.fieldLink RX3 27 "DraftsmanOffice$Sheet" "issued" "I") (by decide +kernel)) (fun _ h9 => h9) rfl (by decide +kernel) rfl rfl (Nat.le_of_ble_eq_true rfl) dX3_init_32 (fun H locs hP hD hS => ?_)
  have hP : va_P D vwCl [(h0, .inr (4, [.int 0, .ref q300, .ref q303, .int 0, .int 0, .int (-1), .long 0, .int 0, .int 0, .int 0])), (q300, .inl (cA 1, 6, .inr (.inl (fun _ => 0)))), (q303, .inl (cA 0, 6, .inl (fun _ => 0)))] H := hP
  have hD : va_D A [(h0, .inr (4, [.int 0, .ref q300, .ref q303, .int 0, .int 0, .int (-1), .long 0, .int 0, .int 0, .int 0])), (q300, .inl (cA 1, 6, .inr (.inl (fun _ => 0)))), (q303, .inl (cA 0, 6, .inl (fun _ => 0)))] := hD
  refine lv_aload_n hx hb dX3_init_35 rfl (lv_at hl 0 rfl) ?_
  refine lv_lconst (v := 0) hx hb dX3_init_36 (by decide) ?_
  refine va_put (D := D) (ci := 4) (v := .long 0) (ty := .long) (C := RX3) (T := TX3) (N := 10) hx hb hts (by decide +kernel) tyX3 tyX3_ok nmX3 hown hX.1 hP hD hS 0 rfl rfl 6 (by decide) (hts (.fieldLink RX3 30 "DraftsmanOffice$Sheet" "issuedRegion" "J") (by decide +kernel)) (fun _ h9 => h9) rfl (by decide +kernel) rfl rfl (Nat.le_of_ble_eq_true rfl) dX3_init_37 (fun H locs hP hD hS => ?_)
  have hP : va_P D vwCl [(h0, .inr (4, [.int 0, .ref q300, .ref q303, .int 0, .int 0, .int (-1), .long 0, .int 0, .int 0, .int 0])), (q300, .inl (cA 1, 6, .inr (.inl (fun _ => 0)))), (q303, .inl (cA 0, 6, .inl (fun _ => 0)))] H := hP
  have hD : va_D A [(h0, .inr (4, [.int 0, .ref q300, .ref q303, .int 0, .int 0, .int (-1), .long 0, .int 0, .int 0, .int 0])), (q300, .inl (cA 1, 6, .inr (.inl (fun _ => 0)))), (q303, .inl (cA 0, 6, .inl (fun _ => 0)))] := hD
  refine lv_aload_n hx hb dX3_init_40 rfl (lv_at hl 0 rfl) ?_
  refine lv_iconst (v := 0) hx hb dX3_init_41 (by decide) ?_
  refine va_put (D := D) (ci := 4) (v := .int 0) (ty := .int) (C := RX3) (T := TX3) (N := 10) hx hb hts (by decide +kernel) tyX3 tyX3_ok nmX3 hown hX.1 hP hD hS 0 rfl rfl 7 (by decide) (hts (.fieldLink RX3 34 "DraftsmanOffice$Sheet" "issuedDetails" "I") (by decide +kernel)) (fun _ h9 => h9) rfl (by decide +kernel) rfl rfl (Nat.le_of_ble_eq_true rfl) dX3_init_42 (fun H locs hP hD hS => ?_)
  have hP : va_P D vwCl [(h0, .inr (4, [.int 0, .ref q300, .ref q303, .int 0, .int 0, .int (-1), .long 0, .int 0, .int 0, .int 0])), (q300, .inl (cA 1, 6, .inr (.inl (fun _ => 0)))), (q303, .inl (cA 0, 6, .inl (fun _ => 0)))] H := hP
  have hD : va_D A [(h0, .inr (4, [.int 0, .ref q300, .ref q303, .int 0, .int 0, .int (-1), .long 0, .int 0, .int 0, .int 0])), (q300, .inl (cA 1, 6, .inr (.inl (fun _ => 0)))), (q303, .inl (cA 0, 6, .inl (fun _ => 0)))] := hD
  refine lv_aload_n hx hb dX3_init_45 rfl (lv_at hl 0 rfl) ?_
  refine lv_iconst (v := 0) hx hb dX3_init_46 (by decide) ?_
  refine va_put (D := D) (ci := 4) (v := .int 0) (ty := .int) (C := RX3) (T := TX3) (N := 10) hx hb hts (by decide +kernel) tyX3 tyX3_ok nmX3 hown hX.1 hP hD hS 0 rfl rfl 8 (by decide) (hts (.fieldLink RX3 37 "DraftsmanOffice$Sheet" "marks" "I") (by decide +kernel)) (fun _ h9 => h9) rfl (by decide +kernel) rfl rfl (Nat.le_of_ble_eq_true rfl) dX3_init_47 (fun H locs hP hD hS => ?_)
  have hP : va_P D vwCl [(h0, .inr (4, [.int 0, .ref q300, .ref q303, .int 0, .int 0, .int (-1), .long 0, .int 0, .int 0, .int 0])), (q300, .inl (cA 1, 6, .inr (.inl (fun _ => 0)))), (q303, .inl (cA 0, 6, .inl (fun _ => 0)))] H := hP
  have hD : va_D A [(h0, .inr (4, [.int 0, .ref q300, .ref q303, .int 0, .int 0, .int (-1), .long 0, .int 0, .int 0, .int 0])), (q300, .inl (cA 1, 6, .inr (.inl (fun _ => 0)))), (q303, .inl (cA 0, 6, .inl (fun _ => 0)))] := hD
  refine lv_aload_n hx hb dX3_init_50 rfl (lv_at hl 0 rfl) ?_
  refine lv_iconst (v := 0) hx hb dX3_init_51 (by decide) ?_
  refine va_put (D := D) (ci := 4) (v := .int 0) (ty := .int) (C := RX3) (T := TX3) (N := 10) hx hb hts (by decide +kernel) tyX3 tyX3_ok nmX3 hown hX.1 hP hD hS 0 rfl rfl 9 (by decide) (hts (.fieldLink RX3 40 "DraftsmanOffice$Sheet" "excused" "I") (by decide +kernel)) (fun _ h9 => h9) rfl (by decide +kernel) rfl rfl (Nat.le_of_ble_eq_true rfl) dX3_init_52 (fun H locs hP hD hS => ?_)
  have hP : va_P D vwCl [(h0, .inr (4, [.int 0, .ref q300, .ref q303, .int 0, .int 0, .int (-1), .long 0, .int 0, .int 0, .int 0])), (q300, .inl (cA 1, 6, .inr (.inl (fun _ => 0)))), (q303, .inl (cA 0, 6, .inl (fun _ => 0)))] H := hP
  have hD : va_D A [(h0, .inr (4, [.int 0, .ref q300, .ref q303, .int 0, .int 0, .int (-1), .long 0, .int 0, .int 0, .int 0])), (q300, .inl (cA 1, 6, .inr (.inl (fun _ => 0)))), (q303, .inl (cA 0, 6, .inl (fun _ => 0)))] := hD
  refine lv_aload_n hx hb dX3_init_55 rfl (lv_at hl 0 rfl) ?_
  refine lv_iload_n hx hb dX3_init_56 rfl (lv_at hl 1 rfl) ?_
  refine va_putF (D := D) (ci := 4) (v := .int x1) (ty := .int) (C := RX3) (T := TX3) (N := 10) hx hb hts (by decide +kernel) tyX3 tyX3_ok nmX3 hown hX.1 hP hD hS 0 rfl rfl 0 (by decide) (hts (.fieldLink RX3 43 "DraftsmanOffice$Sheet" "trade" "I") (by decide +kernel)) (fun _ h9 => h9) rfl hin rfl (by decide +kernel) rfl rfl (Nat.le_of_ble_eq_true rfl) dX3_init_57 (fun H locs hP hD hS => ?_)
  have hP : va_P D vwCl [(h0, .inr (4, [.int x1, .ref q300, .ref q303, .int 0, .int 0, .int (-1), .long 0, .int 0, .int 0, .int 0])), (q300, .inl (cA 1, 6, .inr (.inl (fun _ => 0)))), (q303, .inl (cA 0, 6, .inl (fun _ => 0)))] H := hP
  have hD : va_D A [(h0, .inr (4, [.int x1, .ref q300, .ref q303, .int 0, .int 0, .int (-1), .long 0, .int 0, .int 0, .int 0])), (q300, .inl (cA 1, 6, .inr (.inl (fun _ => 0)))), (q303, .inl (cA 0, 6, .inl (fun _ => 0)))] := hD
  refine lv_aload_n hx hb dX3_init_60 rfl (lv_at hl 0 rfl) ?_
  refine va_get (D := D) (ci := 4) (v := .ref q300) (C := RX3) (T := TX3) (N := 10) hx hb hts (by decide +kernel) hown hX.1 hP 0 rfl rfl 1 (by decide) (hts (.fieldLink RX3 9 "DraftsmanOffice$Sheet" "regions" "[J") (by decide +kernel)) (fun _ h9 => h9) rfl dX3_init_61 ?_
  refine lv_iconst (v := 0) hx hb dX3_init_64 (by decide) ?_
  refine lv_ldc2 (v := 1048577) hx hb hown (hts (.constantLong RX3 46 1048577) (by decide +kernel)) dX3_init_65 ?_
  refine va_last hx hb hX.1 hP hD hS 1 1 rfl rfl (vp_in_nI (n := 0) (by decide) (by decide)) dX3_init_68 (fun H locs hP hD hS => ?_)
  have hP : va_P D vwCl [(h0, .inr (4, [.int x1, .ref q300, .ref q303, .int 0, .int 0, .int (-1), .long 0, .int 0, .int 0, .int 0])), (q300, .inl (cA 1, 6, .inr (.inl (vp_updL (fun _ => 0) 0 1048577)))), (q303, .inl (cA 0, 6, .inl (fun _ => 0)))] H := hP
  have hD : va_D A [(h0, .inr (4, [.int x1, .ref q300, .ref q303, .int 0, .int 0, .int (-1), .long 0, .int 0, .int 0, .int 0])), (q300, .inl (cA 1, 6, .inr (.inl (vp_updL (fun _ => 0) 0 1048577)))), (q303, .inl (cA 0, 6, .inl (fun _ => 0)))] := hD
  have hP9 := hP.sub (ws' := [(h0, .inr (4, [.int x1, .ref q300, .ref q303, .int 0, .int 0, .int (-1), .long 0, .int 0, .int 0, .int 0])), (q300, .inl (cA 1, 6, .inr (.inl (vp_updL (fun _ => 0) 0 1048577)))), (q303, .inl (cA 0, 6, .inl (fun _ => 0)))]) [0, 1, 2] rfl
  have hD9 := hD.sub (ws' := [(h0, .inr (4, [.int x1, .ref q300, .ref q303, .int 0, .int 0, .int (-1), .long 0, .int 0, .int 0, .int 0])), (q300, .inl (cA 1, 6, .inr (.inl (vp_updL (fun _ => 0) 0 1048577)))), (q303, .inl (cA 0, 6, .inl (fun _ => 0)))]) [0, 1, 2] (by decide) rfl
  refine W.widen (k := 2) (n := 12) (Nat.le_of_ble_eq_true rfl) (Nat.le_of_ble_eq_true rfl) ?_
  exact W.vret hx hb hr (fun t ht hW9 => ⟨⟨(), rfl, trivial, ⟨q300, q303, by show va_P _ _ _ t.heap; rw [ht]; exact hP9, hD9⟩⟩, hS.F ht⟩) hS.2.2 dX3_init_69

set_option maxHeartbeats 4000000 in
set_option maxRecDepth 100000 in
theorem t_X5_sheet (l : Launch) (hl0 : l.stackTraces = false) (D : va_G) (cA : Nat → ClassId) (z : Nat) (A : Nat → Prop) (h0 a0 a1 a2 a3 a4 g0 w0 : Nat) (x1 : Int32)  : vx_Met l yX5_sheet wsX5_sheet ({ frames := 6, cells := 3, slots := 22, locals := 90 }) (pcPreT D vwCl (tyL cA) z [.ref h0, .int x1] (fun H => va_P D vwCl [(h0, .inr (6, [.ref a0, .ref a1, .ref a2, .ref a3, .ref a4, .ref g0, .ref w0, .int 0, .int 0, .int 0, .int 0, .int 0, .int 0])), (a0, .inl (cA 3, 10, .inr (.inr (.inr (.inr (fun _ => none))))))] H ∧ va_D A [(h0, .inr (6, [.ref a0, .ref a1, .ref a2, .ref a3, .ref a4, .ref g0, .ref w0, .int 0, .int 0, .int 0, .int 0, .int 0, .int 0])), (a0, .inl (cA 3, 10, .inr (.inr (.inr (.inr (fun _ => none))))))] ∧ (∀ q, H.size ≤ q → A q) ∧ (∀ q, A q → z ≤ q))) (va_Qi (fun (r : Int32) (u : Unit) => r = 0 ∧ (¬ x1 < 0 ∧ x1 < 4)) (fun (u : Unit) t => True) A) (pxX (fun E => E = R_IA ∧ ¬ (¬ x1 < 0 ∧ x1 < 4))) 3 22 A := by
  refine vx_ofW (cc := cX5_sheet) (maxL := 3) (ret := (some .int)) (by decide) rfl ?_
  intro p e s m args below meth c s₁ B hml hex hv
  obtain ⟨rfl, hX, hT, ⟨hZ, hz⟩, hP, hD, hA, hAz⟩ := hv
  have hx := B.exec
  have hb := B.bytes
  have hr := B.returns
  have hts := atoms_spec (ws := wsX5_sheet) B.pre
  have hown : s.vm.findClass RX5 = some m.cls := findClass_of_methodNamed B.named
  have hlocks := B.notSynchronized
  have hS : va_S A s.heap s.heap [] := va_S.rf
  have hS0 : va_S (fun _ => False) s.heap s.heap [] := va_S.rf
  have hl := lv_entry ([.ref h0, .int x1]) (n := 3) (Nat.le_of_ble_eq_true rfl)
  rw [lg_entry_eq]
  generalize (lg_sl ([.ref h0, .int x1]) ++ List.replicate (3 - (lg_sl ([.ref h0, .int x1])).length) Slot.unset).toArray = ls at hl ⊢
  have hl : lv_has ls 3 [(0, .ref h0), (1, .int x1)] := hl
  refine lv_iload_n hx hb dX5_sheet_0 rfl (lv_at hl 1 rfl) ?_
  refine lv_if_lt (tgt := 9) hx hb dX5_sheet_1 (by decide) (fun c306 => ?_) (fun c306 => ?_)
  · obtain ⟨sa307, hsa307⟩ := hT.2.2 (RX5, 75, "the trade is not 0 to 3") (by decide +kernel)
    have hat : ∀ w ∈ vx_atS RX5 77 "java/lang/IllegalArgumentException" ["java/lang/RuntimeException", "java/lang/Exception"], w.before _ s = true := vx_hat (fun w hw => hts w (List.mem_cons_of_mem _ (List.mem_append_left _ (List.mem_append_right _ hw)))) (B := [.castable "java/lang/IllegalArgumentException" "java/lang/IllegalArgumentException", .declares (Bundle.initS "java/lang/RuntimeException"), .declares (Bundle.initS "java/lang/Exception"), .declares (Bundle.initS Bundle.tN)]) (by decide +kernel) (vx_c (va_Nw.use rfl (hT.1 _ (by decide +kernel))) (vx_c (va_Nw.use rfl (hT.1 _ (by decide +kernel))) (vx_c (va_Nw.use rfl (hT.1 _ (by decide +kernel))) (vx_c (va_Nw.use rfl (hT.1 _ (by decide +kernel))) vx_n))))
    have hSz : va_S (fun q => z ≤ q) s.heap _ _ := ⟨hS0.1, fun q h1 _ => hS0.2.1 q h1 id, fun q hq => (hS0.2.2 q hq).elim⟩
    exact vx_throwS (text := "the trade is not 0 to 3") (names := ["java/lang/RuntimeException", "java/lang/Exception"]) hx hb hl0 hown (by decide +kernel) (by decide +kernel) (hts (.classLink RX5 73 "java/lang/IllegalArgumentException") (by decide +kernel)) (hts (.initialized "java/lang/IllegalArgumentException") (by decide +kernel)) hsa307 hat (by decide +kernel) hZ.1 hZ.2 hSz (hl.1.trans hml.symm) dX5_sheet_9 dX5_sheet_12 dX5_sheet_13 dX5_sheet_15 dX5_sheet_18 (fun x hx => (hex x hx).elim) (by decide) (Nat.le_of_ble_eq_true rfl) (Nat.le_of_ble_eq_true rfl) (Nat.le_of_ble_eq_true rfl) hlocks (fun t hal hsz hk => ⟨(), trivial, ⟨rfl, fun h => h.1 c306⟩, Nat.le_trans hS0.1 hsz, fun q h1 _ => (hk q (Nat.lt_of_lt_of_le h1 hS0.1)).trans (hS0.2.1 q h1 id)⟩) (fun q hq => (hS0.2.2 q hq).elim) (Nat.le_of_ble_eq_true rfl) (Nat.le_of_ble_eq_true rfl)
  · refine lv_iload_n hx hb dX5_sheet_4 rfl (lv_at hl 1 rfl) ?_
    refine lv_iconst (v := 4) hx hb dX5_sheet_5 (by decide) ?_
    refine lv_icmp_lt (tgt := 19) hx hb dX5_sheet_6 (by decide) (fun c308 => ?_) (fun c308 => ?_)
    · refine lv_aload_n hx hb dX5_sheet_19 rfl (lv_at hl 0 rfl) ?_
      refine va_get (D := D) (ci := 6) (v := .int 0) (C := RX5) (T := TX5) (N := 13) hx hb hts (by decide +kernel) hown hX.1 hP 0 rfl rfl 7 (by decide) (hts (.fieldLink RX5 48 "DraftsmanOffice" "sheetCount" "I") (by decide +kernel)) (fun _ h9 => h9) rfl dX5_sheet_20 ?_
      refine lv_bipush (v := 10) hx hb dX5_sheet_23 (by decide) ?_
      refine lv_icmp_lt (tgt := 38) hx hb dX5_sheet_25 (by decide) (fun _ => ?_) (fun c309 => absurd (by decide) c309)
      refine lv_aload_n hx hb dX5_sheet_38 rfl (lv_at hl 0 rfl) ?_
      refine va_get (D := D) (ci := 6) (v := .int 0) (C := RX5) (T := TX5) (N := 13) hx hb hts (by decide +kernel) hown hX.1 hP 0 rfl rfl 7 (by decide) (hts (.fieldLink RX5 48 "DraftsmanOffice" "sheetCount" "I") (by decide +kernel)) (fun _ h9 => h9) rfl dX5_sheet_39 ?_
      refine lv_istore_n (lv' := [(2, .int 0), (0, .ref h0), (1, .int x1)]) hx hb dX5_sheet_42 rfl hl (by decide) rfl (fun ls hl => ?_)
      refine lv_aload_n hx hb dX5_sheet_43 rfl (lv_at hl 1 rfl) ?_
      refine va_get (D := D) (ci := 6) (v := .ref a0) (C := RX5) (T := TX5) (N := 13) hx hb hts (by decide +kernel) hown hX.1 hP 0 rfl rfl 0 (by decide) (hts (.fieldLink RX5 11 "DraftsmanOffice" "sheets" "[LDraftsmanOffice$Sheet;") (by decide +kernel)) (fun _ h9 => h9) rfl dX5_sheet_44 ?_
      refine lv_iload_n hx hb dX5_sheet_47 rfl (lv_at hl 0 rfl) ?_
      refine va_new (ci := 4) (fs := [.int 0, .null, .null, .int 0, .int 0, .int 0, .long 0, .int 0, .int 0, .int 0]) (C := RX3) (T := TX3) (N := 10) hx hb hts (by decide +kernel) tyX3 tyX3_ok hown (hts (.classLink RX5 9 RX3) (by decide +kernel)) (hts (.instantiable RX3 10) (by decide +kernel)) (hts (.initialized RX3) (by decide +kernel)) hX.1 hP hD hS hA rfl (fun j hj => by rcases (show j = 0 ∨ j = 1 ∨ j = 2 ∨ j = 3 ∨ j = 4 ∨ j = 5 ∨ j = 6 ∨ j = 7 ∨ j = 8 ∨ j = 9 by omega) with rfl | rfl | rfl | rfl | rfl | rfl | rfl | rfl | rfl | rfl <;> rfl) (Nat.le_of_ble_eq_true rfl) (Nat.le_of_ble_eq_true rfl) dX5_sheet_48 (fun q310 H hP hD hS => ?_)
      have hP : va_P D vwCl [(h0, .inr (6, [.ref a0, .ref a1, .ref a2, .ref a3, .ref a4, .ref g0, .ref w0, .int 0, .int 0, .int 0, .int 0, .int 0, .int 0])), (a0, .inl (cA 3, 10, .inr (.inr (.inr (.inr (fun _ => none)))))), (q310, .inr (4, [.int 0, .null, .null, .int 0, .int 0, .int 0, .long 0, .int 0, .int 0, .int 0]))] H := hP
      have hD : va_D A [(h0, .inr (6, [.ref a0, .ref a1, .ref a2, .ref a3, .ref a4, .ref g0, .ref w0, .int 0, .int 0, .int 0, .int 0, .int 0, .int 0])), (a0, .inl (cA 3, 10, .inr (.inr (.inr (.inr (fun _ => none)))))), (q310, .inr (4, [.int 0, .null, .null, .int 0, .int 0, .int 0, .long 0, .int 0, .int 0, .int 0]))] := hD
      refine W.widen (k := 1) (n := 10) (Nat.le_of_ble_eq_true rfl) (Nat.le_of_ble_eq_true rfl) ?_
      refine lv_dup hx hb dX5_sheet_51 rfl ?_
      refine lv_iload_n hx hb dX5_sheet_52 rfl (lv_at hl 2 rfl) ?_
      have hPc := hP.sub (ws' := [(q310, .inr (4, [.int 0, .null, .null, .int 0, .int 0, .int 0, .long 0, .int 0, .int 0, .int 0]))]) [2] rfl
      have hDc := (hD.sub (ws' := [(q310, .inr (4, [.int 0, .null, .null, .int 0, .int 0, .int 0, .long 0, .int 0, .int 0, .int 0]))]) [2] (by decide) rfl).self (sz := H.size)
      have hFc := va_free (wc := [(q310, .inr (4, [.int 0, .null, .null, .int 0, .int 0, .int 0, .long 0, .int 0, .int 0, .int 0]))]) hD hS hA [2] rfl
      refine va_callv (va_runIN (As := [.int x1]) (rest := [.ref q310, .int 0, .ref a0]) ⟨hx, hb, hml, hown, hts⟩ (l_X3_init l D cA (va_A [(q310, .inr (4, [.int 0, .null, .null, .int 0, .int 0, .int 0, .long 0, .int 0, .int 0, .int 0]))] H.size) q310 x1) ⟨va_cnB 1 hts gX5_sheet_X3_init_n85 rfl rfl rfl (hX.2.1 (.methodLinkNest RX5 85 yX3_init R_host) (by decide +kernel)) (hts (.initialized RX3) (by decide +kernel)) (by decide +kernel) ⟨Nat.le_of_ble_eq_true rfl, Nat.le_of_ble_eq_true rfl⟩, rfl, hts (.instanceMethod yX3_init) (by decide +kernel)⟩ (pc_preS pcN_ok hX ⟨hPc, hDc, fun q h => Or.inr h⟩) rfl rfl hl.1 rfl (lv_room (Nat.le_of_ble_eq_true rfl)) dX5_sheet_53 ⟨Nat.le_of_ble_eq_true rfl, Nat.le_of_ble_eq_true rfl⟩) hS (fun q _ h => hFc q h) hFc (fun u312 t H1 locs ht hvm hw hB hz1 hk1 hS => ?_)
      obtain ⟨q316, q317, hP1, hD1⟩ := hB
      rw [ht] at hP1
      obtain ⟨hP, hD⟩ := va_join (wr := [(h0, .inr (6, [.ref a0, .ref a1, .ref a2, .ref a3, .ref a4, .ref g0, .ref w0, .int 0, .int 0, .int 0, .int 0, .int 0, .int 0])), (a0, .inl (cA 3, 10, .inr (.inr (.inr (.inr (fun _ => none))))))]) (w1 := [(q310, .inr (4, [.int x1, .ref q316, .ref q317, .int 0, .int 0, .int (-1), .long 0, .int 0, .int 0, .int 0])), (q316, .inl (cA 1, 6, .inr (.inl (vp_updL (fun _ => 0) 0 1048577)))), (q317, .inl (cA 0, 6, .inl (fun _ => 0)))]) hP hD [2] [0, 1] rfl rfl (by decide) (by decide) hk1 hFc hP1 hD1
      generalize H1 = H at hP hS ⊢
      have hP : va_P D vwCl [(h0, .inr (6, [.ref a0, .ref a1, .ref a2, .ref a3, .ref a4, .ref g0, .ref w0, .int 0, .int 0, .int 0, .int 0, .int 0, .int 0])), (a0, .inl (cA 3, 10, .inr (.inr (.inr (.inr (fun _ => none)))))), (q310, .inr (4, [.int x1, .ref q316, .ref q317, .int 0, .int 0, .int (-1), .long 0, .int 0, .int 0, .int 0])), (q316, .inl (cA 1, 6, .inr (.inl (vp_updL (fun _ => 0) 0 1048577)))), (q317, .inl (cA 0, 6, .inl (fun _ => 0)))] H := hP
      have hD : va_D A [(h0, .inr (6, [.ref a0, .ref a1, .ref a2, .ref a3, .ref a4, .ref g0, .ref w0, .int 0, .int 0, .int 0, .int 0, .int 0, .int 0])), (a0, .inl (cA 3, 10, .inr (.inr (.inr (.inr (fun _ => none)))))), (q310, .inr (4, [.int x1, .ref q316, .ref q317, .int 0, .int 0, .int (-1), .long 0, .int 0, .int 0, .int 0])), (q316, .inl (cA 1, 6, .inr (.inl (vp_updL (fun _ => 0) 0 1048577)))), (q317, .inl (cA 0, 6, .inl (fun _ => 0)))] := hD
      refine W.widen (k := 3) (n := 22) (Nat.le_of_ble_eq_true rfl) (Nat.le_of_ble_eq_true rfl) ?_
      refine va_astq hx hb hX.1 hP hD hS 1 3 2 4 rfl rfl rfl rfl (vp_in_nI (n := 0) (by decide) (by decide)) dX5_sheet_56 (fun H locs hP hD hS => ?_)
      have hP : va_P D vwCl [(h0, .inr (6, [.ref a0, .ref a1, .ref a2, .ref a3, .ref a4, .ref g0, .ref w0, .int 0, .int 0, .int 0, .int 0, .int 0, .int 0])), (a0, .inl (cA 3, 10, .inr (.inr (.inr (.inr (va_up (fun _ => none) 0 (some q310))))))), (q310, .inr (4, [.int x1, .ref q316, .ref q317, .int 0, .int 0, .int (-1), .long 0, .int 0, .int 0, .int 0])), (q316, .inl (cA 1, 6, .inr (.inl (vp_updL (fun _ => 0) 0 1048577)))), (q317, .inl (cA 0, 6, .inl (fun _ => 0)))] H := hP
      have hD : va_D A [(h0, .inr (6, [.ref a0, .ref a1, .ref a2, .ref a3, .ref a4, .ref g0, .ref w0, .int 0, .int 0, .int 0, .int 0, .int 0, .int 0])), (a0, .inl (cA 3, 10, .inr (.inr (.inr (.inr (va_up (fun _ => none) 0 (some q310))))))), (q310, .inr (4, [.int x1, .ref q316, .ref q317, .int 0, .int 0, .int (-1), .long 0, .int 0, .int 0, .int 0])), (q316, .inl (cA 1, 6, .inr (.inl (vp_updL (fun _ => 0) 0 1048577)))), (q317, .inl (cA 0, 6, .inl (fun _ => 0)))] := hD
      refine lv_aload_n hx hb dX5_sheet_57 rfl (lv_at hl 1 rfl) ?_
      refine lv_dup hx hb dX5_sheet_58 rfl ?_
      refine va_get (D := D) (ci := 6) (v := .int 0) (C := RX5) (T := TX5) (N := 13) hx hb hts (by decide +kernel) hown hX.1 hP 0 rfl rfl 7 (by decide) (hts (.fieldLink RX5 48 "DraftsmanOffice" "sheetCount" "I") (by decide +kernel)) (fun _ h9 => h9) rfl dX5_sheet_59 ?_
      refine lv_iconst (v := 1) hx hb dX5_sheet_62 (by decide) ?_
      refine lv_iadd hx hb dX5_sheet_63 ?_
      refine lv_topi (fun a320 ea320 => ?_)
      obtain rfl : a320 = 1 := ea320.trans (by decide)
      refine va_put (D := D) (ci := 6) (v := .int 1) (ty := .int) (C := RX5) (T := TX5) (N := 13) hx hb hts (by decide +kernel) tyX5 tyX5_ok nmX5 hown hX.1 hP hD hS 0 rfl rfl 7 (by decide) (hts (.fieldLink RX5 48 "DraftsmanOffice" "sheetCount" "I") (by decide +kernel)) (fun _ h9 => h9) rfl (by decide +kernel) rfl rfl (Nat.le_of_ble_eq_true rfl) dX5_sheet_64 (fun H locs hP hD hS => ?_)
      have hP : va_P D vwCl [(h0, .inr (6, [.ref a0, .ref a1, .ref a2, .ref a3, .ref a4, .ref g0, .ref w0, .int 1, .int 0, .int 0, .int 0, .int 0, .int 0])), (a0, .inl (cA 3, 10, .inr (.inr (.inr (.inr (va_up (fun _ => none) 0 (some q310))))))), (q310, .inr (4, [.int x1, .ref q316, .ref q317, .int 0, .int 0, .int (-1), .long 0, .int 0, .int 0, .int 0])), (q316, .inl (cA 1, 6, .inr (.inl (vp_updL (fun _ => 0) 0 1048577)))), (q317, .inl (cA 0, 6, .inl (fun _ => 0)))] H := hP
      have hD : va_D A [(h0, .inr (6, [.ref a0, .ref a1, .ref a2, .ref a3, .ref a4, .ref g0, .ref w0, .int 1, .int 0, .int 0, .int 0, .int 0, .int 0])), (a0, .inl (cA 3, 10, .inr (.inr (.inr (.inr (va_up (fun _ => none) 0 (some q310))))))), (q310, .inr (4, [.int x1, .ref q316, .ref q317, .int 0, .int 0, .int (-1), .long 0, .int 0, .int 0, .int 0])), (q316, .inl (cA 1, 6, .inr (.inl (vp_updL (fun _ => 0) 0 1048577)))), (q317, .inl (cA 0, 6, .inl (fun _ => 0)))] := hD
      refine lv_iload_n hx hb dX5_sheet_67 rfl (lv_at hl 0 rfl) ?_
      have hP9 := hP.sub (ws' := []) [] rfl
      have hD9 := hD.sub (ws' := []) [] (by decide) rfl
      refine W.widen (k := 3) (n := 22) (Nat.le_of_ble_eq_true rfl) (Nat.le_of_ble_eq_true rfl) ?_
      refine vx_ret ?_
      exact W.iret (v := 0) hx hb hr (fun t ht hW9 => ⟨⟨0, (), rfl, ⟨rfl, c306, c308⟩, trivial⟩, hS.F ht⟩) hS.2.2 dX5_sheet_68
    · obtain ⟨sa321, hsa321⟩ := hT.2.2 (RX5, 75, "the trade is not 0 to 3") (by decide +kernel)
      have hat : ∀ w ∈ vx_atS RX5 77 "java/lang/IllegalArgumentException" ["java/lang/RuntimeException", "java/lang/Exception"], w.before _ s = true := vx_hat (fun w hw => hts w (List.mem_cons_of_mem _ (List.mem_append_left _ (List.mem_append_right _ hw)))) (B := [.castable "java/lang/IllegalArgumentException" "java/lang/IllegalArgumentException", .declares (Bundle.initS "java/lang/RuntimeException"), .declares (Bundle.initS "java/lang/Exception"), .declares (Bundle.initS Bundle.tN)]) (by decide +kernel) (vx_c (va_Nw.use rfl (hT.1 _ (by decide +kernel))) (vx_c (va_Nw.use rfl (hT.1 _ (by decide +kernel))) (vx_c (va_Nw.use rfl (hT.1 _ (by decide +kernel))) (vx_c (va_Nw.use rfl (hT.1 _ (by decide +kernel))) vx_n))))
      have hSz : va_S (fun q => z ≤ q) s.heap _ _ := ⟨hS0.1, fun q h1 _ => hS0.2.1 q h1 id, fun q hq => (hS0.2.2 q hq).elim⟩
      exact vx_throwS (text := "the trade is not 0 to 3") (names := ["java/lang/RuntimeException", "java/lang/Exception"]) hx hb hl0 hown (by decide +kernel) (by decide +kernel) (hts (.classLink RX5 73 "java/lang/IllegalArgumentException") (by decide +kernel)) (hts (.initialized "java/lang/IllegalArgumentException") (by decide +kernel)) hsa321 hat (by decide +kernel) hZ.1 hZ.2 hSz (hl.1.trans hml.symm) dX5_sheet_9 dX5_sheet_12 dX5_sheet_13 dX5_sheet_15 dX5_sheet_18 (fun x hx => (hex x hx).elim) (by decide) (Nat.le_of_ble_eq_true rfl) (Nat.le_of_ble_eq_true rfl) (Nat.le_of_ble_eq_true rfl) hlocks (fun t hal hsz hk => ⟨(), trivial, ⟨rfl, fun h => c308 h.2⟩, Nat.le_trans hS0.1 hsz, fun q h1 _ => (hk q (Nat.lt_of_lt_of_le h1 hS0.1)).trans (hS0.2.1 q h1 id)⟩) (fun q hq => (hS0.2.2 q hq).elim) (Nat.le_of_ble_eq_true rfl) (Nat.le_of_ble_eq_true rfl)

set_option maxHeartbeats 4000000 in
set_option maxRecDepth 100000 in
theorem t_X5_freedByAll (l : Launch) (hl0 : l.stackTraces = false) (D : va_G) (cA : Nat → ClassId) (z : Nat) (A : Nat → Prop) (h0 a0 a1 a2 a3 a4 g0 w0 : Nat) (r0 r1 r2 r3 : Nat) (fw f0 f1 f2 f3 : Nat → Int32) (x1 : Int32)  : vx_Met l yX5_freedByAll wsX5_freedByAll ({ frames := 7, cells := 1, slots := 6, locals := 110 }) (pcPreT D vwCl (tyL cA) z [.ref h0, .int x1] (fun H => va_P D vwCl [(h0, .inr (6, [.ref a0, .ref a1, .ref a2, .ref a3, .ref a4, .ref g0, .ref w0, .int 0, .int 0, .int 0, .int 0, .int 0, .int 0])), (g0, .inl (cA 9, 4, .inr (.inr (.inr (.inr (fun i => ([r0, r1, r2, r3] : List Nat)[i]?)))))), (w0, .inl (cA 0, 10, .inl fw)), (r0, .inl (cA 0, 10, .inl f0)), (r1, .inl (cA 0, 10, .inl f1)), (r2, .inl (cA 0, 10, .inl f2)), (r3, .inl (cA 0, 10, .inl f3))] H ∧ va_D A [(h0, .inr (6, [.ref a0, .ref a1, .ref a2, .ref a3, .ref a4, .ref g0, .ref w0, .int 0, .int 0, .int 0, .int 0, .int 0, .int 0])), (g0, .inl (cA 9, 4, .inr (.inr (.inr (.inr (fun i => ([r0, r1, r2, r3] : List Nat)[i]?)))))), (w0, .inl (cA 0, 10, .inl fw)), (r0, .inl (cA 0, 10, .inl f0)), (r1, .inl (cA 0, 10, .inl f1)), (r2, .inl (cA 0, 10, .inl f2)), (r3, .inl (cA 0, 10, .inl f3))] ∧ (∀ q, H.size ≤ q → A q) ∧ (∀ q, A q → z ≤ q))) (va_Qi (fun (r : Int32) (u : Unit) => r = 0 ∧ (¬ x1 < 0 ∧ x1 < 4)) (fun (u : Unit) t => ∃  (f324 : Nat → Int32), va_P D vwCl [(h0, .inr (6, [.ref a0, .ref a1, .ref a2, .ref a3, .ref a4, .ref g0, .ref w0, .int 0, .int 0, .int 0, .int 0, .int 0, .int 0])), (g0, .inl (cA 9, 4, .inr (.inr (.inr (.inr (fun i => ([r0, r1, r2, r3] : List Nat)[i]?)))))), (w0, .inl (cA 0, 10, .inl f324)), (r0, .inl (cA 0, 10, .inl f0)), (r1, .inl (cA 0, 10, .inl f1)), (r2, .inl (cA 0, 10, .inl f2)), (r3, .inl (cA 0, 10, .inl f3))] t.heap ∧ va_D A [(h0, .inr (6, [.ref a0, .ref a1, .ref a2, .ref a3, .ref a4, .ref g0, .ref w0, .int 0, .int 0, .int 0, .int 0, .int 0, .int 0])), (g0, .inl (cA 9, 4, .inr (.inr (.inr (.inr (fun i => ([r0, r1, r2, r3] : List Nat)[i]?)))))), (w0, .inl (cA 0, 10, .inl f324)), (r0, .inl (cA 0, 10, .inl f0)), (r1, .inl (cA 0, 10, .inl f1)), (r2, .inl (cA 0, 10, .inl f2)), (r3, .inl (cA 0, 10, .inl f3))]) A) (pxX (fun E => E = R_IO ∧ ¬ (¬ x1 < 0 ∧ x1 < 4))) 1 6 A := by
  refine vx_ofW (cc := cX5_freedByAll) (maxL := 5) (ret := (some .int)) (by decide) rfl ?_
  intro p e s m args below meth c s₁ B hml hex hv
  obtain ⟨rfl, hX, hT, ⟨hZ, hz⟩, hP, hD, hA, hAz⟩ := hv
  have hx := B.exec
  have hb := B.bytes
  have hr := B.returns
  have hts := atoms_spec (ws := wsX5_freedByAll) B.pre
  have hown : s.vm.findClass RX5 = some m.cls := findClass_of_methodNamed B.named
  have hlocks := B.notSynchronized
  have hS : va_S A s.heap s.heap [] := va_S.rf
  have hS0 : va_S (fun _ => False) s.heap s.heap [] := va_S.rf
  have hl := lv_entry ([.ref h0, .int x1]) (n := 5) (Nat.le_of_ble_eq_true rfl)
  rw [lg_entry_eq]
  generalize (lg_sl ([.ref h0, .int x1]) ++ List.replicate (5 - (lg_sl ([.ref h0, .int x1])).length) Slot.unset).toArray = ls at hl ⊢
  have hl : lv_has ls 5 [(0, .ref h0), (1, .int x1)] := hl
  refine lv_iload_n hx hb dX5_freedByAll_0 rfl (lv_at hl 1 rfl) ?_
  refine vx_callv (vx_runS (As := [.int x1]) (rest := []) ⟨hx, hb, hml, hown, hts⟩ (t_X5_requireCrew l hl0 D cA z [] (fun _ _ => 0) (fun _ _ => .inr (0, [])) x1 ) (va_cwS 1 hts gX5_freedByAll_X5_requireCrew rfl rfl rfl (by decide +kernel) ⟨Nat.le_of_ble_eq_true rfl, Nat.le_of_ble_eq_true rfl⟩) (pcT_preS hX hT (pcZ_kept hZ hAz hS) (Nat.le_trans hz hS.1) (hP.sub (ws' := []) [] rfl)) rfl rfl hl.1 rfl (lv_room (Nat.le_of_ble_eq_true rfl)) dX5_freedByAll_1 ⟨Nat.le_of_ble_eq_true rfl, Nat.le_of_ble_eq_true rfl⟩) hS (fun _ _ h => h.elim) (fun _ h => h.elim) (fun _ _ h => h.elim) (fun E ce q9 _ t H1 locs1 ht hvm hpx hE _ hk9 hS9 hq9 hce hcl => ?_) (fun _ t H locs ht hvm hwr322 _ _ hk9 hS => ?_)
  · exact vx_out (fun x hx => (hex x hx).elim) hlocks hq9 hce hcl (fun t9 ht9 hal9 => ⟨(), trivial, hE, Nat.le_trans hS9.1 (Nat.le_of_eq (by rw [ht9])), fun q h1 _ => by rw [ht9]; exact hk9 q h1 id⟩) (fun q hq => hS9.2.2 q hq) (Nat.le_of_ble_eq_true rfl) (Nat.le_of_ble_eq_true rfl)
  have hP := hP.kept (H1 := H) (fun k q hk => hk9 q.1 ((hP k q hk).lt) id)
  refine W.widen (k := 1) (n := 6) (Nat.le_of_ble_eq_true rfl) (Nat.le_of_ble_eq_true rfl) ?_
  have hP : va_P D vwCl [(h0, .inr (6, [.ref a0, .ref a1, .ref a2, .ref a3, .ref a4, .ref g0, .ref w0, .int 0, .int 0, .int 0, .int 0, .int 0, .int 0])), (g0, .inl (cA 9, 4, .inr (.inr (.inr (.inr (fun i => ([r0, r1, r2, r3] : List Nat)[i]?)))))), (w0, .inl (cA 0, 10, .inl fw)), (r0, .inl (cA 0, 10, .inl f0)), (r1, .inl (cA 0, 10, .inl f1)), (r2, .inl (cA 0, 10, .inl f2)), (r3, .inl (cA 0, 10, .inl f3))] H := hP
  have hD : va_D A [(h0, .inr (6, [.ref a0, .ref a1, .ref a2, .ref a3, .ref a4, .ref g0, .ref w0, .int 0, .int 0, .int 0, .int 0, .int 0, .int 0])), (g0, .inl (cA 9, 4, .inr (.inr (.inr (.inr (fun i => ([r0, r1, r2, r3] : List Nat)[i]?)))))), (w0, .inl (cA 0, 10, .inl fw)), (r0, .inl (cA 0, 10, .inl f0)), (r1, .inl (cA 0, 10, .inl f1)), (r2, .inl (cA 0, 10, .inl f2)), (r3, .inl (cA 0, 10, .inl f3))] := hD
  refine lv_aload_n hx hb dX5_freedByAll_4 rfl (lv_at hl 0 rfl) ?_
  refine va_get (D := D) (ci := 6) (v := .ref g0) (C := RX5) (T := TX5) (N := 13) hx hb hts (by decide +kernel) hown hX.1 hP 0 rfl rfl 5 (by decide) (hts (.fieldLink RX5 41 "DraftsmanOffice" "crewHas" "[[I") (by decide +kernel)) (fun _ h9 => h9) rfl dX5_freedByAll_5 ?_
  refine lv_iload_n hx hb dX5_freedByAll_8 rfl (lv_at hl 1 rfl) ?_
  obtain ⟨j323, hj323, ej323⟩ := crew_cases hwr322
  rcases (show j323 = 0 ∨ j323 = 1 ∨ j323 = 2 ∨ j323 = 3 by omega) with rfl | rfl | rfl | rfl
  · obtain rfl : x1 = 0 := ej323
    refine ll_aald (r := .ref r0) hx hb hX.1 hP 1 9 rfl rfl rfl (vp_in_nI (n := 0) (by decide) (by decide)) rfl dX5_freedByAll_9 ?_
    refine lv_iconst (v := 0) hx hb dX5_freedByAll_10 (by decide) ?_
    refine lv_aload_n hx hb dX5_freedByAll_11 rfl (lv_at hl 0 rfl) ?_
    refine va_get (D := D) (ci := 6) (v := .ref w0) (C := RX5) (T := TX5) (N := 13) hx hb hts (by decide +kernel) hown hX.1 hP 0 rfl rfl 6 (by decide) (hts (.fieldLink RX5 44 "DraftsmanOffice" "wouldHave" "[I") (by decide +kernel)) (fun _ h9 => h9) rfl dX5_freedByAll_12 ?_
    refine lv_iconst (v := 0) hx hb dX5_freedByAll_15 (by decide) ?_
    refine lv_bipush (v := 10) hx hb dX5_freedByAll_16 (by decide) ?_
    refine va_copyi hx hb (hml.trans hl.1.symm) hown (hts (.methodLink RX5 328 arraycopyName) (by decide +kernel)) (hts (.native arraycopyName) (by decide +kernel)) (hts (.static arraycopyName) (by decide +kernel)) (hts (.initialized "java/lang/System") (by decide +kernel)) hX.1 hP hD hS 3 2 0 0 rfl rfl rfl rfl rfl (by decide) (by decide) (by decide) (Nat.le_of_ble_eq_true rfl) (Nat.le_of_ble_eq_true rfl) (fun _ _ => rfl) (Nat.le_of_ble_eq_true rfl) (Nat.le_of_ble_eq_true rfl) dX5_freedByAll_18 (fun H locs hP hD hS => ?_)
    generalize va_cpy f0 fw (0 : Int32).toNatClampNeg (0 : Int32).toNatClampNeg (10 : Int32).toNatClampNeg = f324 at hP hD
    have hP : va_P D vwCl [(h0, .inr (6, [.ref a0, .ref a1, .ref a2, .ref a3, .ref a4, .ref g0, .ref w0, .int 0, .int 0, .int 0, .int 0, .int 0, .int 0])), (g0, .inl (cA 9, 4, .inr (.inr (.inr (.inr (fun i => ([r0, r1, r2, r3] : List Nat)[i]?)))))), (w0, .inl (cA 0, 10, .inl f324)), (r0, .inl (cA 0, 10, .inl f0)), (r1, .inl (cA 0, 10, .inl f1)), (r2, .inl (cA 0, 10, .inl f2)), (r3, .inl (cA 0, 10, .inl f3))] H := hP
    have hD : va_D A [(h0, .inr (6, [.ref a0, .ref a1, .ref a2, .ref a3, .ref a4, .ref g0, .ref w0, .int 0, .int 0, .int 0, .int 0, .int 0, .int 0])), (g0, .inl (cA 9, 4, .inr (.inr (.inr (.inr (fun i => ([r0, r1, r2, r3] : List Nat)[i]?)))))), (w0, .inl (cA 0, 10, .inl f324)), (r0, .inl (cA 0, 10, .inl f0)), (r1, .inl (cA 0, 10, .inl f1)), (r2, .inl (cA 0, 10, .inl f2)), (r3, .inl (cA 0, 10, .inl f3))] := hD
    refine lv_iconst (v := 0) hx hb dX5_freedByAll_21 (by decide) ?_
    refine lv_istore_n (lv' := [(2, .int 0), (0, .ref h0), (1, .int 0)]) hx hb dX5_freedByAll_22 rfl hl (by decide) rfl (fun ls hl => ?_)
    refine lv_iload_n hx hb dX5_freedByAll_23 rfl (lv_at hl 0 rfl) ?_
    refine lv_aload_n hx hb dX5_freedByAll_24 rfl (lv_at hl 1 rfl) ?_
    refine va_get (D := D) (ci := 6) (v := .int 0) (C := RX5) (T := TX5) (N := 13) hx hb hts (by decide +kernel) hown hX.1 hP 0 rfl rfl 9 (by decide) (hts (.fieldLink RX5 55 "DraftsmanOffice" "sendingCount" "I") (by decide +kernel)) (fun _ h9 => h9) rfl dX5_freedByAll_25 ?_
    refine lv_icmp_ge (tgt := 67) hx hb dX5_freedByAll_28 (by decide) (fun _ => ?_) (fun c325 => absurd (by decide) c325)
    refine lv_iconst (v := 0) hx hb dX5_freedByAll_67 (by decide) ?_
    refine lv_istore_n (lv' := [(2, .int 0), (0, .ref h0), (1, .int 0)]) hx hb dX5_freedByAll_68 rfl hl (by decide) rfl (fun ls hl => ?_)
    refine lv_iconst (v := 0) hx hb dX5_freedByAll_69 (by decide) ?_
    refine lv_istore_n (lv' := [(3, .int 0), (2, .int 0), (0, .ref h0), (1, .int 0)]) hx hb dX5_freedByAll_70 rfl hl (by decide) rfl (fun ls hl => ?_)
    refine lv_iload_n hx hb dX5_freedByAll_71 rfl (lv_at hl 0 rfl) ?_
    refine lv_aload_n hx hb dX5_freedByAll_72 rfl (lv_at hl 2 rfl) ?_
    refine va_get (D := D) (ci := 6) (v := .int 0) (C := RX5) (T := TX5) (N := 13) hx hb hts (by decide +kernel) hown hX.1 hP 0 rfl rfl 11 (by decide) (hts (.fieldLink RX5 61 "DraftsmanOffice" "packageCount" "I") (by decide +kernel)) (fun _ h9 => h9) rfl dX5_freedByAll_73 ?_
    refine lv_icmp_ge (tgt := 127) hx hb dX5_freedByAll_76 (by decide) (fun _ => ?_) (fun c326 => absurd (by decide) c326)
    refine lv_iload_n hx hb dX5_freedByAll_127 rfl (lv_at hl 1 rfl) ?_
    have hP9 := hP.sub (ws' := [(h0, .inr (6, [.ref a0, .ref a1, .ref a2, .ref a3, .ref a4, .ref g0, .ref w0, .int 0, .int 0, .int 0, .int 0, .int 0, .int 0])), (g0, .inl (cA 9, 4, .inr (.inr (.inr (.inr (fun i => ([r0, r1, r2, r3] : List Nat)[i]?)))))), (w0, .inl (cA 0, 10, .inl f324)), (r0, .inl (cA 0, 10, .inl f0)), (r1, .inl (cA 0, 10, .inl f1)), (r2, .inl (cA 0, 10, .inl f2)), (r3, .inl (cA 0, 10, .inl f3))]) [0, 1, 2, 3, 4, 5, 6] rfl
    have hD9 := hD.sub (ws' := [(h0, .inr (6, [.ref a0, .ref a1, .ref a2, .ref a3, .ref a4, .ref g0, .ref w0, .int 0, .int 0, .int 0, .int 0, .int 0, .int 0])), (g0, .inl (cA 9, 4, .inr (.inr (.inr (.inr (fun i => ([r0, r1, r2, r3] : List Nat)[i]?)))))), (w0, .inl (cA 0, 10, .inl f324)), (r0, .inl (cA 0, 10, .inl f0)), (r1, .inl (cA 0, 10, .inl f1)), (r2, .inl (cA 0, 10, .inl f2)), (r3, .inl (cA 0, 10, .inl f3))]) [0, 1, 2, 3, 4, 5, 6] (by decide) rfl
    refine W.widen (k := 1) (n := 6) (Nat.le_of_ble_eq_true rfl) (Nat.le_of_ble_eq_true rfl) ?_
    refine vx_ret ?_
    exact W.iret (v := 0) hx hb hr (fun t ht hW9 => ⟨⟨0, (), rfl, ⟨rfl, by decide, by decide⟩, ⟨f324, by show va_P _ _ _ t.heap; rw [ht]; exact hP9, hD9⟩⟩, hS.F ht⟩) hS.2.2 dX5_freedByAll_128
  · obtain rfl : x1 = 1 := ej323
    refine ll_aald (r := .ref r1) hx hb hX.1 hP 1 9 rfl rfl rfl (vp_in_nI (n := 1) (by decide) (by decide)) rfl dX5_freedByAll_9 ?_
    refine lv_iconst (v := 0) hx hb dX5_freedByAll_10 (by decide) ?_
    refine lv_aload_n hx hb dX5_freedByAll_11 rfl (lv_at hl 0 rfl) ?_
    refine va_get (D := D) (ci := 6) (v := .ref w0) (C := RX5) (T := TX5) (N := 13) hx hb hts (by decide +kernel) hown hX.1 hP 0 rfl rfl 6 (by decide) (hts (.fieldLink RX5 44 "DraftsmanOffice" "wouldHave" "[I") (by decide +kernel)) (fun _ h9 => h9) rfl dX5_freedByAll_12 ?_
    refine lv_iconst (v := 0) hx hb dX5_freedByAll_15 (by decide) ?_
    refine lv_bipush (v := 10) hx hb dX5_freedByAll_16 (by decide) ?_
    refine va_copyi hx hb (hml.trans hl.1.symm) hown (hts (.methodLink RX5 328 arraycopyName) (by decide +kernel)) (hts (.native arraycopyName) (by decide +kernel)) (hts (.static arraycopyName) (by decide +kernel)) (hts (.initialized "java/lang/System") (by decide +kernel)) hX.1 hP hD hS 4 2 0 0 rfl rfl rfl rfl rfl (by decide) (by decide) (by decide) (Nat.le_of_ble_eq_true rfl) (Nat.le_of_ble_eq_true rfl) (fun _ _ => rfl) (Nat.le_of_ble_eq_true rfl) (Nat.le_of_ble_eq_true rfl) dX5_freedByAll_18 (fun H locs hP hD hS => ?_)
    generalize va_cpy f1 fw (0 : Int32).toNatClampNeg (0 : Int32).toNatClampNeg (10 : Int32).toNatClampNeg = f327 at hP hD
    have hP : va_P D vwCl [(h0, .inr (6, [.ref a0, .ref a1, .ref a2, .ref a3, .ref a4, .ref g0, .ref w0, .int 0, .int 0, .int 0, .int 0, .int 0, .int 0])), (g0, .inl (cA 9, 4, .inr (.inr (.inr (.inr (fun i => ([r0, r1, r2, r3] : List Nat)[i]?)))))), (w0, .inl (cA 0, 10, .inl f327)), (r0, .inl (cA 0, 10, .inl f0)), (r1, .inl (cA 0, 10, .inl f1)), (r2, .inl (cA 0, 10, .inl f2)), (r3, .inl (cA 0, 10, .inl f3))] H := hP
    have hD : va_D A [(h0, .inr (6, [.ref a0, .ref a1, .ref a2, .ref a3, .ref a4, .ref g0, .ref w0, .int 0, .int 0, .int 0, .int 0, .int 0, .int 0])), (g0, .inl (cA 9, 4, .inr (.inr (.inr (.inr (fun i => ([r0, r1, r2, r3] : List Nat)[i]?)))))), (w0, .inl (cA 0, 10, .inl f327)), (r0, .inl (cA 0, 10, .inl f0)), (r1, .inl (cA 0, 10, .inl f1)), (r2, .inl (cA 0, 10, .inl f2)), (r3, .inl (cA 0, 10, .inl f3))] := hD
    refine lv_iconst (v := 0) hx hb dX5_freedByAll_21 (by decide) ?_
    refine lv_istore_n (lv' := [(2, .int 0), (0, .ref h0), (1, .int 1)]) hx hb dX5_freedByAll_22 rfl hl (by decide) rfl (fun ls hl => ?_)
    refine lv_iload_n hx hb dX5_freedByAll_23 rfl (lv_at hl 0 rfl) ?_
    refine lv_aload_n hx hb dX5_freedByAll_24 rfl (lv_at hl 1 rfl) ?_
    refine va_get (D := D) (ci := 6) (v := .int 0) (C := RX5) (T := TX5) (N := 13) hx hb hts (by decide +kernel) hown hX.1 hP 0 rfl rfl 9 (by decide) (hts (.fieldLink RX5 55 "DraftsmanOffice" "sendingCount" "I") (by decide +kernel)) (fun _ h9 => h9) rfl dX5_freedByAll_25 ?_
    refine lv_icmp_ge (tgt := 67) hx hb dX5_freedByAll_28 (by decide) (fun _ => ?_) (fun c328 => absurd (by decide) c328)
    refine lv_iconst (v := 0) hx hb dX5_freedByAll_67 (by decide) ?_
    refine lv_istore_n (lv' := [(2, .int 0), (0, .ref h0), (1, .int 1)]) hx hb dX5_freedByAll_68 rfl hl (by decide) rfl (fun ls hl => ?_)
    refine lv_iconst (v := 0) hx hb dX5_freedByAll_69 (by decide) ?_
    refine lv_istore_n (lv' := [(3, .int 0), (2, .int 0), (0, .ref h0), (1, .int 1)]) hx hb dX5_freedByAll_70 rfl hl (by decide) rfl (fun ls hl => ?_)
    refine lv_iload_n hx hb dX5_freedByAll_71 rfl (lv_at hl 0 rfl) ?_
    refine lv_aload_n hx hb dX5_freedByAll_72 rfl (lv_at hl 2 rfl) ?_
    refine va_get (D := D) (ci := 6) (v := .int 0) (C := RX5) (T := TX5) (N := 13) hx hb hts (by decide +kernel) hown hX.1 hP 0 rfl rfl 11 (by decide) (hts (.fieldLink RX5 61 "DraftsmanOffice" "packageCount" "I") (by decide +kernel)) (fun _ h9 => h9) rfl dX5_freedByAll_73 ?_
    refine lv_icmp_ge (tgt := 127) hx hb dX5_freedByAll_76 (by decide) (fun _ => ?_) (fun c329 => absurd (by decide) c329)
    refine lv_iload_n hx hb dX5_freedByAll_127 rfl (lv_at hl 1 rfl) ?_
    have hP9 := hP.sub (ws' := [(h0, .inr (6, [.ref a0, .ref a1, .ref a2, .ref a3, .ref a4, .ref g0, .ref w0, .int 0, .int 0, .int 0, .int 0, .int 0, .int 0])), (g0, .inl (cA 9, 4, .inr (.inr (.inr (.inr (fun i => ([r0, r1, r2, r3] : List Nat)[i]?)))))), (w0, .inl (cA 0, 10, .inl f327)), (r0, .inl (cA 0, 10, .inl f0)), (r1, .inl (cA 0, 10, .inl f1)), (r2, .inl (cA 0, 10, .inl f2)), (r3, .inl (cA 0, 10, .inl f3))]) [0, 1, 2, 3, 4, 5, 6] rfl
    have hD9 := hD.sub (ws' := [(h0, .inr (6, [.ref a0, .ref a1, .ref a2, .ref a3, .ref a4, .ref g0, .ref w0, .int 0, .int 0, .int 0, .int 0, .int 0, .int 0])), (g0, .inl (cA 9, 4, .inr (.inr (.inr (.inr (fun i => ([r0, r1, r2, r3] : List Nat)[i]?)))))), (w0, .inl (cA 0, 10, .inl f327)), (r0, .inl (cA 0, 10, .inl f0)), (r1, .inl (cA 0, 10, .inl f1)), (r2, .inl (cA 0, 10, .inl f2)), (r3, .inl (cA 0, 10, .inl f3))]) [0, 1, 2, 3, 4, 5, 6] (by decide) rfl
    refine W.widen (k := 1) (n := 6) (Nat.le_of_ble_eq_true rfl) (Nat.le_of_ble_eq_true rfl) ?_
    refine vx_ret ?_
    exact W.iret (v := 0) hx hb hr (fun t ht hW9 => ⟨⟨0, (), rfl, ⟨rfl, by decide, by decide⟩, ⟨f327, by show va_P _ _ _ t.heap; rw [ht]; exact hP9, hD9⟩⟩, hS.F ht⟩) hS.2.2 dX5_freedByAll_128
  · obtain rfl : x1 = 2 := ej323
    refine ll_aald (r := .ref r2) hx hb hX.1 hP 1 9 rfl rfl rfl (vp_in_nI (n := 2) (by decide) (by decide)) rfl dX5_freedByAll_9 ?_
    refine lv_iconst (v := 0) hx hb dX5_freedByAll_10 (by decide) ?_
    refine lv_aload_n hx hb dX5_freedByAll_11 rfl (lv_at hl 0 rfl) ?_
    refine va_get (D := D) (ci := 6) (v := .ref w0) (C := RX5) (T := TX5) (N := 13) hx hb hts (by decide +kernel) hown hX.1 hP 0 rfl rfl 6 (by decide) (hts (.fieldLink RX5 44 "DraftsmanOffice" "wouldHave" "[I") (by decide +kernel)) (fun _ h9 => h9) rfl dX5_freedByAll_12 ?_
    refine lv_iconst (v := 0) hx hb dX5_freedByAll_15 (by decide) ?_
    refine lv_bipush (v := 10) hx hb dX5_freedByAll_16 (by decide) ?_
    refine va_copyi hx hb (hml.trans hl.1.symm) hown (hts (.methodLink RX5 328 arraycopyName) (by decide +kernel)) (hts (.native arraycopyName) (by decide +kernel)) (hts (.static arraycopyName) (by decide +kernel)) (hts (.initialized "java/lang/System") (by decide +kernel)) hX.1 hP hD hS 5 2 0 0 rfl rfl rfl rfl rfl (by decide) (by decide) (by decide) (Nat.le_of_ble_eq_true rfl) (Nat.le_of_ble_eq_true rfl) (fun _ _ => rfl) (Nat.le_of_ble_eq_true rfl) (Nat.le_of_ble_eq_true rfl) dX5_freedByAll_18 (fun H locs hP hD hS => ?_)
    generalize va_cpy f2 fw (0 : Int32).toNatClampNeg (0 : Int32).toNatClampNeg (10 : Int32).toNatClampNeg = f330 at hP hD
    have hP : va_P D vwCl [(h0, .inr (6, [.ref a0, .ref a1, .ref a2, .ref a3, .ref a4, .ref g0, .ref w0, .int 0, .int 0, .int 0, .int 0, .int 0, .int 0])), (g0, .inl (cA 9, 4, .inr (.inr (.inr (.inr (fun i => ([r0, r1, r2, r3] : List Nat)[i]?)))))), (w0, .inl (cA 0, 10, .inl f330)), (r0, .inl (cA 0, 10, .inl f0)), (r1, .inl (cA 0, 10, .inl f1)), (r2, .inl (cA 0, 10, .inl f2)), (r3, .inl (cA 0, 10, .inl f3))] H := hP
    have hD : va_D A [(h0, .inr (6, [.ref a0, .ref a1, .ref a2, .ref a3, .ref a4, .ref g0, .ref w0, .int 0, .int 0, .int 0, .int 0, .int 0, .int 0])), (g0, .inl (cA 9, 4, .inr (.inr (.inr (.inr (fun i => ([r0, r1, r2, r3] : List Nat)[i]?)))))), (w0, .inl (cA 0, 10, .inl f330)), (r0, .inl (cA 0, 10, .inl f0)), (r1, .inl (cA 0, 10, .inl f1)), (r2, .inl (cA 0, 10, .inl f2)), (r3, .inl (cA 0, 10, .inl f3))] := hD
    refine lv_iconst (v := 0) hx hb dX5_freedByAll_21 (by decide) ?_
    refine lv_istore_n (lv' := [(2, .int 0), (0, .ref h0), (1, .int 2)]) hx hb dX5_freedByAll_22 rfl hl (by decide) rfl (fun ls hl => ?_)
    refine lv_iload_n hx hb dX5_freedByAll_23 rfl (lv_at hl 0 rfl) ?_
    refine lv_aload_n hx hb dX5_freedByAll_24 rfl (lv_at hl 1 rfl) ?_
    refine va_get (D := D) (ci := 6) (v := .int 0) (C := RX5) (T := TX5) (N := 13) hx hb hts (by decide +kernel) hown hX.1 hP 0 rfl rfl 9 (by decide) (hts (.fieldLink RX5 55 "DraftsmanOffice" "sendingCount" "I") (by decide +kernel)) (fun _ h9 => h9) rfl dX5_freedByAll_25 ?_
    refine lv_icmp_ge (tgt := 67) hx hb dX5_freedByAll_28 (by decide) (fun _ => ?_) (fun c331 => absurd (by decide) c331)
    refine lv_iconst (v := 0) hx hb dX5_freedByAll_67 (by decide) ?_
    refine lv_istore_n (lv' := [(2, .int 0), (0, .ref h0), (1, .int 2)]) hx hb dX5_freedByAll_68 rfl hl (by decide) rfl (fun ls hl => ?_)
    refine lv_iconst (v := 0) hx hb dX5_freedByAll_69 (by decide) ?_
    refine lv_istore_n (lv' := [(3, .int 0), (2, .int 0), (0, .ref h0), (1, .int 2)]) hx hb dX5_freedByAll_70 rfl hl (by decide) rfl (fun ls hl => ?_)
    refine lv_iload_n hx hb dX5_freedByAll_71 rfl (lv_at hl 0 rfl) ?_
    refine lv_aload_n hx hb dX5_freedByAll_72 rfl (lv_at hl 2 rfl) ?_
    refine va_get (D := D) (ci := 6) (v := .int 0) (C := RX5) (T := TX5) (N := 13) hx hb hts (by decide +kernel) hown hX.1 hP 0 rfl rfl 11 (by decide) (hts (.fieldLink RX5 61 "DraftsmanOffice" "packageCount" "I") (by decide +kernel)) (fun _ h9 => h9) rfl dX5_freedByAll_73 ?_
    refine lv_icmp_ge (tgt := 127) hx hb dX5_freedByAll_76 (by decide) (fun _ => ?_) (fun c332 => absurd (by decide) c332)
    refine lv_iload_n hx hb dX5_freedByAll_127 rfl (lv_at hl 1 rfl) ?_
    have hP9 := hP.sub (ws' := [(h0, .inr (6, [.ref a0, .ref a1, .ref a2, .ref a3, .ref a4, .ref g0, .ref w0, .int 0, .int 0, .int 0, .int 0, .int 0, .int 0])), (g0, .inl (cA 9, 4, .inr (.inr (.inr (.inr (fun i => ([r0, r1, r2, r3] : List Nat)[i]?)))))), (w0, .inl (cA 0, 10, .inl f330)), (r0, .inl (cA 0, 10, .inl f0)), (r1, .inl (cA 0, 10, .inl f1)), (r2, .inl (cA 0, 10, .inl f2)), (r3, .inl (cA 0, 10, .inl f3))]) [0, 1, 2, 3, 4, 5, 6] rfl
    have hD9 := hD.sub (ws' := [(h0, .inr (6, [.ref a0, .ref a1, .ref a2, .ref a3, .ref a4, .ref g0, .ref w0, .int 0, .int 0, .int 0, .int 0, .int 0, .int 0])), (g0, .inl (cA 9, 4, .inr (.inr (.inr (.inr (fun i => ([r0, r1, r2, r3] : List Nat)[i]?)))))), (w0, .inl (cA 0, 10, .inl f330)), (r0, .inl (cA 0, 10, .inl f0)), (r1, .inl (cA 0, 10, .inl f1)), (r2, .inl (cA 0, 10, .inl f2)), (r3, .inl (cA 0, 10, .inl f3))]) [0, 1, 2, 3, 4, 5, 6] (by decide) rfl
    refine W.widen (k := 1) (n := 6) (Nat.le_of_ble_eq_true rfl) (Nat.le_of_ble_eq_true rfl) ?_
    refine vx_ret ?_
    exact W.iret (v := 0) hx hb hr (fun t ht hW9 => ⟨⟨0, (), rfl, ⟨rfl, by decide, by decide⟩, ⟨f330, by show va_P _ _ _ t.heap; rw [ht]; exact hP9, hD9⟩⟩, hS.F ht⟩) hS.2.2 dX5_freedByAll_128
  · obtain rfl : x1 = 3 := ej323
    refine ll_aald (r := .ref r3) hx hb hX.1 hP 1 9 rfl rfl rfl (vp_in_nI (n := 3) (by decide) (by decide)) rfl dX5_freedByAll_9 ?_
    refine lv_iconst (v := 0) hx hb dX5_freedByAll_10 (by decide) ?_
    refine lv_aload_n hx hb dX5_freedByAll_11 rfl (lv_at hl 0 rfl) ?_
    refine va_get (D := D) (ci := 6) (v := .ref w0) (C := RX5) (T := TX5) (N := 13) hx hb hts (by decide +kernel) hown hX.1 hP 0 rfl rfl 6 (by decide) (hts (.fieldLink RX5 44 "DraftsmanOffice" "wouldHave" "[I") (by decide +kernel)) (fun _ h9 => h9) rfl dX5_freedByAll_12 ?_
    refine lv_iconst (v := 0) hx hb dX5_freedByAll_15 (by decide) ?_
    refine lv_bipush (v := 10) hx hb dX5_freedByAll_16 (by decide) ?_
    refine va_copyi hx hb (hml.trans hl.1.symm) hown (hts (.methodLink RX5 328 arraycopyName) (by decide +kernel)) (hts (.native arraycopyName) (by decide +kernel)) (hts (.static arraycopyName) (by decide +kernel)) (hts (.initialized "java/lang/System") (by decide +kernel)) hX.1 hP hD hS 6 2 0 0 rfl rfl rfl rfl rfl (by decide) (by decide) (by decide) (Nat.le_of_ble_eq_true rfl) (Nat.le_of_ble_eq_true rfl) (fun _ _ => rfl) (Nat.le_of_ble_eq_true rfl) (Nat.le_of_ble_eq_true rfl) dX5_freedByAll_18 (fun H locs hP hD hS => ?_)
    generalize va_cpy f3 fw (0 : Int32).toNatClampNeg (0 : Int32).toNatClampNeg (10 : Int32).toNatClampNeg = f333 at hP hD
    have hP : va_P D vwCl [(h0, .inr (6, [.ref a0, .ref a1, .ref a2, .ref a3, .ref a4, .ref g0, .ref w0, .int 0, .int 0, .int 0, .int 0, .int 0, .int 0])), (g0, .inl (cA 9, 4, .inr (.inr (.inr (.inr (fun i => ([r0, r1, r2, r3] : List Nat)[i]?)))))), (w0, .inl (cA 0, 10, .inl f333)), (r0, .inl (cA 0, 10, .inl f0)), (r1, .inl (cA 0, 10, .inl f1)), (r2, .inl (cA 0, 10, .inl f2)), (r3, .inl (cA 0, 10, .inl f3))] H := hP
    have hD : va_D A [(h0, .inr (6, [.ref a0, .ref a1, .ref a2, .ref a3, .ref a4, .ref g0, .ref w0, .int 0, .int 0, .int 0, .int 0, .int 0, .int 0])), (g0, .inl (cA 9, 4, .inr (.inr (.inr (.inr (fun i => ([r0, r1, r2, r3] : List Nat)[i]?)))))), (w0, .inl (cA 0, 10, .inl f333)), (r0, .inl (cA 0, 10, .inl f0)), (r1, .inl (cA 0, 10, .inl f1)), (r2, .inl (cA 0, 10, .inl f2)), (r3, .inl (cA 0, 10, .inl f3))] := hD
    refine lv_iconst (v := 0) hx hb dX5_freedByAll_21 (by decide) ?_
    refine lv_istore_n (lv' := [(2, .int 0), (0, .ref h0), (1, .int 3)]) hx hb dX5_freedByAll_22 rfl hl (by decide) rfl (fun ls hl => ?_)
    refine lv_iload_n hx hb dX5_freedByAll_23 rfl (lv_at hl 0 rfl) ?_
    refine lv_aload_n hx hb dX5_freedByAll_24 rfl (lv_at hl 1 rfl) ?_
    refine va_get (D := D) (ci := 6) (v := .int 0) (C := RX5) (T := TX5) (N := 13) hx hb hts (by decide +kernel) hown hX.1 hP 0 rfl rfl 9 (by decide) (hts (.fieldLink RX5 55 "DraftsmanOffice" "sendingCount" "I") (by decide +kernel)) (fun _ h9 => h9) rfl dX5_freedByAll_25 ?_
    refine lv_icmp_ge (tgt := 67) hx hb dX5_freedByAll_28 (by decide) (fun _ => ?_) (fun c334 => absurd (by decide) c334)
    refine lv_iconst (v := 0) hx hb dX5_freedByAll_67 (by decide) ?_
    refine lv_istore_n (lv' := [(2, .int 0), (0, .ref h0), (1, .int 3)]) hx hb dX5_freedByAll_68 rfl hl (by decide) rfl (fun ls hl => ?_)
    refine lv_iconst (v := 0) hx hb dX5_freedByAll_69 (by decide) ?_
    refine lv_istore_n (lv' := [(3, .int 0), (2, .int 0), (0, .ref h0), (1, .int 3)]) hx hb dX5_freedByAll_70 rfl hl (by decide) rfl (fun ls hl => ?_)
    refine lv_iload_n hx hb dX5_freedByAll_71 rfl (lv_at hl 0 rfl) ?_
    refine lv_aload_n hx hb dX5_freedByAll_72 rfl (lv_at hl 2 rfl) ?_
    refine va_get (D := D) (ci := 6) (v := .int 0) (C := RX5) (T := TX5) (N := 13) hx hb hts (by decide +kernel) hown hX.1 hP 0 rfl rfl 11 (by decide) (hts (.fieldLink RX5 61 "DraftsmanOffice" "packageCount" "I") (by decide +kernel)) (fun _ h9 => h9) rfl dX5_freedByAll_73 ?_
    refine lv_icmp_ge (tgt := 127) hx hb dX5_freedByAll_76 (by decide) (fun _ => ?_) (fun c335 => absurd (by decide) c335)
    refine lv_iload_n hx hb dX5_freedByAll_127 rfl (lv_at hl 1 rfl) ?_
    have hP9 := hP.sub (ws' := [(h0, .inr (6, [.ref a0, .ref a1, .ref a2, .ref a3, .ref a4, .ref g0, .ref w0, .int 0, .int 0, .int 0, .int 0, .int 0, .int 0])), (g0, .inl (cA 9, 4, .inr (.inr (.inr (.inr (fun i => ([r0, r1, r2, r3] : List Nat)[i]?)))))), (w0, .inl (cA 0, 10, .inl f333)), (r0, .inl (cA 0, 10, .inl f0)), (r1, .inl (cA 0, 10, .inl f1)), (r2, .inl (cA 0, 10, .inl f2)), (r3, .inl (cA 0, 10, .inl f3))]) [0, 1, 2, 3, 4, 5, 6] rfl
    have hD9 := hD.sub (ws' := [(h0, .inr (6, [.ref a0, .ref a1, .ref a2, .ref a3, .ref a4, .ref g0, .ref w0, .int 0, .int 0, .int 0, .int 0, .int 0, .int 0])), (g0, .inl (cA 9, 4, .inr (.inr (.inr (.inr (fun i => ([r0, r1, r2, r3] : List Nat)[i]?)))))), (w0, .inl (cA 0, 10, .inl f333)), (r0, .inl (cA 0, 10, .inl f0)), (r1, .inl (cA 0, 10, .inl f1)), (r2, .inl (cA 0, 10, .inl f2)), (r3, .inl (cA 0, 10, .inl f3))]) [0, 1, 2, 3, 4, 5, 6] (by decide) rfl
    refine W.widen (k := 1) (n := 6) (Nat.le_of_ble_eq_true rfl) (Nat.le_of_ble_eq_true rfl) ?_
    refine vx_ret ?_
    exact W.iret (v := 0) hx hb hr (fun t ht hW9 => ⟨⟨0, (), rfl, ⟨rfl, by decide, by decide⟩, ⟨f333, by show va_P _ _ _ t.heap; rw [ht]; exact hP9, hD9⟩⟩, hS.F ht⟩) hS.2.2 dX5_freedByAll_128

set_option maxHeartbeats 4000000 in
set_option maxRecDepth 100000 in
theorem l_X5_digest (l : Launch) (D : va_G) (cA : Nat → ClassId) (A : Nat → Prop) (h0 a0 a1 a2 a3 a4 g0 w0 : Nat) (r0 r1 r2 r3 : Nat) (fw f0 f1 f2 f3 : Nat → Int32) (hl0 : l.stackTraces = false) (z : Nat) : Met l yX5_digest wsX5_digest ({ frames := 8, cells := 21, slots := 126, locals := 134 }) (pcPreT D vwCl (tyL cA) z [.ref h0] (fun H => va_P D vwCl [(h0, .inr (6, [.ref a0, .ref a1, .ref a2, .ref a3, .ref a4, .ref g0, .ref w0, .int 0, .int 0, .int 0, .int 0, .int 0, .int 0])), (g0, .inl (cA 9, 4, .inr (.inr (.inr (.inr (fun i => ([r0, r1, r2, r3] : List Nat)[i]?)))))), (w0, .inl (cA 0, 10, .inl fw)), (r0, .inl (cA 0, 10, .inl f0)), (r1, .inl (cA 0, 10, .inl f1)), (r2, .inl (cA 0, 10, .inl f2)), (r3, .inl (cA 0, 10, .inl f3))] H ∧ va_D A [(h0, .inr (6, [.ref a0, .ref a1, .ref a2, .ref a3, .ref a4, .ref g0, .ref w0, .int 0, .int 0, .int 0, .int 0, .int 0, .int 0])), (g0, .inl (cA 9, 4, .inr (.inr (.inr (.inr (fun i => ([r0, r1, r2, r3] : List Nat)[i]?)))))), (w0, .inl (cA 0, 10, .inl fw)), (r0, .inl (cA 0, 10, .inl f0)), (r1, .inl (cA 0, 10, .inl f1)), (r2, .inl (cA 0, 10, .inl f2)), (r3, .inl (cA 0, 10, .inl f3))] ∧ (∀ q, H.size ≤ q → A q) ∧ (∀ q, A q → z ≤ q))) (va_Ql (fun (r : Int64) (u : Unit) => r = -5720720057053587483) (fun (u : Unit) t => True) A) 21 126 A := by
  refine Met.ofW (cc := cX5_digest) (maxL := 5) (ret := (some .long)) (by decide) rfl ?_
  intro p e s m args below meth c s₁ B hml hv
  obtain ⟨rfl, hX, hT, ⟨hZ, hz⟩, hP, hD, hA, hAz⟩ := hv
  have hx := B.exec
  have hb := B.bytes
  have hr := B.returns
  have hts := atoms_spec (ws := wsX5_digest) B.pre
  have hown : s.vm.findClass RX5 = some m.cls := findClass_of_methodNamed B.named
  have hlocks := B.notSynchronized
  have hS : va_S A s.heap s.heap [] := va_S.rf
  have hl := lv_entry ([.ref h0]) (n := 5) (Nat.le_of_ble_eq_true rfl)
  rw [lg_entry_eq]
  generalize (lg_sl ([.ref h0]) ++ List.replicate (5 - (lg_sl ([.ref h0])).length) Slot.unset).toArray = ls at hl ⊢
  have hl : lv_has ls 5 [(0, .ref h0)] := hl
  refine lv_ldc2 (v := 58107) hx hb hown (hts (.constantLong RX5 334 58107) (by decide +kernel)) dX5_digest_0 ?_
  refine lv_lstore_n (lv' := [(1, .long 58107), (0, .ref h0)]) hx hb dX5_digest_3 rfl hl (by decide) rfl (fun ls hl => ?_)
  refine lv_iconst (v := 0) hx hb dX5_digest_4 (by decide) ?_
  refine lv_istore_n (lv' := [(3, .int 0), (1, .long 58107), (0, .ref h0)]) hx hb dX5_digest_5 rfl hl (by decide) rfl (fun ls hl => ?_)
  refine lv_iload_n hx hb dX5_digest_6 rfl (lv_at hl 0 rfl) ?_
  refine lv_bipush (v := 12) hx hb dX5_digest_7 (by decide) ?_
  refine lv_icmp_gt (tgt := 31) hx hb dX5_digest_9 (by decide) (fun c336 => absurd c336 (by decide)) (fun _ => ?_)
  refine lv_lload_n hx hb dX5_digest_12 rfl (lv_at hl 1 rfl) ?_
  refine lv_ldc2 (v := 31) hx hb hown (hts (.constantLong RX5 336 31) (by decide +kernel)) dX5_digest_13 ?_
  refine lv_lmul hx hb dX5_digest_16 ?_
  refine lv_topl (fun a337 ea337 => ?_)
  obtain rfl : a337 = 1801317 := ea337.trans (by decide)
  refine lv_aload_n hx hb dX5_digest_17 rfl (lv_at hl 2 rfl) ?_
  refine lv_iload_n hx hb dX5_digest_18 rfl (lv_at hl 0 rfl) ?_
  refine vx_calli (vx_runV (As := [.int 0]) (rest := [.long 1801317]) ⟨hx, hb, hml, hown, hts⟩ (t_X5_many l hl0 D cA z [(5, 0)] (fun k _ => if k = 5 then h0 else if k = 50 then a0 else if k = 51 then a1 else if k = 52 then a2 else if k = 53 then a3 else if k = 54 then a4 else if k = 55 then g0 else if k = 56 then w0 else 0) (fun _ _ => .inr (6, [.ref a0, .ref a1, .ref a2, .ref a3, .ref a4, .ref g0, .ref w0, .int 0, .int 0, .int 0, .int 0, .int 0, .int 0])) 0 List.mem_cons_self rfl) (cwV 1 hts gX5_digest_X5_many rfl rfl rfl (by decide +kernel) ⟨Nat.le_of_ble_eq_true rfl, Nat.le_of_ble_eq_true rfl⟩) (pcT_preVL hX hT (pcZ_kept hZ hAz hS) (Nat.le_trans hz hS.1) (va_recv hX.1 hP (ci := 6) (q0 := 0) rfl rfl) (hP.sub (ws' := [(h0, .inr (6, [.ref a0, .ref a1, .ref a2, .ref a3, .ref a4, .ref g0, .ref w0, .int 0, .int 0, .int 0, .int 0, .int 0, .int 0]))]) [0] rfl)) rfl rfl hl.1 rfl (lv_room (Nat.le_of_ble_eq_true rfl)) dX5_digest_19 ⟨Nat.le_of_ble_eq_true rfl, Nat.le_of_ble_eq_true rfl⟩) hS (fun _ _ h => h.elim) (fun _ h => h.elim) (fun _ _ h => h.elim) (fun E ce q9 _ t H1 locs1 ht hvm hpx hE _ hk9 hS9 hq9 hce hcl => ?_) (fun r338 _ t H locs ht hvm hwr338 _ _ hk9 hS => ?_)
  · exact absurd hE.2 (by decide)
  have hP := hP.kept (H1 := H) (fun k q hk => hk9 q.1 ((hP k q hk).lt) id)
  refine W.widen (k := 1) (n := 6) (Nat.le_of_ble_eq_true rfl) (Nat.le_of_ble_eq_true rfl) ?_
  have hP : va_P D vwCl [(h0, .inr (6, [.ref a0, .ref a1, .ref a2, .ref a3, .ref a4, .ref g0, .ref w0, .int 0, .int 0, .int 0, .int 0, .int 0, .int 0])), (g0, .inl (cA 9, 4, .inr (.inr (.inr (.inr (fun i => ([r0, r1, r2, r3] : List Nat)[i]?)))))), (w0, .inl (cA 0, 10, .inl fw)), (r0, .inl (cA 0, 10, .inl f0)), (r1, .inl (cA 0, 10, .inl f1)), (r2, .inl (cA 0, 10, .inl f2)), (r3, .inl (cA 0, 10, .inl f3))] H := hP
  have hD : va_D A [(h0, .inr (6, [.ref a0, .ref a1, .ref a2, .ref a3, .ref a4, .ref g0, .ref w0, .int 0, .int 0, .int 0, .int 0, .int 0, .int 0])), (g0, .inl (cA 9, 4, .inr (.inr (.inr (.inr (fun i => ([r0, r1, r2, r3] : List Nat)[i]?)))))), (w0, .inl (cA 0, 10, .inl fw)), (r0, .inl (cA 0, 10, .inl f0)), (r1, .inl (cA 0, 10, .inl f1)), (r2, .inl (cA 0, 10, .inl f2)), (r3, .inl (cA 0, 10, .inl f3))] := hD
  obtain ⟨rfl, _⟩ := hwr338
  refine lv_i2l (v := 0) hx hb dX5_digest_22 (by decide) ?_
  refine lv_ladd hx hb dX5_digest_23 ?_
  refine lv_topl (fun a339 ea339 => ?_)
  obtain rfl : a339 = 1801317 := ea339.trans (by decide)
  refine lv_lstore_n (lv' := [(1, .long 1801317), (3, .int 0), (0, .ref h0)]) hx hb dX5_digest_24 rfl hl (by decide) rfl (fun ls hl => ?_)
  refine lv_iinc (v := 1) (lv' := [(3, .int 1), (1, .long 1801317), (0, .ref h0)]) hx hb dX5_digest_25 hl (k := 1) rfl (by decide) (by decide) rfl (fun ls hl => ?_)
  refine lv_goto (tgt := 6) hx hb dX5_digest_28 (by decide) ?_
  refine lv_iload_n hx hb dX5_digest_6 rfl (lv_at hl 0 rfl) ?_
  refine lv_bipush (v := 12) hx hb dX5_digest_7 (by decide) ?_
  refine lv_icmp_gt (tgt := 31) hx hb dX5_digest_9 (by decide) (fun c340 => absurd c340 (by decide)) (fun _ => ?_)
  refine lv_lload_n hx hb dX5_digest_12 rfl (lv_at hl 1 rfl) ?_
  refine lv_ldc2 (v := 31) hx hb hown (hts (.constantLong RX5 336 31) (by decide +kernel)) dX5_digest_13 ?_
  refine lv_lmul hx hb dX5_digest_16 ?_
  refine lv_topl (fun a341 ea341 => ?_)
  obtain rfl : a341 = 55840827 := ea341.trans (by decide)
  refine lv_aload_n hx hb dX5_digest_17 rfl (lv_at hl 2 rfl) ?_
  refine lv_iload_n hx hb dX5_digest_18 rfl (lv_at hl 0 rfl) ?_
  refine vx_calli (vx_runV (As := [.int 1]) (rest := [.long 55840827]) ⟨hx, hb, hml, hown, hts⟩ (t_X5_many l hl0 D cA z [(5, 0)] (fun k _ => if k = 5 then h0 else if k = 50 then a0 else if k = 51 then a1 else if k = 52 then a2 else if k = 53 then a3 else if k = 54 then a4 else if k = 55 then g0 else if k = 56 then w0 else 0) (fun _ _ => .inr (6, [.ref a0, .ref a1, .ref a2, .ref a3, .ref a4, .ref g0, .ref w0, .int 0, .int 0, .int 0, .int 0, .int 0, .int 0])) 1 List.mem_cons_self rfl) (cwV 1 hts gX5_digest_X5_many rfl rfl rfl (by decide +kernel) ⟨Nat.le_of_ble_eq_true rfl, Nat.le_of_ble_eq_true rfl⟩) (pcT_preVL hX hT (pcZ_kept hZ hAz hS) (Nat.le_trans hz hS.1) (va_recv hX.1 hP (ci := 6) (q0 := 0) rfl rfl) (hP.sub (ws' := [(h0, .inr (6, [.ref a0, .ref a1, .ref a2, .ref a3, .ref a4, .ref g0, .ref w0, .int 0, .int 0, .int 0, .int 0, .int 0, .int 0]))]) [0] rfl)) rfl rfl hl.1 rfl (lv_room (Nat.le_of_ble_eq_true rfl)) dX5_digest_19 ⟨Nat.le_of_ble_eq_true rfl, Nat.le_of_ble_eq_true rfl⟩) hS (fun _ _ h => h.elim) (fun _ h => h.elim) (fun _ _ h => h.elim) (fun E ce q9 _ t H1 locs1 ht hvm hpx hE _ hk9 hS9 hq9 hce hcl => ?_) (fun r342 _ t H locs ht hvm hwr342 _ _ hk9 hS => ?_)
  · exact absurd hE.2 (by decide)
  have hP := hP.kept (H1 := H) (fun k q hk => hk9 q.1 ((hP k q hk).lt) id)
  refine W.widen (k := 2) (n := 12) (Nat.le_of_ble_eq_true rfl) (Nat.le_of_ble_eq_true rfl) ?_
  have hP : va_P D vwCl [(h0, .inr (6, [.ref a0, .ref a1, .ref a2, .ref a3, .ref a4, .ref g0, .ref w0, .int 0, .int 0, .int 0, .int 0, .int 0, .int 0])), (g0, .inl (cA 9, 4, .inr (.inr (.inr (.inr (fun i => ([r0, r1, r2, r3] : List Nat)[i]?)))))), (w0, .inl (cA 0, 10, .inl fw)), (r0, .inl (cA 0, 10, .inl f0)), (r1, .inl (cA 0, 10, .inl f1)), (r2, .inl (cA 0, 10, .inl f2)), (r3, .inl (cA 0, 10, .inl f3))] H := hP
  have hD : va_D A [(h0, .inr (6, [.ref a0, .ref a1, .ref a2, .ref a3, .ref a4, .ref g0, .ref w0, .int 0, .int 0, .int 0, .int 0, .int 0, .int 0])), (g0, .inl (cA 9, 4, .inr (.inr (.inr (.inr (fun i => ([r0, r1, r2, r3] : List Nat)[i]?)))))), (w0, .inl (cA 0, 10, .inl fw)), (r0, .inl (cA 0, 10, .inl f0)), (r1, .inl (cA 0, 10, .inl f1)), (r2, .inl (cA 0, 10, .inl f2)), (r3, .inl (cA 0, 10, .inl f3))] := hD
  obtain ⟨rfl, _⟩ := hwr342
  refine lv_i2l (v := 0) hx hb dX5_digest_22 (by decide) ?_
  refine lv_ladd hx hb dX5_digest_23 ?_
  refine lv_topl (fun a343 ea343 => ?_)
  obtain rfl : a343 = 55840827 := ea343.trans (by decide)
  refine lv_lstore_n (lv' := [(1, .long 55840827), (3, .int 1), (0, .ref h0)]) hx hb dX5_digest_24 rfl hl (by decide) rfl (fun ls hl => ?_)
  refine lv_iinc (v := 2) (lv' := [(3, .int 2), (1, .long 55840827), (0, .ref h0)]) hx hb dX5_digest_25 hl (k := 1) rfl (by decide) (by decide) rfl (fun ls hl => ?_)
  refine lv_goto (tgt := 6) hx hb dX5_digest_28 (by decide) ?_
  refine lv_iload_n hx hb dX5_digest_6 rfl (lv_at hl 0 rfl) ?_
  refine lv_bipush (v := 12) hx hb dX5_digest_7 (by decide) ?_
  refine lv_icmp_gt (tgt := 31) hx hb dX5_digest_9 (by decide) (fun c344 => absurd c344 (by decide)) (fun _ => ?_)
  refine lv_lload_n hx hb dX5_digest_12 rfl (lv_at hl 1 rfl) ?_
  refine lv_ldc2 (v := 31) hx hb hown (hts (.constantLong RX5 336 31) (by decide +kernel)) dX5_digest_13 ?_
  refine lv_lmul hx hb dX5_digest_16 ?_
  refine lv_topl (fun a345 ea345 => ?_)
  obtain rfl : a345 = 1731065637 := ea345.trans (by decide)
  refine lv_aload_n hx hb dX5_digest_17 rfl (lv_at hl 2 rfl) ?_
  refine lv_iload_n hx hb dX5_digest_18 rfl (lv_at hl 0 rfl) ?_
  refine vx_calli (vx_runV (As := [.int 2]) (rest := [.long 1731065637]) ⟨hx, hb, hml, hown, hts⟩ (t_X5_many l hl0 D cA z [(5, 0)] (fun k _ => if k = 5 then h0 else if k = 50 then a0 else if k = 51 then a1 else if k = 52 then a2 else if k = 53 then a3 else if k = 54 then a4 else if k = 55 then g0 else if k = 56 then w0 else 0) (fun _ _ => .inr (6, [.ref a0, .ref a1, .ref a2, .ref a3, .ref a4, .ref g0, .ref w0, .int 0, .int 0, .int 0, .int 0, .int 0, .int 0])) 2 List.mem_cons_self rfl) (cwV 1 hts gX5_digest_X5_many rfl rfl rfl (by decide +kernel) ⟨Nat.le_of_ble_eq_true rfl, Nat.le_of_ble_eq_true rfl⟩) (pcT_preVL hX hT (pcZ_kept hZ hAz hS) (Nat.le_trans hz hS.1) (va_recv hX.1 hP (ci := 6) (q0 := 0) rfl rfl) (hP.sub (ws' := [(h0, .inr (6, [.ref a0, .ref a1, .ref a2, .ref a3, .ref a4, .ref g0, .ref w0, .int 0, .int 0, .int 0, .int 0, .int 0, .int 0]))]) [0] rfl)) rfl rfl hl.1 rfl (lv_room (Nat.le_of_ble_eq_true rfl)) dX5_digest_19 ⟨Nat.le_of_ble_eq_true rfl, Nat.le_of_ble_eq_true rfl⟩) hS (fun _ _ h => h.elim) (fun _ h => h.elim) (fun _ _ h => h.elim) (fun E ce q9 _ t H1 locs1 ht hvm hpx hE _ hk9 hS9 hq9 hce hcl => ?_) (fun r346 _ t H locs ht hvm hwr346 _ _ hk9 hS => ?_)
  · exact absurd hE.2 (by decide)
  have hP := hP.kept (H1 := H) (fun k q hk => hk9 q.1 ((hP k q hk).lt) id)
  refine W.widen (k := 3) (n := 18) (Nat.le_of_ble_eq_true rfl) (Nat.le_of_ble_eq_true rfl) ?_
  have hP : va_P D vwCl [(h0, .inr (6, [.ref a0, .ref a1, .ref a2, .ref a3, .ref a4, .ref g0, .ref w0, .int 0, .int 0, .int 0, .int 0, .int 0, .int 0])), (g0, .inl (cA 9, 4, .inr (.inr (.inr (.inr (fun i => ([r0, r1, r2, r3] : List Nat)[i]?)))))), (w0, .inl (cA 0, 10, .inl fw)), (r0, .inl (cA 0, 10, .inl f0)), (r1, .inl (cA 0, 10, .inl f1)), (r2, .inl (cA 0, 10, .inl f2)), (r3, .inl (cA 0, 10, .inl f3))] H := hP
  have hD : va_D A [(h0, .inr (6, [.ref a0, .ref a1, .ref a2, .ref a3, .ref a4, .ref g0, .ref w0, .int 0, .int 0, .int 0, .int 0, .int 0, .int 0])), (g0, .inl (cA 9, 4, .inr (.inr (.inr (.inr (fun i => ([r0, r1, r2, r3] : List Nat)[i]?)))))), (w0, .inl (cA 0, 10, .inl fw)), (r0, .inl (cA 0, 10, .inl f0)), (r1, .inl (cA 0, 10, .inl f1)), (r2, .inl (cA 0, 10, .inl f2)), (r3, .inl (cA 0, 10, .inl f3))] := hD
  obtain ⟨rfl, _⟩ := hwr346
  refine lv_i2l (v := 0) hx hb dX5_digest_22 (by decide) ?_
  refine lv_ladd hx hb dX5_digest_23 ?_
  refine lv_topl (fun a347 ea347 => ?_)
  obtain rfl : a347 = 1731065637 := ea347.trans (by decide)
  refine lv_lstore_n (lv' := [(1, .long 1731065637), (3, .int 2), (0, .ref h0)]) hx hb dX5_digest_24 rfl hl (by decide) rfl (fun ls hl => ?_)
  refine lv_iinc (v := 3) (lv' := [(3, .int 3), (1, .long 1731065637), (0, .ref h0)]) hx hb dX5_digest_25 hl (k := 1) rfl (by decide) (by decide) rfl (fun ls hl => ?_)
  refine lv_goto (tgt := 6) hx hb dX5_digest_28 (by decide) ?_
  refine lv_iload_n hx hb dX5_digest_6 rfl (lv_at hl 0 rfl) ?_
  refine lv_bipush (v := 12) hx hb dX5_digest_7 (by decide) ?_
  refine lv_icmp_gt (tgt := 31) hx hb dX5_digest_9 (by decide) (fun c348 => absurd c348 (by decide)) (fun _ => ?_)
  refine lv_lload_n hx hb dX5_digest_12 rfl (lv_at hl 1 rfl) ?_
  refine lv_ldc2 (v := 31) hx hb hown (hts (.constantLong RX5 336 31) (by decide +kernel)) dX5_digest_13 ?_
  refine lv_lmul hx hb dX5_digest_16 ?_
  refine lv_topl (fun a349 ea349 => ?_)
  obtain rfl : a349 = 53663034747 := ea349.trans (by decide)
  refine lv_aload_n hx hb dX5_digest_17 rfl (lv_at hl 2 rfl) ?_
  refine lv_iload_n hx hb dX5_digest_18 rfl (lv_at hl 0 rfl) ?_
  refine vx_calli (vx_runV (As := [.int 3]) (rest := [.long 53663034747]) ⟨hx, hb, hml, hown, hts⟩ (t_X5_many l hl0 D cA z [(5, 0)] (fun k _ => if k = 5 then h0 else if k = 50 then a0 else if k = 51 then a1 else if k = 52 then a2 else if k = 53 then a3 else if k = 54 then a4 else if k = 55 then g0 else if k = 56 then w0 else 0) (fun _ _ => .inr (6, [.ref a0, .ref a1, .ref a2, .ref a3, .ref a4, .ref g0, .ref w0, .int 0, .int 0, .int 0, .int 0, .int 0, .int 0])) 3 List.mem_cons_self rfl) (cwV 1 hts gX5_digest_X5_many rfl rfl rfl (by decide +kernel) ⟨Nat.le_of_ble_eq_true rfl, Nat.le_of_ble_eq_true rfl⟩) (pcT_preVL hX hT (pcZ_kept hZ hAz hS) (Nat.le_trans hz hS.1) (va_recv hX.1 hP (ci := 6) (q0 := 0) rfl rfl) (hP.sub (ws' := [(h0, .inr (6, [.ref a0, .ref a1, .ref a2, .ref a3, .ref a4, .ref g0, .ref w0, .int 0, .int 0, .int 0, .int 0, .int 0, .int 0]))]) [0] rfl)) rfl rfl hl.1 rfl (lv_room (Nat.le_of_ble_eq_true rfl)) dX5_digest_19 ⟨Nat.le_of_ble_eq_true rfl, Nat.le_of_ble_eq_true rfl⟩) hS (fun _ _ h => h.elim) (fun _ h => h.elim) (fun _ _ h => h.elim) (fun E ce q9 _ t H1 locs1 ht hvm hpx hE _ hk9 hS9 hq9 hce hcl => ?_) (fun r350 _ t H locs ht hvm hwr350 _ _ hk9 hS => ?_)
  · exact absurd hE.2 (by decide)
  have hP := hP.kept (H1 := H) (fun k q hk => hk9 q.1 ((hP k q hk).lt) id)
  refine W.widen (k := 4) (n := 24) (Nat.le_of_ble_eq_true rfl) (Nat.le_of_ble_eq_true rfl) ?_
  have hP : va_P D vwCl [(h0, .inr (6, [.ref a0, .ref a1, .ref a2, .ref a3, .ref a4, .ref g0, .ref w0, .int 0, .int 0, .int 0, .int 0, .int 0, .int 0])), (g0, .inl (cA 9, 4, .inr (.inr (.inr (.inr (fun i => ([r0, r1, r2, r3] : List Nat)[i]?)))))), (w0, .inl (cA 0, 10, .inl fw)), (r0, .inl (cA 0, 10, .inl f0)), (r1, .inl (cA 0, 10, .inl f1)), (r2, .inl (cA 0, 10, .inl f2)), (r3, .inl (cA 0, 10, .inl f3))] H := hP
  have hD : va_D A [(h0, .inr (6, [.ref a0, .ref a1, .ref a2, .ref a3, .ref a4, .ref g0, .ref w0, .int 0, .int 0, .int 0, .int 0, .int 0, .int 0])), (g0, .inl (cA 9, 4, .inr (.inr (.inr (.inr (fun i => ([r0, r1, r2, r3] : List Nat)[i]?)))))), (w0, .inl (cA 0, 10, .inl fw)), (r0, .inl (cA 0, 10, .inl f0)), (r1, .inl (cA 0, 10, .inl f1)), (r2, .inl (cA 0, 10, .inl f2)), (r3, .inl (cA 0, 10, .inl f3))] := hD
  obtain ⟨rfl, _⟩ := hwr350
  refine lv_i2l (v := 0) hx hb dX5_digest_22 (by decide) ?_
  refine lv_ladd hx hb dX5_digest_23 ?_
  refine lv_topl (fun a351 ea351 => ?_)
  obtain rfl : a351 = 53663034747 := ea351.trans (by decide)
  refine lv_lstore_n (lv' := [(1, .long 53663034747), (3, .int 3), (0, .ref h0)]) hx hb dX5_digest_24 rfl hl (by decide) rfl (fun ls hl => ?_)
  refine lv_iinc (v := 4) (lv' := [(3, .int 4), (1, .long 53663034747), (0, .ref h0)]) hx hb dX5_digest_25 hl (k := 1) rfl (by decide) (by decide) rfl (fun ls hl => ?_)
  refine lv_goto (tgt := 6) hx hb dX5_digest_28 (by decide) ?_
  refine lv_iload_n hx hb dX5_digest_6 rfl (lv_at hl 0 rfl) ?_
  refine lv_bipush (v := 12) hx hb dX5_digest_7 (by decide) ?_
  refine lv_icmp_gt (tgt := 31) hx hb dX5_digest_9 (by decide) (fun c352 => absurd c352 (by decide)) (fun _ => ?_)
  refine lv_lload_n hx hb dX5_digest_12 rfl (lv_at hl 1 rfl) ?_
  refine lv_ldc2 (v := 31) hx hb hown (hts (.constantLong RX5 336 31) (by decide +kernel)) dX5_digest_13 ?_
  refine lv_lmul hx hb dX5_digest_16 ?_
  refine lv_topl (fun a353 ea353 => ?_)
  obtain rfl : a353 = 1663554077157 := ea353.trans (by decide)
  refine lv_aload_n hx hb dX5_digest_17 rfl (lv_at hl 2 rfl) ?_
  refine lv_iload_n hx hb dX5_digest_18 rfl (lv_at hl 0 rfl) ?_
  refine vx_calli (vx_runV (As := [.int 4]) (rest := [.long 1663554077157]) ⟨hx, hb, hml, hown, hts⟩ (t_X5_many l hl0 D cA z [(5, 0)] (fun k _ => if k = 5 then h0 else if k = 50 then a0 else if k = 51 then a1 else if k = 52 then a2 else if k = 53 then a3 else if k = 54 then a4 else if k = 55 then g0 else if k = 56 then w0 else 0) (fun _ _ => .inr (6, [.ref a0, .ref a1, .ref a2, .ref a3, .ref a4, .ref g0, .ref w0, .int 0, .int 0, .int 0, .int 0, .int 0, .int 0])) 4 List.mem_cons_self rfl) (cwV 1 hts gX5_digest_X5_many rfl rfl rfl (by decide +kernel) ⟨Nat.le_of_ble_eq_true rfl, Nat.le_of_ble_eq_true rfl⟩) (pcT_preVL hX hT (pcZ_kept hZ hAz hS) (Nat.le_trans hz hS.1) (va_recv hX.1 hP (ci := 6) (q0 := 0) rfl rfl) (hP.sub (ws' := [(h0, .inr (6, [.ref a0, .ref a1, .ref a2, .ref a3, .ref a4, .ref g0, .ref w0, .int 0, .int 0, .int 0, .int 0, .int 0, .int 0]))]) [0] rfl)) rfl rfl hl.1 rfl (lv_room (Nat.le_of_ble_eq_true rfl)) dX5_digest_19 ⟨Nat.le_of_ble_eq_true rfl, Nat.le_of_ble_eq_true rfl⟩) hS (fun _ _ h => h.elim) (fun _ h => h.elim) (fun _ _ h => h.elim) (fun E ce q9 _ t H1 locs1 ht hvm hpx hE _ hk9 hS9 hq9 hce hcl => ?_) (fun r354 _ t H locs ht hvm hwr354 _ _ hk9 hS => ?_)
  · exact absurd hE.2 (by decide)
  have hP := hP.kept (H1 := H) (fun k q hk => hk9 q.1 ((hP k q hk).lt) id)
  refine W.widen (k := 5) (n := 30) (Nat.le_of_ble_eq_true rfl) (Nat.le_of_ble_eq_true rfl) ?_
  have hP : va_P D vwCl [(h0, .inr (6, [.ref a0, .ref a1, .ref a2, .ref a3, .ref a4, .ref g0, .ref w0, .int 0, .int 0, .int 0, .int 0, .int 0, .int 0])), (g0, .inl (cA 9, 4, .inr (.inr (.inr (.inr (fun i => ([r0, r1, r2, r3] : List Nat)[i]?)))))), (w0, .inl (cA 0, 10, .inl fw)), (r0, .inl (cA 0, 10, .inl f0)), (r1, .inl (cA 0, 10, .inl f1)), (r2, .inl (cA 0, 10, .inl f2)), (r3, .inl (cA 0, 10, .inl f3))] H := hP
  have hD : va_D A [(h0, .inr (6, [.ref a0, .ref a1, .ref a2, .ref a3, .ref a4, .ref g0, .ref w0, .int 0, .int 0, .int 0, .int 0, .int 0, .int 0])), (g0, .inl (cA 9, 4, .inr (.inr (.inr (.inr (fun i => ([r0, r1, r2, r3] : List Nat)[i]?)))))), (w0, .inl (cA 0, 10, .inl fw)), (r0, .inl (cA 0, 10, .inl f0)), (r1, .inl (cA 0, 10, .inl f1)), (r2, .inl (cA 0, 10, .inl f2)), (r3, .inl (cA 0, 10, .inl f3))] := hD
  obtain ⟨rfl, _⟩ := hwr354
  refine lv_i2l (v := 0) hx hb dX5_digest_22 (by decide) ?_
  refine lv_ladd hx hb dX5_digest_23 ?_
  refine lv_topl (fun a355 ea355 => ?_)
  obtain rfl : a355 = 1663554077157 := ea355.trans (by decide)
  refine lv_lstore_n (lv' := [(1, .long 1663554077157), (3, .int 4), (0, .ref h0)]) hx hb dX5_digest_24 rfl hl (by decide) rfl (fun ls hl => ?_)
  refine lv_iinc (v := 5) (lv' := [(3, .int 5), (1, .long 1663554077157), (0, .ref h0)]) hx hb dX5_digest_25 hl (k := 1) rfl (by decide) (by decide) rfl (fun ls hl => ?_)
  refine lv_goto (tgt := 6) hx hb dX5_digest_28 (by decide) ?_
  refine lv_iload_n hx hb dX5_digest_6 rfl (lv_at hl 0 rfl) ?_
  refine lv_bipush (v := 12) hx hb dX5_digest_7 (by decide) ?_
  refine lv_icmp_gt (tgt := 31) hx hb dX5_digest_9 (by decide) (fun c356 => absurd c356 (by decide)) (fun _ => ?_)
  refine lv_lload_n hx hb dX5_digest_12 rfl (lv_at hl 1 rfl) ?_
  refine lv_ldc2 (v := 31) hx hb hown (hts (.constantLong RX5 336 31) (by decide +kernel)) dX5_digest_13 ?_
  refine lv_lmul hx hb dX5_digest_16 ?_
  refine lv_topl (fun a357 ea357 => ?_)
  obtain rfl : a357 = 51570176391867 := ea357.trans (by decide)
  refine lv_aload_n hx hb dX5_digest_17 rfl (lv_at hl 2 rfl) ?_
  refine lv_iload_n hx hb dX5_digest_18 rfl (lv_at hl 0 rfl) ?_
  refine vx_calli (vx_runV (As := [.int 5]) (rest := [.long 51570176391867]) ⟨hx, hb, hml, hown, hts⟩ (t_X5_many l hl0 D cA z [(5, 0)] (fun k _ => if k = 5 then h0 else if k = 50 then a0 else if k = 51 then a1 else if k = 52 then a2 else if k = 53 then a3 else if k = 54 then a4 else if k = 55 then g0 else if k = 56 then w0 else 0) (fun _ _ => .inr (6, [.ref a0, .ref a1, .ref a2, .ref a3, .ref a4, .ref g0, .ref w0, .int 0, .int 0, .int 0, .int 0, .int 0, .int 0])) 5 List.mem_cons_self rfl) (cwV 1 hts gX5_digest_X5_many rfl rfl rfl (by decide +kernel) ⟨Nat.le_of_ble_eq_true rfl, Nat.le_of_ble_eq_true rfl⟩) (pcT_preVL hX hT (pcZ_kept hZ hAz hS) (Nat.le_trans hz hS.1) (va_recv hX.1 hP (ci := 6) (q0 := 0) rfl rfl) (hP.sub (ws' := [(h0, .inr (6, [.ref a0, .ref a1, .ref a2, .ref a3, .ref a4, .ref g0, .ref w0, .int 0, .int 0, .int 0, .int 0, .int 0, .int 0]))]) [0] rfl)) rfl rfl hl.1 rfl (lv_room (Nat.le_of_ble_eq_true rfl)) dX5_digest_19 ⟨Nat.le_of_ble_eq_true rfl, Nat.le_of_ble_eq_true rfl⟩) hS (fun _ _ h => h.elim) (fun _ h => h.elim) (fun _ _ h => h.elim) (fun E ce q9 _ t H1 locs1 ht hvm hpx hE _ hk9 hS9 hq9 hce hcl => ?_) (fun r358 _ t H locs ht hvm hwr358 _ _ hk9 hS => ?_)
  · exact absurd hE.2 (by decide)
  have hP := hP.kept (H1 := H) (fun k q hk => hk9 q.1 ((hP k q hk).lt) id)
  refine W.widen (k := 6) (n := 36) (Nat.le_of_ble_eq_true rfl) (Nat.le_of_ble_eq_true rfl) ?_
  have hP : va_P D vwCl [(h0, .inr (6, [.ref a0, .ref a1, .ref a2, .ref a3, .ref a4, .ref g0, .ref w0, .int 0, .int 0, .int 0, .int 0, .int 0, .int 0])), (g0, .inl (cA 9, 4, .inr (.inr (.inr (.inr (fun i => ([r0, r1, r2, r3] : List Nat)[i]?)))))), (w0, .inl (cA 0, 10, .inl fw)), (r0, .inl (cA 0, 10, .inl f0)), (r1, .inl (cA 0, 10, .inl f1)), (r2, .inl (cA 0, 10, .inl f2)), (r3, .inl (cA 0, 10, .inl f3))] H := hP
  have hD : va_D A [(h0, .inr (6, [.ref a0, .ref a1, .ref a2, .ref a3, .ref a4, .ref g0, .ref w0, .int 0, .int 0, .int 0, .int 0, .int 0, .int 0])), (g0, .inl (cA 9, 4, .inr (.inr (.inr (.inr (fun i => ([r0, r1, r2, r3] : List Nat)[i]?)))))), (w0, .inl (cA 0, 10, .inl fw)), (r0, .inl (cA 0, 10, .inl f0)), (r1, .inl (cA 0, 10, .inl f1)), (r2, .inl (cA 0, 10, .inl f2)), (r3, .inl (cA 0, 10, .inl f3))] := hD
  obtain ⟨rfl, _⟩ := hwr358
  refine lv_i2l (v := 0) hx hb dX5_digest_22 (by decide) ?_
  refine lv_ladd hx hb dX5_digest_23 ?_
  refine lv_topl (fun a359 ea359 => ?_)
  obtain rfl : a359 = 51570176391867 := ea359.trans (by decide)
  refine lv_lstore_n (lv' := [(1, .long 51570176391867), (3, .int 5), (0, .ref h0)]) hx hb dX5_digest_24 rfl hl (by decide) rfl (fun ls hl => ?_)
  refine lv_iinc (v := 6) (lv' := [(3, .int 6), (1, .long 51570176391867), (0, .ref h0)]) hx hb dX5_digest_25 hl (k := 1) rfl (by decide) (by decide) rfl (fun ls hl => ?_)
  refine lv_goto (tgt := 6) hx hb dX5_digest_28 (by decide) ?_
  refine lv_iload_n hx hb dX5_digest_6 rfl (lv_at hl 0 rfl) ?_
  refine lv_bipush (v := 12) hx hb dX5_digest_7 (by decide) ?_
  refine lv_icmp_gt (tgt := 31) hx hb dX5_digest_9 (by decide) (fun c360 => absurd c360 (by decide)) (fun _ => ?_)
  refine lv_lload_n hx hb dX5_digest_12 rfl (lv_at hl 1 rfl) ?_
  refine lv_ldc2 (v := 31) hx hb hown (hts (.constantLong RX5 336 31) (by decide +kernel)) dX5_digest_13 ?_
  refine lv_lmul hx hb dX5_digest_16 ?_
  refine lv_topl (fun a361 ea361 => ?_)
  obtain rfl : a361 = 1598675468147877 := ea361.trans (by decide)
  refine lv_aload_n hx hb dX5_digest_17 rfl (lv_at hl 2 rfl) ?_
  refine lv_iload_n hx hb dX5_digest_18 rfl (lv_at hl 0 rfl) ?_
  refine vx_calli (vx_runV (As := [.int 6]) (rest := [.long 1598675468147877]) ⟨hx, hb, hml, hown, hts⟩ (t_X5_many l hl0 D cA z [(5, 0)] (fun k _ => if k = 5 then h0 else if k = 50 then a0 else if k = 51 then a1 else if k = 52 then a2 else if k = 53 then a3 else if k = 54 then a4 else if k = 55 then g0 else if k = 56 then w0 else 0) (fun _ _ => .inr (6, [.ref a0, .ref a1, .ref a2, .ref a3, .ref a4, .ref g0, .ref w0, .int 0, .int 0, .int 0, .int 0, .int 0, .int 0])) 6 List.mem_cons_self rfl) (cwV 1 hts gX5_digest_X5_many rfl rfl rfl (by decide +kernel) ⟨Nat.le_of_ble_eq_true rfl, Nat.le_of_ble_eq_true rfl⟩) (pcT_preVL hX hT (pcZ_kept hZ hAz hS) (Nat.le_trans hz hS.1) (va_recv hX.1 hP (ci := 6) (q0 := 0) rfl rfl) (hP.sub (ws' := [(h0, .inr (6, [.ref a0, .ref a1, .ref a2, .ref a3, .ref a4, .ref g0, .ref w0, .int 0, .int 0, .int 0, .int 0, .int 0, .int 0]))]) [0] rfl)) rfl rfl hl.1 rfl (lv_room (Nat.le_of_ble_eq_true rfl)) dX5_digest_19 ⟨Nat.le_of_ble_eq_true rfl, Nat.le_of_ble_eq_true rfl⟩) hS (fun _ _ h => h.elim) (fun _ h => h.elim) (fun _ _ h => h.elim) (fun E ce q9 _ t H1 locs1 ht hvm hpx hE _ hk9 hS9 hq9 hce hcl => ?_) (fun r362 _ t H locs ht hvm hwr362 _ _ hk9 hS => ?_)
  · exact absurd hE.2 (by decide)
  have hP := hP.kept (H1 := H) (fun k q hk => hk9 q.1 ((hP k q hk).lt) id)
  refine W.widen (k := 7) (n := 42) (Nat.le_of_ble_eq_true rfl) (Nat.le_of_ble_eq_true rfl) ?_
  have hP : va_P D vwCl [(h0, .inr (6, [.ref a0, .ref a1, .ref a2, .ref a3, .ref a4, .ref g0, .ref w0, .int 0, .int 0, .int 0, .int 0, .int 0, .int 0])), (g0, .inl (cA 9, 4, .inr (.inr (.inr (.inr (fun i => ([r0, r1, r2, r3] : List Nat)[i]?)))))), (w0, .inl (cA 0, 10, .inl fw)), (r0, .inl (cA 0, 10, .inl f0)), (r1, .inl (cA 0, 10, .inl f1)), (r2, .inl (cA 0, 10, .inl f2)), (r3, .inl (cA 0, 10, .inl f3))] H := hP
  have hD : va_D A [(h0, .inr (6, [.ref a0, .ref a1, .ref a2, .ref a3, .ref a4, .ref g0, .ref w0, .int 0, .int 0, .int 0, .int 0, .int 0, .int 0])), (g0, .inl (cA 9, 4, .inr (.inr (.inr (.inr (fun i => ([r0, r1, r2, r3] : List Nat)[i]?)))))), (w0, .inl (cA 0, 10, .inl fw)), (r0, .inl (cA 0, 10, .inl f0)), (r1, .inl (cA 0, 10, .inl f1)), (r2, .inl (cA 0, 10, .inl f2)), (r3, .inl (cA 0, 10, .inl f3))] := hD
  obtain ⟨rfl, _⟩ := hwr362
  refine lv_i2l (v := 0) hx hb dX5_digest_22 (by decide) ?_
  refine lv_ladd hx hb dX5_digest_23 ?_
  refine lv_topl (fun a363 ea363 => ?_)
  obtain rfl : a363 = 1598675468147877 := ea363.trans (by decide)
  refine lv_lstore_n (lv' := [(1, .long 1598675468147877), (3, .int 6), (0, .ref h0)]) hx hb dX5_digest_24 rfl hl (by decide) rfl (fun ls hl => ?_)
  refine lv_iinc (v := 7) (lv' := [(3, .int 7), (1, .long 1598675468147877), (0, .ref h0)]) hx hb dX5_digest_25 hl (k := 1) rfl (by decide) (by decide) rfl (fun ls hl => ?_)
  refine lv_goto (tgt := 6) hx hb dX5_digest_28 (by decide) ?_
  refine lv_iload_n hx hb dX5_digest_6 rfl (lv_at hl 0 rfl) ?_
  refine lv_bipush (v := 12) hx hb dX5_digest_7 (by decide) ?_
  refine lv_icmp_gt (tgt := 31) hx hb dX5_digest_9 (by decide) (fun c364 => absurd c364 (by decide)) (fun _ => ?_)
  refine lv_lload_n hx hb dX5_digest_12 rfl (lv_at hl 1 rfl) ?_
  refine lv_ldc2 (v := 31) hx hb hown (hts (.constantLong RX5 336 31) (by decide +kernel)) dX5_digest_13 ?_
  refine lv_lmul hx hb dX5_digest_16 ?_
  refine lv_topl (fun a365 ea365 => ?_)
  obtain rfl : a365 = 49558939512584187 := ea365.trans (by decide)
  refine lv_aload_n hx hb dX5_digest_17 rfl (lv_at hl 2 rfl) ?_
  refine lv_iload_n hx hb dX5_digest_18 rfl (lv_at hl 0 rfl) ?_
  refine vx_calli (vx_runV (As := [.int 7]) (rest := [.long 49558939512584187]) ⟨hx, hb, hml, hown, hts⟩ (t_X5_many l hl0 D cA z [(5, 0)] (fun k _ => if k = 5 then h0 else if k = 50 then a0 else if k = 51 then a1 else if k = 52 then a2 else if k = 53 then a3 else if k = 54 then a4 else if k = 55 then g0 else if k = 56 then w0 else 0) (fun _ _ => .inr (6, [.ref a0, .ref a1, .ref a2, .ref a3, .ref a4, .ref g0, .ref w0, .int 0, .int 0, .int 0, .int 0, .int 0, .int 0])) 7 List.mem_cons_self rfl) (cwV 1 hts gX5_digest_X5_many rfl rfl rfl (by decide +kernel) ⟨Nat.le_of_ble_eq_true rfl, Nat.le_of_ble_eq_true rfl⟩) (pcT_preVL hX hT (pcZ_kept hZ hAz hS) (Nat.le_trans hz hS.1) (va_recv hX.1 hP (ci := 6) (q0 := 0) rfl rfl) (hP.sub (ws' := [(h0, .inr (6, [.ref a0, .ref a1, .ref a2, .ref a3, .ref a4, .ref g0, .ref w0, .int 0, .int 0, .int 0, .int 0, .int 0, .int 0]))]) [0] rfl)) rfl rfl hl.1 rfl (lv_room (Nat.le_of_ble_eq_true rfl)) dX5_digest_19 ⟨Nat.le_of_ble_eq_true rfl, Nat.le_of_ble_eq_true rfl⟩) hS (fun _ _ h => h.elim) (fun _ h => h.elim) (fun _ _ h => h.elim) (fun E ce q9 _ t H1 locs1 ht hvm hpx hE _ hk9 hS9 hq9 hce hcl => ?_) (fun r366 _ t H locs ht hvm hwr366 _ _ hk9 hS => ?_)
  · exact absurd hE.2 (by decide)
  have hP := hP.kept (H1 := H) (fun k q hk => hk9 q.1 ((hP k q hk).lt) id)
  refine W.widen (k := 8) (n := 48) (Nat.le_of_ble_eq_true rfl) (Nat.le_of_ble_eq_true rfl) ?_
  have hP : va_P D vwCl [(h0, .inr (6, [.ref a0, .ref a1, .ref a2, .ref a3, .ref a4, .ref g0, .ref w0, .int 0, .int 0, .int 0, .int 0, .int 0, .int 0])), (g0, .inl (cA 9, 4, .inr (.inr (.inr (.inr (fun i => ([r0, r1, r2, r3] : List Nat)[i]?)))))), (w0, .inl (cA 0, 10, .inl fw)), (r0, .inl (cA 0, 10, .inl f0)), (r1, .inl (cA 0, 10, .inl f1)), (r2, .inl (cA 0, 10, .inl f2)), (r3, .inl (cA 0, 10, .inl f3))] H := hP
  have hD : va_D A [(h0, .inr (6, [.ref a0, .ref a1, .ref a2, .ref a3, .ref a4, .ref g0, .ref w0, .int 0, .int 0, .int 0, .int 0, .int 0, .int 0])), (g0, .inl (cA 9, 4, .inr (.inr (.inr (.inr (fun i => ([r0, r1, r2, r3] : List Nat)[i]?)))))), (w0, .inl (cA 0, 10, .inl fw)), (r0, .inl (cA 0, 10, .inl f0)), (r1, .inl (cA 0, 10, .inl f1)), (r2, .inl (cA 0, 10, .inl f2)), (r3, .inl (cA 0, 10, .inl f3))] := hD
  obtain ⟨rfl, _⟩ := hwr366
  refine lv_i2l (v := 0) hx hb dX5_digest_22 (by decide) ?_
  refine lv_ladd hx hb dX5_digest_23 ?_
  refine lv_topl (fun a367 ea367 => ?_)
  obtain rfl : a367 = 49558939512584187 := ea367.trans (by decide)
  refine lv_lstore_n (lv' := [(1, .long 49558939512584187), (3, .int 7), (0, .ref h0)]) hx hb dX5_digest_24 rfl hl (by decide) rfl (fun ls hl => ?_)
  refine lv_iinc (v := 8) (lv' := [(3, .int 8), (1, .long 49558939512584187), (0, .ref h0)]) hx hb dX5_digest_25 hl (k := 1) rfl (by decide) (by decide) rfl (fun ls hl => ?_)
  refine lv_goto (tgt := 6) hx hb dX5_digest_28 (by decide) ?_
  refine lv_iload_n hx hb dX5_digest_6 rfl (lv_at hl 0 rfl) ?_
  refine lv_bipush (v := 12) hx hb dX5_digest_7 (by decide) ?_
  refine lv_icmp_gt (tgt := 31) hx hb dX5_digest_9 (by decide) (fun c368 => absurd c368 (by decide)) (fun _ => ?_)
  refine lv_lload_n hx hb dX5_digest_12 rfl (lv_at hl 1 rfl) ?_
  refine lv_ldc2 (v := 31) hx hb hown (hts (.constantLong RX5 336 31) (by decide +kernel)) dX5_digest_13 ?_
  refine lv_lmul hx hb dX5_digest_16 ?_
  refine lv_topl (fun a369 ea369 => ?_)
  obtain rfl : a369 = 1536327124890109797 := ea369.trans (by decide)
  refine lv_aload_n hx hb dX5_digest_17 rfl (lv_at hl 2 rfl) ?_
  refine lv_iload_n hx hb dX5_digest_18 rfl (lv_at hl 0 rfl) ?_
  refine vx_calli (vx_runV (As := [.int 8]) (rest := [.long 1536327124890109797]) ⟨hx, hb, hml, hown, hts⟩ (t_X5_many l hl0 D cA z [(5, 0)] (fun k _ => if k = 5 then h0 else if k = 50 then a0 else if k = 51 then a1 else if k = 52 then a2 else if k = 53 then a3 else if k = 54 then a4 else if k = 55 then g0 else if k = 56 then w0 else 0) (fun _ _ => .inr (6, [.ref a0, .ref a1, .ref a2, .ref a3, .ref a4, .ref g0, .ref w0, .int 0, .int 0, .int 0, .int 0, .int 0, .int 0])) 8 List.mem_cons_self rfl) (cwV 1 hts gX5_digest_X5_many rfl rfl rfl (by decide +kernel) ⟨Nat.le_of_ble_eq_true rfl, Nat.le_of_ble_eq_true rfl⟩) (pcT_preVL hX hT (pcZ_kept hZ hAz hS) (Nat.le_trans hz hS.1) (va_recv hX.1 hP (ci := 6) (q0 := 0) rfl rfl) (hP.sub (ws' := [(h0, .inr (6, [.ref a0, .ref a1, .ref a2, .ref a3, .ref a4, .ref g0, .ref w0, .int 0, .int 0, .int 0, .int 0, .int 0, .int 0]))]) [0] rfl)) rfl rfl hl.1 rfl (lv_room (Nat.le_of_ble_eq_true rfl)) dX5_digest_19 ⟨Nat.le_of_ble_eq_true rfl, Nat.le_of_ble_eq_true rfl⟩) hS (fun _ _ h => h.elim) (fun _ h => h.elim) (fun _ _ h => h.elim) (fun E ce q9 _ t H1 locs1 ht hvm hpx hE _ hk9 hS9 hq9 hce hcl => ?_) (fun r370 _ t H locs ht hvm hwr370 _ _ hk9 hS => ?_)
  · exact absurd hE.2 (by decide)
  have hP := hP.kept (H1 := H) (fun k q hk => hk9 q.1 ((hP k q hk).lt) id)
  refine W.widen (k := 9) (n := 54) (Nat.le_of_ble_eq_true rfl) (Nat.le_of_ble_eq_true rfl) ?_
  have hP : va_P D vwCl [(h0, .inr (6, [.ref a0, .ref a1, .ref a2, .ref a3, .ref a4, .ref g0, .ref w0, .int 0, .int 0, .int 0, .int 0, .int 0, .int 0])), (g0, .inl (cA 9, 4, .inr (.inr (.inr (.inr (fun i => ([r0, r1, r2, r3] : List Nat)[i]?)))))), (w0, .inl (cA 0, 10, .inl fw)), (r0, .inl (cA 0, 10, .inl f0)), (r1, .inl (cA 0, 10, .inl f1)), (r2, .inl (cA 0, 10, .inl f2)), (r3, .inl (cA 0, 10, .inl f3))] H := hP
  have hD : va_D A [(h0, .inr (6, [.ref a0, .ref a1, .ref a2, .ref a3, .ref a4, .ref g0, .ref w0, .int 0, .int 0, .int 0, .int 0, .int 0, .int 0])), (g0, .inl (cA 9, 4, .inr (.inr (.inr (.inr (fun i => ([r0, r1, r2, r3] : List Nat)[i]?)))))), (w0, .inl (cA 0, 10, .inl fw)), (r0, .inl (cA 0, 10, .inl f0)), (r1, .inl (cA 0, 10, .inl f1)), (r2, .inl (cA 0, 10, .inl f2)), (r3, .inl (cA 0, 10, .inl f3))] := hD
  obtain ⟨rfl, _⟩ := hwr370
  refine lv_i2l (v := 0) hx hb dX5_digest_22 (by decide) ?_
  refine lv_ladd hx hb dX5_digest_23 ?_
  refine lv_topl (fun a371 ea371 => ?_)
  obtain rfl : a371 = 1536327124890109797 := ea371.trans (by decide)
  refine lv_lstore_n (lv' := [(1, .long 1536327124890109797), (3, .int 8), (0, .ref h0)]) hx hb dX5_digest_24 rfl hl (by decide) rfl (fun ls hl => ?_)
  refine lv_iinc (v := 9) (lv' := [(3, .int 9), (1, .long 1536327124890109797), (0, .ref h0)]) hx hb dX5_digest_25 hl (k := 1) rfl (by decide) (by decide) rfl (fun ls hl => ?_)
  refine lv_goto (tgt := 6) hx hb dX5_digest_28 (by decide) ?_
  refine lv_iload_n hx hb dX5_digest_6 rfl (lv_at hl 0 rfl) ?_
  refine lv_bipush (v := 12) hx hb dX5_digest_7 (by decide) ?_
  refine lv_icmp_gt (tgt := 31) hx hb dX5_digest_9 (by decide) (fun c372 => absurd c372 (by decide)) (fun _ => ?_)
  refine lv_lload_n hx hb dX5_digest_12 rfl (lv_at hl 1 rfl) ?_
  refine lv_ldc2 (v := 31) hx hb hown (hts (.constantLong RX5 336 31) (by decide +kernel)) dX5_digest_13 ?_
  refine lv_lmul hx hb dX5_digest_16 ?_
  refine lv_topl (fun a373 ea373 => ?_)
  obtain rfl : a373 = (-7714091349535251141) := ea373.trans (by decide)
  refine lv_aload_n hx hb dX5_digest_17 rfl (lv_at hl 2 rfl) ?_
  refine lv_iload_n hx hb dX5_digest_18 rfl (lv_at hl 0 rfl) ?_
  refine vx_calli (vx_runV (As := [.int 9]) (rest := [.long (-7714091349535251141)]) ⟨hx, hb, hml, hown, hts⟩ (t_X5_many l hl0 D cA z [(5, 0)] (fun k _ => if k = 5 then h0 else if k = 50 then a0 else if k = 51 then a1 else if k = 52 then a2 else if k = 53 then a3 else if k = 54 then a4 else if k = 55 then g0 else if k = 56 then w0 else 0) (fun _ _ => .inr (6, [.ref a0, .ref a1, .ref a2, .ref a3, .ref a4, .ref g0, .ref w0, .int 0, .int 0, .int 0, .int 0, .int 0, .int 0])) 9 List.mem_cons_self rfl) (cwV 1 hts gX5_digest_X5_many rfl rfl rfl (by decide +kernel) ⟨Nat.le_of_ble_eq_true rfl, Nat.le_of_ble_eq_true rfl⟩) (pcT_preVL hX hT (pcZ_kept hZ hAz hS) (Nat.le_trans hz hS.1) (va_recv hX.1 hP (ci := 6) (q0 := 0) rfl rfl) (hP.sub (ws' := [(h0, .inr (6, [.ref a0, .ref a1, .ref a2, .ref a3, .ref a4, .ref g0, .ref w0, .int 0, .int 0, .int 0, .int 0, .int 0, .int 0]))]) [0] rfl)) rfl rfl hl.1 rfl (lv_room (Nat.le_of_ble_eq_true rfl)) dX5_digest_19 ⟨Nat.le_of_ble_eq_true rfl, Nat.le_of_ble_eq_true rfl⟩) hS (fun _ _ h => h.elim) (fun _ h => h.elim) (fun _ _ h => h.elim) (fun E ce q9 _ t H1 locs1 ht hvm hpx hE _ hk9 hS9 hq9 hce hcl => ?_) (fun r374 _ t H locs ht hvm hwr374 _ _ hk9 hS => ?_)
  · exact absurd hE.2 (by decide)
  have hP := hP.kept (H1 := H) (fun k q hk => hk9 q.1 ((hP k q hk).lt) id)
  refine W.widen (k := 10) (n := 60) (Nat.le_of_ble_eq_true rfl) (Nat.le_of_ble_eq_true rfl) ?_
  have hP : va_P D vwCl [(h0, .inr (6, [.ref a0, .ref a1, .ref a2, .ref a3, .ref a4, .ref g0, .ref w0, .int 0, .int 0, .int 0, .int 0, .int 0, .int 0])), (g0, .inl (cA 9, 4, .inr (.inr (.inr (.inr (fun i => ([r0, r1, r2, r3] : List Nat)[i]?)))))), (w0, .inl (cA 0, 10, .inl fw)), (r0, .inl (cA 0, 10, .inl f0)), (r1, .inl (cA 0, 10, .inl f1)), (r2, .inl (cA 0, 10, .inl f2)), (r3, .inl (cA 0, 10, .inl f3))] H := hP
  have hD : va_D A [(h0, .inr (6, [.ref a0, .ref a1, .ref a2, .ref a3, .ref a4, .ref g0, .ref w0, .int 0, .int 0, .int 0, .int 0, .int 0, .int 0])), (g0, .inl (cA 9, 4, .inr (.inr (.inr (.inr (fun i => ([r0, r1, r2, r3] : List Nat)[i]?)))))), (w0, .inl (cA 0, 10, .inl fw)), (r0, .inl (cA 0, 10, .inl f0)), (r1, .inl (cA 0, 10, .inl f1)), (r2, .inl (cA 0, 10, .inl f2)), (r3, .inl (cA 0, 10, .inl f3))] := hD
  obtain ⟨rfl, _⟩ := hwr374
  refine lv_i2l (v := 0) hx hb dX5_digest_22 (by decide) ?_
  refine lv_ladd hx hb dX5_digest_23 ?_
  refine lv_topl (fun a375 ea375 => ?_)
  obtain rfl : a375 = (-7714091349535251141) := ea375.trans (by decide)
  refine lv_lstore_n (lv' := [(1, .long (-7714091349535251141)), (3, .int 9), (0, .ref h0)]) hx hb dX5_digest_24 rfl hl (by decide) rfl (fun ls hl => ?_)
  refine lv_iinc (v := 10) (lv' := [(3, .int 10), (1, .long (-7714091349535251141)), (0, .ref h0)]) hx hb dX5_digest_25 hl (k := 1) rfl (by decide) (by decide) rfl (fun ls hl => ?_)
  refine lv_goto (tgt := 6) hx hb dX5_digest_28 (by decide) ?_
  refine lv_iload_n hx hb dX5_digest_6 rfl (lv_at hl 0 rfl) ?_
  refine lv_bipush (v := 12) hx hb dX5_digest_7 (by decide) ?_
  refine lv_icmp_gt (tgt := 31) hx hb dX5_digest_9 (by decide) (fun c376 => absurd c376 (by decide)) (fun _ => ?_)
  refine lv_lload_n hx hb dX5_digest_12 rfl (lv_at hl 1 rfl) ?_
  refine lv_ldc2 (v := 31) hx hb hown (hts (.constantLong RX5 336 31) (by decide +kernel)) dX5_digest_13 ?_
  refine lv_lmul hx hb dX5_digest_16 ?_
  refine lv_topl (fun a377 ea377 => ?_)
  obtain rfl : a377 = 670841122631385637 := ea377.trans (by decide)
  refine lv_aload_n hx hb dX5_digest_17 rfl (lv_at hl 2 rfl) ?_
  refine lv_iload_n hx hb dX5_digest_18 rfl (lv_at hl 0 rfl) ?_
  refine vx_calli (vx_runV (As := [.int 10]) (rest := [.long 670841122631385637]) ⟨hx, hb, hml, hown, hts⟩ (t_X5_many l hl0 D cA z [(5, 0)] (fun k _ => if k = 5 then h0 else if k = 50 then a0 else if k = 51 then a1 else if k = 52 then a2 else if k = 53 then a3 else if k = 54 then a4 else if k = 55 then g0 else if k = 56 then w0 else 0) (fun _ _ => .inr (6, [.ref a0, .ref a1, .ref a2, .ref a3, .ref a4, .ref g0, .ref w0, .int 0, .int 0, .int 0, .int 0, .int 0, .int 0])) 10 List.mem_cons_self rfl) (cwV 1 hts gX5_digest_X5_many rfl rfl rfl (by decide +kernel) ⟨Nat.le_of_ble_eq_true rfl, Nat.le_of_ble_eq_true rfl⟩) (pcT_preVL hX hT (pcZ_kept hZ hAz hS) (Nat.le_trans hz hS.1) (va_recv hX.1 hP (ci := 6) (q0 := 0) rfl rfl) (hP.sub (ws' := [(h0, .inr (6, [.ref a0, .ref a1, .ref a2, .ref a3, .ref a4, .ref g0, .ref w0, .int 0, .int 0, .int 0, .int 0, .int 0, .int 0]))]) [0] rfl)) rfl rfl hl.1 rfl (lv_room (Nat.le_of_ble_eq_true rfl)) dX5_digest_19 ⟨Nat.le_of_ble_eq_true rfl, Nat.le_of_ble_eq_true rfl⟩) hS (fun _ _ h => h.elim) (fun _ h => h.elim) (fun _ _ h => h.elim) (fun E ce q9 _ t H1 locs1 ht hvm hpx hE _ hk9 hS9 hq9 hce hcl => ?_) (fun r378 _ t H locs ht hvm hwr378 _ _ hk9 hS => ?_)
  · exact absurd hE.2 (by decide)
  have hP := hP.kept (H1 := H) (fun k q hk => hk9 q.1 ((hP k q hk).lt) id)
  refine W.widen (k := 11) (n := 66) (Nat.le_of_ble_eq_true rfl) (Nat.le_of_ble_eq_true rfl) ?_
  have hP : va_P D vwCl [(h0, .inr (6, [.ref a0, .ref a1, .ref a2, .ref a3, .ref a4, .ref g0, .ref w0, .int 0, .int 0, .int 0, .int 0, .int 0, .int 0])), (g0, .inl (cA 9, 4, .inr (.inr (.inr (.inr (fun i => ([r0, r1, r2, r3] : List Nat)[i]?)))))), (w0, .inl (cA 0, 10, .inl fw)), (r0, .inl (cA 0, 10, .inl f0)), (r1, .inl (cA 0, 10, .inl f1)), (r2, .inl (cA 0, 10, .inl f2)), (r3, .inl (cA 0, 10, .inl f3))] H := hP
  have hD : va_D A [(h0, .inr (6, [.ref a0, .ref a1, .ref a2, .ref a3, .ref a4, .ref g0, .ref w0, .int 0, .int 0, .int 0, .int 0, .int 0, .int 0])), (g0, .inl (cA 9, 4, .inr (.inr (.inr (.inr (fun i => ([r0, r1, r2, r3] : List Nat)[i]?)))))), (w0, .inl (cA 0, 10, .inl fw)), (r0, .inl (cA 0, 10, .inl f0)), (r1, .inl (cA 0, 10, .inl f1)), (r2, .inl (cA 0, 10, .inl f2)), (r3, .inl (cA 0, 10, .inl f3))] := hD
  obtain ⟨rfl, _⟩ := hwr378
  refine lv_i2l (v := 0) hx hb dX5_digest_22 (by decide) ?_
  refine lv_ladd hx hb dX5_digest_23 ?_
  refine lv_topl (fun a379 ea379 => ?_)
  obtain rfl : a379 = 670841122631385637 := ea379.trans (by decide)
  refine lv_lstore_n (lv' := [(1, .long 670841122631385637), (3, .int 10), (0, .ref h0)]) hx hb dX5_digest_24 rfl hl (by decide) rfl (fun ls hl => ?_)
  refine lv_iinc (v := 11) (lv' := [(3, .int 11), (1, .long 670841122631385637), (0, .ref h0)]) hx hb dX5_digest_25 hl (k := 1) rfl (by decide) (by decide) rfl (fun ls hl => ?_)
  refine lv_goto (tgt := 6) hx hb dX5_digest_28 (by decide) ?_
  refine lv_iload_n hx hb dX5_digest_6 rfl (lv_at hl 0 rfl) ?_
  refine lv_bipush (v := 12) hx hb dX5_digest_7 (by decide) ?_
  refine lv_icmp_gt (tgt := 31) hx hb dX5_digest_9 (by decide) (fun c380 => absurd c380 (by decide)) (fun _ => ?_)
  refine lv_lload_n hx hb dX5_digest_12 rfl (lv_at hl 1 rfl) ?_
  refine lv_ldc2 (v := 31) hx hb hown (hts (.constantLong RX5 336 31) (by decide +kernel)) dX5_digest_13 ?_
  refine lv_lmul hx hb dX5_digest_16 ?_
  refine lv_topl (fun a381 ea381 => ?_)
  obtain rfl : a381 = 2349330727863403131 := ea381.trans (by decide)
  refine lv_aload_n hx hb dX5_digest_17 rfl (lv_at hl 2 rfl) ?_
  refine lv_iload_n hx hb dX5_digest_18 rfl (lv_at hl 0 rfl) ?_
  refine vx_calli (vx_runV (As := [.int 11]) (rest := [.long 2349330727863403131]) ⟨hx, hb, hml, hown, hts⟩ (t_X5_many l hl0 D cA z [(5, 0)] (fun k _ => if k = 5 then h0 else if k = 50 then a0 else if k = 51 then a1 else if k = 52 then a2 else if k = 53 then a3 else if k = 54 then a4 else if k = 55 then g0 else if k = 56 then w0 else 0) (fun _ _ => .inr (6, [.ref a0, .ref a1, .ref a2, .ref a3, .ref a4, .ref g0, .ref w0, .int 0, .int 0, .int 0, .int 0, .int 0, .int 0])) 11 List.mem_cons_self rfl) (cwV 1 hts gX5_digest_X5_many rfl rfl rfl (by decide +kernel) ⟨Nat.le_of_ble_eq_true rfl, Nat.le_of_ble_eq_true rfl⟩) (pcT_preVL hX hT (pcZ_kept hZ hAz hS) (Nat.le_trans hz hS.1) (va_recv hX.1 hP (ci := 6) (q0 := 0) rfl rfl) (hP.sub (ws' := [(h0, .inr (6, [.ref a0, .ref a1, .ref a2, .ref a3, .ref a4, .ref g0, .ref w0, .int 0, .int 0, .int 0, .int 0, .int 0, .int 0]))]) [0] rfl)) rfl rfl hl.1 rfl (lv_room (Nat.le_of_ble_eq_true rfl)) dX5_digest_19 ⟨Nat.le_of_ble_eq_true rfl, Nat.le_of_ble_eq_true rfl⟩) hS (fun _ _ h => h.elim) (fun _ h => h.elim) (fun _ _ h => h.elim) (fun E ce q9 _ t H1 locs1 ht hvm hpx hE _ hk9 hS9 hq9 hce hcl => ?_) (fun r382 _ t H locs ht hvm hwr382 _ _ hk9 hS => ?_)
  · exact absurd hE.2 (by decide)
  have hP := hP.kept (H1 := H) (fun k q hk => hk9 q.1 ((hP k q hk).lt) id)
  refine W.widen (k := 12) (n := 72) (Nat.le_of_ble_eq_true rfl) (Nat.le_of_ble_eq_true rfl) ?_
  have hP : va_P D vwCl [(h0, .inr (6, [.ref a0, .ref a1, .ref a2, .ref a3, .ref a4, .ref g0, .ref w0, .int 0, .int 0, .int 0, .int 0, .int 0, .int 0])), (g0, .inl (cA 9, 4, .inr (.inr (.inr (.inr (fun i => ([r0, r1, r2, r3] : List Nat)[i]?)))))), (w0, .inl (cA 0, 10, .inl fw)), (r0, .inl (cA 0, 10, .inl f0)), (r1, .inl (cA 0, 10, .inl f1)), (r2, .inl (cA 0, 10, .inl f2)), (r3, .inl (cA 0, 10, .inl f3))] H := hP
  have hD : va_D A [(h0, .inr (6, [.ref a0, .ref a1, .ref a2, .ref a3, .ref a4, .ref g0, .ref w0, .int 0, .int 0, .int 0, .int 0, .int 0, .int 0])), (g0, .inl (cA 9, 4, .inr (.inr (.inr (.inr (fun i => ([r0, r1, r2, r3] : List Nat)[i]?)))))), (w0, .inl (cA 0, 10, .inl fw)), (r0, .inl (cA 0, 10, .inl f0)), (r1, .inl (cA 0, 10, .inl f1)), (r2, .inl (cA 0, 10, .inl f2)), (r3, .inl (cA 0, 10, .inl f3))] := hD
  obtain ⟨rfl, _⟩ := hwr382
  refine lv_i2l (v := 0) hx hb dX5_digest_22 (by decide) ?_
  refine lv_ladd hx hb dX5_digest_23 ?_
  refine lv_topl (fun a383 ea383 => ?_)
  obtain rfl : a383 = 2349330727863403131 := ea383.trans (by decide)
  refine lv_lstore_n (lv' := [(1, .long 2349330727863403131), (3, .int 11), (0, .ref h0)]) hx hb dX5_digest_24 rfl hl (by decide) rfl (fun ls hl => ?_)
  refine lv_iinc (v := 12) (lv' := [(3, .int 12), (1, .long 2349330727863403131), (0, .ref h0)]) hx hb dX5_digest_25 hl (k := 1) rfl (by decide) (by decide) rfl (fun ls hl => ?_)
  refine lv_goto (tgt := 6) hx hb dX5_digest_28 (by decide) ?_
  refine lv_iload_n hx hb dX5_digest_6 rfl (lv_at hl 0 rfl) ?_
  refine lv_bipush (v := 12) hx hb dX5_digest_7 (by decide) ?_
  refine lv_icmp_gt (tgt := 31) hx hb dX5_digest_9 (by decide) (fun c384 => absurd c384 (by decide)) (fun _ => ?_)
  refine lv_lload_n hx hb dX5_digest_12 rfl (lv_at hl 1 rfl) ?_
  refine lv_ldc2 (v := 31) hx hb hown (hts (.constantLong RX5 336 31) (by decide +kernel)) dX5_digest_13 ?_
  refine lv_lmul hx hb dX5_digest_16 ?_
  refine lv_topl (fun a385 ea385 => ?_)
  obtain rfl : a385 = (-957723731072709403) := ea385.trans (by decide)
  refine lv_aload_n hx hb dX5_digest_17 rfl (lv_at hl 2 rfl) ?_
  refine lv_iload_n hx hb dX5_digest_18 rfl (lv_at hl 0 rfl) ?_
  refine vx_calli (vx_runV (As := [.int 12]) (rest := [.long (-957723731072709403)]) ⟨hx, hb, hml, hown, hts⟩ (t_X5_many l hl0 D cA z [(5, 0)] (fun k _ => if k = 5 then h0 else if k = 50 then a0 else if k = 51 then a1 else if k = 52 then a2 else if k = 53 then a3 else if k = 54 then a4 else if k = 55 then g0 else if k = 56 then w0 else 0) (fun _ _ => .inr (6, [.ref a0, .ref a1, .ref a2, .ref a3, .ref a4, .ref g0, .ref w0, .int 0, .int 0, .int 0, .int 0, .int 0, .int 0])) 12 List.mem_cons_self rfl) (cwV 1 hts gX5_digest_X5_many rfl rfl rfl (by decide +kernel) ⟨Nat.le_of_ble_eq_true rfl, Nat.le_of_ble_eq_true rfl⟩) (pcT_preVL hX hT (pcZ_kept hZ hAz hS) (Nat.le_trans hz hS.1) (va_recv hX.1 hP (ci := 6) (q0 := 0) rfl rfl) (hP.sub (ws' := [(h0, .inr (6, [.ref a0, .ref a1, .ref a2, .ref a3, .ref a4, .ref g0, .ref w0, .int 0, .int 0, .int 0, .int 0, .int 0, .int 0]))]) [0] rfl)) rfl rfl hl.1 rfl (lv_room (Nat.le_of_ble_eq_true rfl)) dX5_digest_19 ⟨Nat.le_of_ble_eq_true rfl, Nat.le_of_ble_eq_true rfl⟩) hS (fun _ _ h => h.elim) (fun _ h => h.elim) (fun _ _ h => h.elim) (fun E ce q9 _ t H1 locs1 ht hvm hpx hE _ hk9 hS9 hq9 hce hcl => ?_) (fun r386 _ t H locs ht hvm hwr386 _ _ hk9 hS => ?_)
  · exact absurd hE.2 (by decide)
  have hP := hP.kept (H1 := H) (fun k q hk => hk9 q.1 ((hP k q hk).lt) id)
  refine W.widen (k := 13) (n := 78) (Nat.le_of_ble_eq_true rfl) (Nat.le_of_ble_eq_true rfl) ?_
  have hP : va_P D vwCl [(h0, .inr (6, [.ref a0, .ref a1, .ref a2, .ref a3, .ref a4, .ref g0, .ref w0, .int 0, .int 0, .int 0, .int 0, .int 0, .int 0])), (g0, .inl (cA 9, 4, .inr (.inr (.inr (.inr (fun i => ([r0, r1, r2, r3] : List Nat)[i]?)))))), (w0, .inl (cA 0, 10, .inl fw)), (r0, .inl (cA 0, 10, .inl f0)), (r1, .inl (cA 0, 10, .inl f1)), (r2, .inl (cA 0, 10, .inl f2)), (r3, .inl (cA 0, 10, .inl f3))] H := hP
  have hD : va_D A [(h0, .inr (6, [.ref a0, .ref a1, .ref a2, .ref a3, .ref a4, .ref g0, .ref w0, .int 0, .int 0, .int 0, .int 0, .int 0, .int 0])), (g0, .inl (cA 9, 4, .inr (.inr (.inr (.inr (fun i => ([r0, r1, r2, r3] : List Nat)[i]?)))))), (w0, .inl (cA 0, 10, .inl fw)), (r0, .inl (cA 0, 10, .inl f0)), (r1, .inl (cA 0, 10, .inl f1)), (r2, .inl (cA 0, 10, .inl f2)), (r3, .inl (cA 0, 10, .inl f3))] := hD
  obtain ⟨rfl, _⟩ := hwr386
  refine lv_i2l (v := 0) hx hb dX5_digest_22 (by decide) ?_
  refine lv_ladd hx hb dX5_digest_23 ?_
  refine lv_topl (fun a387 ea387 => ?_)
  obtain rfl : a387 = (-957723731072709403) := ea387.trans (by decide)
  refine lv_lstore_n (lv' := [(1, .long (-957723731072709403)), (3, .int 12), (0, .ref h0)]) hx hb dX5_digest_24 rfl hl (by decide) rfl (fun ls hl => ?_)
  refine lv_iinc (v := 13) (lv' := [(3, .int 13), (1, .long (-957723731072709403)), (0, .ref h0)]) hx hb dX5_digest_25 hl (k := 1) rfl (by decide) (by decide) rfl (fun ls hl => ?_)
  refine lv_goto (tgt := 6) hx hb dX5_digest_28 (by decide) ?_
  refine lv_iload_n hx hb dX5_digest_6 rfl (lv_at hl 0 rfl) ?_
  refine lv_bipush (v := 12) hx hb dX5_digest_7 (by decide) ?_
  refine lv_icmp_gt (tgt := 31) hx hb dX5_digest_9 (by decide) (fun _ => ?_) (fun c388 => absurd (by decide) c388)
  refine lv_iconst (v := 0) hx hb dX5_digest_31 (by decide) ?_
  refine lv_istore_n (lv' := [(3, .int 0), (1, .long (-957723731072709403)), (0, .ref h0)]) hx hb dX5_digest_32 rfl hl (by decide) rfl (fun ls hl => ?_)
  refine lv_iload_n hx hb dX5_digest_33 rfl (lv_at hl 0 rfl) ?_
  refine lv_aload_n hx hb dX5_digest_34 rfl (lv_at hl 2 rfl) ?_
  refine va_get (D := D) (ci := 6) (v := .int 0) (C := RX5) (T := TX5) (N := 13) hx hb hts (by decide +kernel) hown hX.1 hP 0 rfl rfl 7 (by decide) (hts (.fieldLink RX5 48 "DraftsmanOffice" "sheetCount" "I") (by decide +kernel)) (fun _ h9 => h9) rfl dX5_digest_35 ?_
  refine lv_icmp_ge (tgt := 159) hx hb dX5_digest_38 (by decide) (fun _ => ?_) (fun c389 => absurd (by decide) c389)
  refine lv_iconst (v := 0) hx hb dX5_digest_159 (by decide) ?_
  refine lv_istore_n (lv' := [(3, .int 0), (1, .long (-957723731072709403)), (0, .ref h0)]) hx hb dX5_digest_160 rfl hl (by decide) rfl (fun ls hl => ?_)
  refine lv_iload_n hx hb dX5_digest_161 rfl (lv_at hl 0 rfl) ?_
  refine lv_aload_n hx hb dX5_digest_162 rfl (lv_at hl 2 rfl) ?_
  refine va_get (D := D) (ci := 6) (v := .int 0) (C := RX5) (T := TX5) (N := 13) hx hb hts (by decide +kernel) hown hX.1 hP 0 rfl rfl 10 (by decide) (hts (.fieldLink RX5 58 "DraftsmanOffice" "queryCount" "I") (by decide +kernel)) (fun _ h9 => h9) rfl dX5_digest_163 ?_
  refine lv_icmp_ge (tgt := 201) hx hb dX5_digest_166 (by decide) (fun _ => ?_) (fun c390 => absurd (by decide) c390)
  refine lv_iconst (v := 0) hx hb dX5_digest_201 (by decide) ?_
  refine lv_istore_n (lv' := [(3, .int 0), (1, .long (-957723731072709403)), (0, .ref h0)]) hx hb dX5_digest_202 rfl hl (by decide) rfl (fun ls hl => ?_)
  refine lv_iload_n hx hb dX5_digest_203 rfl (lv_at hl 0 rfl) ?_
  refine lv_iconst (v := 4) hx hb dX5_digest_204 (by decide) ?_
  refine lv_icmp_ge (tgt := 240) hx hb dX5_digest_205 (by decide) (fun c391 => absurd c391 (by decide)) (fun _ => ?_)
  refine lv_lload_n hx hb dX5_digest_208 rfl (lv_at hl 1 rfl) ?_
  refine lv_ldc2 (v := 31) hx hb hown (hts (.constantLong RX5 336 31) (by decide +kernel)) dX5_digest_209 ?_
  refine lv_lmul hx hb dX5_digest_212 ?_
  refine lv_topl (fun a392 ea392 => ?_)
  obtain rfl : a392 = 7204052484165111739 := ea392.trans (by decide)
  refine lv_aload_n hx hb dX5_digest_213 rfl (lv_at hl 2 rfl) ?_
  refine lv_iload_n hx hb dX5_digest_214 rfl (lv_at hl 0 rfl) ?_
  refine vx_calli (vx_runV (As := [.int 0]) (rest := [.long 7204052484165111739]) ⟨hx, hb, hml, hown, hts⟩ (t_X5_owes l hl0 D cA z [(5, 0)] (fun k _ => if k = 5 then h0 else if k = 50 then a0 else if k = 51 then a1 else if k = 52 then a2 else if k = 53 then a3 else if k = 54 then a4 else if k = 55 then g0 else if k = 56 then w0 else 0) (fun _ _ => .inr (6, [.ref a0, .ref a1, .ref a2, .ref a3, .ref a4, .ref g0, .ref w0, .int 0, .int 0, .int 0, .int 0, .int 0, .int 0])) 0 0 List.mem_cons_self rfl) (cwV 1 hts gX5_digest_X5_owes rfl rfl rfl (by decide +kernel) ⟨Nat.le_of_ble_eq_true rfl, Nat.le_of_ble_eq_true rfl⟩) (pcT_preVL hX hT (pcZ_kept hZ hAz hS) (Nat.le_trans hz hS.1) (va_recv hX.1 hP (ci := 6) (q0 := 0) rfl rfl) (hP.sub (ws' := [(h0, .inr (6, [.ref a0, .ref a1, .ref a2, .ref a3, .ref a4, .ref g0, .ref w0, .int 0, .int 0, .int 0, .int 0, .int 0, .int 0]))]) [0] rfl)) rfl rfl hl.1 rfl (lv_room (Nat.le_of_ble_eq_true rfl)) dX5_digest_215 ⟨Nat.le_of_ble_eq_true rfl, Nat.le_of_ble_eq_true rfl⟩) hS (fun _ _ h => h.elim) (fun _ h => h.elim) (fun _ _ h => h.elim) (fun E ce q9 _ t H1 locs1 ht hvm hpx hE _ hk9 hS9 hq9 hce hcl => ?_) (fun r393 _ t H locs ht hvm hwr393 _ _ hk9 hS => ?_)
  · exact absurd ⟨by decide, by decide⟩ hE.2
  have hP := hP.kept (H1 := H) (fun k q hk => hk9 q.1 ((hP k q hk).lt) id)
  refine W.widen (k := 14) (n := 84) (Nat.le_of_ble_eq_true rfl) (Nat.le_of_ble_eq_true rfl) ?_
  have hP : va_P D vwCl [(h0, .inr (6, [.ref a0, .ref a1, .ref a2, .ref a3, .ref a4, .ref g0, .ref w0, .int 0, .int 0, .int 0, .int 0, .int 0, .int 0])), (g0, .inl (cA 9, 4, .inr (.inr (.inr (.inr (fun i => ([r0, r1, r2, r3] : List Nat)[i]?)))))), (w0, .inl (cA 0, 10, .inl fw)), (r0, .inl (cA 0, 10, .inl f0)), (r1, .inl (cA 0, 10, .inl f1)), (r2, .inl (cA 0, 10, .inl f2)), (r3, .inl (cA 0, 10, .inl f3))] H := hP
  have hD : va_D A [(h0, .inr (6, [.ref a0, .ref a1, .ref a2, .ref a3, .ref a4, .ref g0, .ref w0, .int 0, .int 0, .int 0, .int 0, .int 0, .int 0])), (g0, .inl (cA 9, 4, .inr (.inr (.inr (.inr (fun i => ([r0, r1, r2, r3] : List Nat)[i]?)))))), (w0, .inl (cA 0, 10, .inl fw)), (r0, .inl (cA 0, 10, .inl f0)), (r1, .inl (cA 0, 10, .inl f1)), (r2, .inl (cA 0, 10, .inl f2)), (r3, .inl (cA 0, 10, .inl f3))] := hD
  obtain ⟨rfl, _⟩ := hwr393
  refine lv_i2l (v := 0) hx hb dX5_digest_218 (by decide) ?_
  refine lv_ladd hx hb dX5_digest_219 ?_
  refine lv_topl (fun a394 ea394 => ?_)
  obtain rfl : a394 = 7204052484165111739 := ea394.trans (by decide)
  refine lv_lstore_n (lv' := [(1, .long 7204052484165111739), (3, .int 0), (0, .ref h0)]) hx hb dX5_digest_220 rfl hl (by decide) rfl (fun ls hl => ?_)
  refine lv_lload_n hx hb dX5_digest_221 rfl (lv_at hl 0 rfl) ?_
  refine lv_ldc2 (v := 31) hx hb hown (hts (.constantLong RX5 336 31) (by decide +kernel)) dX5_digest_222 ?_
  refine lv_lmul hx hb dX5_digest_225 ?_
  refine lv_topl (fun a395 ea395 => ?_)
  obtain rfl : a395 = 1964698124603844517 := ea395.trans (by decide)
  refine lv_aload_n hx hb dX5_digest_226 rfl (lv_at hl 2 rfl) ?_
  refine lv_iload_n hx hb dX5_digest_227 rfl (lv_at hl 1 rfl) ?_
  have hPc := hP.sub (ws' := [(h0, .inr (6, [.ref a0, .ref a1, .ref a2, .ref a3, .ref a4, .ref g0, .ref w0, .int 0, .int 0, .int 0, .int 0, .int 0, .int 0])), (g0, .inl (cA 9, 4, .inr (.inr (.inr (.inr (fun i => ([r0, r1, r2, r3] : List Nat)[i]?)))))), (w0, .inl (cA 0, 10, .inl fw)), (r0, .inl (cA 0, 10, .inl f0)), (r1, .inl (cA 0, 10, .inl f1)), (r2, .inl (cA 0, 10, .inl f2)), (r3, .inl (cA 0, 10, .inl f3))]) [0, 1, 2, 3, 4, 5, 6] rfl
  have hDc := (hD.sub (ws' := [(h0, .inr (6, [.ref a0, .ref a1, .ref a2, .ref a3, .ref a4, .ref g0, .ref w0, .int 0, .int 0, .int 0, .int 0, .int 0, .int 0])), (g0, .inl (cA 9, 4, .inr (.inr (.inr (.inr (fun i => ([r0, r1, r2, r3] : List Nat)[i]?)))))), (w0, .inl (cA 0, 10, .inl fw)), (r0, .inl (cA 0, 10, .inl f0)), (r1, .inl (cA 0, 10, .inl f1)), (r2, .inl (cA 0, 10, .inl f2)), (r3, .inl (cA 0, 10, .inl f3))]) [0, 1, 2, 3, 4, 5, 6] (by decide) rfl).self (sz := H.size)
  have hFc := va_free (wc := [(h0, .inr (6, [.ref a0, .ref a1, .ref a2, .ref a3, .ref a4, .ref g0, .ref w0, .int 0, .int 0, .int 0, .int 0, .int 0, .int 0])), (g0, .inl (cA 9, 4, .inr (.inr (.inr (.inr (fun i => ([r0, r1, r2, r3] : List Nat)[i]?)))))), (w0, .inl (cA 0, 10, .inl fw)), (r0, .inl (cA 0, 10, .inl f0)), (r1, .inl (cA 0, 10, .inl f1)), (r2, .inl (cA 0, 10, .inl f2)), (r3, .inl (cA 0, 10, .inl f3))]) hD hS hA [0, 1, 2, 3, 4, 5, 6] rfl
  refine vx_calli (vx_runV (As := [.int 0]) (rest := [.long 1964698124603844517]) ⟨hx, hb, hml, hown, hts⟩ (t_X5_freedByAll l hl0 D cA z (va_A [(h0, .inr (6, [.ref a0, .ref a1, .ref a2, .ref a3, .ref a4, .ref g0, .ref w0, .int 0, .int 0, .int 0, .int 0, .int 0, .int 0])), (g0, .inl (cA 9, 4, .inr (.inr (.inr (.inr (fun i => ([r0, r1, r2, r3] : List Nat)[i]?)))))), (w0, .inl (cA 0, 10, .inl fw)), (r0, .inl (cA 0, 10, .inl f0)), (r1, .inl (cA 0, 10, .inl f1)), (r2, .inl (cA 0, 10, .inl f2)), (r3, .inl (cA 0, 10, .inl f3))] H.size) h0 a0 a1 a2 a3 a4 g0 w0 r0 r1 r2 r3 fw f0 f1 f2 f3 0) (cwV 1 hts gX5_digest_X5_freedByAll rfl rfl rfl (by decide +kernel) ⟨Nat.le_of_ble_eq_true rfl, Nat.le_of_ble_eq_true rfl⟩) (pcT_preVL hX hT (pcZ_kept hZ hAz hS) (Nat.le_trans hz hS.1) (va_recv hX.1 hPc (ci := 6) (q0 := 0) rfl rfl) ⟨hPc, hDc, fun q h => Or.inr h, fun q h => hAz q (hFc q h)⟩) rfl rfl hl.1 rfl (lv_room (Nat.le_of_ble_eq_true rfl)) dX5_digest_228 ⟨Nat.le_of_ble_eq_true rfl, Nat.le_of_ble_eq_true rfl⟩) hS (fun q _ h => hFc q h) hFc (fun _ _ h => h.elim) (fun E ce q9 _ t H1 locs1 ht hvm hpx hE _ hk9 hS9 hq9 hce hcl => ?_) (fun r397 u396 t H1 locs ht hvm hw hB hz1 hk1 hS => ?_)
  · exact absurd ⟨by decide, by decide⟩ hE.2
  obtain ⟨rfl, _⟩ := hw
  obtain ⟨f398, hP1, hD1⟩ := hB
  rw [ht] at hP1
  obtain ⟨hP, hD⟩ := va_join (wr := []) (w1 := [(h0, .inr (6, [.ref a0, .ref a1, .ref a2, .ref a3, .ref a4, .ref g0, .ref w0, .int 0, .int 0, .int 0, .int 0, .int 0, .int 0])), (g0, .inl (cA 9, 4, .inr (.inr (.inr (.inr (fun i => ([r0, r1, r2, r3] : List Nat)[i]?)))))), (w0, .inl (cA 0, 10, .inl f398)), (r0, .inl (cA 0, 10, .inl f0)), (r1, .inl (cA 0, 10, .inl f1)), (r2, .inl (cA 0, 10, .inl f2)), (r3, .inl (cA 0, 10, .inl f3))]) hP hD [0, 1, 2, 3, 4, 5, 6] [] rfl rfl (by decide) (by decide) hk1 hFc hP1 hD1
  generalize H1 = H at hP hS ⊢
  have hP : va_P D vwCl [(h0, .inr (6, [.ref a0, .ref a1, .ref a2, .ref a3, .ref a4, .ref g0, .ref w0, .int 0, .int 0, .int 0, .int 0, .int 0, .int 0])), (g0, .inl (cA 9, 4, .inr (.inr (.inr (.inr (fun i => ([r0, r1, r2, r3] : List Nat)[i]?)))))), (w0, .inl (cA 0, 10, .inl f398)), (r0, .inl (cA 0, 10, .inl f0)), (r1, .inl (cA 0, 10, .inl f1)), (r2, .inl (cA 0, 10, .inl f2)), (r3, .inl (cA 0, 10, .inl f3))] H := hP
  have hD : va_D A [(h0, .inr (6, [.ref a0, .ref a1, .ref a2, .ref a3, .ref a4, .ref g0, .ref w0, .int 0, .int 0, .int 0, .int 0, .int 0, .int 0])), (g0, .inl (cA 9, 4, .inr (.inr (.inr (.inr (fun i => ([r0, r1, r2, r3] : List Nat)[i]?)))))), (w0, .inl (cA 0, 10, .inl f398)), (r0, .inl (cA 0, 10, .inl f0)), (r1, .inl (cA 0, 10, .inl f1)), (r2, .inl (cA 0, 10, .inl f2)), (r3, .inl (cA 0, 10, .inl f3))] := hD
  refine W.widen (k := 15) (n := 90) (Nat.le_of_ble_eq_true rfl) (Nat.le_of_ble_eq_true rfl) ?_
  refine lv_i2l (v := 0) hx hb dX5_digest_231 (by decide) ?_
  refine lv_ladd hx hb dX5_digest_232 ?_
  refine lv_topl (fun a399 ea399 => ?_)
  obtain rfl : a399 = 1964698124603844517 := ea399.trans (by decide)
  refine lv_lstore_n (lv' := [(1, .long 1964698124603844517), (3, .int 0), (0, .ref h0)]) hx hb dX5_digest_233 rfl hl (by decide) rfl (fun ls hl => ?_)
  refine lv_iinc (v := 1) (lv' := [(3, .int 1), (1, .long 1964698124603844517), (0, .ref h0)]) hx hb dX5_digest_234 hl (k := 1) rfl (by decide) (by decide) rfl (fun ls hl => ?_)
  refine lv_goto (tgt := 203) hx hb dX5_digest_237 (by decide) ?_
  refine lv_iload_n hx hb dX5_digest_203 rfl (lv_at hl 0 rfl) ?_
  refine lv_iconst (v := 4) hx hb dX5_digest_204 (by decide) ?_
  refine lv_icmp_ge (tgt := 240) hx hb dX5_digest_205 (by decide) (fun c400 => absurd c400 (by decide)) (fun _ => ?_)
  refine lv_lload_n hx hb dX5_digest_208 rfl (lv_at hl 1 rfl) ?_
  refine lv_ldc2 (v := 31) hx hb hown (hts (.constantLong RX5 336 31) (by decide +kernel)) dX5_digest_209 ?_
  refine lv_lmul hx hb dX5_digest_212 ?_
  refine lv_topl (fun a401 ea401 => ?_)
  obtain rfl : a401 = 5565409641590525179 := ea401.trans (by decide)
  refine lv_aload_n hx hb dX5_digest_213 rfl (lv_at hl 2 rfl) ?_
  refine lv_iload_n hx hb dX5_digest_214 rfl (lv_at hl 0 rfl) ?_
  refine vx_calli (vx_runV (As := [.int 1]) (rest := [.long 5565409641590525179]) ⟨hx, hb, hml, hown, hts⟩ (t_X5_owes l hl0 D cA z [(5, 0)] (fun k _ => if k = 5 then h0 else if k = 50 then a0 else if k = 51 then a1 else if k = 52 then a2 else if k = 53 then a3 else if k = 54 then a4 else if k = 55 then g0 else if k = 56 then w0 else 0) (fun _ _ => .inr (6, [.ref a0, .ref a1, .ref a2, .ref a3, .ref a4, .ref g0, .ref w0, .int 0, .int 0, .int 0, .int 0, .int 0, .int 0])) 1 0 List.mem_cons_self rfl) (cwV 1 hts gX5_digest_X5_owes rfl rfl rfl (by decide +kernel) ⟨Nat.le_of_ble_eq_true rfl, Nat.le_of_ble_eq_true rfl⟩) (pcT_preVL hX hT (pcZ_kept hZ hAz hS) (Nat.le_trans hz hS.1) (va_recv hX.1 hP (ci := 6) (q0 := 0) rfl rfl) (hP.sub (ws' := [(h0, .inr (6, [.ref a0, .ref a1, .ref a2, .ref a3, .ref a4, .ref g0, .ref w0, .int 0, .int 0, .int 0, .int 0, .int 0, .int 0]))]) [0] rfl)) rfl rfl hl.1 rfl (lv_room (Nat.le_of_ble_eq_true rfl)) dX5_digest_215 ⟨Nat.le_of_ble_eq_true rfl, Nat.le_of_ble_eq_true rfl⟩) hS (fun _ _ h => h.elim) (fun _ h => h.elim) (fun _ _ h => h.elim) (fun E ce q9 _ t H1 locs1 ht hvm hpx hE _ hk9 hS9 hq9 hce hcl => ?_) (fun r402 _ t H locs ht hvm hwr402 _ _ hk9 hS => ?_)
  · exact absurd ⟨by decide, by decide⟩ hE.2
  have hP := hP.kept (H1 := H) (fun k q hk => hk9 q.1 ((hP k q hk).lt) id)
  refine W.widen (k := 16) (n := 96) (Nat.le_of_ble_eq_true rfl) (Nat.le_of_ble_eq_true rfl) ?_
  have hP : va_P D vwCl [(h0, .inr (6, [.ref a0, .ref a1, .ref a2, .ref a3, .ref a4, .ref g0, .ref w0, .int 0, .int 0, .int 0, .int 0, .int 0, .int 0])), (g0, .inl (cA 9, 4, .inr (.inr (.inr (.inr (fun i => ([r0, r1, r2, r3] : List Nat)[i]?)))))), (w0, .inl (cA 0, 10, .inl f398)), (r0, .inl (cA 0, 10, .inl f0)), (r1, .inl (cA 0, 10, .inl f1)), (r2, .inl (cA 0, 10, .inl f2)), (r3, .inl (cA 0, 10, .inl f3))] H := hP
  have hD : va_D A [(h0, .inr (6, [.ref a0, .ref a1, .ref a2, .ref a3, .ref a4, .ref g0, .ref w0, .int 0, .int 0, .int 0, .int 0, .int 0, .int 0])), (g0, .inl (cA 9, 4, .inr (.inr (.inr (.inr (fun i => ([r0, r1, r2, r3] : List Nat)[i]?)))))), (w0, .inl (cA 0, 10, .inl f398)), (r0, .inl (cA 0, 10, .inl f0)), (r1, .inl (cA 0, 10, .inl f1)), (r2, .inl (cA 0, 10, .inl f2)), (r3, .inl (cA 0, 10, .inl f3))] := hD
  obtain ⟨rfl, _⟩ := hwr402
  refine lv_i2l (v := 0) hx hb dX5_digest_218 (by decide) ?_
  refine lv_ladd hx hb dX5_digest_219 ?_
  refine lv_topl (fun a403 ea403 => ?_)
  obtain rfl : a403 = 5565409641590525179 := ea403.trans (by decide)
  refine lv_lstore_n (lv' := [(1, .long 5565409641590525179), (3, .int 1), (0, .ref h0)]) hx hb dX5_digest_220 rfl hl (by decide) rfl (fun ls hl => ?_)
  refine lv_lload_n hx hb dX5_digest_221 rfl (lv_at hl 0 rfl) ?_
  refine lv_ldc2 (v := 31) hx hb hown (hts (.constantLong RX5 336 31) (by decide +kernel)) dX5_digest_222 ?_
  refine lv_lmul hx hb dX5_digest_225 ?_
  refine lv_topl (fun a404 ea404 => ?_)
  obtain rfl : a404 = 6507002225920316005 := ea404.trans (by decide)
  refine lv_aload_n hx hb dX5_digest_226 rfl (lv_at hl 2 rfl) ?_
  refine lv_iload_n hx hb dX5_digest_227 rfl (lv_at hl 1 rfl) ?_
  have hPc := hP.sub (ws' := [(h0, .inr (6, [.ref a0, .ref a1, .ref a2, .ref a3, .ref a4, .ref g0, .ref w0, .int 0, .int 0, .int 0, .int 0, .int 0, .int 0])), (g0, .inl (cA 9, 4, .inr (.inr (.inr (.inr (fun i => ([r0, r1, r2, r3] : List Nat)[i]?)))))), (w0, .inl (cA 0, 10, .inl f398)), (r0, .inl (cA 0, 10, .inl f0)), (r1, .inl (cA 0, 10, .inl f1)), (r2, .inl (cA 0, 10, .inl f2)), (r3, .inl (cA 0, 10, .inl f3))]) [0, 1, 2, 3, 4, 5, 6] rfl
  have hDc := (hD.sub (ws' := [(h0, .inr (6, [.ref a0, .ref a1, .ref a2, .ref a3, .ref a4, .ref g0, .ref w0, .int 0, .int 0, .int 0, .int 0, .int 0, .int 0])), (g0, .inl (cA 9, 4, .inr (.inr (.inr (.inr (fun i => ([r0, r1, r2, r3] : List Nat)[i]?)))))), (w0, .inl (cA 0, 10, .inl f398)), (r0, .inl (cA 0, 10, .inl f0)), (r1, .inl (cA 0, 10, .inl f1)), (r2, .inl (cA 0, 10, .inl f2)), (r3, .inl (cA 0, 10, .inl f3))]) [0, 1, 2, 3, 4, 5, 6] (by decide) rfl).self (sz := H.size)
  have hFc := va_free (wc := [(h0, .inr (6, [.ref a0, .ref a1, .ref a2, .ref a3, .ref a4, .ref g0, .ref w0, .int 0, .int 0, .int 0, .int 0, .int 0, .int 0])), (g0, .inl (cA 9, 4, .inr (.inr (.inr (.inr (fun i => ([r0, r1, r2, r3] : List Nat)[i]?)))))), (w0, .inl (cA 0, 10, .inl f398)), (r0, .inl (cA 0, 10, .inl f0)), (r1, .inl (cA 0, 10, .inl f1)), (r2, .inl (cA 0, 10, .inl f2)), (r3, .inl (cA 0, 10, .inl f3))]) hD hS hA [0, 1, 2, 3, 4, 5, 6] rfl
  refine vx_calli (vx_runV (As := [.int 1]) (rest := [.long 6507002225920316005]) ⟨hx, hb, hml, hown, hts⟩ (t_X5_freedByAll l hl0 D cA z (va_A [(h0, .inr (6, [.ref a0, .ref a1, .ref a2, .ref a3, .ref a4, .ref g0, .ref w0, .int 0, .int 0, .int 0, .int 0, .int 0, .int 0])), (g0, .inl (cA 9, 4, .inr (.inr (.inr (.inr (fun i => ([r0, r1, r2, r3] : List Nat)[i]?)))))), (w0, .inl (cA 0, 10, .inl f398)), (r0, .inl (cA 0, 10, .inl f0)), (r1, .inl (cA 0, 10, .inl f1)), (r2, .inl (cA 0, 10, .inl f2)), (r3, .inl (cA 0, 10, .inl f3))] H.size) h0 a0 a1 a2 a3 a4 g0 w0 r0 r1 r2 r3 f398 f0 f1 f2 f3 1) (cwV 1 hts gX5_digest_X5_freedByAll rfl rfl rfl (by decide +kernel) ⟨Nat.le_of_ble_eq_true rfl, Nat.le_of_ble_eq_true rfl⟩) (pcT_preVL hX hT (pcZ_kept hZ hAz hS) (Nat.le_trans hz hS.1) (va_recv hX.1 hPc (ci := 6) (q0 := 0) rfl rfl) ⟨hPc, hDc, fun q h => Or.inr h, fun q h => hAz q (hFc q h)⟩) rfl rfl hl.1 rfl (lv_room (Nat.le_of_ble_eq_true rfl)) dX5_digest_228 ⟨Nat.le_of_ble_eq_true rfl, Nat.le_of_ble_eq_true rfl⟩) hS (fun q _ h => hFc q h) hFc (fun _ _ h => h.elim) (fun E ce q9 _ t H1 locs1 ht hvm hpx hE _ hk9 hS9 hq9 hce hcl => ?_) (fun r406 u405 t H1 locs ht hvm hw hB hz1 hk1 hS => ?_)
  · exact absurd ⟨by decide, by decide⟩ hE.2
  obtain ⟨rfl, _⟩ := hw
  obtain ⟨f407, hP1, hD1⟩ := hB
  rw [ht] at hP1
  obtain ⟨hP, hD⟩ := va_join (wr := []) (w1 := [(h0, .inr (6, [.ref a0, .ref a1, .ref a2, .ref a3, .ref a4, .ref g0, .ref w0, .int 0, .int 0, .int 0, .int 0, .int 0, .int 0])), (g0, .inl (cA 9, 4, .inr (.inr (.inr (.inr (fun i => ([r0, r1, r2, r3] : List Nat)[i]?)))))), (w0, .inl (cA 0, 10, .inl f407)), (r0, .inl (cA 0, 10, .inl f0)), (r1, .inl (cA 0, 10, .inl f1)), (r2, .inl (cA 0, 10, .inl f2)), (r3, .inl (cA 0, 10, .inl f3))]) hP hD [0, 1, 2, 3, 4, 5, 6] [] rfl rfl (by decide) (by decide) hk1 hFc hP1 hD1
  generalize H1 = H at hP hS ⊢
  have hP : va_P D vwCl [(h0, .inr (6, [.ref a0, .ref a1, .ref a2, .ref a3, .ref a4, .ref g0, .ref w0, .int 0, .int 0, .int 0, .int 0, .int 0, .int 0])), (g0, .inl (cA 9, 4, .inr (.inr (.inr (.inr (fun i => ([r0, r1, r2, r3] : List Nat)[i]?)))))), (w0, .inl (cA 0, 10, .inl f407)), (r0, .inl (cA 0, 10, .inl f0)), (r1, .inl (cA 0, 10, .inl f1)), (r2, .inl (cA 0, 10, .inl f2)), (r3, .inl (cA 0, 10, .inl f3))] H := hP
  have hD : va_D A [(h0, .inr (6, [.ref a0, .ref a1, .ref a2, .ref a3, .ref a4, .ref g0, .ref w0, .int 0, .int 0, .int 0, .int 0, .int 0, .int 0])), (g0, .inl (cA 9, 4, .inr (.inr (.inr (.inr (fun i => ([r0, r1, r2, r3] : List Nat)[i]?)))))), (w0, .inl (cA 0, 10, .inl f407)), (r0, .inl (cA 0, 10, .inl f0)), (r1, .inl (cA 0, 10, .inl f1)), (r2, .inl (cA 0, 10, .inl f2)), (r3, .inl (cA 0, 10, .inl f3))] := hD
  refine W.widen (k := 17) (n := 102) (Nat.le_of_ble_eq_true rfl) (Nat.le_of_ble_eq_true rfl) ?_
  refine lv_i2l (v := 0) hx hb dX5_digest_231 (by decide) ?_
  refine lv_ladd hx hb dX5_digest_232 ?_
  refine lv_topl (fun a408 ea408 => ?_)
  obtain rfl : a408 = 6507002225920316005 := ea408.trans (by decide)
  refine lv_lstore_n (lv' := [(1, .long 6507002225920316005), (3, .int 1), (0, .ref h0)]) hx hb dX5_digest_233 rfl hl (by decide) rfl (fun ls hl => ?_)
  refine lv_iinc (v := 2) (lv' := [(3, .int 2), (1, .long 6507002225920316005), (0, .ref h0)]) hx hb dX5_digest_234 hl (k := 1) rfl (by decide) (by decide) rfl (fun ls hl => ?_)
  refine lv_goto (tgt := 203) hx hb dX5_digest_237 (by decide) ?_
  refine lv_iload_n hx hb dX5_digest_203 rfl (lv_at hl 0 rfl) ?_
  refine lv_iconst (v := 4) hx hb dX5_digest_204 (by decide) ?_
  refine lv_icmp_ge (tgt := 240) hx hb dX5_digest_205 (by decide) (fun c409 => absurd c409 (by decide)) (fun _ => ?_)
  refine lv_lload_n hx hb dX5_digest_208 rfl (lv_at hl 1 rfl) ?_
  refine lv_ldc2 (v := 31) hx hb hown (hts (.constantLong RX5 336 31) (by decide +kernel)) dX5_digest_209 ?_
  refine lv_lmul hx hb dX5_digest_212 ?_
  refine lv_topl (fun a410 ea410 => ?_)
  obtain rfl : a410 = (-1197115807275271621) := ea410.trans (by decide)
  refine lv_aload_n hx hb dX5_digest_213 rfl (lv_at hl 2 rfl) ?_
  refine lv_iload_n hx hb dX5_digest_214 rfl (lv_at hl 0 rfl) ?_
  refine vx_calli (vx_runV (As := [.int 2]) (rest := [.long (-1197115807275271621)]) ⟨hx, hb, hml, hown, hts⟩ (t_X5_owes l hl0 D cA z [(5, 0)] (fun k _ => if k = 5 then h0 else if k = 50 then a0 else if k = 51 then a1 else if k = 52 then a2 else if k = 53 then a3 else if k = 54 then a4 else if k = 55 then g0 else if k = 56 then w0 else 0) (fun _ _ => .inr (6, [.ref a0, .ref a1, .ref a2, .ref a3, .ref a4, .ref g0, .ref w0, .int 0, .int 0, .int 0, .int 0, .int 0, .int 0])) 2 0 List.mem_cons_self rfl) (cwV 1 hts gX5_digest_X5_owes rfl rfl rfl (by decide +kernel) ⟨Nat.le_of_ble_eq_true rfl, Nat.le_of_ble_eq_true rfl⟩) (pcT_preVL hX hT (pcZ_kept hZ hAz hS) (Nat.le_trans hz hS.1) (va_recv hX.1 hP (ci := 6) (q0 := 0) rfl rfl) (hP.sub (ws' := [(h0, .inr (6, [.ref a0, .ref a1, .ref a2, .ref a3, .ref a4, .ref g0, .ref w0, .int 0, .int 0, .int 0, .int 0, .int 0, .int 0]))]) [0] rfl)) rfl rfl hl.1 rfl (lv_room (Nat.le_of_ble_eq_true rfl)) dX5_digest_215 ⟨Nat.le_of_ble_eq_true rfl, Nat.le_of_ble_eq_true rfl⟩) hS (fun _ _ h => h.elim) (fun _ h => h.elim) (fun _ _ h => h.elim) (fun E ce q9 _ t H1 locs1 ht hvm hpx hE _ hk9 hS9 hq9 hce hcl => ?_) (fun r411 _ t H locs ht hvm hwr411 _ _ hk9 hS => ?_)
  · exact absurd ⟨by decide, by decide⟩ hE.2
  have hP := hP.kept (H1 := H) (fun k q hk => hk9 q.1 ((hP k q hk).lt) id)
  refine W.widen (k := 18) (n := 108) (Nat.le_of_ble_eq_true rfl) (Nat.le_of_ble_eq_true rfl) ?_
  have hP : va_P D vwCl [(h0, .inr (6, [.ref a0, .ref a1, .ref a2, .ref a3, .ref a4, .ref g0, .ref w0, .int 0, .int 0, .int 0, .int 0, .int 0, .int 0])), (g0, .inl (cA 9, 4, .inr (.inr (.inr (.inr (fun i => ([r0, r1, r2, r3] : List Nat)[i]?)))))), (w0, .inl (cA 0, 10, .inl f407)), (r0, .inl (cA 0, 10, .inl f0)), (r1, .inl (cA 0, 10, .inl f1)), (r2, .inl (cA 0, 10, .inl f2)), (r3, .inl (cA 0, 10, .inl f3))] H := hP
  have hD : va_D A [(h0, .inr (6, [.ref a0, .ref a1, .ref a2, .ref a3, .ref a4, .ref g0, .ref w0, .int 0, .int 0, .int 0, .int 0, .int 0, .int 0])), (g0, .inl (cA 9, 4, .inr (.inr (.inr (.inr (fun i => ([r0, r1, r2, r3] : List Nat)[i]?)))))), (w0, .inl (cA 0, 10, .inl f407)), (r0, .inl (cA 0, 10, .inl f0)), (r1, .inl (cA 0, 10, .inl f1)), (r2, .inl (cA 0, 10, .inl f2)), (r3, .inl (cA 0, 10, .inl f3))] := hD
  obtain ⟨rfl, _⟩ := hwr411
  refine lv_i2l (v := 0) hx hb dX5_digest_218 (by decide) ?_
  refine lv_ladd hx hb dX5_digest_219 ?_
  refine lv_topl (fun a412 ea412 => ?_)
  obtain rfl : a412 = (-1197115807275271621) := ea412.trans (by decide)
  refine lv_lstore_n (lv' := [(1, .long (-1197115807275271621)), (3, .int 2), (0, .ref h0)]) hx hb dX5_digest_220 rfl hl (by decide) rfl (fun ls hl => ?_)
  refine lv_lload_n hx hb dX5_digest_221 rfl (lv_at hl 0 rfl) ?_
  refine lv_ldc2 (v := 31) hx hb hown (hts (.constantLong RX5 336 31) (by decide +kernel)) dX5_digest_222 ?_
  refine lv_lmul hx hb dX5_digest_225 ?_
  refine lv_topl (fun a413 ea413 => ?_)
  obtain rfl : a413 = (-217101878114317019) := ea413.trans (by decide)
  refine lv_aload_n hx hb dX5_digest_226 rfl (lv_at hl 2 rfl) ?_
  refine lv_iload_n hx hb dX5_digest_227 rfl (lv_at hl 1 rfl) ?_
  have hPc := hP.sub (ws' := [(h0, .inr (6, [.ref a0, .ref a1, .ref a2, .ref a3, .ref a4, .ref g0, .ref w0, .int 0, .int 0, .int 0, .int 0, .int 0, .int 0])), (g0, .inl (cA 9, 4, .inr (.inr (.inr (.inr (fun i => ([r0, r1, r2, r3] : List Nat)[i]?)))))), (w0, .inl (cA 0, 10, .inl f407)), (r0, .inl (cA 0, 10, .inl f0)), (r1, .inl (cA 0, 10, .inl f1)), (r2, .inl (cA 0, 10, .inl f2)), (r3, .inl (cA 0, 10, .inl f3))]) [0, 1, 2, 3, 4, 5, 6] rfl
  have hDc := (hD.sub (ws' := [(h0, .inr (6, [.ref a0, .ref a1, .ref a2, .ref a3, .ref a4, .ref g0, .ref w0, .int 0, .int 0, .int 0, .int 0, .int 0, .int 0])), (g0, .inl (cA 9, 4, .inr (.inr (.inr (.inr (fun i => ([r0, r1, r2, r3] : List Nat)[i]?)))))), (w0, .inl (cA 0, 10, .inl f407)), (r0, .inl (cA 0, 10, .inl f0)), (r1, .inl (cA 0, 10, .inl f1)), (r2, .inl (cA 0, 10, .inl f2)), (r3, .inl (cA 0, 10, .inl f3))]) [0, 1, 2, 3, 4, 5, 6] (by decide) rfl).self (sz := H.size)
  have hFc := va_free (wc := [(h0, .inr (6, [.ref a0, .ref a1, .ref a2, .ref a3, .ref a4, .ref g0, .ref w0, .int 0, .int 0, .int 0, .int 0, .int 0, .int 0])), (g0, .inl (cA 9, 4, .inr (.inr (.inr (.inr (fun i => ([r0, r1, r2, r3] : List Nat)[i]?)))))), (w0, .inl (cA 0, 10, .inl f407)), (r0, .inl (cA 0, 10, .inl f0)), (r1, .inl (cA 0, 10, .inl f1)), (r2, .inl (cA 0, 10, .inl f2)), (r3, .inl (cA 0, 10, .inl f3))]) hD hS hA [0, 1, 2, 3, 4, 5, 6] rfl
  refine vx_calli (vx_runV (As := [.int 2]) (rest := [.long (-217101878114317019)]) ⟨hx, hb, hml, hown, hts⟩ (t_X5_freedByAll l hl0 D cA z (va_A [(h0, .inr (6, [.ref a0, .ref a1, .ref a2, .ref a3, .ref a4, .ref g0, .ref w0, .int 0, .int 0, .int 0, .int 0, .int 0, .int 0])), (g0, .inl (cA 9, 4, .inr (.inr (.inr (.inr (fun i => ([r0, r1, r2, r3] : List Nat)[i]?)))))), (w0, .inl (cA 0, 10, .inl f407)), (r0, .inl (cA 0, 10, .inl f0)), (r1, .inl (cA 0, 10, .inl f1)), (r2, .inl (cA 0, 10, .inl f2)), (r3, .inl (cA 0, 10, .inl f3))] H.size) h0 a0 a1 a2 a3 a4 g0 w0 r0 r1 r2 r3 f407 f0 f1 f2 f3 2) (cwV 1 hts gX5_digest_X5_freedByAll rfl rfl rfl (by decide +kernel) ⟨Nat.le_of_ble_eq_true rfl, Nat.le_of_ble_eq_true rfl⟩) (pcT_preVL hX hT (pcZ_kept hZ hAz hS) (Nat.le_trans hz hS.1) (va_recv hX.1 hPc (ci := 6) (q0 := 0) rfl rfl) ⟨hPc, hDc, fun q h => Or.inr h, fun q h => hAz q (hFc q h)⟩) rfl rfl hl.1 rfl (lv_room (Nat.le_of_ble_eq_true rfl)) dX5_digest_228 ⟨Nat.le_of_ble_eq_true rfl, Nat.le_of_ble_eq_true rfl⟩) hS (fun q _ h => hFc q h) hFc (fun _ _ h => h.elim) (fun E ce q9 _ t H1 locs1 ht hvm hpx hE _ hk9 hS9 hq9 hce hcl => ?_) (fun r415 u414 t H1 locs ht hvm hw hB hz1 hk1 hS => ?_)
  · exact absurd ⟨by decide, by decide⟩ hE.2
  obtain ⟨rfl, _⟩ := hw
  obtain ⟨f416, hP1, hD1⟩ := hB
  rw [ht] at hP1
  obtain ⟨hP, hD⟩ := va_join (wr := []) (w1 := [(h0, .inr (6, [.ref a0, .ref a1, .ref a2, .ref a3, .ref a4, .ref g0, .ref w0, .int 0, .int 0, .int 0, .int 0, .int 0, .int 0])), (g0, .inl (cA 9, 4, .inr (.inr (.inr (.inr (fun i => ([r0, r1, r2, r3] : List Nat)[i]?)))))), (w0, .inl (cA 0, 10, .inl f416)), (r0, .inl (cA 0, 10, .inl f0)), (r1, .inl (cA 0, 10, .inl f1)), (r2, .inl (cA 0, 10, .inl f2)), (r3, .inl (cA 0, 10, .inl f3))]) hP hD [0, 1, 2, 3, 4, 5, 6] [] rfl rfl (by decide) (by decide) hk1 hFc hP1 hD1
  generalize H1 = H at hP hS ⊢
  have hP : va_P D vwCl [(h0, .inr (6, [.ref a0, .ref a1, .ref a2, .ref a3, .ref a4, .ref g0, .ref w0, .int 0, .int 0, .int 0, .int 0, .int 0, .int 0])), (g0, .inl (cA 9, 4, .inr (.inr (.inr (.inr (fun i => ([r0, r1, r2, r3] : List Nat)[i]?)))))), (w0, .inl (cA 0, 10, .inl f416)), (r0, .inl (cA 0, 10, .inl f0)), (r1, .inl (cA 0, 10, .inl f1)), (r2, .inl (cA 0, 10, .inl f2)), (r3, .inl (cA 0, 10, .inl f3))] H := hP
  have hD : va_D A [(h0, .inr (6, [.ref a0, .ref a1, .ref a2, .ref a3, .ref a4, .ref g0, .ref w0, .int 0, .int 0, .int 0, .int 0, .int 0, .int 0])), (g0, .inl (cA 9, 4, .inr (.inr (.inr (.inr (fun i => ([r0, r1, r2, r3] : List Nat)[i]?)))))), (w0, .inl (cA 0, 10, .inl f416)), (r0, .inl (cA 0, 10, .inl f0)), (r1, .inl (cA 0, 10, .inl f1)), (r2, .inl (cA 0, 10, .inl f2)), (r3, .inl (cA 0, 10, .inl f3))] := hD
  refine W.widen (k := 19) (n := 114) (Nat.le_of_ble_eq_true rfl) (Nat.le_of_ble_eq_true rfl) ?_
  refine lv_i2l (v := 0) hx hb dX5_digest_231 (by decide) ?_
  refine lv_ladd hx hb dX5_digest_232 ?_
  refine lv_topl (fun a417 ea417 => ?_)
  obtain rfl : a417 = (-217101878114317019) := ea417.trans (by decide)
  refine lv_lstore_n (lv' := [(1, .long (-217101878114317019)), (3, .int 2), (0, .ref h0)]) hx hb dX5_digest_233 rfl hl (by decide) rfl (fun ls hl => ?_)
  refine lv_iinc (v := 3) (lv' := [(3, .int 3), (1, .long (-217101878114317019)), (0, .ref h0)]) hx hb dX5_digest_234 hl (k := 1) rfl (by decide) (by decide) rfl (fun ls hl => ?_)
  refine lv_goto (tgt := 203) hx hb dX5_digest_237 (by decide) ?_
  refine lv_iload_n hx hb dX5_digest_203 rfl (lv_at hl 0 rfl) ?_
  refine lv_iconst (v := 4) hx hb dX5_digest_204 (by decide) ?_
  refine lv_icmp_ge (tgt := 240) hx hb dX5_digest_205 (by decide) (fun c418 => absurd c418 (by decide)) (fun _ => ?_)
  refine lv_lload_n hx hb dX5_digest_208 rfl (lv_at hl 1 rfl) ?_
  refine lv_ldc2 (v := 31) hx hb hown (hts (.constantLong RX5 336 31) (by decide +kernel)) dX5_digest_209 ?_
  refine lv_lmul hx hb dX5_digest_212 ?_
  refine lv_topl (fun a419 ea419 => ?_)
  obtain rfl : a419 = (-6730158221543827589) := ea419.trans (by decide)
  refine lv_aload_n hx hb dX5_digest_213 rfl (lv_at hl 2 rfl) ?_
  refine lv_iload_n hx hb dX5_digest_214 rfl (lv_at hl 0 rfl) ?_
  refine vx_calli (vx_runV (As := [.int 3]) (rest := [.long (-6730158221543827589)]) ⟨hx, hb, hml, hown, hts⟩ (t_X5_owes l hl0 D cA z [(5, 0)] (fun k _ => if k = 5 then h0 else if k = 50 then a0 else if k = 51 then a1 else if k = 52 then a2 else if k = 53 then a3 else if k = 54 then a4 else if k = 55 then g0 else if k = 56 then w0 else 0) (fun _ _ => .inr (6, [.ref a0, .ref a1, .ref a2, .ref a3, .ref a4, .ref g0, .ref w0, .int 0, .int 0, .int 0, .int 0, .int 0, .int 0])) 3 0 List.mem_cons_self rfl) (cwV 1 hts gX5_digest_X5_owes rfl rfl rfl (by decide +kernel) ⟨Nat.le_of_ble_eq_true rfl, Nat.le_of_ble_eq_true rfl⟩) (pcT_preVL hX hT (pcZ_kept hZ hAz hS) (Nat.le_trans hz hS.1) (va_recv hX.1 hP (ci := 6) (q0 := 0) rfl rfl) (hP.sub (ws' := [(h0, .inr (6, [.ref a0, .ref a1, .ref a2, .ref a3, .ref a4, .ref g0, .ref w0, .int 0, .int 0, .int 0, .int 0, .int 0, .int 0]))]) [0] rfl)) rfl rfl hl.1 rfl (lv_room (Nat.le_of_ble_eq_true rfl)) dX5_digest_215 ⟨Nat.le_of_ble_eq_true rfl, Nat.le_of_ble_eq_true rfl⟩) hS (fun _ _ h => h.elim) (fun _ h => h.elim) (fun _ _ h => h.elim) (fun E ce q9 _ t H1 locs1 ht hvm hpx hE _ hk9 hS9 hq9 hce hcl => ?_) (fun r420 _ t H locs ht hvm hwr420 _ _ hk9 hS => ?_)
  · exact absurd ⟨by decide, by decide⟩ hE.2
  have hP := hP.kept (H1 := H) (fun k q hk => hk9 q.1 ((hP k q hk).lt) id)
  refine W.widen (k := 20) (n := 120) (Nat.le_of_ble_eq_true rfl) (Nat.le_of_ble_eq_true rfl) ?_
  have hP : va_P D vwCl [(h0, .inr (6, [.ref a0, .ref a1, .ref a2, .ref a3, .ref a4, .ref g0, .ref w0, .int 0, .int 0, .int 0, .int 0, .int 0, .int 0])), (g0, .inl (cA 9, 4, .inr (.inr (.inr (.inr (fun i => ([r0, r1, r2, r3] : List Nat)[i]?)))))), (w0, .inl (cA 0, 10, .inl f416)), (r0, .inl (cA 0, 10, .inl f0)), (r1, .inl (cA 0, 10, .inl f1)), (r2, .inl (cA 0, 10, .inl f2)), (r3, .inl (cA 0, 10, .inl f3))] H := hP
  have hD : va_D A [(h0, .inr (6, [.ref a0, .ref a1, .ref a2, .ref a3, .ref a4, .ref g0, .ref w0, .int 0, .int 0, .int 0, .int 0, .int 0, .int 0])), (g0, .inl (cA 9, 4, .inr (.inr (.inr (.inr (fun i => ([r0, r1, r2, r3] : List Nat)[i]?)))))), (w0, .inl (cA 0, 10, .inl f416)), (r0, .inl (cA 0, 10, .inl f0)), (r1, .inl (cA 0, 10, .inl f1)), (r2, .inl (cA 0, 10, .inl f2)), (r3, .inl (cA 0, 10, .inl f3))] := hD
  obtain ⟨rfl, _⟩ := hwr420
  refine lv_i2l (v := 0) hx hb dX5_digest_218 (by decide) ?_
  refine lv_ladd hx hb dX5_digest_219 ?_
  refine lv_topl (fun a421 ea421 => ?_)
  obtain rfl : a421 = (-6730158221543827589) := ea421.trans (by decide)
  refine lv_lstore_n (lv' := [(1, .long (-6730158221543827589)), (3, .int 3), (0, .ref h0)]) hx hb dX5_digest_220 rfl hl (by decide) rfl (fun ls hl => ?_)
  refine lv_lload_n hx hb dX5_digest_221 rfl (lv_at hl 0 rfl) ?_
  refine lv_ldc2 (v := 31) hx hb hown (hts (.constantLong RX5 336 31) (by decide +kernel)) dX5_digest_222 ?_
  refine lv_lmul hx hb dX5_digest_225 ?_
  refine lv_topl (fun a422 ea422 => ?_)
  obtain rfl : a422 = (-5720720057053587483) := ea422.trans (by decide)
  refine lv_aload_n hx hb dX5_digest_226 rfl (lv_at hl 2 rfl) ?_
  refine lv_iload_n hx hb dX5_digest_227 rfl (lv_at hl 1 rfl) ?_
  have hPc := hP.sub (ws' := [(h0, .inr (6, [.ref a0, .ref a1, .ref a2, .ref a3, .ref a4, .ref g0, .ref w0, .int 0, .int 0, .int 0, .int 0, .int 0, .int 0])), (g0, .inl (cA 9, 4, .inr (.inr (.inr (.inr (fun i => ([r0, r1, r2, r3] : List Nat)[i]?)))))), (w0, .inl (cA 0, 10, .inl f416)), (r0, .inl (cA 0, 10, .inl f0)), (r1, .inl (cA 0, 10, .inl f1)), (r2, .inl (cA 0, 10, .inl f2)), (r3, .inl (cA 0, 10, .inl f3))]) [0, 1, 2, 3, 4, 5, 6] rfl
  have hDc := (hD.sub (ws' := [(h0, .inr (6, [.ref a0, .ref a1, .ref a2, .ref a3, .ref a4, .ref g0, .ref w0, .int 0, .int 0, .int 0, .int 0, .int 0, .int 0])), (g0, .inl (cA 9, 4, .inr (.inr (.inr (.inr (fun i => ([r0, r1, r2, r3] : List Nat)[i]?)))))), (w0, .inl (cA 0, 10, .inl f416)), (r0, .inl (cA 0, 10, .inl f0)), (r1, .inl (cA 0, 10, .inl f1)), (r2, .inl (cA 0, 10, .inl f2)), (r3, .inl (cA 0, 10, .inl f3))]) [0, 1, 2, 3, 4, 5, 6] (by decide) rfl).self (sz := H.size)
  have hFc := va_free (wc := [(h0, .inr (6, [.ref a0, .ref a1, .ref a2, .ref a3, .ref a4, .ref g0, .ref w0, .int 0, .int 0, .int 0, .int 0, .int 0, .int 0])), (g0, .inl (cA 9, 4, .inr (.inr (.inr (.inr (fun i => ([r0, r1, r2, r3] : List Nat)[i]?)))))), (w0, .inl (cA 0, 10, .inl f416)), (r0, .inl (cA 0, 10, .inl f0)), (r1, .inl (cA 0, 10, .inl f1)), (r2, .inl (cA 0, 10, .inl f2)), (r3, .inl (cA 0, 10, .inl f3))]) hD hS hA [0, 1, 2, 3, 4, 5, 6] rfl
  refine vx_calli (vx_runV (As := [.int 3]) (rest := [.long (-5720720057053587483)]) ⟨hx, hb, hml, hown, hts⟩ (t_X5_freedByAll l hl0 D cA z (va_A [(h0, .inr (6, [.ref a0, .ref a1, .ref a2, .ref a3, .ref a4, .ref g0, .ref w0, .int 0, .int 0, .int 0, .int 0, .int 0, .int 0])), (g0, .inl (cA 9, 4, .inr (.inr (.inr (.inr (fun i => ([r0, r1, r2, r3] : List Nat)[i]?)))))), (w0, .inl (cA 0, 10, .inl f416)), (r0, .inl (cA 0, 10, .inl f0)), (r1, .inl (cA 0, 10, .inl f1)), (r2, .inl (cA 0, 10, .inl f2)), (r3, .inl (cA 0, 10, .inl f3))] H.size) h0 a0 a1 a2 a3 a4 g0 w0 r0 r1 r2 r3 f416 f0 f1 f2 f3 3) (cwV 1 hts gX5_digest_X5_freedByAll rfl rfl rfl (by decide +kernel) ⟨Nat.le_of_ble_eq_true rfl, Nat.le_of_ble_eq_true rfl⟩) (pcT_preVL hX hT (pcZ_kept hZ hAz hS) (Nat.le_trans hz hS.1) (va_recv hX.1 hPc (ci := 6) (q0 := 0) rfl rfl) ⟨hPc, hDc, fun q h => Or.inr h, fun q h => hAz q (hFc q h)⟩) rfl rfl hl.1 rfl (lv_room (Nat.le_of_ble_eq_true rfl)) dX5_digest_228 ⟨Nat.le_of_ble_eq_true rfl, Nat.le_of_ble_eq_true rfl⟩) hS (fun q _ h => hFc q h) hFc (fun _ _ h => h.elim) (fun E ce q9 _ t H1 locs1 ht hvm hpx hE _ hk9 hS9 hq9 hce hcl => ?_) (fun r424 u423 t H1 locs ht hvm hw hB hz1 hk1 hS => ?_)
  · exact absurd ⟨by decide, by decide⟩ hE.2
  obtain ⟨rfl, _⟩ := hw
  obtain ⟨f425, hP1, hD1⟩ := hB
  rw [ht] at hP1
  obtain ⟨hP, hD⟩ := va_join (wr := []) (w1 := [(h0, .inr (6, [.ref a0, .ref a1, .ref a2, .ref a3, .ref a4, .ref g0, .ref w0, .int 0, .int 0, .int 0, .int 0, .int 0, .int 0])), (g0, .inl (cA 9, 4, .inr (.inr (.inr (.inr (fun i => ([r0, r1, r2, r3] : List Nat)[i]?)))))), (w0, .inl (cA 0, 10, .inl f425)), (r0, .inl (cA 0, 10, .inl f0)), (r1, .inl (cA 0, 10, .inl f1)), (r2, .inl (cA 0, 10, .inl f2)), (r3, .inl (cA 0, 10, .inl f3))]) hP hD [0, 1, 2, 3, 4, 5, 6] [] rfl rfl (by decide) (by decide) hk1 hFc hP1 hD1
  generalize H1 = H at hP hS ⊢
  have hP : va_P D vwCl [(h0, .inr (6, [.ref a0, .ref a1, .ref a2, .ref a3, .ref a4, .ref g0, .ref w0, .int 0, .int 0, .int 0, .int 0, .int 0, .int 0])), (g0, .inl (cA 9, 4, .inr (.inr (.inr (.inr (fun i => ([r0, r1, r2, r3] : List Nat)[i]?)))))), (w0, .inl (cA 0, 10, .inl f425)), (r0, .inl (cA 0, 10, .inl f0)), (r1, .inl (cA 0, 10, .inl f1)), (r2, .inl (cA 0, 10, .inl f2)), (r3, .inl (cA 0, 10, .inl f3))] H := hP
  have hD : va_D A [(h0, .inr (6, [.ref a0, .ref a1, .ref a2, .ref a3, .ref a4, .ref g0, .ref w0, .int 0, .int 0, .int 0, .int 0, .int 0, .int 0])), (g0, .inl (cA 9, 4, .inr (.inr (.inr (.inr (fun i => ([r0, r1, r2, r3] : List Nat)[i]?)))))), (w0, .inl (cA 0, 10, .inl f425)), (r0, .inl (cA 0, 10, .inl f0)), (r1, .inl (cA 0, 10, .inl f1)), (r2, .inl (cA 0, 10, .inl f2)), (r3, .inl (cA 0, 10, .inl f3))] := hD
  refine W.widen (k := 21) (n := 126) (Nat.le_of_ble_eq_true rfl) (Nat.le_of_ble_eq_true rfl) ?_
  refine lv_i2l (v := 0) hx hb dX5_digest_231 (by decide) ?_
  refine lv_ladd hx hb dX5_digest_232 ?_
  refine lv_topl (fun a426 ea426 => ?_)
  obtain rfl : a426 = (-5720720057053587483) := ea426.trans (by decide)
  refine lv_lstore_n (lv' := [(1, .long (-5720720057053587483)), (3, .int 3), (0, .ref h0)]) hx hb dX5_digest_233 rfl hl (by decide) rfl (fun ls hl => ?_)
  refine lv_iinc (v := 4) (lv' := [(3, .int 4), (1, .long (-5720720057053587483)), (0, .ref h0)]) hx hb dX5_digest_234 hl (k := 1) rfl (by decide) (by decide) rfl (fun ls hl => ?_)
  refine lv_goto (tgt := 203) hx hb dX5_digest_237 (by decide) ?_
  refine lv_iload_n hx hb dX5_digest_203 rfl (lv_at hl 0 rfl) ?_
  refine lv_iconst (v := 4) hx hb dX5_digest_204 (by decide) ?_
  refine lv_icmp_ge (tgt := 240) hx hb dX5_digest_205 (by decide) (fun _ => ?_) (fun c427 => absurd (by decide) c427)
  refine lv_iconst (v := 0) hx hb dX5_digest_240 (by decide) ?_
  refine lv_istore_n (lv' := [(3, .int 0), (1, .long (-5720720057053587483)), (0, .ref h0)]) hx hb dX5_digest_241 rfl hl (by decide) rfl (fun ls hl => ?_)
  refine lv_iload_n hx hb dX5_digest_242 rfl (lv_at hl 0 rfl) ?_
  refine lv_aload_n hx hb dX5_digest_243 rfl (lv_at hl 2 rfl) ?_
  refine va_get (D := D) (ci := 6) (v := .int 0) (C := RX5) (T := TX5) (N := 13) hx hb hts (by decide +kernel) hown hX.1 hP 0 rfl rfl 11 (by decide) (hts (.fieldLink RX5 61 "DraftsmanOffice" "packageCount" "I") (by decide +kernel)) (fun _ h9 => h9) rfl dX5_digest_244 ?_
  refine lv_icmp_ge (tgt := 287) hx hb dX5_digest_247 (by decide) (fun _ => ?_) (fun c428 => absurd (by decide) c428)
  refine lv_lload_n hx hb dX5_digest_287 rfl (lv_at hl 1 rfl) ?_
  have hP9 := hP.sub (ws' := []) [] rfl
  have hD9 := hD.sub (ws' := []) [] (by decide) rfl
  refine W.widen (k := 21) (n := 126) (Nat.le_of_ble_eq_true rfl) (Nat.le_of_ble_eq_true rfl) ?_
  exact W.lret (v := (-5720720057053587483)) hx hb hr (fun t ht hW9 => ⟨⟨(-5720720057053587483), (), rfl, rfl, trivial⟩, hS.F ht⟩) hS.2.2 dX5_digest_288

set_option maxHeartbeats 4000000 in
set_option maxRecDepth 100000 in
theorem l_X5_day (l : Launch) (D : va_G) (cA : Nat → ClassId) (A : Nat → Prop) (h0 a0 a1 a2 a3 a4 g0 w0 : Nat)  : Met l yX5_day wsX5_day ({ frames := 2, cells := 0, slots := 0, locals := 45 }) (pcPre D vwCl (tyL cA) [.ref h0] (fun H => va_P D vwCl [(h0, .inr (6, [.ref a0, .ref a1, .ref a2, .ref a3, .ref a4, .ref g0, .ref w0, .int 0, .int 0, .int 0, .int 0, .int 0, .int 0]))] H ∧ va_D A [(h0, .inr (6, [.ref a0, .ref a1, .ref a2, .ref a3, .ref a4, .ref g0, .ref w0, .int 0, .int 0, .int 0, .int 0, .int 0, .int 0]))] ∧ (∀ q, H.size ≤ q → A q))) (va_Qi (fun (r : Int32) (u : Unit) => r = 0) (fun (u : Unit) t => True) A) 0 0 A := by
  refine Met.ofW (cc := cX5_day) (maxL := 4) (ret := (some .int)) (by decide) rfl ?_
  intro p e s m args below meth c s₁ B hml hv
  obtain ⟨rfl, hX, hP, hD, hA⟩ := hv
  have hx := B.exec
  have hb := B.bytes
  have hr := B.returns
  have hts := atoms_spec (ws := wsX5_day) B.pre
  have hown : s.vm.findClass RX5 = some m.cls := findClass_of_methodNamed B.named
  have hlocks := B.notSynchronized
  have hS : va_S A s.heap s.heap [] := va_S.rf
  have hl := lv_entry ([.ref h0]) (n := 4) (Nat.le_of_ble_eq_true rfl)
  rw [lg_entry_eq]
  generalize (lg_sl ([.ref h0]) ++ List.replicate (4 - (lg_sl ([.ref h0])).length) Slot.unset).toArray = ls at hl ⊢
  have hl : lv_has ls 4 [(0, .ref h0)] := hl
  refine lv_aload_n hx hb dX5_day_0 rfl (lv_at hl 0 rfl) ?_
  refine lv_dup hx hb dX5_day_1 rfl ?_
  refine va_get (D := D) (ci := 6) (v := .int 0) (C := RX5) (T := TX5) (N := 13) hx hb hts (by decide +kernel) hown hX.1 hP 0 rfl rfl 12 (by decide) (hts (.fieldLink RX5 64 "DraftsmanOffice" "today" "I") (by decide +kernel)) (fun _ h9 => h9) rfl dX5_day_2 ?_
  refine lv_iconst (v := 1) hx hb dX5_day_5 (by decide) ?_
  refine lv_iadd hx hb dX5_day_6 ?_
  refine lv_topi (fun a429 ea429 => ?_)
  obtain rfl : a429 = 1 := ea429.trans (by decide)
  refine va_put (D := D) (ci := 6) (v := .int 1) (ty := .int) (C := RX5) (T := TX5) (N := 13) hx hb hts (by decide +kernel) tyX5 tyX5_ok nmX5 hown hX.1 hP hD hS 0 rfl rfl 12 (by decide) (hts (.fieldLink RX5 64 "DraftsmanOffice" "today" "I") (by decide +kernel)) (fun _ h9 => h9) rfl (by decide +kernel) rfl rfl (Nat.le_of_ble_eq_true rfl) dX5_day_7 (fun H locs hP hD hS => ?_)
  have hP : va_P D vwCl [(h0, .inr (6, [.ref a0, .ref a1, .ref a2, .ref a3, .ref a4, .ref g0, .ref w0, .int 0, .int 0, .int 0, .int 0, .int 0, .int 1]))] H := hP
  have hD : va_D A [(h0, .inr (6, [.ref a0, .ref a1, .ref a2, .ref a3, .ref a4, .ref g0, .ref w0, .int 0, .int 0, .int 0, .int 0, .int 0, .int 1]))] := hD
  refine lv_iconst (v := 0) hx hb dX5_day_10 (by decide) ?_
  refine lv_istore_n (lv' := [(1, .int 0), (0, .ref h0)]) hx hb dX5_day_11 rfl hl (by decide) rfl (fun ls hl => ?_)
  refine lv_iconst (v := 0) hx hb dX5_day_12 (by decide) ?_
  refine lv_istore_n (lv' := [(2, .int 0), (1, .int 0), (0, .ref h0)]) hx hb dX5_day_13 rfl hl (by decide) rfl (fun ls hl => ?_)
  refine lv_iload_n hx hb dX5_day_14 rfl (lv_at hl 0 rfl) ?_
  refine lv_aload_n hx hb dX5_day_15 rfl (lv_at hl 2 rfl) ?_
  refine va_get (D := D) (ci := 6) (v := .int 0) (C := RX5) (T := TX5) (N := 13) hx hb hts (by decide +kernel) hown hX.1 hP 0 rfl rfl 11 (by decide) (hts (.fieldLink RX5 61 "DraftsmanOffice" "packageCount" "I") (by decide +kernel)) (fun _ h9 => h9) rfl dX5_day_16 ?_
  refine lv_icmp_ge (tgt := 69) hx hb dX5_day_19 (by decide) (fun _ => ?_) (fun c430 => absurd (by decide) c430)
  refine lv_aload_n hx hb dX5_day_69 rfl (lv_at hl 2 rfl) ?_
  refine va_calli (va_runV (As := []) (rest := []) ⟨hx, hb, hml, hown, hts⟩ (r_X5_stopUnfit l D cA [(5, 0)] (fun k _ => if k = 5 then h0 else if k = 50 then a0 else if k = 51 then a1 else if k = 52 then a2 else if k = 53 then a3 else if k = 54 then a4 else if k = 55 then g0 else if k = 56 then w0 else 0) (fun _ _ => .inr (6, [.ref a0, .ref a1, .ref a2, .ref a3, .ref a4, .ref g0, .ref w0, .int 0, .int 0, .int 0, .int 0, .int 0, .int 1]))  1 List.mem_cons_self rfl) (cwV 0 hts gX5_day_X5_stopUnfit rfl rfl rfl (by decide +kernel) ⟨Nat.le_of_ble_eq_true rfl, Nat.le_of_ble_eq_true rfl⟩) (pc_preVL pcN_ok hX (va_recv hX.1 hP (ci := 6) (q0 := 0) rfl rfl) (hP.sub (ws' := [(h0, .inr (6, [.ref a0, .ref a1, .ref a2, .ref a3, .ref a4, .ref g0, .ref w0, .int 0, .int 0, .int 0, .int 0, .int 0, .int 1]))]) [0] rfl)) rfl rfl hl.1 rfl (lv_room (Nat.le_of_ble_eq_true rfl)) dX5_day_70 ⟨Nat.le_of_ble_eq_true rfl, Nat.le_of_ble_eq_true rfl⟩) hS (fun _ _ h => h.elim) (fun _ h => h.elim) (fun r431 _ t H locs ht hvm hwr431 _ _ hk9 hS => ?_)
  have hP := hP.kept (H1 := H) (fun k q hk => hk9 q.1 ((hP k q hk).lt) id)
  have hP : va_P D vwCl [(h0, .inr (6, [.ref a0, .ref a1, .ref a2, .ref a3, .ref a4, .ref g0, .ref w0, .int 0, .int 0, .int 0, .int 0, .int 0, .int 1]))] H := hP
  have hD : va_D A [(h0, .inr (6, [.ref a0, .ref a1, .ref a2, .ref a3, .ref a4, .ref g0, .ref w0, .int 0, .int 0, .int 0, .int 0, .int 0, .int 1]))] := hD
  subst hwr431
  refine lv_pop hx hb dX5_day_73 rfl ?_
  refine lv_iload_n hx hb dX5_day_74 rfl (lv_at hl 1 rfl) ?_
  have hP9 := hP.sub (ws' := []) [] rfl
  have hD9 := hD.sub (ws' := []) [] (by decide) rfl
  refine W.widen (k := 0) (n := 0) (Nat.le_of_ble_eq_true rfl) (Nat.le_of_ble_eq_true rfl) ?_
  exact W.iret (v := 0) hx hb hr (fun t ht hW9 => ⟨⟨0, (), rfl, rfl, trivial⟩, hS.F ht⟩) hS.2.2 dX5_day_75
