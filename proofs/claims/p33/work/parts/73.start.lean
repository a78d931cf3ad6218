set_option maxHeartbeats 4000000 in
set_option maxRecDepth 100000 in
theorem law_start {p : Program} {e : Env} {s : State} {m : MethodId} {below : List Frame} {meth : Method} {c0 : Code} {l : Launch} {b L : Nat} {xs : Nat → Int32} {D : va_G} {cA : Nat → ClassId} (C1 : law_C p l s m meth c0 b L xs D cA) : W p l e room_1 s m #[Value.ref b] below meth c0 s.heap [] 0 0 (lw_Z below #[Value.ref b] s) (entryFrame m ([Value.ref b] : List Value).toArray 13) := by
  obtain ⟨hx, hb, hr, hml, hown, hts, hlocks, hX, hsc, hbl, hL⟩ := id C1
  have hbA : ¬ lwA0 s b := Nat.not_le.mpr hbl
  have hA : ∀ q : Nat, s.heap.size ≤ q → lwA0 s q := fun _ h => h
  have hS : va_S (lwA0 s) s.heap s.heap [] := va_S.rf
  have hP : va_P D vwCl [] s.heap := fun k q h => by simp at h
  have hD : va_D (lwA0 s) [] := ⟨fun i j x y h => by simp at h, fun k q h => by simp at h⟩
  have hl := lv_entry ([.ref b]) (n := 13) (Nat.le_of_ble_eq_true rfl)
  rw [lg_entry_eq]
  generalize (lg_sl ([.ref b]) ++ List.replicate (13 - (lg_sl ([.ref b])).length) Slot.unset).toArray = ls at hl ⊢
  have hl : lv_has ls 13 [(0, .ref b)] := hl
  refine va_new (ci := 5) (fs := [.null, .null, .null, .null, .null, .null, .null, .int 0, .int 0, .int 0, .int 0, .int 0, .int 0]) (C := RX5) (T := TX5) (N := 13) hx hb hts (by decide +kernel) tyX5 tyX5_ok hown (hts (.classLink RL 20 RX5) (by decide +kernel)) (hts (.instantiable RX5 13) (by decide +kernel)) (hts (.initialized RX5) (by decide +kernel)) hX.1 hP hD hS hA rfl (fun j hj => by rcases (show j = 0 ∨ j = 1 ∨ j = 2 ∨ j = 3 ∨ j = 4 ∨ j = 5 ∨ j = 6 ∨ j = 7 ∨ j = 8 ∨ j = 9 ∨ j = 10 ∨ j = 11 ∨ j = 12 by omega) with rfl | rfl | rfl | rfl | rfl | rfl | rfl | rfl | rfl | rfl | rfl | rfl | rfl <;> rfl) (Nat.le_of_ble_eq_true rfl) (Nat.le_of_ble_eq_true rfl) dL_law_0 (fun q990 H hP hD hS => ?_)
  have hP : va_P D vwCl [(q990, .inr (5, [.null, .null, .null, .null, .null, .null, .null, .int 0, .int 0, .int 0, .int 0, .int 0, .int 0]))] H := hP
  have hD : va_D (lwA0 s) [(q990, .inr (5, [.null, .null, .null, .null, .null, .null, .null, .int 0, .int 0, .int 0, .int 0, .int 0, .int 0]))] := hD
  refine W.widen (k := 1) (n := 13) (Nat.le_of_ble_eq_true rfl) (Nat.le_of_ble_eq_true rfl) ?_
  refine lv_dup hx hb dL_law_3 rfl ?_
  have hPc := hP.sub (ws' := [(q990, .inr (5, [.null, .null, .null, .null, .null, .null, .null, .int 0, .int 0, .int 0, .int 0, .int 0, .int 0]))]) [0] rfl
  have hDc := (hD.sub (ws' := [(q990, .inr (5, [.null, .null, .null, .null, .null, .null, .null, .int 0, .int 0, .int 0, .int 0, .int 0, .int 0]))]) [0] (by decide) rfl).self (sz := H.size)
  have hFc := va_free (wc := [(q990, .inr (5, [.null, .null, .null, .null, .null, .null, .null, .int 0, .int 0, .int 0, .int 0, .int 0, .int 0]))]) hD hS hA [0] rfl
  refine va_callv (va_runI (As := []) (rest := [.ref q990]) ⟨hx, hb, hml, hown, hts⟩ (l_X5_init l D cA (va_A [(q990, .inr (5, [.null, .null, .null, .null, .null, .null, .null, .int 0, .int 0, .int 0, .int 0, .int 0, .int 0]))] H.size) q990) (cwI 0 hts gL_law_X5_init rfl rfl rfl (hts (.initialized RX5) (by decide +kernel)) (hts (.methodLink RL 22 yX5_init) (by decide +kernel)) (hts (.instanceMethod yX5_init) (by decide +kernel)) rfl (by decide +kernel) ⟨Nat.le_of_ble_eq_true rfl, Nat.le_of_ble_eq_true rfl⟩) (pc_preS pcN_ok hX ⟨hPc, hDc, fun q h => Or.inr h⟩) rfl rfl hl.1 rfl (lv_room (Nat.le_of_ble_eq_true rfl)) dL_law_4 ⟨Nat.le_of_ble_eq_true rfl, Nat.le_of_ble_eq_true rfl⟩) hS (fun q _ h => hFc q h) hFc (fun u992 t H1 locs ht hvm hw hB hz1 hk1 hS => ?_)
  obtain ⟨q996, q997, q998, q999, q1000, q1001, q1002, q1003, q1004, q1005, q1006, hP1, hD1⟩ := hB
  rw [ht] at hP1
  obtain ⟨hP, hD⟩ := va_join (wr := []) (w1 := [(q990, .inr (5, [.ref q996, .ref q997, .ref q998, .ref q999, .ref q1000, .ref q1001, .ref q1002, .int 0, .int 0, .int 0, .int 0, .int 0, .int 0])), (q996, .inl (cA 3, 10, .inr (.inr (.inr (.inr (fun _ => none)))))), (q997, .inl (cA 4, 20, .inr (.inr (.inr (.inr (fun _ => none)))))), (q998, .inl (cA 5, 20, .inr (.inr (.inr (.inr (fun _ => none)))))), (q999, .inl (cA 6, 20, .inr (.inr (.inr (.inr (fun _ => none)))))), (q1000, .inl (cA 7, 8, .inr (.inr (.inr (.inr (fun _ => none)))))), (q1001, .inl (cA 2, 4, .inr (.inr (.inr (.inr (fun i => ([q1003, q1004, q1005, q1006] : List Nat)[i]?)))))), (q1002, .inl (cA 0, 10, .inl (fun _ => 0))), (q1003, .inl (cA 0, 10, .inl (fun _ => (-1)))), (q1004, .inl (cA 0, 10, .inl (fun _ => (-1)))), (q1005, .inl (cA 0, 10, .inl (fun _ => (-1)))), (q1006, .inl (cA 0, 10, .inl (fun _ => (-1))))]) hP hD [0] [] rfl rfl (by decide) (by decide) hk1 hFc hP1 hD1
  generalize H1 = H at hP hS ⊢
  have hP : va_P D vwCl [(q990, .inr (5, [.ref q996, .ref q997, .ref q998, .ref q999, .ref q1000, .ref q1001, .ref q1002, .int 0, .int 0, .int 0, .int 0, .int 0, .int 0])), (q996, .inl (cA 3, 10, .inr (.inr (.inr (.inr (fun _ => none)))))), (q997, .inl (cA 4, 20, .inr (.inr (.inr (.inr (fun _ => none)))))), (q998, .inl (cA 5, 20, .inr (.inr (.inr (.inr (fun _ => none)))))), (q999, .inl (cA 6, 20, .inr (.inr (.inr (.inr (fun _ => none)))))), (q1000, .inl (cA 7, 8, .inr (.inr (.inr (.inr (fun _ => none)))))), (q1001, .inl (cA 2, 4, .inr (.inr (.inr (.inr (fun i => ([q1003, q1004, q1005, q1006] : List Nat)[i]?)))))), (q1002, .inl (cA 0, 10, .inl (fun _ => 0))), (q1003, .inl (cA 0, 10, .inl (fun _ => (-1)))), (q1004, .inl (cA 0, 10, .inl (fun _ => (-1)))), (q1005, .inl (cA 0, 10, .inl (fun _ => (-1)))), (q1006, .inl (cA 0, 10, .inl (fun _ => (-1))))] H := hP
  have hD : va_D (lwA0 s) [(q990, .inr (5, [.ref q996, .ref q997, .ref q998, .ref q999, .ref q1000, .ref q1001, .ref q1002, .int 0, .int 0, .int 0, .int 0, .int 0, .int 0])), (q996, .inl (cA 3, 10, .inr (.inr (.inr (.inr (fun _ => none)))))), (q997, .inl (cA 4, 20, .inr (.inr (.inr (.inr (fun _ => none)))))), (q998, .inl (cA 5, 20, .inr (.inr (.inr (.inr (fun _ => none)))))), (q999, .inl (cA 6, 20, .inr (.inr (.inr (.inr (fun _ => none)))))), (q1000, .inl (cA 7, 8, .inr (.inr (.inr (.inr (fun _ => none)))))), (q1001, .inl (cA 2, 4, .inr (.inr (.inr (.inr (fun i => ([q1003, q1004, q1005, q1006] : List Nat)[i]?)))))), (q1002, .inl (cA 0, 10, .inl (fun _ => 0))), (q1003, .inl (cA 0, 10, .inl (fun _ => (-1)))), (q1004, .inl (cA 0, 10, .inl (fun _ => (-1)))), (q1005, .inl (cA 0, 10, .inl (fun _ => (-1)))), (q1006, .inl (cA 0, 10, .inl (fun _ => (-1))))] := hD
  refine W.widen (k := 12) (n := 145) (Nat.le_of_ble_eq_true rfl) (Nat.le_of_ble_eq_true rfl) ?_
  refine lv_astore_n (lv' := [(1, .ref q990), (0, .ref b)]) hx hb dL_law_7 rfl hl (by decide) rfl (fun ls hl => ?_)
  have hW : pcS D vwCl (lwA0 s) s.heap NL0 (adS q990 q996 q997 q998 q999 q1000 q1001 q1002 q1003 q1004 q1005 q1006) (ctO cA cS vS wS uS (adS q990 q996 q997 q998 q999 q1000 q1001 q1002 q1003 q1004 q1005 q1006)) H locs := by
    refine ⟨?_, ?_, hS⟩
    · rw [start_eq]; exact hP
    · rw [start_eq]; exact hD
  refine lv_iconst (v := 2) hx hb dL_law_8 (by decide) ?_
  refine lv_aload_n hx hb dL_law_9 rfl (lv_at hl 1 rfl) ?_
  refine lv_iconst (v := 0) hx hb dL_law_10 (by decide) ?_
  refine pc_rcalli (va_runS (As := [.ref b, .int 0]) (rest := [.int 2]) ⟨hx, hb, hml, hown, hts⟩ (r_L_cell l D cA b L xs hL (0 : Int32) (by decide)) (va_cwS 2 hts gL_law_L_cell rfl rfl rfl (by decide +kernel) ⟨Nat.le_of_ble_eq_true rfl, Nat.le_of_ble_eq_true rfl⟩) (pcX_preS hX (hsc.kept (hW.2.2.2.1 b hbl hbA))) rfl rfl hl.1 rfl (lv_room (Nat.le_of_ble_eq_true rfl)) dL_law_11 ⟨(by show _ ≤ (600074 : Nat); omega), (by show _ ≤ (7301550 : Nat); omega)⟩) hW (fun x1018 H locs _ hW => ?_)
  refine lv_iconst (v := 4) hx hb dL_law_14 (by decide) ?_
  refine pc_rcalli (va_runS (As := [.int x1018, .int 4]) (rest := [.int 2]) ⟨hx, hb, hml, hown, hts⟩ (r_L_below l D cA x1018 (4 : Int32) (by decide)) (va_cwS 2 hts gL_law_L_below rfl rfl rfl (by decide +kernel) ⟨Nat.le_of_ble_eq_true rfl, Nat.le_of_ble_eq_true rfl⟩) (pc_preS pcN_ok hX trivial) rfl rfl hl.1 rfl (lv_room (Nat.le_of_ble_eq_true rfl)) dL_law_15 ⟨(by show _ ≤ (600074 : Nat); omega), (by show _ ≤ (7301550 : Nat); omega)⟩) hW (fun r1019 H locs hwr1019 hW => ?_)
  replace hwr1019 := hwr1019.symm
  subst hwr1019
  obtain ⟨j1020, hj1020, ej1020⟩ : ∃ j, j < 4 ∧ (F_L_below x1018 (4 : Int32)) = nI j := below_ok _ 4 (by decide) (by decide)
  rw [ej1020]
  refine lv_iadd hx hb dL_law_18 ?_
  rw [show (2 : Int32) + nI j1020 = nI (j1020 + 2) from by rw [Int32.add_comm]; exact nI_add j1020 2]
  refine lv_istore_n (lv' := [(2, .int (nI (j1020 + 2))), (1, .ref ((adS q990 q996 q997 q998 q999 q1000 q1001 q1002 q1003 q1004 q1005 q1006) 5 0)), (0, .ref b)]) hx hb dL_law_19 rfl hl (by decide) rfl (fun ls hl => ?_)
  refine lv_iconst (v := 0) hx hb dL_law_20 (by decide) ?_
  refine lv_istore_n (lv' := [(3, .int 0), (2, .int (nI (j1020 + 2))), (1, .ref ((adS q990 q996 q997 q998 q999 q1000 q1001 q1002 q1003 q1004 q1005 q1006) 5 0)), (0, .ref b)]) hx hb dL_law_21 rfl hl (by decide) rfl (fun ls hl => ?_)
  refine W.widen (k := 20 + 10 * cS 0) (n := 200 + 60 * cS 0) (by show _ ≤ (20 : Nat); omega) (by show _ ≤ (200 : Nat); omega) ?_
  exact law_inis C1 (n := j1020 + 2) (by omega) (by omega) (j1020 + 2) cS vS wS uS NL0 (adS q990 q996 q997 q998 q999 q1000 q1001 q1002 q1003 q1004 q1005 q1006) H locs ls (by show 0 + (j1020 + 2) = j1020 + 2; omega) INI_0 MEM_0 NMEM_0 hW (lv_sub hl [0, 1, 2, 3] rfl)

