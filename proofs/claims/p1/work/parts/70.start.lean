set_option maxHeartbeats 4000000 in
set_option maxRecDepth 100000 in
theorem law_start {p : Program} {e : Env} {s : State} {m : MethodId} {below : List Frame} {meth : Method} {c : Code} {l : Launch} {b L : Nat} {xs : Nat → Int32} {D : va_G} {cA : Nat → ClassId} {z em mi : Nat} (hL : L ≤ 7) (C1 : law_C p l s m meth c b L xs D cA z em mi) : W p l e room_1 s m #[Value.ref b] below meth c s.heap [] 0 0 (lw_Z below #[Value.ref b] s) (entryFrame m ([Value.ref b] : List Value).toArray 9) := by
  obtain ⟨hx, hb, hr, hml, hown, hts, hlocks, hl0, hX, hT, hZ, hz, hF9, hE9, hAz, hsc, hbl⟩ := id C1
  have hA : ∀ q : Nat, s.heap.size ≤ q → (fun q : Nat => s.heap.size ≤ q) q := fun _ h => h
  have hbA : ¬ (fun q : Nat => s.heap.size ≤ q) b := Nat.not_le.mpr hbl
  have hS : va_S (fun q : Nat => s.heap.size ≤ q) s.heap s.heap [] := va_S.rf
  have hP : va_P D vwCl [] s.heap := fun k q h => by simp at h
  have hD : va_D (fun q : Nat => s.heap.size ≤ q) [] := ⟨fun i j x y h => by simp at h, fun k q h => by simp at h⟩
  have hl := lv_entry ([.ref b]) (n := 9) (Nat.le_of_ble_eq_true rfl)
  rw [lg_entry_eq]
  generalize (lg_sl ([.ref b]) ++ List.replicate (9 - (lg_sl ([.ref b])).length) Slot.unset).toArray = ls at hl ⊢
  have hl : lv_has ls 9 [(0, .ref b)] := hl
  refine va_new (ci := 6) (fs := [.null, .null, .null, .null, .null, .null, .null, .int 0, .int 0, .int 0, .int 0, .int 0, .int 0]) (C := RX5) (T := TX5) (N := 13) hx hb hts (by decide +kernel) tyX5 tyX5_ok hown (hts (.classLink RL 8 RX5) (by decide +kernel)) (hts (.instantiable RX5 13) (by decide +kernel)) (hts (.initialized RX5) (by decide +kernel)) hX.1 hP hD hS hA rfl (fun j hj => by rcases (show j = 0 ∨ j = 1 ∨ j = 2 ∨ j = 3 ∨ j = 4 ∨ j = 5 ∨ j = 6 ∨ j = 7 ∨ j = 8 ∨ j = 9 ∨ j = 10 ∨ j = 11 ∨ j = 12 by omega) with rfl | rfl | rfl | rfl | rfl | rfl | rfl | rfl | rfl | rfl | rfl | rfl | rfl <;> rfl) (Nat.le_of_ble_eq_true rfl) (Nat.le_of_ble_eq_true rfl) dL_law_0 (fun q1094 H hP hD hS => ?_)
  have hP : va_P D vwCl [(q1094, .inr (6, [.null, .null, .null, .null, .null, .null, .null, .int 0, .int 0, .int 0, .int 0, .int 0, .int 0]))] H := hP
  have hD : va_D (fun q : Nat => s.heap.size ≤ q) [(q1094, .inr (6, [.null, .null, .null, .null, .null, .null, .null, .int 0, .int 0, .int 0, .int 0, .int 0, .int 0]))] := hD
  refine W.widen (k := 1) (n := 13) (Nat.le_of_ble_eq_true rfl) (Nat.le_of_ble_eq_true rfl) ?_
  refine lv_dup hx hb dL_law_3 rfl ?_
  have hPc := hP.sub (ws' := [(q1094, .inr (6, [.null, .null, .null, .null, .null, .null, .null, .int 0, .int 0, .int 0, .int 0, .int 0, .int 0]))]) [0] rfl
  have hDc := (hD.sub (ws' := [(q1094, .inr (6, [.null, .null, .null, .null, .null, .null, .null, .int 0, .int 0, .int 0, .int 0, .int 0, .int 0]))]) [0] (by decide) rfl).self (sz := H.size)
  have hFc := va_free (wc := [(q1094, .inr (6, [.null, .null, .null, .null, .null, .null, .null, .int 0, .int 0, .int 0, .int 0, .int 0, .int 0]))]) hD hS hA [0] rfl
  refine va_callv (va_runI (As := []) (rest := [.ref q1094]) ⟨hx, hb, hml, hown, hts⟩ (l_X5_init l D cA (va_A [(q1094, .inr (6, [.null, .null, .null, .null, .null, .null, .null, .int 0, .int 0, .int 0, .int 0, .int 0, .int 0]))] H.size) q1094) (cwI 0 hts gL_law_X5_init rfl rfl rfl (hts (.initialized RX5) (by decide +kernel)) (hts (.methodLink RL 104 yX5_init) (by decide +kernel)) (hts (.instanceMethod yX5_init) (by decide +kernel)) rfl (by decide +kernel) ⟨Nat.le_of_ble_eq_true rfl, Nat.le_of_ble_eq_true rfl⟩) (pc_preS pcN_ok hX ⟨hPc, hDc, fun q h => Or.inr h⟩) rfl rfl hl.1 rfl (lv_room (Nat.le_of_ble_eq_true rfl)) dL_law_4 ⟨Nat.le_of_ble_eq_true rfl, Nat.le_of_ble_eq_true rfl⟩) hS (fun q _ h => hFc q h) hFc (fun u1096 t H1 locs ht hvm hw hB hz1 hk1 hS => ?_)
  obtain ⟨q1100, q1101, q1102, q1103, q1104, q1105, q1106, q1107, q1108, q1109, q1110, f1111, f1112, f1113, f1114, hP1, hD1⟩ := hB
  rw [ht] at hP1
  obtain ⟨hP, hD⟩ := va_join (wr := []) (w1 := [(q1094, .inr (6, [.ref q1100, .ref q1101, .ref q1102, .ref q1103, .ref q1104, .ref q1105, .ref q1106, .int 0, .int 0, .int 0, .int 0, .int 0, .int 0])), (q1100, .inl (cA 3, 10, .inr (.inr (.inr (.inr (fun _ => none)))))), (q1101, .inl (cA 4, 20, .inr (.inr (.inr (.inr (fun _ => none)))))), (q1102, .inl (cA 5, 20, .inr (.inr (.inr (.inr (fun _ => none)))))), (q1103, .inl (cA 6, 20, .inr (.inr (.inr (.inr (fun _ => none)))))), (q1104, .inl (cA 7, 8, .inr (.inr (.inr (.inr (fun _ => none)))))), (q1105, .inl (cA 9, 4, .inr (.inr (.inr (.inr (fun i => ([q1107, q1108, q1109, q1110] : List Nat)[i]?)))))), (q1106, .inl (cA 0, 10, .inl (fun _ => 0))), (q1107, .inl (cA 0, 10, .inl f1111)), (q1108, .inl (cA 0, 10, .inl f1112)), (q1109, .inl (cA 0, 10, .inl f1113)), (q1110, .inl (cA 0, 10, .inl f1114))]) hP hD [0] [] rfl rfl (by decide) (by decide) hk1 hFc hP1 hD1
  generalize H1 = H at hP hS ⊢
  have hP : va_P D vwCl [(q1094, .inr (6, [.ref q1100, .ref q1101, .ref q1102, .ref q1103, .ref q1104, .ref q1105, .ref q1106, .int 0, .int 0, .int 0, .int 0, .int 0, .int 0])), (q1100, .inl (cA 3, 10, .inr (.inr (.inr (.inr (fun _ => none)))))), (q1101, .inl (cA 4, 20, .inr (.inr (.inr (.inr (fun _ => none)))))), (q1102, .inl (cA 5, 20, .inr (.inr (.inr (.inr (fun _ => none)))))), (q1103, .inl (cA 6, 20, .inr (.inr (.inr (.inr (fun _ => none)))))), (q1104, .inl (cA 7, 8, .inr (.inr (.inr (.inr (fun _ => none)))))), (q1105, .inl (cA 9, 4, .inr (.inr (.inr (.inr (fun i => ([q1107, q1108, q1109, q1110] : List Nat)[i]?)))))), (q1106, .inl (cA 0, 10, .inl (fun _ => 0))), (q1107, .inl (cA 0, 10, .inl f1111)), (q1108, .inl (cA 0, 10, .inl f1112)), (q1109, .inl (cA 0, 10, .inl f1113)), (q1110, .inl (cA 0, 10, .inl f1114))] H := hP
  have hD : va_D (fun q : Nat => s.heap.size ≤ q) [(q1094, .inr (6, [.ref q1100, .ref q1101, .ref q1102, .ref q1103, .ref q1104, .ref q1105, .ref q1106, .int 0, .int 0, .int 0, .int 0, .int 0, .int 0])), (q1100, .inl (cA 3, 10, .inr (.inr (.inr (.inr (fun _ => none)))))), (q1101, .inl (cA 4, 20, .inr (.inr (.inr (.inr (fun _ => none)))))), (q1102, .inl (cA 5, 20, .inr (.inr (.inr (.inr (fun _ => none)))))), (q1103, .inl (cA 6, 20, .inr (.inr (.inr (.inr (fun _ => none)))))), (q1104, .inl (cA 7, 8, .inr (.inr (.inr (.inr (fun _ => none)))))), (q1105, .inl (cA 9, 4, .inr (.inr (.inr (.inr (fun i => ([q1107, q1108, q1109, q1110] : List Nat)[i]?)))))), (q1106, .inl (cA 0, 10, .inl (fun _ => 0))), (q1107, .inl (cA 0, 10, .inl f1111)), (q1108, .inl (cA 0, 10, .inl f1112)), (q1109, .inl (cA 0, 10, .inl f1113)), (q1110, .inl (cA 0, 10, .inl f1114))] := hD
  refine W.widen (k := 12) (n := 145) (Nat.le_of_ble_eq_true rfl) (Nat.le_of_ble_eq_true rfl) ?_
  refine lv_astore_n (lv' := [(1, .ref q1094), (0, .ref b)]) hx hb dL_law_7 rfl hl (by decide) rfl (fun ls hl => ?_)
  refine va_new (ci := 12) (fs := [.int 0, .null]) (C := RX11) (T := TX11) (N := 2) hx hb hts (by decide +kernel) tyX11 tyX11_ok hown (hts (.classLink RL 105 RX11) (by decide +kernel)) (hts (.instantiable RX11 2) (by decide +kernel)) (hts (.initialized RX11) (by decide +kernel)) hX.1 hP hD hS hA rfl (fun j hj => by rcases (show j = 0 ∨ j = 1 by omega) with rfl | rfl <;> rfl) (Nat.le_of_ble_eq_true rfl) (Nat.le_of_ble_eq_true rfl) dL_law_8 (fun q1126 H hP hD hS => ?_)
  have hP : va_P D vwCl [(q1094, .inr (6, [.ref q1100, .ref q1101, .ref q1102, .ref q1103, .ref q1104, .ref q1105, .ref q1106, .int 0, .int 0, .int 0, .int 0, .int 0, .int 0])), (q1100, .inl (cA 3, 10, .inr (.inr (.inr (.inr (fun _ => none)))))), (q1101, .inl (cA 4, 20, .inr (.inr (.inr (.inr (fun _ => none)))))), (q1102, .inl (cA 5, 20, .inr (.inr (.inr (.inr (fun _ => none)))))), (q1103, .inl (cA 6, 20, .inr (.inr (.inr (.inr (fun _ => none)))))), (q1104, .inl (cA 7, 8, .inr (.inr (.inr (.inr (fun _ => none)))))), (q1105, .inl (cA 9, 4, .inr (.inr (.inr (.inr (fun i => ([q1107, q1108, q1109, q1110] : List Nat)[i]?)))))), (q1106, .inl (cA 0, 10, .inl (fun _ => 0))), (q1107, .inl (cA 0, 10, .inl f1111)), (q1108, .inl (cA 0, 10, .inl f1112)), (q1109, .inl (cA 0, 10, .inl f1113)), (q1110, .inl (cA 0, 10, .inl f1114)), (q1126, .inr (12, [.int 0, .null]))] H := hP
  have hD : va_D (fun q : Nat => s.heap.size ≤ q) [(q1094, .inr (6, [.ref q1100, .ref q1101, .ref q1102, .ref q1103, .ref q1104, .ref q1105, .ref q1106, .int 0, .int 0, .int 0, .int 0, .int 0, .int 0])), (q1100, .inl (cA 3, 10, .inr (.inr (.inr (.inr (fun _ => none)))))), (q1101, .inl (cA 4, 20, .inr (.inr (.inr (.inr (fun _ => none)))))), (q1102, .inl (cA 5, 20, .inr (.inr (.inr (.inr (fun _ => none)))))), (q1103, .inl (cA 6, 20, .inr (.inr (.inr (.inr (fun _ => none)))))), (q1104, .inl (cA 7, 8, .inr (.inr (.inr (.inr (fun _ => none)))))), (q1105, .inl (cA 9, 4, .inr (.inr (.inr (.inr (fun i => ([q1107, q1108, q1109, q1110] : List Nat)[i]?)))))), (q1106, .inl (cA 0, 10, .inl (fun _ => 0))), (q1107, .inl (cA 0, 10, .inl f1111)), (q1108, .inl (cA 0, 10, .inl f1112)), (q1109, .inl (cA 0, 10, .inl f1113)), (q1110, .inl (cA 0, 10, .inl f1114)), (q1126, .inr (12, [.int 0, .null]))] := hD
  refine W.widen (k := 13) (n := 147) (Nat.le_of_ble_eq_true rfl) (Nat.le_of_ble_eq_true rfl) ?_
  refine lv_dup hx hb dL_law_11 rfl ?_
  have hPc := hP.sub (ws' := [(q1126, .inr (12, [.int 0, .null]))]) [12] rfl
  have hDc := (hD.sub (ws' := [(q1126, .inr (12, [.int 0, .null]))]) [12] (by decide) rfl).self (sz := H.size)
  have hFc := va_free (wc := [(q1126, .inr (12, [.int 0, .null]))]) hD hS hA [12] rfl
  refine va_callv (va_runI (As := []) (rest := [.ref q1126]) ⟨hx, hb, hml, hown, hts⟩ (l_X11_init l D cA z em mi (va_A [(q1126, .inr (12, [.int 0, .null]))] H.size) q1126) (cwI 0 hts gL_law_X11_init rfl rfl rfl (hts (.initialized RX11) (by decide +kernel)) (hts (.methodLink RL 107 yX11_init) (by decide +kernel)) (hts (.instanceMethod yX11_init) (by decide +kernel)) rfl (by decide +kernel) ⟨Nat.le_of_ble_eq_true rfl, Nat.le_of_ble_eq_true rfl⟩) (pcE_preS hX hF9 (pcE_kept hE9 hAz hS) (Nat.le_trans hz hS.1) ⟨hPc, hDc, fun q h => Or.inr h, fun q h => hAz q (hFc q h)⟩) rfl rfl hl.1 rfl (lv_room (Nat.le_of_ble_eq_true rfl)) dL_law_12 ⟨Nat.le_of_ble_eq_true rfl, Nat.le_of_ble_eq_true rfl⟩) hS (fun q _ h => hFc q h) hFc (fun u1128 t H1 locs ht hvm hw hB hz1 hk1 hS => ?_)
  obtain ⟨q1132, q1133, q1134, q1135, q1136, q1137, q1138, q1139, q1140, q1141, q1142, q1143, q1144, q1145, q1146, q1147, q1148, q1149, q1150, q1151, q1152, q1153, q1154, q1155, f1156, f1157, f1158, f1159, hP1, hD1⟩ := hB
  rw [ht] at hP1
  obtain ⟨hP, hD⟩ := va_join (wr := [(q1094, .inr (6, [.ref q1100, .ref q1101, .ref q1102, .ref q1103, .ref q1104, .ref q1105, .ref q1106, .int 0, .int 0, .int 0, .int 0, .int 0, .int 0])), (q1100, .inl (cA 3, 10, .inr (.inr (.inr (.inr (fun _ => none)))))), (q1101, .inl (cA 4, 20, .inr (.inr (.inr (.inr (fun _ => none)))))), (q1102, .inl (cA 5, 20, .inr (.inr (.inr (.inr (fun _ => none)))))), (q1103, .inl (cA 6, 20, .inr (.inr (.inr (.inr (fun _ => none)))))), (q1104, .inl (cA 7, 8, .inr (.inr (.inr (.inr (fun _ => none)))))), (q1105, .inl (cA 9, 4, .inr (.inr (.inr (.inr (fun i => ([q1107, q1108, q1109, q1110] : List Nat)[i]?)))))), (q1106, .inl (cA 0, 10, .inl (fun _ => 0))), (q1107, .inl (cA 0, 10, .inl f1111)), (q1108, .inl (cA 0, 10, .inl f1112)), (q1109, .inl (cA 0, 10, .inl f1113)), (q1110, .inl (cA 0, 10, .inl f1114))]) (w1 := [(q1126, .inr (12, [.int 0, .ref q1132])), (q1132, .inr (7, [.ref q1133, .ref q1134, .ref q1135, .ref q1136, .ref q1137, .ref q1142, .ref q1143, .ref q1144, .ref q1155, .int 0])), (q1133, .inr (0, [.int 0, .ref em, .int 0])), (q1134, .inr (0, [.int 0, .ref em, .int 0])), (q1135, .inr (0, [.int 0, .ref em, .int 0])), (q1136, .inr (0, [.int 0, .ref em, .int 0])), (q1137, .inl (cA 9, 4, .inr (.inr (.inr (.inr (fun i => ([q1138, q1139, q1140, q1141] : List Nat)[i]?)))))), (q1138, .inl (cA 0, 10, .inl f1156)), (q1139, .inl (cA 0, 10, .inl f1157)), (q1140, .inl (cA 0, 10, .inl f1158)), (q1141, .inl (cA 0, 10, .inl f1159)), (q1142, .inr (0, [.int 0, .ref em, .int 0])), (q1143, .inr (0, [.int 0, .ref em, .int 0])), (q1144, .inl (cA 10, 10, .inr (.inr (.inr (.inr (fun i => ([q1145, q1146, q1147, q1148, q1149, q1150, q1151, q1152, q1153, q1154] : List Nat)[i]?)))))), (q1145, .inl (cA 2, 10, .inl (fun _ => 0))), (q1146, .inl (cA 2, 10, .inl (fun _ => 0))), (q1147, .inl (cA 2, 10, .inl (fun _ => 0))), (q1148, .inl (cA 2, 10, .inl (fun _ => 0))), (q1149, .inl (cA 2, 10, .inl (fun _ => 0))), (q1150, .inl (cA 2, 10, .inl (fun _ => 0))), (q1151, .inl (cA 2, 10, .inl (fun _ => 0))), (q1152, .inl (cA 2, 10, .inl (fun _ => 0))), (q1153, .inl (cA 2, 10, .inl (fun _ => 0))), (q1154, .inl (cA 2, 10, .inl (fun _ => 0))), (q1155, .inr (0, [.int 0, .ref em, .int 0]))]) hP hD [12] [0, 1, 2, 3, 4, 5, 6, 7, 8, 9, 10, 11] rfl rfl (by decide) (by decide) hk1 hFc hP1 hD1
  generalize H1 = H at hP hS ⊢
  have hP : va_P D vwCl ((q1094, .inr (6, [.ref q1100, .ref q1101, .ref q1102, .ref q1103, .ref q1104, .ref q1105, .ref q1106, .int 0, .int 0, .int 0, .int 0, .int 0, .int 0])) :: (q1100, .inl (cA 3, 10, .inr (.inr (.inr (.inr (fun _ => none)))))) :: (q1101, .inl (cA 4, 20, .inr (.inr (.inr (.inr (fun _ => none)))))) :: (q1102, .inl (cA 5, 20, .inr (.inr (.inr (.inr (fun _ => none)))))) :: (q1103, .inl (cA 6, 20, .inr (.inr (.inr (.inr (fun _ => none)))))) :: (q1104, .inl (cA 7, 8, .inr (.inr (.inr (.inr (fun _ => none)))))) :: (q1105, .inl (cA 9, 4, .inr (.inr (.inr (.inr (fun i => ([q1107, q1108, q1109, q1110] : List Nat)[i]?)))))) :: (q1106, .inl (cA 0, 10, .inl (fun _ => 0))) :: (q1107, .inl (cA 0, 10, .inl f1111)) :: (q1108, .inl (cA 0, 10, .inl f1112)) :: (q1109, .inl (cA 0, 10, .inl f1113)) :: (q1110, .inl (cA 0, 10, .inl f1114)) :: (q1126, .inr (12, [.int 0, .ref q1132])) :: (q1132, .inr (7, [.ref q1133, .ref q1134, .ref q1135, .ref q1136, .ref q1137, .ref q1142, .ref q1143, .ref q1144, .ref q1155, .int 0])) :: (q1133, .inr (0, [.int 0, .ref em, .int 0])) :: (q1134, .inr (0, [.int 0, .ref em, .int 0])) :: (q1135, .inr (0, [.int 0, .ref em, .int 0])) :: (q1136, .inr (0, [.int 0, .ref em, .int 0])) :: (q1137, .inl (cA 9, 4, .inr (.inr (.inr (.inr (fun i => ([q1138, q1139, q1140, q1141] : List Nat)[i]?)))))) :: (q1138, .inl (cA 0, 10, .inl f1156)) :: (q1139, .inl (cA 0, 10, .inl f1157)) :: (q1140, .inl (cA 0, 10, .inl f1158)) :: (q1141, .inl (cA 0, 10, .inl f1159)) :: (q1142, .inr (0, [.int 0, .ref em, .int 0])) :: (q1143, .inr (0, [.int 0, .ref em, .int 0])) :: (q1144, .inl (cA 10, 10, .inr (.inr (.inr (.inr (fun i => ([q1145, q1146, q1147, q1148, q1149, q1150, q1151, q1152, q1153, q1154] : List Nat)[i]?)))))) :: (q1145, .inl (cA 2, 10, .inl (fun _ => 0))) :: (q1146, .inl (cA 2, 10, .inl (fun _ => 0))) :: (q1147, .inl (cA 2, 10, .inl (fun _ => 0))) :: (q1148, .inl (cA 2, 10, .inl (fun _ => 0))) :: (q1149, .inl (cA 2, 10, .inl (fun _ => 0))) :: (q1150, .inl (cA 2, 10, .inl (fun _ => 0))) :: (q1151, .inl (cA 2, 10, .inl (fun _ => 0))) :: (q1152, .inl (cA 2, 10, .inl (fun _ => 0))) :: (q1153, .inl (cA 2, 10, .inl (fun _ => 0))) :: (q1154, .inl (cA 2, 10, .inl (fun _ => 0))) :: (q1155, .inr (0, [.int 0, .ref em, .int 0])) :: []) H := hP
  have hD : va_D (fun q : Nat => s.heap.size ≤ q) ((q1094, .inr (6, [.ref q1100, .ref q1101, .ref q1102, .ref q1103, .ref q1104, .ref q1105, .ref q1106, .int 0, .int 0, .int 0, .int 0, .int 0, .int 0])) :: (q1100, .inl (cA 3, 10, .inr (.inr (.inr (.inr (fun _ => none)))))) :: (q1101, .inl (cA 4, 20, .inr (.inr (.inr (.inr (fun _ => none)))))) :: (q1102, .inl (cA 5, 20, .inr (.inr (.inr (.inr (fun _ => none)))))) :: (q1103, .inl (cA 6, 20, .inr (.inr (.inr (.inr (fun _ => none)))))) :: (q1104, .inl (cA 7, 8, .inr (.inr (.inr (.inr (fun _ => none)))))) :: (q1105, .inl (cA 9, 4, .inr (.inr (.inr (.inr (fun i => ([q1107, q1108, q1109, q1110] : List Nat)[i]?)))))) :: (q1106, .inl (cA 0, 10, .inl (fun _ => 0))) :: (q1107, .inl (cA 0, 10, .inl f1111)) :: (q1108, .inl (cA 0, 10, .inl f1112)) :: (q1109, .inl (cA 0, 10, .inl f1113)) :: (q1110, .inl (cA 0, 10, .inl f1114)) :: (q1126, .inr (12, [.int 0, .ref q1132])) :: (q1132, .inr (7, [.ref q1133, .ref q1134, .ref q1135, .ref q1136, .ref q1137, .ref q1142, .ref q1143, .ref q1144, .ref q1155, .int 0])) :: (q1133, .inr (0, [.int 0, .ref em, .int 0])) :: (q1134, .inr (0, [.int 0, .ref em, .int 0])) :: (q1135, .inr (0, [.int 0, .ref em, .int 0])) :: (q1136, .inr (0, [.int 0, .ref em, .int 0])) :: (q1137, .inl (cA 9, 4, .inr (.inr (.inr (.inr (fun i => ([q1138, q1139, q1140, q1141] : List Nat)[i]?)))))) :: (q1138, .inl (cA 0, 10, .inl f1156)) :: (q1139, .inl (cA 0, 10, .inl f1157)) :: (q1140, .inl (cA 0, 10, .inl f1158)) :: (q1141, .inl (cA 0, 10, .inl f1159)) :: (q1142, .inr (0, [.int 0, .ref em, .int 0])) :: (q1143, .inr (0, [.int 0, .ref em, .int 0])) :: (q1144, .inl (cA 10, 10, .inr (.inr (.inr (.inr (fun i => ([q1145, q1146, q1147, q1148, q1149, q1150, q1151, q1152, q1153, q1154] : List Nat)[i]?)))))) :: (q1145, .inl (cA 2, 10, .inl (fun _ => 0))) :: (q1146, .inl (cA 2, 10, .inl (fun _ => 0))) :: (q1147, .inl (cA 2, 10, .inl (fun _ => 0))) :: (q1148, .inl (cA 2, 10, .inl (fun _ => 0))) :: (q1149, .inl (cA 2, 10, .inl (fun _ => 0))) :: (q1150, .inl (cA 2, 10, .inl (fun _ => 0))) :: (q1151, .inl (cA 2, 10, .inl (fun _ => 0))) :: (q1152, .inl (cA 2, 10, .inl (fun _ => 0))) :: (q1153, .inl (cA 2, 10, .inl (fun _ => 0))) :: (q1154, .inl (cA 2, 10, .inl (fun _ => 0))) :: (q1155, .inr (0, [.int 0, .ref em, .int 0])) :: []) := hD
  refine W.widen (k := 37) (n := 332) (Nat.le_of_ble_eq_true rfl) (Nat.le_of_ble_eq_true rfl) ?_
  refine lv_astore_n (lv' := [(2, .ref q1126), (1, .ref q1094), (0, .ref b)]) hx hb dL_law_15 rfl hl (by decide) rfl (fun ls hl => ?_)
  refine lv_iconst (v := 1) hx hb dL_law_16 (by decide) ?_
  refine va_newa (atype := .long) (ty := .long) (N' := 1) (a0 := (1, .inr (.inl (fun _ => 0)))) hx hb (hts (.arrayClass .long) (by decide +kernel)) rfl hX.1 hP hD hS hA (fun _ => rfl) (by decide) (by decide) (Nat.le_of_ble_eq_true rfl) (Nat.le_of_ble_eq_true rfl) (Nat.le_of_ble_eq_true rfl) dL_law_17 (fun q1184 y1185 H hK9 hP hD hS => ?_)
  obtain rfl : y1185 = cA 1 := va_K_last (t0 := 1) hX.1 rfl hK9
  have hP : va_P D vwCl ((q1094, .inr (6, [.ref q1100, .ref q1101, .ref q1102, .ref q1103, .ref q1104, .ref q1105, .ref q1106, .int 0, .int 0, .int 0, .int 0, .int 0, .int 0])) :: (q1100, .inl (cA 3, 10, .inr (.inr (.inr (.inr (fun _ => none)))))) :: (q1101, .inl (cA 4, 20, .inr (.inr (.inr (.inr (fun _ => none)))))) :: (q1102, .inl (cA 5, 20, .inr (.inr (.inr (.inr (fun _ => none)))))) :: (q1103, .inl (cA 6, 20, .inr (.inr (.inr (.inr (fun _ => none)))))) :: (q1104, .inl (cA 7, 8, .inr (.inr (.inr (.inr (fun _ => none)))))) :: (q1105, .inl (cA 9, 4, .inr (.inr (.inr (.inr (fun i => ([q1107, q1108, q1109, q1110] : List Nat)[i]?)))))) :: (q1106, .inl (cA 0, 10, .inl (fun _ => 0))) :: (q1107, .inl (cA 0, 10, .inl f1111)) :: (q1108, .inl (cA 0, 10, .inl f1112)) :: (q1109, .inl (cA 0, 10, .inl f1113)) :: (q1110, .inl (cA 0, 10, .inl f1114)) :: (q1126, .inr (12, [.int 0, .ref q1132])) :: (q1132, .inr (7, [.ref q1133, .ref q1134, .ref q1135, .ref q1136, .ref q1137, .ref q1142, .ref q1143, .ref q1144, .ref q1155, .int 0])) :: (q1133, .inr (0, [.int 0, .ref em, .int 0])) :: (q1134, .inr (0, [.int 0, .ref em, .int 0])) :: (q1135, .inr (0, [.int 0, .ref em, .int 0])) :: (q1136, .inr (0, [.int 0, .ref em, .int 0])) :: (q1137, .inl (cA 9, 4, .inr (.inr (.inr (.inr (fun i => ([q1138, q1139, q1140, q1141] : List Nat)[i]?)))))) :: (q1138, .inl (cA 0, 10, .inl f1156)) :: (q1139, .inl (cA 0, 10, .inl f1157)) :: (q1140, .inl (cA 0, 10, .inl f1158)) :: (q1141, .inl (cA 0, 10, .inl f1159)) :: (q1142, .inr (0, [.int 0, .ref em, .int 0])) :: (q1143, .inr (0, [.int 0, .ref em, .int 0])) :: (q1144, .inl (cA 10, 10, .inr (.inr (.inr (.inr (fun i => ([q1145, q1146, q1147, q1148, q1149, q1150, q1151, q1152, q1153, q1154] : List Nat)[i]?)))))) :: (q1145, .inl (cA 2, 10, .inl (fun _ => 0))) :: (q1146, .inl (cA 2, 10, .inl (fun _ => 0))) :: (q1147, .inl (cA 2, 10, .inl (fun _ => 0))) :: (q1148, .inl (cA 2, 10, .inl (fun _ => 0))) :: (q1149, .inl (cA 2, 10, .inl (fun _ => 0))) :: (q1150, .inl (cA 2, 10, .inl (fun _ => 0))) :: (q1151, .inl (cA 2, 10, .inl (fun _ => 0))) :: (q1152, .inl (cA 2, 10, .inl (fun _ => 0))) :: (q1153, .inl (cA 2, 10, .inl (fun _ => 0))) :: (q1154, .inl (cA 2, 10, .inl (fun _ => 0))) :: (q1155, .inr (0, [.int 0, .ref em, .int 0])) :: (q1184, .inl (cA 1, 1, .inr (.inl (fun _ => 0)))) :: []) H := hP
  have hD : va_D (fun q : Nat => s.heap.size ≤ q) ((q1094, .inr (6, [.ref q1100, .ref q1101, .ref q1102, .ref q1103, .ref q1104, .ref q1105, .ref q1106, .int 0, .int 0, .int 0, .int 0, .int 0, .int 0])) :: (q1100, .inl (cA 3, 10, .inr (.inr (.inr (.inr (fun _ => none)))))) :: (q1101, .inl (cA 4, 20, .inr (.inr (.inr (.inr (fun _ => none)))))) :: (q1102, .inl (cA 5, 20, .inr (.inr (.inr (.inr (fun _ => none)))))) :: (q1103, .inl (cA 6, 20, .inr (.inr (.inr (.inr (fun _ => none)))))) :: (q1104, .inl (cA 7, 8, .inr (.inr (.inr (.inr (fun _ => none)))))) :: (q1105, .inl (cA 9, 4, .inr (.inr (.inr (.inr (fun i => ([q1107, q1108, q1109, q1110] : List Nat)[i]?)))))) :: (q1106, .inl (cA 0, 10, .inl (fun _ => 0))) :: (q1107, .inl (cA 0, 10, .inl f1111)) :: (q1108, .inl (cA 0, 10, .inl f1112)) :: (q1109, .inl (cA 0, 10, .inl f1113)) :: (q1110, .inl (cA 0, 10, .inl f1114)) :: (q1126, .inr (12, [.int 0, .ref q1132])) :: (q1132, .inr (7, [.ref q1133, .ref q1134, .ref q1135, .ref q1136, .ref q1137, .ref q1142, .ref q1143, .ref q1144, .ref q1155, .int 0])) :: (q1133, .inr (0, [.int 0, .ref em, .int 0])) :: (q1134, .inr (0, [.int 0, .ref em, .int 0])) :: (q1135, .inr (0, [.int 0, .ref em, .int 0])) :: (q1136, .inr (0, [.int 0, .ref em, .int 0])) :: (q1137, .inl (cA 9, 4, .inr (.inr (.inr (.inr (fun i => ([q1138, q1139, q1140, q1141] : List Nat)[i]?)))))) :: (q1138, .inl (cA 0, 10, .inl f1156)) :: (q1139, .inl (cA 0, 10, .inl f1157)) :: (q1140, .inl (cA 0, 10, .inl f1158)) :: (q1141, .inl (cA 0, 10, .inl f1159)) :: (q1142, .inr (0, [.int 0, .ref em, .int 0])) :: (q1143, .inr (0, [.int 0, .ref em, .int 0])) :: (q1144, .inl (cA 10, 10, .inr (.inr (.inr (.inr (fun i => ([q1145, q1146, q1147, q1148, q1149, q1150, q1151, q1152, q1153, q1154] : List Nat)[i]?)))))) :: (q1145, .inl (cA 2, 10, .inl (fun _ => 0))) :: (q1146, .inl (cA 2, 10, .inl (fun _ => 0))) :: (q1147, .inl (cA 2, 10, .inl (fun _ => 0))) :: (q1148, .inl (cA 2, 10, .inl (fun _ => 0))) :: (q1149, .inl (cA 2, 10, .inl (fun _ => 0))) :: (q1150, .inl (cA 2, 10, .inl (fun _ => 0))) :: (q1151, .inl (cA 2, 10, .inl (fun _ => 0))) :: (q1152, .inl (cA 2, 10, .inl (fun _ => 0))) :: (q1153, .inl (cA 2, 10, .inl (fun _ => 0))) :: (q1154, .inl (cA 2, 10, .inl (fun _ => 0))) :: (q1155, .inr (0, [.int 0, .ref em, .int 0])) :: (q1184, .inl (cA 1, 1, .inr (.inl (fun _ => 0)))) :: []) := hD
  refine W.widen (k := 38) (n := 333) (Nat.le_of_ble_eq_true rfl) (Nat.le_of_ble_eq_true rfl) ?_
  refine lv_astore_n (lv' := [(3, .ref q1184), (2, .ref q1126), (1, .ref q1094), (0, .ref b)]) hx hb dL_law_19 rfl hl (by decide) rfl (fun ls hl => ?_)
  refine lv_iconst (v := 0) hx hb dL_law_20 (by decide) ?_
  refine lv_istore (lv' := [(4, .int 0), (3, .ref q1184), (2, .ref q1126), (1, .ref q1094), (0, .ref b)]) hx hb dL_law_21 hl (by decide) rfl (fun ls hl => ?_)
  refine lv_iload hx hb dL_law_23 (lv_at hl 0 rfl) ?_
  refine lv_aload_n hx hb dL_law_25 rfl (lv_at hl 4 rfl) ?_
  rcases (show L = 0 ∨ L = 1 ∨ L = 2 ∨ L = 3 ∨ L = 4 ∨ L = 5 ∨ L = 6 ∨ L = 7 by omega) with rfl | rfl | rfl | rfl | rfl | rfl | rfl | rfl
  · refine va_slen hx hb hsc hbl hbA hS dL_law_26 ?_
    refine lv_topi (fun a1187 ea1187 => ?_)
    obtain rfl : a1187 = 0 := ea1187.trans (by decide)
    refine lv_bipush (v := 7) hx hb dL_law_27 (by decide) ?_
    refine lv_isub hx hb dL_law_29 ?_
    refine lv_topi (fun a1188 ea1188 => ?_)
    obtain rfl : a1188 = (-7) := ea1188.trans (by decide)
    refine lv_icmp_gt (tgt := 2130) hx hb dL_law_30 (by decide) (fun _ => ?_) (fun c1189 => absurd (by decide) c1189)
    refine lv_iconst (v := 1) hx hb dL_law_2130 (by decide) ?_
    refine va_forget (fun q hq => hS.2.2 q hq) ?_
    refine W.widen (k := 650797) (n := 7149846) (Nat.le_of_ble_eq_true rfl) (Nat.le_of_ble_eq_true rfl) ?_
    exact W.base (lw_ret (d0 := s.drawn) (Drawn.sameBut.refl s.drawn lw_cs) hx hb hr hlocks dL_law_2131)
  · refine va_slen hx hb hsc hbl hbA hS dL_law_26 ?_
    refine lv_topi (fun a1190 ea1190 => ?_)
    obtain rfl : a1190 = 1 := ea1190.trans (by decide)
    refine lv_bipush (v := 7) hx hb dL_law_27 (by decide) ?_
    refine lv_isub hx hb dL_law_29 ?_
    refine lv_topi (fun a1191 ea1191 => ?_)
    obtain rfl : a1191 = (-6) := ea1191.trans (by decide)
    refine lv_icmp_gt (tgt := 2130) hx hb dL_law_30 (by decide) (fun _ => ?_) (fun c1192 => absurd (by decide) c1192)
    refine lv_iconst (v := 1) hx hb dL_law_2130 (by decide) ?_
    refine va_forget (fun q hq => hS.2.2 q hq) ?_
    refine W.widen (k := 650797) (n := 7149846) (Nat.le_of_ble_eq_true rfl) (Nat.le_of_ble_eq_true rfl) ?_
    exact W.base (lw_ret (d0 := s.drawn) (Drawn.sameBut.refl s.drawn lw_cs) hx hb hr hlocks dL_law_2131)
  · refine va_slen hx hb hsc hbl hbA hS dL_law_26 ?_
    refine lv_topi (fun a1193 ea1193 => ?_)
    obtain rfl : a1193 = 2 := ea1193.trans (by decide)
    refine lv_bipush (v := 7) hx hb dL_law_27 (by decide) ?_
    refine lv_isub hx hb dL_law_29 ?_
    refine lv_topi (fun a1194 ea1194 => ?_)
    obtain rfl : a1194 = (-5) := ea1194.trans (by decide)
    refine lv_icmp_gt (tgt := 2130) hx hb dL_law_30 (by decide) (fun _ => ?_) (fun c1195 => absurd (by decide) c1195)
    refine lv_iconst (v := 1) hx hb dL_law_2130 (by decide) ?_
    refine va_forget (fun q hq => hS.2.2 q hq) ?_
    refine W.widen (k := 650797) (n := 7149846) (Nat.le_of_ble_eq_true rfl) (Nat.le_of_ble_eq_true rfl) ?_
    exact W.base (lw_ret (d0 := s.drawn) (Drawn.sameBut.refl s.drawn lw_cs) hx hb hr hlocks dL_law_2131)
  · refine va_slen hx hb hsc hbl hbA hS dL_law_26 ?_
    refine lv_topi (fun a1196 ea1196 => ?_)
    obtain rfl : a1196 = 3 := ea1196.trans (by decide)
    refine lv_bipush (v := 7) hx hb dL_law_27 (by decide) ?_
    refine lv_isub hx hb dL_law_29 ?_
    refine lv_topi (fun a1197 ea1197 => ?_)
    obtain rfl : a1197 = (-4) := ea1197.trans (by decide)
    refine lv_icmp_gt (tgt := 2130) hx hb dL_law_30 (by decide) (fun _ => ?_) (fun c1198 => absurd (by decide) c1198)
    refine lv_iconst (v := 1) hx hb dL_law_2130 (by decide) ?_
    refine va_forget (fun q hq => hS.2.2 q hq) ?_
    refine W.widen (k := 650797) (n := 7149846) (Nat.le_of_ble_eq_true rfl) (Nat.le_of_ble_eq_true rfl) ?_
    exact W.base (lw_ret (d0 := s.drawn) (Drawn.sameBut.refl s.drawn lw_cs) hx hb hr hlocks dL_law_2131)
  · refine va_slen hx hb hsc hbl hbA hS dL_law_26 ?_
    refine lv_topi (fun a1199 ea1199 => ?_)
    obtain rfl : a1199 = 4 := ea1199.trans (by decide)
    refine lv_bipush (v := 7) hx hb dL_law_27 (by decide) ?_
    refine lv_isub hx hb dL_law_29 ?_
    refine lv_topi (fun a1200 ea1200 => ?_)
    obtain rfl : a1200 = (-3) := ea1200.trans (by decide)
    refine lv_icmp_gt (tgt := 2130) hx hb dL_law_30 (by decide) (fun _ => ?_) (fun c1201 => absurd (by decide) c1201)
    refine lv_iconst (v := 1) hx hb dL_law_2130 (by decide) ?_
    refine va_forget (fun q hq => hS.2.2 q hq) ?_
    refine W.widen (k := 650797) (n := 7149846) (Nat.le_of_ble_eq_true rfl) (Nat.le_of_ble_eq_true rfl) ?_
    exact W.base (lw_ret (d0 := s.drawn) (Drawn.sameBut.refl s.drawn lw_cs) hx hb hr hlocks dL_law_2131)
  · refine va_slen hx hb hsc hbl hbA hS dL_law_26 ?_
    refine lv_topi (fun a1202 ea1202 => ?_)
    obtain rfl : a1202 = 5 := ea1202.trans (by decide)
    refine lv_bipush (v := 7) hx hb dL_law_27 (by decide) ?_
    refine lv_isub hx hb dL_law_29 ?_
    refine lv_topi (fun a1203 ea1203 => ?_)
    obtain rfl : a1203 = (-2) := ea1203.trans (by decide)
    refine lv_icmp_gt (tgt := 2130) hx hb dL_law_30 (by decide) (fun _ => ?_) (fun c1204 => absurd (by decide) c1204)
    refine lv_iconst (v := 1) hx hb dL_law_2130 (by decide) ?_
    refine va_forget (fun q hq => hS.2.2 q hq) ?_
    refine W.widen (k := 650797) (n := 7149846) (Nat.le_of_ble_eq_true rfl) (Nat.le_of_ble_eq_true rfl) ?_
    exact W.base (lw_ret (d0 := s.drawn) (Drawn.sameBut.refl s.drawn lw_cs) hx hb hr hlocks dL_law_2131)
  · refine va_slen hx hb hsc hbl hbA hS dL_law_26 ?_
    refine lv_topi (fun a1205 ea1205 => ?_)
    obtain rfl : a1205 = 6 := ea1205.trans (by decide)
    refine lv_bipush (v := 7) hx hb dL_law_27 (by decide) ?_
    refine lv_isub hx hb dL_law_29 ?_
    refine lv_topi (fun a1206 ea1206 => ?_)
    obtain rfl : a1206 = (-1) := ea1206.trans (by decide)
    refine lv_icmp_gt (tgt := 2130) hx hb dL_law_30 (by decide) (fun _ => ?_) (fun c1207 => absurd (by decide) c1207)
    refine lv_iconst (v := 1) hx hb dL_law_2130 (by decide) ?_
    refine va_forget (fun q hq => hS.2.2 q hq) ?_
    refine W.widen (k := 650797) (n := 7149846) (Nat.le_of_ble_eq_true rfl) (Nat.le_of_ble_eq_true rfl) ?_
    exact W.base (lw_ret (d0 := s.drawn) (Drawn.sameBut.refl s.drawn lw_cs) hx hb hr hlocks dL_law_2131)
  · refine va_slen hx hb hsc hbl hbA hS dL_law_26 ?_
    refine lv_topi (fun a1208 ea1208 => ?_)
    obtain rfl : a1208 = 7 := ea1208.trans (by decide)
    refine lv_bipush (v := 7) hx hb dL_law_27 (by decide) ?_
    refine lv_isub hx hb dL_law_29 ?_
    refine lv_topi (fun a1209 ea1209 => ?_)
    obtain rfl : a1209 = 0 := ea1209.trans (by decide)
    refine lv_icmp_gt (tgt := 2130) hx hb dL_law_30 (by decide) (fun c1210 => absurd c1210 (by decide)) (fun _ => ?_)
    refine lv_aload_n hx hb dL_law_33 rfl (lv_at hl 4 rfl) ?_
    refine lv_iload hx hb dL_law_34 (lv_at hl 0 rfl) ?_
    refine va_sld hx hb hsc hbl hbA hS (vp_in_nI (n := 0) (by decide) (by decide)) dL_law_36 ?_
    refine lv_topi (fun a1211 ea1211 => ?_)
    refine lv_bipush (v := 31) hx hb dL_law_37 (by decide) ?_
    refine lv_iand hx hb dL_law_39 ?_
    refine lv_topi (fun a1212 ea1212 => ?_)
    by_cases q1213 : a1212.toInt < 0 ∨ 29 < a1212.toInt
    · refine lv_tableOut (tgt := 2124) hx hb dL_law_40 q1213 (by decide) ?_
      refine lv_iinc (v := 7) (lv' := [(4, .int 7), (3, .ref q1184), (2, .ref q1126), (1, .ref q1094), (0, .ref b)]) hx hb dL_law_2124 hl (k := 0) rfl (by decide) (by decide) rfl (fun ls hl => ?_)
      refine lv_goto (tgt := 23) hx hb dL_law_2127 (by decide) ?_
      refine lv_iload hx hb dL_law_23 (lv_at hl 0 rfl) ?_
      refine lv_aload_n hx hb dL_law_25 rfl (lv_at hl 4 rfl) ?_
      refine va_slen hx hb hsc hbl hbA hS dL_law_26 ?_
      refine lv_topi (fun a1215 ea1215 => ?_)
      obtain rfl : a1215 = 7 := ea1215.trans (by decide)
      refine lv_bipush (v := 7) hx hb dL_law_27 (by decide) ?_
      refine lv_isub hx hb dL_law_29 ?_
      refine lv_topi (fun a1216 ea1216 => ?_)
      obtain rfl : a1216 = 0 := ea1216.trans (by decide)
      refine lv_icmp_gt (tgt := 2130) hx hb dL_law_30 (by decide) (fun _ => ?_) (fun c1217 => absurd (by decide) c1217)
      refine lv_iconst (v := 1) hx hb dL_law_2130 (by decide) ?_
      refine va_forget (fun q hq => hS.2.2 q hq) ?_
      refine W.widen (k := 650797) (n := 7149846) (Nat.le_of_ble_eq_true rfl) (Nat.le_of_ble_eq_true rfl) ?_
      exact W.base (lw_ret (d0 := s.drawn) (Drawn.sameBut.refl s.drawn lw_cs) hx hb hr hlocks dL_law_2131)
    · obtain ⟨j1214, hj1214, ej1214⟩ := sw_cases 29 rfl q1213
      rcases (show j1214 = 0 ∨ j1214 = 1 ∨ j1214 = 2 ∨ j1214 = 3 ∨ j1214 = 4 ∨ j1214 = 5 ∨ j1214 = 6 ∨ j1214 = 7 ∨ j1214 = 8 ∨ j1214 = 9 ∨ j1214 = 10 ∨ j1214 = 11 ∨ j1214 = 12 ∨ j1214 = 13 ∨ j1214 = 14 ∨ j1214 = 15 ∨ j1214 = 16 ∨ j1214 = 17 ∨ j1214 = 18 ∨ j1214 = 19 ∨ j1214 = 20 ∨ j1214 = 21 ∨ j1214 = 22 ∨ j1214 = 23 ∨ j1214 = 24 ∨ j1214 = 25 ∨ j1214 = 26 ∨ j1214 = 27 ∨ j1214 = 28 ∨ j1214 = 29 by omega) with rfl | rfl | rfl | rfl | rfl | rfl | rfl | rfl | rfl | rfl | rfl | rfl | rfl | rfl | rfl | rfl | rfl | rfl | rfl | rfl | rfl | rfl | rfl | rfl | rfl | rfl | rfl | rfl | rfl | rfl
      · obtain rfl : a1212 = 0 := ej1214
        refine lv_tableIn (tgt := 176) hx hb dL_law_40 (by decide) (by decide) rfl (by decide) ?_
        exact law_arm_0 C1 q1094 q1100 q1101 q1102 q1103 q1104 q1105 q1106 q1107 q1108 q1109 q1110 q1126 q1132 q1133 q1134 q1135 q1136 q1137 q1138 q1139 q1140 q1141 q1142 q1143 q1144 q1145 q1146 q1147 q1148 q1149 q1150 q1151 q1152 q1153 q1154 q1155 q1184 f1111 f1112 f1113 f1114 f1156 f1157 f1158 f1159 H locs hP hD hS ls hl
      · obtain rfl : a1212 = 1 := ej1214
        refine lv_tableIn (tgt := 232) hx hb dL_law_40 (by decide) (by decide) rfl (by decide) ?_
        exact law_arm_1 C1 q1094 q1100 q1101 q1102 q1103 q1104 q1105 q1106 q1107 q1108 q1109 q1110 q1126 q1132 q1133 q1134 q1135 q1136 q1137 q1138 q1139 q1140 q1141 q1142 q1143 q1144 q1145 q1146 q1147 q1148 q1149 q1150 q1151 q1152 q1153 q1154 q1155 q1184 f1111 f1112 f1113 f1114 f1156 f1157 f1158 f1159 H locs hP hD hS ls hl
      · obtain rfl : a1212 = 2 := ej1214
        refine lv_tableIn (tgt := 350) hx hb dL_law_40 (by decide) (by decide) rfl (by decide) ?_
        exact law_arm_2 C1 q1094 q1100 q1101 q1102 q1103 q1104 q1105 q1106 q1107 q1108 q1109 q1110 q1126 q1132 q1133 q1134 q1135 q1136 q1137 q1138 q1139 q1140 q1141 q1142 q1143 q1144 q1145 q1146 q1147 q1148 q1149 q1150 q1151 q1152 q1153 q1154 q1155 q1184 f1111 f1112 f1113 f1114 f1156 f1157 f1158 f1159 H locs hP hD hS ls hl
      · obtain rfl : a1212 = 3 := ej1214
        refine lv_tableIn (tgt := 406) hx hb dL_law_40 (by decide) (by decide) rfl (by decide) ?_
        exact law_arm_3 C1 q1094 q1100 q1101 q1102 q1103 q1104 q1105 q1106 q1107 q1108 q1109 q1110 q1126 q1132 q1133 q1134 q1135 q1136 q1137 q1138 q1139 q1140 q1141 q1142 q1143 q1144 q1145 q1146 q1147 q1148 q1149 q1150 q1151 q1152 q1153 q1154 q1155 q1184 f1111 f1112 f1113 f1114 f1156 f1157 f1158 f1159 H locs hP hD hS ls hl
      · obtain rfl : a1212 = 4 := ej1214
        refine lv_tableIn (tgt := 462) hx hb dL_law_40 (by decide) (by decide) rfl (by decide) ?_
        exact law_arm_4 C1 q1094 q1100 q1101 q1102 q1103 q1104 q1105 q1106 q1107 q1108 q1109 q1110 q1126 q1132 q1133 q1134 q1135 q1136 q1137 q1138 q1139 q1140 q1141 q1142 q1143 q1144 q1145 q1146 q1147 q1148 q1149 q1150 q1151 q1152 q1153 q1154 q1155 q1184 f1111 f1112 f1113 f1114 f1156 f1157 f1158 f1159 H locs hP hD hS ls hl
      · obtain rfl : a1212 = 5 := ej1214
        refine lv_tableIn (tgt := 518) hx hb dL_law_40 (by decide) (by decide) rfl (by decide) ?_
        exact law_arm_5 C1 q1094 q1100 q1101 q1102 q1103 q1104 q1105 q1106 q1107 q1108 q1109 q1110 q1126 q1132 q1133 q1134 q1135 q1136 q1137 q1138 q1139 q1140 q1141 q1142 q1143 q1144 q1145 q1146 q1147 q1148 q1149 q1150 q1151 q1152 q1153 q1154 q1155 q1184 f1111 f1112 f1113 f1114 f1156 f1157 f1158 f1159 H locs hP hD hS ls hl
      · obtain rfl : a1212 = 6 := ej1214
        refine lv_tableIn (tgt := 598) hx hb dL_law_40 (by decide) (by decide) rfl (by decide) ?_
        exact law_arm_6 C1 q1094 q1100 q1101 q1102 q1103 q1104 q1105 q1106 q1107 q1108 q1109 q1110 q1126 q1132 q1133 q1134 q1135 q1136 q1137 q1138 q1139 q1140 q1141 q1142 q1143 q1144 q1145 q1146 q1147 q1148 q1149 q1150 q1151 q1152 q1153 q1154 q1155 q1184 f1111 f1112 f1113 f1114 f1156 f1157 f1158 f1159 H locs hP hD hS ls hl
      · obtain rfl : a1212 = 7 := ej1214
        refine lv_tableIn (tgt := 666) hx hb dL_law_40 (by decide) (by decide) rfl (by decide) ?_
        exact law_arm_7 C1 q1094 q1100 q1101 q1102 q1103 q1104 q1105 q1106 q1107 q1108 q1109 q1110 q1126 q1132 q1133 q1134 q1135 q1136 q1137 q1138 q1139 q1140 q1141 q1142 q1143 q1144 q1145 q1146 q1147 q1148 q1149 q1150 q1151 q1152 q1153 q1154 q1155 q1184 f1111 f1112 f1113 f1114 f1156 f1157 f1158 f1159 H locs hP hD hS ls hl
      · obtain rfl : a1212 = 8 := ej1214
        refine lv_tableIn (tgt := 734) hx hb dL_law_40 (by decide) (by decide) rfl (by decide) ?_
        exact law_arm_8 C1 q1094 q1100 q1101 q1102 q1103 q1104 q1105 q1106 q1107 q1108 q1109 q1110 q1126 q1132 q1133 q1134 q1135 q1136 q1137 q1138 q1139 q1140 q1141 q1142 q1143 q1144 q1145 q1146 q1147 q1148 q1149 q1150 q1151 q1152 q1153 q1154 q1155 q1184 f1111 f1112 f1113 f1114 f1156 f1157 f1158 f1159 H locs hP hD hS ls hl
      · obtain rfl : a1212 = 9 := ej1214
        refine lv_tableIn (tgt := 797) hx hb dL_law_40 (by decide) (by decide) rfl (by decide) ?_
        exact law_arm_9 C1 q1094 q1100 q1101 q1102 q1103 q1104 q1105 q1106 q1107 q1108 q1109 q1110 q1126 q1132 q1133 q1134 q1135 q1136 q1137 q1138 q1139 q1140 q1141 q1142 q1143 q1144 q1145 q1146 q1147 q1148 q1149 q1150 q1151 q1152 q1153 q1154 q1155 q1184 f1111 f1112 f1113 f1114 f1156 f1157 f1158 f1159 H locs hP hD hS ls hl
      · obtain rfl : a1212 = 10 := ej1214
        refine lv_tableIn (tgt := 865) hx hb dL_law_40 (by decide) (by decide) rfl (by decide) ?_
        exact law_arm_10 C1 q1094 q1100 q1101 q1102 q1103 q1104 q1105 q1106 q1107 q1108 q1109 q1110 q1126 q1132 q1133 q1134 q1135 q1136 q1137 q1138 q1139 q1140 q1141 q1142 q1143 q1144 q1145 q1146 q1147 q1148 q1149 q1150 q1151 q1152 q1153 q1154 q1155 q1184 f1111 f1112 f1113 f1114 f1156 f1157 f1158 f1159 H locs hP hD hS ls hl
      · obtain rfl : a1212 = 11 := ej1214
        refine lv_tableIn (tgt := 933) hx hb dL_law_40 (by decide) (by decide) rfl (by decide) ?_
        exact law_arm_11 C1 q1094 q1100 q1101 q1102 q1103 q1104 q1105 q1106 q1107 q1108 q1109 q1110 q1126 q1132 q1133 q1134 q1135 q1136 q1137 q1138 q1139 q1140 q1141 q1142 q1143 q1144 q1145 q1146 q1147 q1148 q1149 q1150 q1151 q1152 q1153 q1154 q1155 q1184 f1111 f1112 f1113 f1114 f1156 f1157 f1158 f1159 H locs hP hD hS ls hl
      · obtain rfl : a1212 = 12 := ej1214
        refine lv_tableIn (tgt := 1001) hx hb dL_law_40 (by decide) (by decide) rfl (by decide) ?_
        exact law_arm_12 C1 q1094 q1100 q1101 q1102 q1103 q1104 q1105 q1106 q1107 q1108 q1109 q1110 q1126 q1132 q1133 q1134 q1135 q1136 q1137 q1138 q1139 q1140 q1141 q1142 q1143 q1144 q1145 q1146 q1147 q1148 q1149 q1150 q1151 q1152 q1153 q1154 q1155 q1184 f1111 f1112 f1113 f1114 f1156 f1157 f1158 f1159 H locs hP hD hS ls hl
      · obtain rfl : a1212 = 13 := ej1214
        refine lv_tableIn (tgt := 1057) hx hb dL_law_40 (by decide) (by decide) rfl (by decide) ?_
        exact law_arm_13 C1 q1094 q1100 q1101 q1102 q1103 q1104 q1105 q1106 q1107 q1108 q1109 q1110 q1126 q1132 q1133 q1134 q1135 q1136 q1137 q1138 q1139 q1140 q1141 q1142 q1143 q1144 q1145 q1146 q1147 q1148 q1149 q1150 q1151 q1152 q1153 q1154 q1155 q1184 f1111 f1112 f1113 f1114 f1156 f1157 f1158 f1159 H locs hP hD hS ls hl
      · obtain rfl : a1212 = 14 := ej1214
        refine lv_tableIn (tgt := 1161) hx hb dL_law_40 (by decide) (by decide) rfl (by decide) ?_
        exact law_arm_14 C1 q1094 q1100 q1101 q1102 q1103 q1104 q1105 q1106 q1107 q1108 q1109 q1110 q1126 q1132 q1133 q1134 q1135 q1136 q1137 q1138 q1139 q1140 q1141 q1142 q1143 q1144 q1145 q1146 q1147 q1148 q1149 q1150 q1151 q1152 q1153 q1154 q1155 q1184 f1111 f1112 f1113 f1114 f1156 f1157 f1158 f1159 H locs hP hD hS ls hl
      · obtain rfl : a1212 = 15 := ej1214
        refine lv_tableIn (tgt := 1245) hx hb dL_law_40 (by decide) (by decide) rfl (by decide) ?_
        exact law_arm_15 C1 q1094 q1100 q1101 q1102 q1103 q1104 q1105 q1106 q1107 q1108 q1109 q1110 q1126 q1132 q1133 q1134 q1135 q1136 q1137 q1138 q1139 q1140 q1141 q1142 q1143 q1144 q1145 q1146 q1147 q1148 q1149 q1150 q1151 q1152 q1153 q1154 q1155 q1184 f1111 f1112 f1113 f1114 f1156 f1157 f1158 f1159 H locs hP hD hS ls hl
      · obtain rfl : a1212 = 16 := ej1214
        refine lv_tableIn (tgt := 1301) hx hb dL_law_40 (by decide) (by decide) rfl (by decide) ?_
        exact law_arm_16 C1 q1094 q1100 q1101 q1102 q1103 q1104 q1105 q1106 q1107 q1108 q1109 q1110 q1126 q1132 q1133 q1134 q1135 q1136 q1137 q1138 q1139 q1140 q1141 q1142 q1143 q1144 q1145 q1146 q1147 q1148 q1149 q1150 q1151 q1152 q1153 q1154 q1155 q1184 f1111 f1112 f1113 f1114 f1156 f1157 f1158 f1159 H locs hP hD hS ls hl
      · obtain rfl : a1212 = 17 := ej1214
        refine lv_tableIn (tgt := 1369) hx hb dL_law_40 (by decide) (by decide) rfl (by decide) ?_
        exact law_arm_17 C1 q1094 q1100 q1101 q1102 q1103 q1104 q1105 q1106 q1107 q1108 q1109 q1110 q1126 q1132 q1133 q1134 q1135 q1136 q1137 q1138 q1139 q1140 q1141 q1142 q1143 q1144 q1145 q1146 q1147 q1148 q1149 q1150 q1151 q1152 q1153 q1154 q1155 q1184 f1111 f1112 f1113 f1114 f1156 f1157 f1158 f1159 H locs hP hD hS ls hl
      · obtain rfl : a1212 = 18 := ej1214
        refine lv_tableIn (tgt := 1444) hx hb dL_law_40 (by decide) (by decide) rfl (by decide) ?_
        exact law_arm_18 C1 q1094 q1100 q1101 q1102 q1103 q1104 q1105 q1106 q1107 q1108 q1109 q1110 q1126 q1132 q1133 q1134 q1135 q1136 q1137 q1138 q1139 q1140 q1141 q1142 q1143 q1144 q1145 q1146 q1147 q1148 q1149 q1150 q1151 q1152 q1153 q1154 q1155 q1184 f1111 f1112 f1113 f1114 f1156 f1157 f1158 f1159 H locs hP hD hS ls hl
      · obtain rfl : a1212 = 19 := ej1214
        refine lv_tableIn (tgt := 1524) hx hb dL_law_40 (by decide) (by decide) rfl (by decide) ?_
        exact law_arm_19 C1 q1094 q1100 q1101 q1102 q1103 q1104 q1105 q1106 q1107 q1108 q1109 q1110 q1126 q1132 q1133 q1134 q1135 q1136 q1137 q1138 q1139 q1140 q1141 q1142 q1143 q1144 q1145 q1146 q1147 q1148 q1149 q1150 q1151 q1152 q1153 q1154 q1155 q1184 f1111 f1112 f1113 f1114 f1156 f1157 f1158 f1159 H locs hP hD hS ls hl
      · obtain rfl : a1212 = 20 := ej1214
        refine lv_tableIn (tgt := 1604) hx hb dL_law_40 (by decide) (by decide) rfl (by decide) ?_
        exact law_arm_20 C1 q1094 q1100 q1101 q1102 q1103 q1104 q1105 q1106 q1107 q1108 q1109 q1110 q1126 q1132 q1133 q1134 q1135 q1136 q1137 q1138 q1139 q1140 q1141 q1142 q1143 q1144 q1145 q1146 q1147 q1148 q1149 q1150 q1151 q1152 q1153 q1154 q1155 q1184 f1111 f1112 f1113 f1114 f1156 f1157 f1158 f1159 H locs hP hD hS ls hl
      · obtain rfl : a1212 = 21 := ej1214
        refine lv_tableIn (tgt := 1708) hx hb dL_law_40 (by decide) (by decide) rfl (by decide) ?_
        exact law_arm_21 C1 q1094 q1100 q1101 q1102 q1103 q1104 q1105 q1106 q1107 q1108 q1109 q1110 q1126 q1132 q1133 q1134 q1135 q1136 q1137 q1138 q1139 q1140 q1141 q1142 q1143 q1144 q1145 q1146 q1147 q1148 q1149 q1150 q1151 q1152 q1153 q1154 q1155 q1184 f1111 f1112 f1113 f1114 f1156 f1157 f1158 f1159 H locs hP hD hS ls hl
      · obtain rfl : a1212 = 22 := ej1214
        refine lv_tableIn (tgt := 1764) hx hb dL_law_40 (by decide) (by decide) rfl (by decide) ?_
        exact law_arm_22 C1 q1094 q1100 q1101 q1102 q1103 q1104 q1105 q1106 q1107 q1108 q1109 q1110 q1126 q1132 q1133 q1134 q1135 q1136 q1137 q1138 q1139 q1140 q1141 q1142 q1143 q1144 q1145 q1146 q1147 q1148 q1149 q1150 q1151 q1152 q1153 q1154 q1155 q1184 f1111 f1112 f1113 f1114 f1156 f1157 f1158 f1159 H locs hP hD hS ls hl
      · obtain rfl : a1212 = 23 := ej1214
        refine lv_tableIn (tgt := 1777) hx hb dL_law_40 (by decide) (by decide) rfl (by decide) ?_
        exact law_arm_23 C1 q1094 q1100 q1101 q1102 q1103 q1104 q1105 q1106 q1107 q1108 q1109 q1110 q1126 q1132 q1133 q1134 q1135 q1136 q1137 q1138 q1139 q1140 q1141 q1142 q1143 q1144 q1145 q1146 q1147 q1148 q1149 q1150 q1151 q1152 q1153 q1154 q1155 q1184 f1111 f1112 f1113 f1114 f1156 f1157 f1158 f1159 H locs hP hD hS ls hl
      · obtain rfl : a1212 = 24 := ej1214
        refine lv_tableIn (tgt := 1845) hx hb dL_law_40 (by decide) (by decide) rfl (by decide) ?_
        exact law_arm_24 C1 q1094 q1100 q1101 q1102 q1103 q1104 q1105 q1106 q1107 q1108 q1109 q1110 q1126 q1132 q1133 q1134 q1135 q1136 q1137 q1138 q1139 q1140 q1141 q1142 q1143 q1144 q1145 q1146 q1147 q1148 q1149 q1150 q1151 q1152 q1153 q1154 q1155 q1184 f1111 f1112 f1113 f1114 f1156 f1157 f1158 f1159 H locs hP hD hS ls hl
      · obtain rfl : a1212 = 25 := ej1214
        refine lv_tableIn (tgt := 1901) hx hb dL_law_40 (by decide) (by decide) rfl (by decide) ?_
        exact law_arm_25 C1 q1094 q1100 q1101 q1102 q1103 q1104 q1105 q1106 q1107 q1108 q1109 q1110 q1126 q1132 q1133 q1134 q1135 q1136 q1137 q1138 q1139 q1140 q1141 q1142 q1143 q1144 q1145 q1146 q1147 q1148 q1149 q1150 q1151 q1152 q1153 q1154 q1155 q1184 f1111 f1112 f1113 f1114 f1156 f1157 f1158 f1159 H locs hP hD hS ls hl
      · obtain rfl : a1212 = 26 := ej1214
        refine lv_tableIn (tgt := 1942) hx hb dL_law_40 (by decide) (by decide) rfl (by decide) ?_
        exact law_arm_26 C1 q1094 q1100 q1101 q1102 q1103 q1104 q1105 q1106 q1107 q1108 q1109 q1110 q1126 q1132 q1133 q1134 q1135 q1136 q1137 q1138 q1139 q1140 q1141 q1142 q1143 q1144 q1145 q1146 q1147 q1148 q1149 q1150 q1151 q1152 q1153 q1154 q1155 q1184 f1111 f1112 f1113 f1114 f1156 f1157 f1158 f1159 H locs hP hD hS ls hl
      · obtain rfl : a1212 = 27 := ej1214
        refine lv_tableIn (tgt := 1998) hx hb dL_law_40 (by decide) (by decide) rfl (by decide) ?_
        exact law_arm_27 C1 q1094 q1100 q1101 q1102 q1103 q1104 q1105 q1106 q1107 q1108 q1109 q1110 q1126 q1132 q1133 q1134 q1135 q1136 q1137 q1138 q1139 q1140 q1141 q1142 q1143 q1144 q1145 q1146 q1147 q1148 q1149 q1150 q1151 q1152 q1153 q1154 q1155 q1184 f1111 f1112 f1113 f1114 f1156 f1157 f1158 f1159 H locs hP hD hS ls hl
      · obtain rfl : a1212 = 28 := ej1214
        refine lv_tableIn (tgt := 2054) hx hb dL_law_40 (by decide) (by decide) rfl (by decide) ?_
        exact law_arm_28 C1 q1094 q1100 q1101 q1102 q1103 q1104 q1105 q1106 q1107 q1108 q1109 q1110 q1126 q1132 q1133 q1134 q1135 q1136 q1137 q1138 q1139 q1140 q1141 q1142 q1143 q1144 q1145 q1146 q1147 q1148 q1149 q1150 q1151 q1152 q1153 q1154 q1155 q1184 f1111 f1112 f1113 f1114 f1156 f1157 f1158 f1159 H locs hP hD hS ls hl
      · obtain rfl : a1212 = 29 := ej1214
        refine lv_tableIn (tgt := 2110) hx hb dL_law_40 (by decide) (by decide) rfl (by decide) ?_
        exact law_arm_29 C1 q1094 q1100 q1101 q1102 q1103 q1104 q1105 q1106 q1107 q1108 q1109 q1110 q1126 q1132 q1133 q1134 q1135 q1136 q1137 q1138 q1139 q1140 q1141 q1142 q1143 q1144 q1145 q1146 q1147 q1148 q1149 q1150 q1151 q1152 q1153 q1154 q1155 q1184 f1111 f1112 f1113 f1114 f1156 f1157 f1158 f1159 H locs hP hD hS ls hl
