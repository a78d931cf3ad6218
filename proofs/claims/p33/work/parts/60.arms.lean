set_option maxHeartbeats 4000000 in
set_option maxRecDepth 100000 in
theorem law_arm_0 {p : Program} {e : Env} {s : State} {m : MethodId} {below : List Frame} {meth : Method} {c0 : Code} {l : Launch} {b L : Nat} {xs : Nat → Int32} {D : va_G} {cA : Nat → ClassId} (C1 : law_C p l s m meth c0 b L xs D cA) {c : SC} {v : SV} {w : SW} {u : Nat → Int32} {NL : List (Nat × Nat)} {ad : Nat → Nat → Nat} {i sh rr cl0 sl0 : Nat} {pk x9 : Int32} {ug : Nat × Nat × Nat × Nat} {HR : Heap} (hcl : cl0 ≤ 300000) (hsl : sl0 ≤ 3000000) (hi : INV c v w) (h2n : 2 ≤ c 0) (hM : MEM c NL) (hN : NMEM c NL) (hsh : sh < c 0) (hpk : pk = -1 ∨ ∃ q, q < c 4 ∧ pk = nI q) (hsz : s.heap.size ≤ HR.size) (hrl : rr < HR.size) (hPr0 : va_P D vwCl [(rr, .inl (cA 0, 4, .inl (rgF ug)))] HR) (hug : rgO ug) (H : Heap) (locs : List Loc) (hW : pcS D vwCl (lwA s rr) HR NL ad (ctO cA c v w u ad) H locs) (ls : Array Slot) (hl : lv_has ls 13 [(8, .ref rr), (7, .int pk), (6, .int (nI (c 4))), (5, .int (nI sh)), (4, .int x9), (3, .int (nI i)), (2, .int (nI (c 0))), (1, .ref (ad 5 0)), (0, .ref b)]) (kk : ∀ (c2 : SC) (v2 : SV) (w2 : SW) (u2 : Nat → Int32) (NL2 : List (Nat × Nat)) (ad2 : Nat → Nat → Nat) (H : Heap) (locs : List Loc) (ls : Array Slot), INV c2 v2 w2 → c2 0 = c 0 → MEM c2 NL2 → NMEM c2 NL2 → pcS D vwCl (lwA s rr) HR NL2 ad2 (ctO cA c2 v2 w2 u2 ad2) H locs → lv_has ls 13 [(3, .int (nI i)), (2, .int (nI (c 0))), (1, .ref (ad2 5 0)), (0, .ref b)] → W p l e room_1 s m #[Value.ref b] below meth c0 H locs (cl0 + 40) (sl0 + 200) (lw_Z below #[Value.ref b] s) (F0 m 789 ls [])) : W p l e room_1 s m #[Value.ref b] below meth c0 H locs cl0 sl0 (lw_Z below #[Value.ref b] s) (F0 m 280 ls []) := by
  obtain ⟨hx, hb, hr, hml, hown, hts, hlocks, hX, hsc, hbl, hL⟩ := id C1
  have hA : ∀ q : Nat, HR.size ≤ q → lwA s rr q := fun q h => ⟨Nat.le_trans hsz h, fun e => by omega⟩
  have h5n := hi.1
  refine lv_aload_n hx hb dL_law_280 rfl (lv_at hl 7 rfl) ?_
  refine lv_iload hx hb dL_law_281 (lv_at hl 3 rfl) ?_
  refine lv_iconst (v := 3) hx hb dL_law_283 (by decide) ?_
  refine pc_rcalli (va_runV (As := [.int (nI sh), .int 3]) (rest := []) ⟨hx, hb, hml, hown, hts⟩ (r_X5_ofSheet3 l D cA NL c v w u ad (nI sh) hM (INV_bnd hi) (INV_wf hi) (nI_nn (Nat.lt_of_lt_of_le hsh (Nat.le_trans (INV_bnd hi).1 (by decide)))) (by rw [nI_clamp (Nat.lt_of_lt_of_le hsh (Nat.le_trans (INV_bnd hi).1 (by decide)))]; exact hsh)) (cwV 2 hts gL_law_X5_ofSheet rfl rfl rfl (by decide +kernel) ⟨Nat.le_of_ble_eq_true rfl, Nat.le_of_ble_eq_true rfl⟩) (pc_preV pcN_ok hX hW.1 hM.1 rfl rfl hW.1) rfl rfl hl.1 rfl (lv_room (Nat.le_of_ble_eq_true rfl)) dL_law_284 ⟨(by show _ ≤ (600074 : Nat); omega), (by show _ ≤ (7301550 : Nat); omega)⟩) hW (fun r809 H locs hwr809 hW => ?_)
  replace hwr809 := hwr809.symm
  subst hwr809
  refine lv_if_ne (tgt := 789) hx hb dL_law_287 (by decide) (fun (c810 : ¬ (F_X5_ofSheet3 c v w (nI sh)) = 0) => ?_) (fun (c810 : (F_X5_ofSheet3 c v w (nI sh)) = 0) => ?_)
  · refine W.widen (k := cl0 + 40) (n := sl0 + 200) (by omega) (by omega) ?_
    exact kk c v w u NL ad H locs ls hi rfl hM hN hW (lv_sub hl [5, 6, 7, 8] rfl)
  · refine lv_aload_n hx hb dL_law_290 rfl (lv_at hl 7 rfl) ?_
    refine lv_iload hx hb dL_law_291 (lv_at hl 3 rfl) ?_
    have hD9 := hW.2.1
    refine pc_mcalli (va_runV (As := [.int (nI sh)]) (rest := []) ⟨hx, hb, hml, hown, hts⟩ (m_X5_check l D cA NL c v w u ad (lwA s rr) (nI sh) hM (INV_bnd hi) (INV_wf hi) (nI_nn (Nat.lt_of_lt_of_le hsh (Nat.le_trans (INV_bnd hi).1 (by decide)))) (by rw [nI_clamp (Nat.lt_of_lt_of_le hsh (Nat.le_trans (INV_bnd hi).1 (by decide)))]; exact hsh) c810) (cwV 1 hts gL_law_X5_check rfl rfl rfl (by decide +kernel) ⟨Nat.le_of_ble_eq_true rfl, Nat.le_of_ble_eq_true rfl⟩) (pc_preV pcN_ok hX hW.1 hM.1 rfl rfl ⟨hW.1, hW.2.1, fun q h => hA q (Nat.le_trans hW.2.2.1 h)⟩) rfl rfl hl.1 rfl (lv_room (Nat.le_of_ble_eq_true rfl)) dL_law_293 ⟨(by show _ ≤ (600074 : Nat); omega), (by show _ ≤ (7301550 : Nat); omega)⟩) hW.2.2 (fun r811 _ H locs hwr811 hB hS9 => ?_)
    replace hwr811 := hwr811.symm
    subst hwr811
    have hW : pcS D vwCl (lwA s rr) HR NL ad (ctO cA c (V_X5_check c v w (nI sh)) w u ad) H locs := ⟨hB, pcD_ct hD9, hS9⟩
    have hi812 : INV c (V_X5_check c v w (nI sh)) w := (INV_check hi hsh)
    refine lv_aload_n hx hb dL_law_296 rfl (lv_at hl 7 rfl) ?_
    refine lv_iload hx hb dL_law_297 (lv_at hl 3 rfl) ?_
    refine lv_bipush (v := 7) hx hb dL_law_299 (by decide) ?_
    refine pc_rcalli (va_runV (As := [.int (nI sh), .int 7]) (rest := [.int (F_X5_check c v w (nI sh))]) ⟨hx, hb, hml, hown, hts⟩ (r_X5_ofSheet7 l D cA NL c (V_X5_check c v w (nI sh)) w u ad (nI sh) hM (INV_bnd hi812) (INV_wf hi812) (nI_nn (Nat.lt_of_lt_of_le hsh (Nat.le_trans (INV_bnd hi812).1 (by decide)))) (by rw [nI_clamp (Nat.lt_of_lt_of_le hsh (Nat.le_trans (INV_bnd hi812).1 (by decide)))]; exact hsh)) (cwV 2 hts gL_law_X5_ofSheet rfl rfl rfl (by decide +kernel) ⟨Nat.le_of_ble_eq_true rfl, Nat.le_of_ble_eq_true rfl⟩) (pc_preV pcN_ok hX hW.1 hM.1 rfl rfl hW.1) rfl rfl hl.1 rfl (lv_room (Nat.le_of_ble_eq_true rfl)) dL_law_301 ⟨(by show _ ≤ (600074 : Nat); omega), (by show _ ≤ (7301550 : Nat); omega)⟩) hW (fun r813 H locs hwr813 hW => ?_)
    replace hwr813 := hwr813.symm
    subst hwr813
    refine lv_icmp_eq (tgt := 789) hx hb dL_law_304 (by decide) (fun _ => ?_) (fun c814 => absurd (check_ans hi hsh) c814)
    refine W.widen (k := cl0 + 40) (n := sl0 + 200) (by omega) (by omega) ?_
    exact kk c (V_X5_check c v w (nI sh)) w u NL ad H locs ls hi812 rfl hM hN hW (lv_sub hl [5, 6, 7, 8] rfl)

set_option maxHeartbeats 4000000 in
set_option maxRecDepth 100000 in
theorem law_arm_1 {p : Program} {e : Env} {s : State} {m : MethodId} {below : List Frame} {meth : Method} {c0 : Code} {l : Launch} {b L : Nat} {xs : Nat → Int32} {D : va_G} {cA : Nat → ClassId} (C1 : law_C p l s m meth c0 b L xs D cA) {c : SC} {v : SV} {w : SW} {u : Nat → Int32} {NL : List (Nat × Nat)} {ad : Nat → Nat → Nat} {i sh rr cl0 sl0 : Nat} {pk x9 : Int32} {ug : Nat × Nat × Nat × Nat} {HR : Heap} (hcl : cl0 ≤ 300000) (hsl : sl0 ≤ 3000000) (hi : INV c v w) (h2n : 2 ≤ c 0) (hM : MEM c NL) (hN : NMEM c NL) (hsh : sh < c 0) (hpk : pk = -1 ∨ ∃ q, q < c 4 ∧ pk = nI q) (hsz : s.heap.size ≤ HR.size) (hrl : rr < HR.size) (hPr0 : va_P D vwCl [(rr, .inl (cA 0, 4, .inl (rgF ug)))] HR) (hug : rgO ug) (H : Heap) (locs : List Loc) (hW : pcS D vwCl (lwA s rr) HR NL ad (ctO cA c v w u ad) H locs) (ls : Array Slot) (hl : lv_has ls 13 [(8, .ref rr), (7, .int pk), (6, .int (nI (c 4))), (5, .int (nI sh)), (4, .int x9), (3, .int (nI i)), (2, .int (nI (c 0))), (1, .ref (ad 5 0)), (0, .ref b)]) (kk : ∀ (c2 : SC) (v2 : SV) (w2 : SW) (u2 : Nat → Int32) (NL2 : List (Nat × Nat)) (ad2 : Nat → Nat → Nat) (H : Heap) (locs : List Loc) (ls : Array Slot), INV c2 v2 w2 → c2 0 = c 0 → MEM c2 NL2 → NMEM c2 NL2 → pcS D vwCl (lwA s rr) HR NL2 ad2 (ctO cA c2 v2 w2 u2 ad2) H locs → lv_has ls 13 [(3, .int (nI i)), (2, .int (nI (c 0))), (1, .ref (ad2 5 0)), (0, .ref b)] → W p l e room_1 s m #[Value.ref b] below meth c0 H locs (cl0 + 40) (sl0 + 200) (lw_Z below #[Value.ref b] s) (F0 m 789 ls [])) : W p l e room_1 s m #[Value.ref b] below meth c0 H locs cl0 sl0 (lw_Z below #[Value.ref b] s) (F0 m 309 ls []) := by
  obtain ⟨hx, hb, hr, hml, hown, hts, hlocks, hX, hsc, hbl, hL⟩ := id C1
  have hA : ∀ q : Nat, HR.size ≤ q → lwA s rr q := fun q h => ⟨Nat.le_trans hsz h, fun e => by omega⟩
  have h5n := hi.1
  refine lv_aload_n hx hb dL_law_309 rfl (lv_at hl 7 rfl) ?_
  refine lv_iload hx hb dL_law_310 (lv_at hl 3 rfl) ?_
  have hD9 := hW.2.1
  refine pc_mcalli (va_runV (As := [.int (nI sh)]) (rest := []) ⟨hx, hb, hml, hown, hts⟩ (m_X5_stoppedBy l D cA NL c v w u ad (lwA s rr) (nI sh) hM (INV_bnd hi) (INV_wf hi) (INV_ri hi) (nI_nn (Nat.lt_of_lt_of_le hsh (Nat.le_trans (INV_bnd hi).1 (by decide)))) (by rw [nI_clamp (Nat.lt_of_lt_of_le hsh (Nat.le_trans (INV_bnd hi).1 (by decide)))]; exact hsh)) (cwV 1 hts gL_law_X5_stoppedBy rfl rfl rfl (by decide +kernel) ⟨Nat.le_of_ble_eq_true rfl, Nat.le_of_ble_eq_true rfl⟩) (pc_preV pcN_ok hX hW.1 hM.1 rfl rfl ⟨hW.1, hW.2.1, fun q h => hA q (Nat.le_trans hW.2.2.1 h)⟩) rfl rfl hl.1 rfl (lv_room (Nat.le_of_ble_eq_true rfl)) dL_law_312 ⟨(by show _ ≤ (600074 : Nat); omega), (by show _ ≤ (7301550 : Nat); omega)⟩) hW.2.2 (fun r815 _ H locs hwr815 hB hS9 => ?_)
  replace hwr815 := hwr815.symm
  subst hwr815
  have hW : pcS D vwCl (lwA s rr) HR NL ad (ctO cA c v w u ad) H locs := ⟨hB, pcD_ct hD9, hS9⟩
  refine lv_istore (lv' := [(9, .int (F_X5_stoppedBy c v w (nI sh))), (8, .ref rr), (7, .int pk), (6, .int (nI (c 4))), (5, .int (nI sh)), (4, .int x9), (3, .int (nI i)), (2, .int (nI (c 0))), (1, .ref (ad 5 0)), (0, .ref b)]) hx hb dL_law_315 hl (by decide) rfl (fun ls hl => ?_)
  refine lv_aload_n hx hb dL_law_317 rfl (lv_at hl 8 rfl) ?_
  refine lv_bipush (v := 10) hx hb dL_law_318 (by decide) ?_
  refine pc_rcalli (va_runV (As := [.int 10]) (rest := []) ⟨hx, hb, hml, hown, hts⟩ (r_X5_many10 l D cA NL c v w u ad  hM (INV_bnd hi) (INV_wf hi) ) (cwV 1 hts gL_law_X5_many rfl rfl rfl (by decide +kernel) ⟨Nat.le_of_ble_eq_true rfl, Nat.le_of_ble_eq_true rfl⟩) (pc_preV pcN_ok hX hW.1 hM.1 rfl rfl hW.1) rfl rfl hl.1 rfl (lv_room (Nat.le_of_ble_eq_true rfl)) dL_law_320 ⟨(by show _ ≤ (600074 : Nat); omega), (by show _ ≤ (7301550 : Nat); omega)⟩) hW (fun r816 H locs hwr816 hW => ?_)
  replace hwr816 := hwr816.symm
  subst hwr816
  refine lv_istore (lv' := [(10, .int (F_X5_many10 c v w)), (9, .int (F_X5_stoppedBy c v w (nI sh))), (8, .ref rr), (7, .int pk), (6, .int (nI (c 4))), (5, .int (nI sh)), (4, .int x9), (3, .int (nI i)), (2, .int (nI (c 0))), (1, .ref (ad 5 0)), (0, .ref b)]) hx hb dL_law_323 hl (by decide) rfl (fun ls hl => ?_)
  refine lv_iload hx hb dL_law_325 (lv_at hl 1 rfl) ?_
  refine lv_if_lt (tgt := 334) hx hb dL_law_327 (by decide) (fun (c817 : (F_X5_stoppedBy c v w (nI sh)) < 0) => ?_) (fun (c817 : ¬ (F_X5_stoppedBy c v w (nI sh)) < 0) => ?_)
  · refine lv_iconst (v := 0) hx hb dL_law_334 (by decide) ?_
    refine lv_aload_n hx hb dL_law_335 rfl (lv_at hl 9 rfl) ?_
    refine lv_iload hx hb dL_law_336 (lv_at hl 5 rfl) ?_
    refine lv_iconst (v := 3) hx hb dL_law_338 (by decide) ?_
    refine pc_rcalli (va_runV (As := [.int (nI sh), .int 3]) (rest := [.int 0]) ⟨hx, hb, hml, hown, hts⟩ (r_X5_ofSheet3 l D cA NL c v w u ad (nI sh) hM (INV_bnd hi) (INV_wf hi) (nI_nn (Nat.lt_of_lt_of_le hsh (Nat.le_trans (INV_bnd hi).1 (by decide)))) (by rw [nI_clamp (Nat.lt_of_lt_of_le hsh (Nat.le_trans (INV_bnd hi).1 (by decide)))]; exact hsh)) (cwV 2 hts gL_law_X5_ofSheet rfl rfl rfl (by decide +kernel) ⟨Nat.le_of_ble_eq_true rfl, Nat.le_of_ble_eq_true rfl⟩) (pc_preV pcN_ok hX hW.1 hM.1 rfl rfl hW.1) rfl rfl hl.1 rfl (lv_room (Nat.le_of_ble_eq_true rfl)) dL_law_339 ⟨(by show _ ≤ (600074 : Nat); omega), (by show _ ≤ (7301550 : Nat); omega)⟩) hW (fun r818 H locs hwr818 hW => ?_)
    replace hwr818 := hwr818.symm
    subst hwr818
    refine lv_iconst (v := 1) hx hb dL_law_342 (by decide) ?_
    refine lv_icmp_ne (tgt := 361) hx hb dL_law_343 (by decide) (fun (c819 : ¬ (F_X5_ofSheet3 c v w (nI sh)) = (1 : Int32)) => ?_) (fun (c819 : (F_X5_ofSheet3 c v w (nI sh)) = (1 : Int32)) => ?_)
    · refine lv_iconst (v := 0) hx hb dL_law_361 (by decide) ?_
      refine lv_icmp_eq (tgt := 367) hx hb dL_law_362 (by decide) (fun _ => ?_) (fun c820 => absurd (by decide) c820)
      refine lv_iload hx hb dL_law_367 (lv_at hl 1 rfl) ?_
      refine lv_if_lt (tgt := 789) hx hb dL_law_369 (by decide) (fun _ => ?_) (fun c821 => absurd c817 c821)
      refine W.widen (k := cl0 + 40) (n := sl0 + 200) (by omega) (by omega) ?_
      exact kk c v w u NL ad H locs ls hi rfl hM hN hW (lv_sub hl [7, 8, 9, 10] rfl)
    · refine lv_aload_n hx hb dL_law_346 rfl (lv_at hl 9 rfl) ?_
      refine lv_iload hx hb dL_law_347 (lv_at hl 5 rfl) ?_
      refine lv_bipush (v := 7) hx hb dL_law_349 (by decide) ?_
      refine pc_rcalli (va_runV (As := [.int (nI sh), .int 7]) (rest := [.int 0]) ⟨hx, hb, hml, hown, hts⟩ (r_X5_ofSheet7 l D cA NL c v w u ad (nI sh) hM (INV_bnd hi) (INV_wf hi) (nI_nn (Nat.lt_of_lt_of_le hsh (Nat.le_trans (INV_bnd hi).1 (by decide)))) (by rw [nI_clamp (Nat.lt_of_lt_of_le hsh (Nat.le_trans (INV_bnd hi).1 (by decide)))]; exact hsh)) (cwV 2 hts gL_law_X5_ofSheet rfl rfl rfl (by decide +kernel) ⟨Nat.le_of_ble_eq_true rfl, Nat.le_of_ble_eq_true rfl⟩) (pc_preV pcN_ok hX hW.1 hM.1 rfl rfl hW.1) rfl rfl hl.1 rfl (lv_room (Nat.le_of_ble_eq_true rfl)) dL_law_351 ⟨(by show _ ≤ (600074 : Nat); omega), (by show _ ≤ (7301550 : Nat); omega)⟩) hW (fun r822 H locs hwr822 hW => ?_)
      replace hwr822 := hwr822.symm
      subst hwr822
      refine lv_if_ne (tgt := 361) hx hb dL_law_354 (by decide) (fun _ => ?_) (fun c823 => absurd c823 (sb_not hi c817 c819))
      refine lv_iconst (v := 0) hx hb dL_law_361 (by decide) ?_
      refine lv_icmp_eq (tgt := 367) hx hb dL_law_362 (by decide) (fun _ => ?_) (fun c824 => absurd (by decide) c824)
      refine lv_iload hx hb dL_law_367 (lv_at hl 1 rfl) ?_
      refine lv_if_lt (tgt := 789) hx hb dL_law_369 (by decide) (fun _ => ?_) (fun c825 => absurd c817 c825)
      refine W.widen (k := cl0 + 40) (n := sl0 + 200) (by omega) (by omega) ?_
      exact kk c v w u NL ad H locs ls hi rfl hM hN hW (lv_sub hl [7, 8, 9, 10] rfl)
  · refine lv_iconst (v := 1) hx hb dL_law_330 (by decide) ?_
    refine lv_goto (tgt := 335) hx hb dL_law_331 (by decide) ?_
    refine lv_aload_n hx hb dL_law_335 rfl (lv_at hl 9 rfl) ?_
    refine lv_iload hx hb dL_law_336 (lv_at hl 5 rfl) ?_
    refine lv_iconst (v := 3) hx hb dL_law_338 (by decide) ?_
    refine pc_rcalli (va_runV (As := [.int (nI sh), .int 3]) (rest := [.int 1]) ⟨hx, hb, hml, hown, hts⟩ (r_X5_ofSheet3 l D cA NL c v w u ad (nI sh) hM (INV_bnd hi) (INV_wf hi) (nI_nn (Nat.lt_of_lt_of_le hsh (Nat.le_trans (INV_bnd hi).1 (by decide)))) (by rw [nI_clamp (Nat.lt_of_lt_of_le hsh (Nat.le_trans (INV_bnd hi).1 (by decide)))]; exact hsh)) (cwV 2 hts gL_law_X5_ofSheet rfl rfl rfl (by decide +kernel) ⟨Nat.le_of_ble_eq_true rfl, Nat.le_of_ble_eq_true rfl⟩) (pc_preV pcN_ok hX hW.1 hM.1 rfl rfl hW.1) rfl rfl hl.1 rfl (lv_room (Nat.le_of_ble_eq_true rfl)) dL_law_339 ⟨(by show _ ≤ (600074 : Nat); omega), (by show _ ≤ (7301550 : Nat); omega)⟩) hW (fun r826 H locs hwr826 hW => ?_)
    replace hwr826 := hwr826.symm
    subst hwr826
    refine lv_iconst (v := 1) hx hb dL_law_342 (by decide) ?_
    refine lv_icmp_ne (tgt := 361) hx hb dL_law_343 (by decide) (fun c827 => absurd c827 (fun q => q (sb_ready c817).2.1)) (fun _ => ?_)
    refine lv_aload_n hx hb dL_law_346 rfl (lv_at hl 9 rfl) ?_
    refine lv_iload hx hb dL_law_347 (lv_at hl 5 rfl) ?_
    refine lv_bipush (v := 7) hx hb dL_law_349 (by decide) ?_
    refine pc_rcalli (va_runV (As := [.int (nI sh), .int 7]) (rest := [.int 1]) ⟨hx, hb, hml, hown, hts⟩ (r_X5_ofSheet7 l D cA NL c v w u ad (nI sh) hM (INV_bnd hi) (INV_wf hi) (nI_nn (Nat.lt_of_lt_of_le hsh (Nat.le_trans (INV_bnd hi).1 (by decide)))) (by rw [nI_clamp (Nat.lt_of_lt_of_le hsh (Nat.le_trans (INV_bnd hi).1 (by decide)))]; exact hsh)) (cwV 2 hts gL_law_X5_ofSheet rfl rfl rfl (by decide +kernel) ⟨Nat.le_of_ble_eq_true rfl, Nat.le_of_ble_eq_true rfl⟩) (pc_preV pcN_ok hX hW.1 hM.1 rfl rfl hW.1) rfl rfl hl.1 rfl (lv_room (Nat.le_of_ble_eq_true rfl)) dL_law_351 ⟨(by show _ ≤ (600074 : Nat); omega), (by show _ ≤ (7301550 : Nat); omega)⟩) hW (fun r828 H locs hwr828 hW => ?_)
    replace hwr828 := hwr828.symm
    subst hwr828
    refine lv_if_ne (tgt := 361) hx hb dL_law_354 (by decide) (fun c829 => absurd c829 (fun q => q (sb_ready c817).2.2)) (fun _ => ?_)
    refine lv_iconst (v := 1) hx hb dL_law_357 (by decide) ?_
    refine lv_goto (tgt := 362) hx hb dL_law_358 (by decide) ?_
    refine lv_icmp_eq (tgt := 367) hx hb dL_law_362 (by decide) (fun _ => ?_) (fun c830 => absurd (by decide) c830)
    refine lv_iload hx hb dL_law_367 (lv_at hl 1 rfl) ?_
    refine lv_if_lt (tgt := 789) hx hb dL_law_369 (by decide) (fun c831 => absurd c831 c817) (fun _ => ?_)
    refine lv_aload_n hx hb dL_law_372 rfl (lv_at hl 9 rfl) ?_
    refine lv_iload hx hb dL_law_373 (lv_at hl 5 rfl) ?_
    have hD9 := hW.2.1
    refine pc_mcalli (va_runV (As := [.int (nI sh)]) (rest := []) ⟨hx, hb, hml, hown, hts⟩ (m_X5_issue l D cA NL c v w u ad (lwA s rr) (nI sh) hM (INV_bnd hi) (INV_wf hi) (nI_nn (Nat.lt_of_lt_of_le hsh (Nat.le_trans (INV_bnd hi).1 (by decide)))) (by rw [nI_clamp (Nat.lt_of_lt_of_le hsh (Nat.le_trans (INV_bnd hi).1 (by decide)))]; exact hsh) (sb_ready c817).1) (cwV 1 hts gL_law_X5_issue rfl rfl rfl (by decide +kernel) ⟨Nat.le_of_ble_eq_true rfl, Nat.le_of_ble_eq_true rfl⟩) (pc_preV pcN_ok hX hW.1 hM.1 rfl rfl ⟨hW.1, hW.2.1, fun q h => hA q (Nat.le_trans hW.2.2.1 h)⟩) rfl rfl hl.1 rfl (lv_room (Nat.le_of_ble_eq_true rfl)) dL_law_375 ⟨(by show _ ≤ (600074 : Nat); omega), (by show _ ≤ (7301550 : Nat); omega)⟩) hW.2.2 (fun r832 _ H locs hwr832 hB hS9 => ?_)
    replace hwr832 := hwr832.symm
    subst hwr832
    have hW : pcS D vwCl (lwA s rr) HR NL ad (ctO cA c (V_X5_issue c v w (nI sh)) (W_X5_issue c v w (nI sh)) u ad) H locs := ⟨hB, pcD_ct hD9, hS9⟩
    have hi833 : INV c (V_X5_issue c v w (nI sh)) (W_X5_issue c v w (nI sh)) := (INV_issue hi hsh)
    refine lv_iload hx hb dL_law_378 (lv_at hl 1 rfl) ?_
    refine lv_icmp_ne (tgt := 416) hx hb dL_law_380 (by decide) (fun c834 => absurd c834 (fun q => q (issue_ans hi hsh (sb_ready c817).1))) (fun _ => ?_)
    refine lv_aload_n hx hb dL_law_383 rfl (lv_at hl 9 rfl) ?_
    refine lv_bipush (v := 10) hx hb dL_law_384 (by decide) ?_
    refine pc_rcalli (va_runV (As := [.int 10]) (rest := []) ⟨hx, hb, hml, hown, hts⟩ (r_X5_many10 l D cA NL c (V_X5_issue c v w (nI sh)) (W_X5_issue c v w (nI sh)) u ad  hM (INV_bnd hi833) (INV_wf hi833) ) (cwV 1 hts gL_law_X5_many rfl rfl rfl (by decide +kernel) ⟨Nat.le_of_ble_eq_true rfl, Nat.le_of_ble_eq_true rfl⟩) (pc_preV pcN_ok hX hW.1 hM.1 rfl rfl hW.1) rfl rfl hl.1 rfl (lv_room (Nat.le_of_ble_eq_true rfl)) dL_law_386 ⟨(by show _ ≤ (600074 : Nat); omega), (by show _ ≤ (7301550 : Nat); omega)⟩) hW (fun r835 H locs hwr835 hW => ?_)
    replace hwr835 := hwr835.symm
    subst hwr835
    refine lv_iload hx hb dL_law_389 (lv_at hl 0 rfl) ?_
    refine lv_iload hx hb dL_law_391 (lv_at hl 1 rfl) ?_
    refine lv_iadd hx hb dL_law_393 ?_
    refine lv_icmp_ne (tgt := 416) hx hb dL_law_394 (by decide) (fun c836 => absurd c836 (fun q => q ((issue_many hi hsh).trans (by rw [issue_ans hi hsh (sb_ready c817).1])))) (fun _ => ?_)
    refine lv_aload_n hx hb dL_law_397 rfl (lv_at hl 9 rfl) ?_
    refine lv_iload hx hb dL_law_398 (lv_at hl 5 rfl) ?_
    refine lv_iconst (v := 2) hx hb dL_law_400 (by decide) ?_
    refine pc_rcalli (va_runV (As := [.int (nI sh), .int 2]) (rest := []) ⟨hx, hb, hml, hown, hts⟩ (r_X5_ofSheet2 l D cA NL c (V_X5_issue c v w (nI sh)) (W_X5_issue c v w (nI sh)) u ad (nI sh) hM (INV_bnd hi833) (INV_wf hi833) (nI_nn (Nat.lt_of_lt_of_le hsh (Nat.le_trans (INV_bnd hi833).1 (by decide)))) (by rw [nI_clamp (Nat.lt_of_lt_of_le hsh (Nat.le_trans (INV_bnd hi833).1 (by decide)))]; exact hsh)) (cwV 2 hts gL_law_X5_ofSheet rfl rfl rfl (by decide +kernel) ⟨Nat.le_of_ble_eq_true rfl, Nat.le_of_ble_eq_true rfl⟩) (pc_preV pcN_ok hX hW.1 hM.1 rfl rfl hW.1) rfl rfl hl.1 rfl (lv_room (Nat.le_of_ble_eq_true rfl)) dL_law_401 ⟨(by show _ ≤ (600074 : Nat); omega), (by show _ ≤ (7301550 : Nat); omega)⟩) hW (fun r837 H locs hwr837 hW => ?_)
    replace hwr837 := hwr837.symm
    subst hwr837
    refine lv_aload_n hx hb dL_law_404 rfl (lv_at hl 9 rfl) ?_
    refine lv_iload hx hb dL_law_405 (lv_at hl 5 rfl) ?_
    refine lv_iconst (v := 1) hx hb dL_law_407 (by decide) ?_
    refine pc_rcalli (va_runV (As := [.int (nI sh), .int 1]) (rest := [.int (F_X5_ofSheet2 c (V_X5_issue c v w (nI sh)) (W_X5_issue c v w (nI sh)) (nI sh))]) ⟨hx, hb, hml, hown, hts⟩ (r_X5_ofSheet1 l D cA NL c (V_X5_issue c v w (nI sh)) (W_X5_issue c v w (nI sh)) u ad (nI sh) hM (INV_bnd hi833) (INV_wf hi833) (nI_nn (Nat.lt_of_lt_of_le hsh (Nat.le_trans (INV_bnd hi833).1 (by decide)))) (by rw [nI_clamp (Nat.lt_of_lt_of_le hsh (Nat.le_trans (INV_bnd hi833).1 (by decide)))]; exact hsh)) (cwV 2 hts gL_law_X5_ofSheet rfl rfl rfl (by decide +kernel) ⟨Nat.le_of_ble_eq_true rfl, Nat.le_of_ble_eq_true rfl⟩) (pc_preV pcN_ok hX hW.1 hM.1 rfl rfl hW.1) rfl rfl hl.1 rfl (lv_room (Nat.le_of_ble_eq_true rfl)) dL_law_408 ⟨(by show _ ≤ (600074 : Nat); omega), (by show _ ≤ (7301550 : Nat); omega)⟩) hW (fun r838 H locs hwr838 hW => ?_)
    replace hwr838 := hwr838.symm
    subst hwr838
    refine lv_iconst (v := 1) hx hb dL_law_411 (by decide) ?_
    refine lv_isub hx hb dL_law_412 ?_
    refine lv_icmp_eq (tgt := 789) hx hb dL_law_413 (by decide) (fun _ => ?_) (fun c839 => absurd (issue_last hi hsh) c839)
    refine W.widen (k := cl0 + 40) (n := sl0 + 200) (by omega) (by omega) ?_
    exact kk c (V_X5_issue c v w (nI sh)) (W_X5_issue c v w (nI sh)) u NL ad H locs ls hi833 rfl hM hN hW (lv_sub hl [7, 8, 9, 10] rfl)

set_option maxHeartbeats 4000000 in
set_option maxRecDepth 100000 in
theorem law_arm_2 {p : Program} {e : Env} {s : State} {m : MethodId} {below : List Frame} {meth : Method} {c0 : Code} {l : Launch} {b L : Nat} {xs : Nat → Int32} {D : va_G} {cA : Nat → ClassId} (C1 : law_C p l s m meth c0 b L xs D cA) {c : SC} {v : SV} {w : SW} {u : Nat → Int32} {NL : List (Nat × Nat)} {ad : Nat → Nat → Nat} {i sh rr cl0 sl0 : Nat} {pk x9 : Int32} {ug : Nat × Nat × Nat × Nat} {HR : Heap} (hcl : cl0 ≤ 300000) (hsl : sl0 ≤ 3000000) (hi : INV c v w) (h2n : 2 ≤ c 0) (hM : MEM c NL) (hN : NMEM c NL) (hsh : sh < c 0) (hpk : pk = -1 ∨ ∃ q, q < c 4 ∧ pk = nI q) (hsz : s.heap.size ≤ HR.size) (hrl : rr < HR.size) (hPr0 : va_P D vwCl [(rr, .inl (cA 0, 4, .inl (rgF ug)))] HR) (hug : rgO ug) (H : Heap) (locs : List Loc) (hW : pcS D vwCl (lwA s rr) HR NL ad (ctO cA c v w u ad) H locs) (ls : Array Slot) (hl : lv_has ls 13 [(8, .ref rr), (7, .int pk), (6, .int (nI (c 4))), (5, .int (nI sh)), (4, .int x9), (3, .int (nI i)), (2, .int (nI (c 0))), (1, .ref (ad 5 0)), (0, .ref b)]) (kk : ∀ (c2 : SC) (v2 : SV) (w2 : SW) (u2 : Nat → Int32) (NL2 : List (Nat × Nat)) (ad2 : Nat → Nat → Nat) (H : Heap) (locs : List Loc) (ls : Array Slot), INV c2 v2 w2 → c2 0 = c 0 → MEM c2 NL2 → NMEM c2 NL2 → pcS D vwCl (lwA s rr) HR NL2 ad2 (ctO cA c2 v2 w2 u2 ad2) H locs → lv_has ls 13 [(3, .int (nI i)), (2, .int (nI (c 0))), (1, .ref (ad2 5 0)), (0, .ref b)] → W p l e room_1 s m #[Value.ref b] below meth c0 H locs (cl0 + 40) (sl0 + 200) (lw_Z below #[Value.ref b] s) (F0 m 789 ls [])) : W p l e room_1 s m #[Value.ref b] below meth c0 H locs cl0 sl0 (lw_Z below #[Value.ref b] s) (F0 m 418 ls []) := by
  obtain ⟨hx, hb, hr, hml, hown, hts, hlocks, hX, hsc, hbl, hL⟩ := id C1
  have hA : ∀ q : Nat, HR.size ≤ q → lwA s rr q := fun q h => ⟨Nat.le_trans hsz h, fun e => by omega⟩
  have h5n := hi.1
  refine lv_aload_n hx hb dL_law_418 rfl (lv_at hl 7 rfl) ?_
  refine lv_iload hx hb dL_law_419 (lv_at hl 3 rfl) ?_
  refine lv_iconst (v := 3) hx hb dL_law_421 (by decide) ?_
  refine pc_rcalli (va_runV (As := [.int (nI sh), .int 3]) (rest := []) ⟨hx, hb, hml, hown, hts⟩ (r_X5_ofSheet3 l D cA NL c v w u ad (nI sh) hM (INV_bnd hi) (INV_wf hi) (nI_nn (Nat.lt_of_lt_of_le hsh (Nat.le_trans (INV_bnd hi).1 (by decide)))) (by rw [nI_clamp (Nat.lt_of_lt_of_le hsh (Nat.le_trans (INV_bnd hi).1 (by decide)))]; exact hsh)) (cwV 2 hts gL_law_X5_ofSheet rfl rfl rfl (by decide +kernel) ⟨Nat.le_of_ble_eq_true rfl, Nat.le_of_ble_eq_true rfl⟩) (pc_preV pcN_ok hX hW.1 hM.1 rfl rfl hW.1) rfl rfl hl.1 rfl (lv_room (Nat.le_of_ble_eq_true rfl)) dL_law_422 ⟨(by show _ ≤ (600074 : Nat); omega), (by show _ ≤ (7301550 : Nat); omega)⟩) hW (fun r840 H locs hwr840 hW => ?_)
  replace hwr840 := hwr840.symm
  subst hwr840
  refine lv_iconst (v := 1) hx hb dL_law_425 (by decide) ?_
  refine lv_icmp_le (tgt := 789) hx hb dL_law_426 (by decide) (fun (c841 : (F_X5_ofSheet3 c v w (nI sh)) ≤ (1 : Int32)) => ?_) (fun (c841 : ¬ (F_X5_ofSheet3 c v w (nI sh)) ≤ (1 : Int32)) => ?_)
  · refine W.widen (k := cl0 + 40) (n := sl0 + 200) (by omega) (by omega) ?_
    exact kk c v w u NL ad H locs ls hi rfl hM hN hW (lv_sub hl [5, 6, 7, 8] rfl)
  · refine lv_aload_n hx hb dL_law_429 rfl (lv_at hl 7 rfl) ?_
    refine lv_iload hx hb dL_law_430 (lv_at hl 3 rfl) ?_
    refine lv_iconst (v := 1) hx hb dL_law_432 (by decide) ?_
    refine pc_rcalli (va_runV (As := [.int (nI sh), .int 1]) (rest := []) ⟨hx, hb, hml, hown, hts⟩ (r_X5_ofSheet1 l D cA NL c v w u ad (nI sh) hM (INV_bnd hi) (INV_wf hi) (nI_nn (Nat.lt_of_lt_of_le hsh (Nat.le_trans (INV_bnd hi).1 (by decide)))) (by rw [nI_clamp (Nat.lt_of_lt_of_le hsh (Nat.le_trans (INV_bnd hi).1 (by decide)))]; exact hsh)) (cwV 2 hts gL_law_X5_ofSheet rfl rfl rfl (by decide +kernel) ⟨Nat.le_of_ble_eq_true rfl, Nat.le_of_ble_eq_true rfl⟩) (pc_preV pcN_ok hX hW.1 hM.1 rfl rfl hW.1) rfl rfl hl.1 rfl (lv_room (Nat.le_of_ble_eq_true rfl)) dL_law_433 ⟨(by show _ ≤ (600074 : Nat); omega), (by show _ ≤ (7301550 : Nat); omega)⟩) hW (fun r842 H locs hwr842 hW => ?_)
    replace hwr842 := hwr842.symm
    subst hwr842
    refine lv_bipush (v := 6) hx hb dL_law_436 (by decide) ?_
    refine lv_icmp_ge (tgt := 789) hx hb dL_law_438 (by decide) (fun (c843 : (6 : Int32) ≤ (F_X5_ofSheet1 c v w (nI sh))) => ?_) (fun (c843 : ¬ (6 : Int32) ≤ (F_X5_ofSheet1 c v w (nI sh))) => ?_)
    · refine W.widen (k := cl0 + 40) (n := sl0 + 200) (by omega) (by omega) ?_
      exact kk c v w u NL ad H locs ls hi rfl hM hN hW (lv_sub hl [5, 6, 7, 8] rfl)
    · refine lv_aload_n hx hb dL_law_441 rfl (lv_at hl 7 rfl) ?_
      refine lv_iload hx hb dL_law_442 (lv_at hl 3 rfl) ?_
      have hD9 := hW.2.1
      refine pc_mcalli (va_runV (As := [.int (nI sh)]) (rest := []) ⟨hx, hb, hml, hown, hts⟩ (m_X5_revise l D cA NL c v w u ad (lwA s rr) (nI sh) hM (INV_bnd hi) (INV_wf hi) (nI_nn (Nat.lt_of_lt_of_le hsh (Nat.le_trans (INV_bnd hi).1 (by decide)))) (by rw [nI_clamp (Nat.lt_of_lt_of_le hsh (Nat.le_trans (INV_bnd hi).1 (by decide)))]; exact hsh) (st_gt1 hi hsh c841).1 (Int32.not_le.mp c843)) (cwV 1 hts gL_law_X5_revise rfl rfl rfl (by decide +kernel) ⟨Nat.le_of_ble_eq_true rfl, Nat.le_of_ble_eq_true rfl⟩) (pc_preV pcN_ok hX hW.1 hM.1 rfl rfl ⟨hW.1, hW.2.1, fun q h => hA q (Nat.le_trans hW.2.2.1 h)⟩) rfl rfl hl.1 rfl (lv_room (Nat.le_of_ble_eq_true rfl)) dL_law_444 ⟨(by show _ ≤ (600074 : Nat); omega), (by show _ ≤ (7301550 : Nat); omega)⟩) hW.2.2 (fun r844 _ H locs hwr844 hB hS9 => ?_)
      replace hwr844 := hwr844.symm
      subst hwr844
      have hW : pcS D vwCl (lwA s rr) HR NL ad (ctO cA c (V_X5_revise c v w (nI sh)) (W_X5_revise c v w (nI sh)) u ad) H locs := ⟨hB, pcD_ct hD9, hS9⟩
      have hi845 : INV c (V_X5_revise c v w (nI sh)) (W_X5_revise c v w (nI sh)) := (INV_revise hi hsh (st_gt1 hi hsh c841).2 (by have h9 := Int32.not_le.mp c843; unfold F_X5_ofSheet1 at h9; rw [(cl (i := sh) (by omega))] at h9; exact h9))
      refine lv_aload_n hx hb dL_law_447 rfl (lv_at hl 7 rfl) ?_
      refine lv_iload hx hb dL_law_448 (lv_at hl 3 rfl) ?_
      refine lv_iconst (v := 1) hx hb dL_law_450 (by decide) ?_
      refine pc_rcalli (va_runV (As := [.int (nI sh), .int 1]) (rest := [.int (F_X5_revise c v w (nI sh))]) ⟨hx, hb, hml, hown, hts⟩ (r_X5_ofSheet1 l D cA NL c (V_X5_revise c v w (nI sh)) (W_X5_revise c v w (nI sh)) u ad (nI sh) hM (INV_bnd hi845) (INV_wf hi845) (nI_nn (Nat.lt_of_lt_of_le hsh (Nat.le_trans (INV_bnd hi845).1 (by decide)))) (by rw [nI_clamp (Nat.lt_of_lt_of_le hsh (Nat.le_trans (INV_bnd hi845).1 (by decide)))]; exact hsh)) (cwV 2 hts gL_law_X5_ofSheet rfl rfl rfl (by decide +kernel) ⟨Nat.le_of_ble_eq_true rfl, Nat.le_of_ble_eq_true rfl⟩) (pc_preV pcN_ok hX hW.1 hM.1 rfl rfl hW.1) rfl rfl hl.1 rfl (lv_room (Nat.le_of_ble_eq_true rfl)) dL_law_451 ⟨(by show _ ≤ (600074 : Nat); omega), (by show _ ≤ (7301550 : Nat); omega)⟩) hW (fun r846 H locs hwr846 hW => ?_)
      replace hwr846 := hwr846.symm
      subst hwr846
      refine lv_iconst (v := 1) hx hb dL_law_454 (by decide) ?_
      refine lv_isub hx hb dL_law_455 ?_
      refine lv_icmp_eq (tgt := 789) hx hb dL_law_456 (by decide) (fun _ => ?_) (fun c847 => absurd revise_ans c847)
      refine W.widen (k := cl0 + 40) (n := sl0 + 200) (by omega) (by omega) ?_
      exact kk c (V_X5_revise c v w (nI sh)) (W_X5_revise c v w (nI sh)) u NL ad H locs ls hi845 rfl hM hN hW (lv_sub hl [5, 6, 7, 8] rfl)

set_option maxHeartbeats 4000000 in
set_option maxRecDepth 100000 in
theorem law_arm_3 {p : Program} {e : Env} {s : State} {m : MethodId} {below : List Frame} {meth : Method} {c0 : Code} {l : Launch} {b L : Nat} {xs : Nat → Int32} {D : va_G} {cA : Nat → ClassId} (C1 : law_C p l s m meth c0 b L xs D cA) {c : SC} {v : SV} {w : SW} {u : Nat → Int32} {NL : List (Nat × Nat)} {ad : Nat → Nat → Nat} {i sh rr cl0 sl0 : Nat} {pk x9 : Int32} {ug : Nat × Nat × Nat × Nat} {HR : Heap} (hcl : cl0 ≤ 300000) (hsl : sl0 ≤ 3000000) (hi : INV c v w) (h2n : 2 ≤ c 0) (hM : MEM c NL) (hN : NMEM c NL) (hsh : sh < c 0) (hpk : pk = -1 ∨ ∃ q, q < c 4 ∧ pk = nI q) (hsz : s.heap.size ≤ HR.size) (hrl : rr < HR.size) (hPr0 : va_P D vwCl [(rr, .inl (cA 0, 4, .inl (rgF ug)))] HR) (hug : rgO ug) (H : Heap) (locs : List Loc) (hW : pcS D vwCl (lwA s rr) HR NL ad (ctO cA c v w u ad) H locs) (ls : Array Slot) (hl : lv_has ls 13 [(8, .ref rr), (7, .int pk), (6, .int (nI (c 4))), (5, .int (nI sh)), (4, .int x9), (3, .int (nI i)), (2, .int (nI (c 0))), (1, .ref (ad 5 0)), (0, .ref b)]) (kk : ∀ (c2 : SC) (v2 : SV) (w2 : SW) (u2 : Nat → Int32) (NL2 : List (Nat × Nat)) (ad2 : Nat → Nat → Nat) (H : Heap) (locs : List Loc) (ls : Array Slot), INV c2 v2 w2 → c2 0 = c 0 → MEM c2 NL2 → NMEM c2 NL2 → pcS D vwCl (lwA s rr) HR NL2 ad2 (ctO cA c2 v2 w2 u2 ad2) H locs → lv_has ls 13 [(3, .int (nI i)), (2, .int (nI (c 0))), (1, .ref (ad2 5 0)), (0, .ref b)] → W p l e room_1 s m #[Value.ref b] below meth c0 H locs (cl0 + 40) (sl0 + 200) (lw_Z below #[Value.ref b] s) (F0 m 789 ls [])) : W p l e room_1 s m #[Value.ref b] below meth c0 H locs cl0 sl0 (lw_Z below #[Value.ref b] s) (F0 m 461 ls []) := by
  obtain ⟨hx, hb, hr, hml, hown, hts, hlocks, hX, hsc, hbl, hL⟩ := id C1
  have hA : ∀ q : Nat, HR.size ≤ q → lwA s rr q := fun q h => ⟨Nat.le_trans hsz h, fun e => by omega⟩
  have h5n := hi.1
  refine lv_iload hx hb dL_law_461 (lv_at hl 4 rfl) ?_
  refine lv_iconst (v := 5) hx hb dL_law_463 (by decide) ?_
  refine lv_ishr hx hb dL_law_464 ?_
  refine lv_iload_n hx hb dL_law_465 rfl (lv_at hl 6 rfl) ?_
  refine pc_rcalli (va_runS (As := [.int (x9 >>> ((5 : Int32) &&& 31)), .int (nI (c 0))]) (rest := []) ⟨hx, hb, hml, hown, hts⟩ (r_L_below l D cA (x9 >>> ((5 : Int32) &&& 31)) (nI (c 0)) (nI_ne0 (by omega) (by omega))) (va_cwS 2 hts gL_law_L_below rfl rfl rfl (by decide +kernel) ⟨Nat.le_of_ble_eq_true rfl, Nat.le_of_ble_eq_true rfl⟩) (pc_preS pcN_ok hX trivial) rfl rfl hl.1 rfl (lv_room (Nat.le_of_ble_eq_true rfl)) dL_law_466 ⟨(by show _ ≤ (600074 : Nat); omega), (by show _ ≤ (7301550 : Nat); omega)⟩) hW (fun r848 H locs hwr848 hW => ?_)
  replace hwr848 := hwr848.symm
  subst hwr848
  obtain ⟨j849, hj849, ej849⟩ : ∃ j, j < (c 0) ∧ (F_L_below (x9 >>> ((5 : Int32) &&& 31)) (nI (c 0))) = nI j := below_ok _ (c 0) (by omega) (by omega)
  rw [ej849]
  refine lv_istore (lv' := [(11, .int (nI j849)), (8, .ref rr), (7, .int pk), (6, .int (nI (c 4))), (5, .int (nI sh)), (4, .int x9), (3, .int (nI i)), (2, .int (nI (c 0))), (1, .ref (ad 5 0)), (0, .ref b)]) hx hb dL_law_469 hl (by decide) rfl (fun ls hl => ?_)
  refine lv_iload hx hb dL_law_471 (lv_at hl 0 rfl) ?_
  refine lv_iload hx hb dL_law_473 (lv_at hl 4 rfl) ?_
  refine lv_icmp_eq (tgt := 789) hx hb dL_law_475 (by decide) (fun (c850 : (nI j849) = (nI sh)) => ?_) (fun (c850 : ¬ (nI j849) = (nI sh)) => ?_)
  · refine W.widen (k := cl0 + 40) (n := sl0 + 200) (by omega) (by omega) ?_
    exact kk c v w u NL ad H locs ls hi rfl hM hN hW (lv_sub hl [6, 7, 8, 9] rfl)
  · refine lv_aload_n hx hb dL_law_478 rfl (lv_at hl 8 rfl) ?_
    refine lv_iload hx hb dL_law_479 (lv_at hl 4 rfl) ?_
    refine lv_iconst (v := 3) hx hb dL_law_481 (by decide) ?_
    refine pc_rcalli (va_runV (As := [.int (nI sh), .int 3]) (rest := []) ⟨hx, hb, hml, hown, hts⟩ (r_X5_ofSheet3 l D cA NL c v w u ad (nI sh) hM (INV_bnd hi) (INV_wf hi) (nI_nn (Nat.lt_of_lt_of_le hsh (Nat.le_trans (INV_bnd hi).1 (by decide)))) (by rw [nI_clamp (Nat.lt_of_lt_of_le hsh (Nat.le_trans (INV_bnd hi).1 (by decide)))]; exact hsh)) (cwV 2 hts gL_law_X5_ofSheet rfl rfl rfl (by decide +kernel) ⟨Nat.le_of_ble_eq_true rfl, Nat.le_of_ble_eq_true rfl⟩) (pc_preV pcN_ok hX hW.1 hM.1 rfl rfl hW.1) rfl rfl hl.1 rfl (lv_room (Nat.le_of_ble_eq_true rfl)) dL_law_482 ⟨(by show _ ≤ (600074 : Nat); omega), (by show _ ≤ (7301550 : Nat); omega)⟩) hW (fun r851 H locs hwr851 hW => ?_)
    replace hwr851 := hwr851.symm
    subst hwr851
    refine lv_if_ne (tgt := 789) hx hb dL_law_485 (by decide) (fun (c852 : ¬ (F_X5_ofSheet3 c v w (nI sh)) = 0) => ?_) (fun (c852 : (F_X5_ofSheet3 c v w (nI sh)) = 0) => ?_)
    · refine W.widen (k := cl0 + 40) (n := sl0 + 200) (by omega) (by omega) ?_
      exact kk c v w u NL ad H locs ls hi rfl hM hN hW (lv_sub hl [6, 7, 8, 9] rfl)
    · refine lv_aload_n hx hb dL_law_488 rfl (lv_at hl 8 rfl) ?_
      refine lv_iconst (v := 1) hx hb dL_law_489 (by decide) ?_
      refine pc_rcalli (va_runV (As := [.int 1]) (rest := []) ⟨hx, hb, hml, hown, hts⟩ (r_X5_many1 l D cA NL c v w u ad  hM (INV_bnd hi) (INV_wf hi) ) (cwV 1 hts gL_law_X5_many rfl rfl rfl (by decide +kernel) ⟨Nat.le_of_ble_eq_true rfl, Nat.le_of_ble_eq_true rfl⟩) (pc_preV pcN_ok hX hW.1 hM.1 rfl rfl hW.1) rfl rfl hl.1 rfl (lv_room (Nat.le_of_ble_eq_true rfl)) dL_law_490 ⟨(by show _ ≤ (600074 : Nat); omega), (by show _ ≤ (7301550 : Nat); omega)⟩) hW (fun r853 H locs hwr853 hW => ?_)
      replace hwr853 := hwr853.symm
      subst hwr853
      refine lv_bipush (v := 20) hx hb dL_law_493 (by decide) ?_
      refine lv_icmp_ge (tgt := 789) hx hb dL_law_495 (by decide) (fun (c854 : (20 : Int32) ≤ (F_X5_many1 c v w)) => ?_) (fun (c854 : ¬ (20 : Int32) ≤ (F_X5_many1 c v w)) => ?_)
      · refine W.widen (k := cl0 + 40) (n := sl0 + 200) (by omega) (by omega) ?_
        exact kk c v w u NL ad H locs ls hi rfl hM hN hW (lv_sub hl [6, 7, 8, 9] rfl)
      · refine lv_aload_n hx hb dL_law_498 rfl (lv_at hl 8 rfl) ?_
        refine lv_iload hx hb dL_law_499 (lv_at hl 4 rfl) ?_
        refine lv_iload hx hb dL_law_501 (lv_at hl 0 rfl) ?_
        refine lv_iload hx hb dL_law_503 (lv_at hl 5 rfl) ?_
        refine lv_bipush (v := 6) hx hb dL_law_505 (by decide) ?_
        refine lv_ishr hx hb dL_law_507 ?_
        refine lv_bipush (v := 8) hx hb dL_law_508 (by decide) ?_
        refine pc_rcalli (va_runS (As := [.int (x9 >>> ((6 : Int32) &&& 31)), .int 8]) (rest := [.int (nI j849), .int (nI sh), .ref (ad 5 0)]) ⟨hx, hb, hml, hown, hts⟩ (r_L_below l D cA (x9 >>> ((6 : Int32) &&& 31)) (8 : Int32) (by decide)) (va_cwS 2 hts gL_law_L_below rfl rfl rfl (by decide +kernel) ⟨Nat.le_of_ble_eq_true rfl, Nat.le_of_ble_eq_true rfl⟩) (pc_preS pcN_ok hX trivial) rfl rfl hl.1 rfl (lv_room (Nat.le_of_ble_eq_true rfl)) dL_law_510 ⟨(by show _ ≤ (600074 : Nat); omega), (by show _ ≤ (7301550 : Nat); omega)⟩) hW (fun r855 H locs hwr855 hW => ?_)
        replace hwr855 := hwr855.symm
        subst hwr855
        obtain ⟨j856, hj856, ej856⟩ : ∃ j, j < 8 ∧ (F_L_below (x9 >>> ((6 : Int32) &&& 31)) (8 : Int32)) = nI j := below_ok _ 8 (by decide) (by decide)
        rw [ej856]
        refine pc_mcalli (S := List (Nat × Nat) × (Nat → Nat → Nat)) (post := fun r z => r = nI (c 1) ∧ MEM (uC c 1 (c 1 + 1)) z.1 ∧ NMEM (uC c 1 (c 1 + 1)) z.1 ∧ z.2 5 0 = ad 5 0) (B := fun z H9 => va_P D vwCl (pcW z.1 z.2 (ctO cA (uC c 1 (c 1 + 1)) (V_X5_refer c v w (nI sh) (nI j849) (nI j856)) w u z.2)) H9 ∧ va_D (lwA s rr) (pcW z.1 z.2 (ctO cA (uC c 1 (c 1 + 1)) (V_X5_refer c v w (nI sh) (nI j849) (nI j856)) w u z.2))) (va_runV (As := [.int (nI sh), .int (nI j849), .int (nI j856)]) (rest := []) ⟨hx, hb, hml, hown, hts⟩ (k_X5_refer l D cA NL c v w u ad (lwA s rr) (nI sh) (nI j849) (nI j856) hM (INV_bnd hi) (INV_wf hi) hN (nI_nn (Nat.lt_of_lt_of_le hsh (Nat.le_trans (INV_bnd hi).1 (by decide)))) (by rw [nI_clamp (Nat.lt_of_lt_of_le hsh (Nat.le_trans (INV_bnd hi).1 (by decide)))]; exact hsh) (nI_nn (Nat.lt_of_lt_of_le hj849 (Nat.le_trans (INV_bnd hi).1 (by decide)))) (by rw [nI_clamp (Nat.lt_of_lt_of_le hj849 (Nat.le_trans (INV_bnd hi).1 (by decide)))]; exact hj849) (room20 c854 (by omega)) (fun q => c850 q.symm) (nI_pos (by omega)) (nI_lt8 hj856) c852) (cwV 3 hts gL_law_X5_refer rfl rfl rfl (by decide +kernel) ⟨Nat.le_of_ble_eq_true rfl, Nat.le_of_ble_eq_true rfl⟩) (pc_preV pcN_ok hX hW.1 hM.1 rfl rfl ⟨hW.1, hW.2.1, fun q h => hA q (Nat.le_trans hW.2.2.1 h)⟩) rfl rfl hl.1 rfl (lv_room (Nat.le_of_ble_eq_true rfl)) dL_law_513 ⟨(by show _ ≤ (600074 : Nat); omega), (by show _ ≤ (7301550 : Nat); omega)⟩) hW.2.2 (fun z857r z857 H locs hwz857 hB hS9 => ?_)
        obtain ⟨NL858, ad859⟩ := z857
        obtain ⟨rfl, hM860, hN861, hA862⟩ := hwz857
        have hA862 : ad859 5 0 = ad 5 0 := hA862
        have hW : pcS D vwCl (lwA s rr) HR NL858 ad859 (ctO cA (uC c 1 (c 1 + 1)) (V_X5_refer c v w (nI sh) (nI j849) (nI j856)) w u ad859) H locs := ⟨hB.1, hB.2, hS9⟩
        have hl : lv_has ls 13 [(11, .int (nI j849)), (8, .ref rr), (7, .int pk), (6, .int (nI (c 4))), (5, .int (nI sh)), (4, .int x9), (3, .int (nI i)), (2, .int (nI (c 0))), (1, .ref (ad859 5 0)), (0, .ref b)] := by rw [hA862]; exact hl
        have hi863 : INV (uC c 1 (c 1 + 1)) (V_X5_refer c v w (nI sh) (nI j849) (nI j856)) w := (INV_refer hi hj849 (room20 c854 (by omega)) _ _)
        refine lv_aload_n hx hb dL_law_516 rfl (lv_at hl 8 rfl) ?_
        refine lv_iconst (v := 1) hx hb dL_law_517 (by decide) ?_
        refine pc_rcalli (va_runV (As := [.int 1]) (rest := [.int (nI (c 1))]) ⟨hx, hb, hml, hown, hts⟩ (r_X5_many1 l D cA NL858 (uC c 1 (c 1 + 1)) (V_X5_refer c v w (nI sh) (nI j849) (nI j856)) w u ad859  hM860 (INV_bnd hi863) (INV_wf hi863) ) (cwV 1 hts gL_law_X5_many rfl rfl rfl (by decide +kernel) ⟨Nat.le_of_ble_eq_true rfl, Nat.le_of_ble_eq_true rfl⟩) (pc_preV pcN_ok hX hW.1 hM860.1 rfl rfl hW.1) rfl rfl hl.1 rfl (lv_room (Nat.le_of_ble_eq_true rfl)) dL_law_518 ⟨(by show _ ≤ (600074 : Nat); omega), (by show _ ≤ (7301550 : Nat); omega)⟩) hW (fun r864 H locs hwr864 hW => ?_)
        replace hwr864 := hwr864.symm
        subst hwr864
        refine lv_iconst (v := 1) hx hb dL_law_521 (by decide) ?_
        refine lv_isub hx hb dL_law_522 ?_
        refine lv_icmp_eq (tgt := 789) hx hb dL_law_523 (by decide) (fun _ => ?_) (fun c865 => absurd (show nI (c 1) = nI (uC c 1 (c 1 + 1) 1) - 1 from by simp only [uC, if_pos rfl]; exact (nI_pred _).symm) c865)
        refine W.widen (k := cl0 + 40) (n := sl0 + 200) (by omega) (by omega) ?_
        exact kk (uC c 1 (c 1 + 1)) (V_X5_refer c v w (nI sh) (nI j849) (nI j856)) w u NL858 ad859 H locs ls hi863 rfl hM860 hN861 hW (lv_sub hl [6, 7, 8, 9] rfl)

set_option maxHeartbeats 4000000 in
set_option maxRecDepth 100000 in
theorem law_arm_4 {p : Program} {e : Env} {s : State} {m : MethodId} {below : List Frame} {meth : Method} {c0 : Code} {l : Launch} {b L : Nat} {xs : Nat → Int32} {D : va_G} {cA : Nat → ClassId} (C1 : law_C p l s m meth c0 b L xs D cA) {c : SC} {v : SV} {w : SW} {u : Nat → Int32} {NL : List (Nat × Nat)} {ad : Nat → Nat → Nat} {i sh rr cl0 sl0 : Nat} {pk x9 : Int32} {ug : Nat × Nat × Nat × Nat} {HR : Heap} (hcl : cl0 ≤ 300000) (hsl : sl0 ≤ 3000000) (hi : INV c v w) (h2n : 2 ≤ c 0) (hM : MEM c NL) (hN : NMEM c NL) (hsh : sh < c 0) (hpk : pk = -1 ∨ ∃ q, q < c 4 ∧ pk = nI q) (hsz : s.heap.size ≤ HR.size) (hrl : rr < HR.size) (hPr0 : va_P D vwCl [(rr, .inl (cA 0, 4, .inl (rgF ug)))] HR) (hug : rgO ug) (H : Heap) (locs : List Loc) (hW : pcS D vwCl (lwA s rr) HR NL ad (ctO cA c v w u ad) H locs) (ls : Array Slot) (hl : lv_has ls 13 [(8, .ref rr), (7, .int pk), (6, .int (nI (c 4))), (5, .int (nI sh)), (4, .int x9), (3, .int (nI i)), (2, .int (nI (c 0))), (1, .ref (ad 5 0)), (0, .ref b)]) (kk : ∀ (c2 : SC) (v2 : SV) (w2 : SW) (u2 : Nat → Int32) (NL2 : List (Nat × Nat)) (ad2 : Nat → Nat → Nat) (H : Heap) (locs : List Loc) (ls : Array Slot), INV c2 v2 w2 → c2 0 = c 0 → MEM c2 NL2 → NMEM c2 NL2 → pcS D vwCl (lwA s rr) HR NL2 ad2 (ctO cA c2 v2 w2 u2 ad2) H locs → lv_has ls 13 [(3, .int (nI i)), (2, .int (nI (c 0))), (1, .ref (ad2 5 0)), (0, .ref b)] → W p l e room_1 s m #[Value.ref b] below meth c0 H locs (cl0 + 40) (sl0 + 200) (lw_Z below #[Value.ref b] s) (F0 m 789 ls [])) : W p l e room_1 s m #[Value.ref b] below meth c0 H locs cl0 sl0 (lw_Z below #[Value.ref b] s) (F0 m 528 ls []) := by
  obtain ⟨hx, hb, hr, hml, hown, hts, hlocks, hX, hsc, hbl, hL⟩ := id C1
  have hA : ∀ q : Nat, HR.size ≤ q → lwA s rr q := fun q h => ⟨Nat.le_trans hsz h, fun e => by omega⟩
  have h5n := hi.1
  refine lv_aload_n hx hb dL_law_528 rfl (lv_at hl 7 rfl) ?_
  refine lv_iconst (v := 3) hx hb dL_law_529 (by decide) ?_
  refine pc_rcalli (va_runV (As := [.int 3]) (rest := []) ⟨hx, hb, hml, hown, hts⟩ (r_X5_many3 l D cA NL c v w u ad  hM (INV_bnd hi) (INV_wf hi) ) (cwV 1 hts gL_law_X5_many rfl rfl rfl (by decide +kernel) ⟨Nat.le_of_ble_eq_true rfl, Nat.le_of_ble_eq_true rfl⟩) (pc_preV pcN_ok hX hW.1 hM.1 rfl rfl hW.1) rfl rfl hl.1 rfl (lv_room (Nat.le_of_ble_eq_true rfl)) dL_law_530 ⟨(by show _ ≤ (600074 : Nat); omega), (by show _ ≤ (7301550 : Nat); omega)⟩) hW (fun r866 H locs hwr866 hW => ?_)
  replace hwr866 := hwr866.symm
  subst hwr866
  refine lv_bipush (v := 20) hx hb dL_law_533 (by decide) ?_
  refine lv_icmp_ge (tgt := 789) hx hb dL_law_535 (by decide) (fun (c867 : (20 : Int32) ≤ (F_X5_many3 c v w)) => ?_) (fun (c867 : ¬ (20 : Int32) ≤ (F_X5_many3 c v w)) => ?_)
  · refine W.widen (k := cl0 + 40) (n := sl0 + 200) (by omega) (by omega) ?_
    exact kk c v w u NL ad H locs ls hi rfl hM hN hW (lv_sub hl [5, 6, 7, 8] rfl)
  · refine lv_aload_n hx hb dL_law_538 rfl (lv_at hl 7 rfl) ?_
    refine lv_iconst (v := 1) hx hb dL_law_539 (by decide) ?_
    refine lv_iload hx hb dL_law_540 (lv_at hl 4 rfl) ?_
    refine lv_iconst (v := 5) hx hb dL_law_542 (by decide) ?_
    refine lv_ishr hx hb dL_law_543 ?_
    refine lv_iconst (v := 4) hx hb dL_law_544 (by decide) ?_
    refine pc_rcalli (va_runS (As := [.int (x9 >>> ((5 : Int32) &&& 31)), .int 4]) (rest := [.int 1, .ref (ad 5 0)]) ⟨hx, hb, hml, hown, hts⟩ (r_L_below l D cA (x9 >>> ((5 : Int32) &&& 31)) (4 : Int32) (by decide)) (va_cwS 2 hts gL_law_L_below rfl rfl rfl (by decide +kernel) ⟨Nat.le_of_ble_eq_true rfl, Nat.le_of_ble_eq_true rfl⟩) (pc_preS pcN_ok hX trivial) rfl rfl hl.1 rfl (lv_room (Nat.le_of_ble_eq_true rfl)) dL_law_545 ⟨(by show _ ≤ (600074 : Nat); omega), (by show _ ≤ (7301550 : Nat); omega)⟩) hW (fun r868 H locs hwr868 hW => ?_)
    replace hwr868 := hwr868.symm
    subst hwr868
    obtain ⟨j869, hj869, ej869⟩ : ∃ j, j < 4 ∧ (F_L_below (x9 >>> ((5 : Int32) &&& 31)) (4 : Int32)) = nI j := below_ok _ 4 (by decide) (by decide)
    rw [ej869]
    refine lv_ishl hx hb dL_law_548 ?_
    refine lv_iconst (v := 1) hx hb dL_law_549 (by decide) ?_
    refine lv_iload hx hb dL_law_550 (lv_at hl 3 rfl) ?_
    refine lv_ishl hx hb dL_law_552 ?_
    refine pc_mcalli (S := List (Nat × Nat) × (Nat → Nat → Nat)) (post := fun r z => r = nI (c 2) ∧ MEM (uC c 2 (c 2 + 1)) z.1 ∧ NMEM (uC c 2 (c 2 + 1)) z.1 ∧ z.2 5 0 = ad 5 0) (B := fun z H9 => va_P D vwCl (pcW z.1 z.2 (ctO cA (uC c 2 (c 2 + 1)) (V_X5_send c v w ((1 : Int32) <<< ((nI j869) &&& 31)) ((1 : Int32) <<< ((nI sh) &&& 31))) w u z.2)) H9 ∧ va_D (lwA s rr) (pcW z.1 z.2 (ctO cA (uC c 2 (c 2 + 1)) (V_X5_send c v w ((1 : Int32) <<< ((nI j869) &&& 31)) ((1 : Int32) <<< ((nI sh) &&& 31))) w u z.2))) (va_runV (As := [.int ((1 : Int32) <<< ((nI j869) &&& 31)), .int ((1 : Int32) <<< ((nI sh) &&& 31))]) (rest := []) ⟨hx, hb, hml, hown, hts⟩ (k_X5_send l D cA NL c v w u ad (lwA s rr) ((1 : Int32) <<< ((nI j869) &&& 31)) ((1 : Int32) <<< ((nI sh) &&& 31)) hM (INV_bnd hi) (INV_wf hi) hN (room20 c867 (by omega)) (crewset _ hj869).1 (crewset _ hj869).2 (isSet (setOk (by omega) hsh)) (allIssued (INV_all hi))) (cwV 2 hts gL_law_X5_send rfl rfl rfl (by decide +kernel) ⟨Nat.le_of_ble_eq_true rfl, Nat.le_of_ble_eq_true rfl⟩) (pc_preV pcN_ok hX hW.1 hM.1 rfl rfl ⟨hW.1, hW.2.1, fun q h => hA q (Nat.le_trans hW.2.2.1 h)⟩) rfl rfl hl.1 rfl (lv_room (Nat.le_of_ble_eq_true rfl)) dL_law_553 ⟨(by show _ ≤ (600074 : Nat); omega), (by show _ ≤ (7301550 : Nat); omega)⟩) hW.2.2 (fun z870r z870 H locs hwz870 hB hS9 => ?_)
    obtain ⟨NL871, ad872⟩ := z870
    obtain ⟨rfl, hM873, hN874, hA875⟩ := hwz870
    have hA875 : ad872 5 0 = ad 5 0 := hA875
    have hW : pcS D vwCl (lwA s rr) HR NL871 ad872 (ctO cA (uC c 2 (c 2 + 1)) (V_X5_send c v w ((1 : Int32) <<< ((nI j869) &&& 31)) ((1 : Int32) <<< ((nI sh) &&& 31))) w u ad872) H locs := ⟨hB.1, hB.2, hS9⟩
    have hl : lv_has ls 13 [(8, .ref rr), (7, .int pk), (6, .int (nI (c 4))), (5, .int (nI sh)), (4, .int x9), (3, .int (nI i)), (2, .int (nI (c 0))), (1, .ref (ad872 5 0)), (0, .ref b)] := by rw [hA875]; exact hl
    have hi876 : INV (uC c 2 (c 2 + 1)) (V_X5_send c v w ((1 : Int32) <<< ((nI j869) &&& 31)) ((1 : Int32) <<< ((nI sh) &&& 31))) w := (INV_send hi (room20 c867 (by omega)) _ _)
    refine lv_aload_n hx hb dL_law_556 rfl (lv_at hl 7 rfl) ?_
    refine lv_iconst (v := 3) hx hb dL_law_557 (by decide) ?_
    refine pc_rcalli (va_runV (As := [.int 3]) (rest := [.int (nI (c 2))]) ⟨hx, hb, hml, hown, hts⟩ (r_X5_many3 l D cA NL871 (uC c 2 (c 2 + 1)) (V_X5_send c v w ((1 : Int32) <<< ((nI j869) &&& 31)) ((1 : Int32) <<< ((nI sh) &&& 31))) w u ad872  hM873 (INV_bnd hi876) (INV_wf hi876) ) (cwV 1 hts gL_law_X5_many rfl rfl rfl (by decide +kernel) ⟨Nat.le_of_ble_eq_true rfl, Nat.le_of_ble_eq_true rfl⟩) (pc_preV pcN_ok hX hW.1 hM873.1 rfl rfl hW.1) rfl rfl hl.1 rfl (lv_room (Nat.le_of_ble_eq_true rfl)) dL_law_558 ⟨(by show _ ≤ (600074 : Nat); omega), (by show _ ≤ (7301550 : Nat); omega)⟩) hW (fun r877 H locs hwr877 hW => ?_)
    replace hwr877 := hwr877.symm
    subst hwr877
    refine lv_iconst (v := 1) hx hb dL_law_561 (by decide) ?_
    refine lv_isub hx hb dL_law_562 ?_
    refine lv_icmp_eq (tgt := 789) hx hb dL_law_563 (by decide) (fun _ => ?_) (fun c878 => absurd (show nI (c 2) = nI (uC c 2 (c 2 + 1) 2) - 1 from by simp only [uC, if_pos rfl]; exact (nI_pred _).symm) c878)
    refine W.widen (k := cl0 + 40) (n := sl0 + 200) (by omega) (by omega) ?_
    exact kk (uC c 2 (c 2 + 1)) (V_X5_send c v w ((1 : Int32) <<< ((nI j869) &&& 31)) ((1 : Int32) <<< ((nI sh) &&& 31))) w u NL871 ad872 H locs ls hi876 rfl hM873 hN874 hW (lv_sub hl [5, 6, 7, 8] rfl)

