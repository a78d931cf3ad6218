set_option maxHeartbeats 4000000 in
set_option maxRecDepth 100000 in
theorem law_arm_5 {p : Program} {e : Env} {s : State} {m : MethodId} {below : List Frame} {meth : Method} {c0 : Code} {l : Launch} {b L : Nat} {xs : Nat → Int32} {D : va_G} {cA : Nat → ClassId} (C1 : law_C p l s m meth c0 b L xs D cA) {c : SC} {v : SV} {w : SW} {u : Nat → Int32} {NL : List (Nat × Nat)} {ad : Nat → Nat → Nat} {i sh rr cl0 sl0 : Nat} {pk x9 : Int32} {ug : Nat × Nat × Nat × Nat} {HR : Heap} (hcl : cl0 ≤ 300000) (hsl : sl0 ≤ 3000000) (hi : INV c v w) (h2n : 2 ≤ c 0) (hM : MEM c NL) (hN : NMEM c NL) (hsh : sh < c 0) (hpk : pk = -1 ∨ ∃ q, q < c 4 ∧ pk = nI q) (hsz : s.heap.size ≤ HR.size) (hrl : rr < HR.size) (hPr0 : va_P D vwCl [(rr, .inl (cA 0, 4, .inl (rgF ug)))] HR) (hug : rgO ug) (H : Heap) (locs : List Loc) (hW : pcS D vwCl (lwA s rr) HR NL ad (ctO cA c v w u ad) H locs) (ls : Array Slot) (hl : lv_has ls 13 [(8, .ref rr), (7, .int pk), (6, .int (nI (c 4))), (5, .int (nI sh)), (4, .int x9), (3, .int (nI i)), (2, .int (nI (c 0))), (1, .ref (ad 5 0)), (0, .ref b)]) (kk : ∀ (c2 : SC) (v2 : SV) (w2 : SW) (u2 : Nat → Int32) (NL2 : List (Nat × Nat)) (ad2 : Nat → Nat → Nat) (H : Heap) (locs : List Loc) (ls : Array Slot), INV c2 v2 w2 → c2 0 = c 0 → MEM c2 NL2 → NMEM c2 NL2 → pcS D vwCl (lwA s rr) HR NL2 ad2 (ctO cA c2 v2 w2 u2 ad2) H locs → lv_has ls 13 [(3, .int (nI i)), (2, .int (nI (c 0))), (1, .ref (ad2 5 0)), (0, .ref b)] → W p l e room_1 s m #[Value.ref b] below meth c0 H locs (cl0 + 40) (sl0 + 200) (lw_Z below #[Value.ref b] s) (F0 m 789 ls [])) : W p l e room_1 s m #[Value.ref b] below meth c0 H locs cl0 sl0 (lw_Z below #[Value.ref b] s) (F0 m 568 ls []) := by
  obtain ⟨hx, hb, hr, hml, hown, hts, hlocks, hX, hsc, hbl, hL⟩ := id C1
  have hA : ∀ q : Nat, HR.size ≤ q → lwA s rr q := fun q h => ⟨Nat.le_trans hsz h, fun e => by omega⟩
  have h5n := hi.1
  refine lv_aload_n hx hb dL_law_568 rfl (lv_at hl 7 rfl) ?_
  refine lv_iconst (v := 4) hx hb dL_law_569 (by decide) ?_
  refine pc_rcalli (va_runV (As := [.int 4]) (rest := []) ⟨hx, hb, hml, hown, hts⟩ (r_X5_many4 l D cA NL c v w u ad  hM (INV_bnd hi) (INV_wf hi) ) (cwV 1 hts gL_law_X5_many rfl rfl rfl (by decide +kernel) ⟨Nat.le_of_ble_eq_true rfl, Nat.le_of_ble_eq_true rfl⟩) (pc_preV pcN_ok hX hW.1 hM.1 rfl rfl hW.1) rfl rfl hl.1 rfl (lv_room (Nat.le_of_ble_eq_true rfl)) dL_law_570 ⟨(by show _ ≤ (600074 : Nat); omega), (by show _ ≤ (7301550 : Nat); omega)⟩) hW (fun r879 H locs hwr879 hW => ?_)
  replace hwr879 := hwr879.symm
  subst hwr879
  refine lv_bipush (v := 20) hx hb dL_law_573 (by decide) ?_
  refine lv_icmp_ge (tgt := 789) hx hb dL_law_575 (by decide) (fun (c880 : (20 : Int32) ≤ (F_X5_many4 c v w)) => ?_) (fun (c880 : ¬ (20 : Int32) ≤ (F_X5_many4 c v w)) => ?_)
  · refine W.widen (k := cl0 + 40) (n := sl0 + 200) (by omega) (by omega) ?_
    exact kk c v w u NL ad H locs ls hi rfl hM hN hW (lv_sub hl [5, 6, 7, 8] rfl)
  · refine lv_aload_n hx hb dL_law_578 rfl (lv_at hl 7 rfl) ?_
    refine lv_iload hx hb dL_law_579 (lv_at hl 3 rfl) ?_
    refine lv_aload hx hb dL_law_581 (lv_at hl 0 rfl) ?_
    refine lv_iconst (v := 0) hx hb dL_law_583 (by decide) ?_
    have hPr := rr_kept hPr0 hrl hW
    refine va_iald hx hb hX.1 hPr 0 0 rfl rfl (vp_in_nI (n := 0) (by decide) (by decide)) dL_law_584 ?_
    rw [rg0]
    refine lv_aload hx hb dL_law_585 (lv_at hl 0 rfl) ?_
    refine lv_iconst (v := 1) hx hb dL_law_587 (by decide) ?_
    have hPr := rr_kept hPr0 hrl hW
    refine va_iald hx hb hX.1 hPr 0 0 rfl rfl (vp_in_nI (n := 1) (by decide) (by decide)) dL_law_588 ?_
    rw [rg1]
    refine lv_aload hx hb dL_law_589 (lv_at hl 0 rfl) ?_
    refine lv_iconst (v := 2) hx hb dL_law_591 (by decide) ?_
    have hPr := rr_kept hPr0 hrl hW
    refine va_iald hx hb hX.1 hPr 0 0 rfl rfl (vp_in_nI (n := 2) (by decide) (by decide)) dL_law_592 ?_
    rw [rg2]
    refine lv_aload hx hb dL_law_593 (lv_at hl 0 rfl) ?_
    refine lv_iconst (v := 3) hx hb dL_law_595 (by decide) ?_
    have hPr := rr_kept hPr0 hrl hW
    refine va_iald hx hb hX.1 hPr 0 0 rfl rfl (vp_in_nI (n := 3) (by decide) (by decide)) dL_law_596 ?_
    rw [rg3]
    refine pc_mcalli (S := List (Nat × Nat) × (Nat → Nat → Nat)) (post := fun r z => r = nI (c 3) ∧ MEM (uC c 3 (c 3 + 1)) z.1 ∧ NMEM (uC c 3 (c 3 + 1)) z.1 ∧ z.2 5 0 = ad 5 0) (B := fun z H9 => va_P D vwCl (pcW z.1 z.2 (ctO cA (uC c 3 (c 3 + 1)) (V_X5_query c v w (nI sh) (nI ug.1) (nI ug.2.1) (nI ug.2.2.1) (nI ug.2.2.2)) (W_X5_query c v w (nI sh) (nI ug.1) (nI ug.2.1) (nI ug.2.2.1) (nI ug.2.2.2)) u z.2)) H9 ∧ va_D (lwA s rr) (pcW z.1 z.2 (ctO cA (uC c 3 (c 3 + 1)) (V_X5_query c v w (nI sh) (nI ug.1) (nI ug.2.1) (nI ug.2.2.1) (nI ug.2.2.2)) (W_X5_query c v w (nI sh) (nI ug.1) (nI ug.2.1) (nI ug.2.2.1) (nI ug.2.2.2)) u z.2))) (va_runV (As := [.int (nI sh), .int (nI ug.1), .int (nI ug.2.1), .int (nI ug.2.2.1), .int (nI ug.2.2.2)]) (rest := []) ⟨hx, hb, hml, hown, hts⟩ (k_X5_query l D cA NL c v w u ad (lwA s rr) (nI sh) (nI ug.1) (nI ug.2.1) (nI ug.2.2.1) (nI ug.2.2.2) hM (INV_bnd hi) (INV_wf hi) hN (nI_nn (Nat.lt_of_lt_of_le hsh (Nat.le_trans (INV_bnd hi).1 (by decide)))) (by rw [nI_clamp (Nat.lt_of_lt_of_le hsh (Nat.le_trans (INV_bnd hi).1 (by decide)))]; exact hsh) (rg_ok hug).1 (rg_ok hug).2.1 (rg_ok hug).2.2.1 (rg_ok hug).2.2.2.1 (rg_ok hug).2.2.2.2.1 (rg_ok hug).2.2.2.2.2 (room20 c880 (by omega)) (by rw [cl (by omega)]; exact INV_all hi sh hsh)) (cwV 5 hts gL_law_X5_query rfl rfl rfl (by decide +kernel) ⟨Nat.le_of_ble_eq_true rfl, Nat.le_of_ble_eq_true rfl⟩) (pc_preV pcN_ok hX hW.1 hM.1 rfl rfl ⟨hW.1, hW.2.1, fun q h => hA q (Nat.le_trans hW.2.2.1 h)⟩) rfl rfl hl.1 rfl (lv_room (Nat.le_of_ble_eq_true rfl)) dL_law_597 ⟨(by show _ ≤ (600074 : Nat); omega), (by show _ ≤ (7301550 : Nat); omega)⟩) hW.2.2 (fun z881r z881 H locs hwz881 hB hS9 => ?_)
    obtain ⟨NL882, ad883⟩ := z881
    obtain ⟨rfl, hM884, hN885, hA886⟩ := hwz881
    have hA886 : ad883 5 0 = ad 5 0 := hA886
    have hW : pcS D vwCl (lwA s rr) HR NL882 ad883 (ctO cA (uC c 3 (c 3 + 1)) (V_X5_query c v w (nI sh) (nI ug.1) (nI ug.2.1) (nI ug.2.2.1) (nI ug.2.2.2)) (W_X5_query c v w (nI sh) (nI ug.1) (nI ug.2.1) (nI ug.2.2.1) (nI ug.2.2.2)) u ad883) H locs := ⟨hB.1, hB.2, hS9⟩
    have hl : lv_has ls 13 [(8, .ref rr), (7, .int pk), (6, .int (nI (c 4))), (5, .int (nI sh)), (4, .int x9), (3, .int (nI i)), (2, .int (nI (c 0))), (1, .ref (ad883 5 0)), (0, .ref b)] := by rw [hA886]; exact hl
    have hi887 : INV (uC c 3 (c 3 + 1)) (V_X5_query c v w (nI sh) (nI ug.1) (nI ug.2.1) (nI ug.2.2.1) (nI ug.2.2.2)) (W_X5_query c v w (nI sh) (nI ug.1) (nI ug.2.1) (nI ug.2.2.1) (nI ug.2.2.2)) := (INV_query hi (room20 c880 (by omega)) _ _ _ _ _)
    refine lv_aload_n hx hb dL_law_600 rfl (lv_at hl 7 rfl) ?_
    refine lv_iconst (v := 4) hx hb dL_law_601 (by decide) ?_
    refine pc_rcalli (va_runV (As := [.int 4]) (rest := [.int (nI (c 3))]) ⟨hx, hb, hml, hown, hts⟩ (r_X5_many4 l D cA NL882 (uC c 3 (c 3 + 1)) (V_X5_query c v w (nI sh) (nI ug.1) (nI ug.2.1) (nI ug.2.2.1) (nI ug.2.2.2)) (W_X5_query c v w (nI sh) (nI ug.1) (nI ug.2.1) (nI ug.2.2.1) (nI ug.2.2.2)) u ad883  hM884 (INV_bnd hi887) (INV_wf hi887) ) (cwV 1 hts gL_law_X5_many rfl rfl rfl (by decide +kernel) ⟨Nat.le_of_ble_eq_true rfl, Nat.le_of_ble_eq_true rfl⟩) (pc_preV pcN_ok hX hW.1 hM884.1 rfl rfl hW.1) rfl rfl hl.1 rfl (lv_room (Nat.le_of_ble_eq_true rfl)) dL_law_602 ⟨(by show _ ≤ (600074 : Nat); omega), (by show _ ≤ (7301550 : Nat); omega)⟩) hW (fun r888 H locs hwr888 hW => ?_)
    replace hwr888 := hwr888.symm
    subst hwr888
    refine lv_iconst (v := 1) hx hb dL_law_605 (by decide) ?_
    refine lv_isub hx hb dL_law_606 ?_
    refine lv_icmp_ne (tgt := 628) hx hb dL_law_607 (by decide) (fun c889 => absurd c889 (fun q => q (show nI (c 3) = nI (uC c 3 (c 3 + 1) 3) - 1 from by simp only [uC, if_pos rfl]; exact (nI_pred _).symm))) (fun _ => ?_)
    refine lv_aload_n hx hb dL_law_610 rfl (lv_at hl 7 rfl) ?_
    refine lv_iload hx hb dL_law_611 (lv_at hl 3 rfl) ?_
    refine lv_aload hx hb dL_law_613 (lv_at hl 0 rfl) ?_
    refine lv_iconst (v := 0) hx hb dL_law_615 (by decide) ?_
    have hPr := rr_kept hPr0 hrl hW
    refine va_iald hx hb hX.1 hPr 0 0 rfl rfl (vp_in_nI (n := 0) (by decide) (by decide)) dL_law_616 ?_
    rw [rg0]
    refine lv_aload hx hb dL_law_617 (lv_at hl 0 rfl) ?_
    refine lv_iconst (v := 3) hx hb dL_law_619 (by decide) ?_
    have hPr := rr_kept hPr0 hrl hW
    refine va_iald hx hb hX.1 hPr 0 0 rfl rfl (vp_in_nI (n := 3) (by decide) (by decide)) dL_law_620 ?_
    rw [rg3]
    refine pc_rcalli (va_runV (As := [.int (nI sh), .int (nI ug.1), .int (nI ug.2.2.2)]) (rest := []) ⟨hx, hb, hml, hown, hts⟩ (r_X5_clouds l D cA NL882 (uC c 3 (c 3 + 1)) (V_X5_query c v w (nI sh) (nI ug.1) (nI ug.2.1) (nI ug.2.2.1) (nI ug.2.2.2)) (W_X5_query c v w (nI sh) (nI ug.1) (nI ug.2.1) (nI ug.2.2.1) (nI ug.2.2.2)) u ad883 (nI sh) (nI ug.1) (nI ug.2.2.2) hM884 (INV_bnd hi887) (INV_wf hi887) (nI_nn (Nat.lt_of_lt_of_le hsh (Nat.le_trans (INV_bnd hi887).1 (by decide)))) (by rw [nI_clamp (Nat.lt_of_lt_of_le hsh (Nat.le_trans (INV_bnd hi887).1 (by decide)))]; exact hsh) (rg_ok hug).1 (nI_lt20 (Nat.lt_of_le_of_lt hug.1 hug.2.1)) (nI_pos (by have := hug.2.2.2; omega)) (rg_ok hug).2.2.2.2.2) (cwV 3 hts gL_law_X5_clouds rfl rfl rfl (by decide +kernel) ⟨Nat.le_of_ble_eq_true rfl, Nat.le_of_ble_eq_true rfl⟩) (pc_preV pcN_ok hX hW.1 hM884.1 rfl rfl hW.1) rfl rfl hl.1 rfl (lv_room (Nat.le_of_ble_eq_true rfl)) dL_law_621 ⟨(by show _ ≤ (600074 : Nat); omega), (by show _ ≤ (7301550 : Nat); omega)⟩) hW (fun r890 H locs hwr890 hW => ?_)
    replace hwr890 := hwr890.symm
    subst hwr890
    refine lv_iconst (v := 1) hx hb dL_law_624 (by decide) ?_
    refine lv_icmp_ge (tgt := 789) hx hb dL_law_625 (by decide) (fun _ => ?_) (fun c891 => absurd (clouds_new hi (room20 c880 (by omega)) hug.1 hug.2.1 hug.2.2.1 hug.2.2.2) c891)
    refine W.widen (k := cl0 + 40) (n := sl0 + 200) (by omega) (by omega) ?_
    exact kk (uC c 3 (c 3 + 1)) (V_X5_query c v w (nI sh) (nI ug.1) (nI ug.2.1) (nI ug.2.2.1) (nI ug.2.2.2)) (W_X5_query c v w (nI sh) (nI ug.1) (nI ug.2.1) (nI ug.2.2.1) (nI ug.2.2.2)) u NL882 ad883 H locs ls hi887 rfl hM884 hN885 hW (lv_sub hl [5, 6, 7, 8] rfl)

set_option maxHeartbeats 4000000 in
set_option maxRecDepth 100000 in
theorem law_arm_6 {p : Program} {e : Env} {s : State} {m : MethodId} {below : List Frame} {meth : Method} {c0 : Code} {l : Launch} {b L : Nat} {xs : Nat → Int32} {D : va_G} {cA : Nat → ClassId} (C1 : law_C p l s m meth c0 b L xs D cA) {c : SC} {v : SV} {w : SW} {u : Nat → Int32} {NL : List (Nat × Nat)} {ad : Nat → Nat → Nat} {i sh rr cl0 sl0 : Nat} {pk x9 : Int32} {ug : Nat × Nat × Nat × Nat} {HR : Heap} (hcl : cl0 ≤ 300000) (hsl : sl0 ≤ 3000000) (hi : INV c v w) (h2n : 2 ≤ c 0) (hM : MEM c NL) (hN : NMEM c NL) (hsh : sh < c 0) (hpk : pk = -1 ∨ ∃ q, q < c 4 ∧ pk = nI q) (hsz : s.heap.size ≤ HR.size) (hrl : rr < HR.size) (hPr0 : va_P D vwCl [(rr, .inl (cA 0, 4, .inl (rgF ug)))] HR) (hug : rgO ug) (H : Heap) (locs : List Loc) (hW : pcS D vwCl (lwA s rr) HR NL ad (ctO cA c v w u ad) H locs) (ls : Array Slot) (hl : lv_has ls 13 [(8, .ref rr), (7, .int pk), (6, .int (nI (c 4))), (5, .int (nI sh)), (4, .int x9), (3, .int (nI i)), (2, .int (nI (c 0))), (1, .ref (ad 5 0)), (0, .ref b)]) (kk : ∀ (c2 : SC) (v2 : SV) (w2 : SW) (u2 : Nat → Int32) (NL2 : List (Nat × Nat)) (ad2 : Nat → Nat → Nat) (H : Heap) (locs : List Loc) (ls : Array Slot), INV c2 v2 w2 → c2 0 = c 0 → MEM c2 NL2 → NMEM c2 NL2 → pcS D vwCl (lwA s rr) HR NL2 ad2 (ctO cA c2 v2 w2 u2 ad2) H locs → lv_has ls 13 [(3, .int (nI i)), (2, .int (nI (c 0))), (1, .ref (ad2 5 0)), (0, .ref b)] → W p l e room_1 s m #[Value.ref b] below meth c0 H locs (cl0 + 40) (sl0 + 200) (lw_Z below #[Value.ref b] s) (F0 m 789 ls [])) : W p l e room_1 s m #[Value.ref b] below meth c0 H locs cl0 sl0 (lw_Z below #[Value.ref b] s) (F0 m 630 ls []) := by
  obtain ⟨hx, hb, hr, hml, hown, hts, hlocks, hX, hsc, hbl, hL⟩ := id C1
  have hA : ∀ q : Nat, HR.size ≤ q → lwA s rr q := fun q h => ⟨Nat.le_trans hsz h, fun e => by omega⟩
  have h5n := hi.1
  refine lv_iload hx hb dL_law_630 (lv_at hl 2 rfl) ?_
  refine lv_bipush (v := 8) hx hb dL_law_632 (by decide) ?_
  refine lv_icmp_ge (tgt := 789) hx hb dL_law_634 (by decide) (fun (c892 : (8 : Int32) ≤ (nI (c 4))) => ?_) (fun (c892 : ¬ (8 : Int32) ≤ (nI (c 4))) => ?_)
  · refine W.widen (k := cl0 + 40) (n := sl0 + 200) (by omega) (by omega) ?_
    exact kk c v w u NL ad H locs ls hi rfl hM hN hW (lv_sub hl [5, 6, 7, 8] rfl)
  · refine lv_aload_n hx hb dL_law_637 rfl (lv_at hl 7 rfl) ?_
    refine lv_iload hx hb dL_law_638 (lv_at hl 4 rfl) ?_
    refine lv_iconst (v := 5) hx hb dL_law_640 (by decide) ?_
    refine lv_ishr hx hb dL_law_641 ?_
    refine lv_iconst (v := 4) hx hb dL_law_642 (by decide) ?_
    refine pc_rcalli (va_runS (As := [.int (x9 >>> ((5 : Int32) &&& 31)), .int 4]) (rest := [.ref (ad 5 0)]) ⟨hx, hb, hml, hown, hts⟩ (r_L_below l D cA (x9 >>> ((5 : Int32) &&& 31)) (4 : Int32) (by decide)) (va_cwS 2 hts gL_law_L_below rfl rfl rfl (by decide +kernel) ⟨Nat.le_of_ble_eq_true rfl, Nat.le_of_ble_eq_true rfl⟩) (pc_preS pcN_ok hX trivial) rfl rfl hl.1 rfl (lv_room (Nat.le_of_ble_eq_true rfl)) dL_law_643 ⟨(by show _ ≤ (600074 : Nat); omega), (by show _ ≤ (7301550 : Nat); omega)⟩) hW (fun r893 H locs hwr893 hW => ?_)
    replace hwr893 := hwr893.symm
    subst hwr893
    obtain ⟨j894, hj894, ej894⟩ : ∃ j, j < 4 ∧ (F_L_below (x9 >>> ((5 : Int32) &&& 31)) (4 : Int32)) = nI j := below_ok _ 4 (by decide) (by decide)
    rw [ej894]
    refine lv_iconst (v := 1) hx hb dL_law_646 (by decide) ?_
    refine lv_iload hx hb dL_law_647 (lv_at hl 3 rfl) ?_
    refine lv_ishl hx hb dL_law_649 ?_
    refine lv_iconst (v := 1) hx hb dL_law_650 (by decide) ?_
    refine lv_iload hx hb dL_law_651 (lv_at hl 4 rfl) ?_
    refine lv_iconst (v := 2) hx hb dL_law_653 (by decide) ?_
    refine lv_ishr hx hb dL_law_654 ?_
    refine lv_iconst (v := 4) hx hb dL_law_655 (by decide) ?_
    refine pc_rcalli (va_runS (As := [.int (x9 >>> ((2 : Int32) &&& 31)), .int 4]) (rest := [.int 1, .int ((1 : Int32) <<< ((nI sh) &&& 31)), .int (nI j894), .ref (ad 5 0)]) ⟨hx, hb, hml, hown, hts⟩ (r_L_below l D cA (x9 >>> ((2 : Int32) &&& 31)) (4 : Int32) (by decide)) (va_cwS 2 hts gL_law_L_below rfl rfl rfl (by decide +kernel) ⟨Nat.le_of_ble_eq_true rfl, Nat.le_of_ble_eq_true rfl⟩) (pc_preS pcN_ok hX trivial) rfl rfl hl.1 rfl (lv_room (Nat.le_of_ble_eq_true rfl)) dL_law_656 ⟨(by show _ ≤ (600074 : Nat); omega), (by show _ ≤ (7301550 : Nat); omega)⟩) hW (fun r895 H locs hwr895 hW => ?_)
    replace hwr895 := hwr895.symm
    subst hwr895
    obtain ⟨j896, hj896, ej896⟩ : ∃ j, j < 4 ∧ (F_L_below (x9 >>> ((2 : Int32) &&& 31)) (4 : Int32)) = nI j := below_ok _ 4 (by decide) (by decide)
    rw [ej896]
    refine lv_iadd hx hb dL_law_659 ?_
    rw [n1_add]
    refine pc_mcalli (S := List (Nat × Nat) × (Nat → Nat → Nat)) (post := fun r z => r = nI (c 4) ∧ MEM (uC c 4 (c 4 + 1)) z.1 ∧ NMEM (uC c 4 (c 4 + 1)) z.1 ∧ z.2 5 0 = ad 5 0) (B := fun z H9 => va_P D vwCl (pcW z.1 z.2 (ctO cA (uC c 4 (c 4 + 1)) (V_X5_pack c v w (nI j894) ((1 : Int32) <<< ((nI sh) &&& 31)) (nI (j896 + 1))) (W_X5_pack c v w (nI j894) ((1 : Int32) <<< ((nI sh) &&& 31)) (nI (j896 + 1))) u z.2)) H9 ∧ va_D (lwA s rr) (pcW z.1 z.2 (ctO cA (uC c 4 (c 4 + 1)) (V_X5_pack c v w (nI j894) ((1 : Int32) <<< ((nI sh) &&& 31)) (nI (j896 + 1))) (W_X5_pack c v w (nI j894) ((1 : Int32) <<< ((nI sh) &&& 31)) (nI (j896 + 1))) u z.2))) (va_runV (As := [.int (nI j894), .int ((1 : Int32) <<< ((nI sh) &&& 31)), .int (nI (j896 + 1))]) (rest := []) ⟨hx, hb, hml, hown, hts⟩ (k_X5_pack l D cA NL c v w u ad (lwA s rr) (nI j894) ((1 : Int32) <<< ((nI sh) &&& 31)) (nI (j896 + 1)) hM (INV_bnd hi) (INV_wf hi) hN (room8 c892 (by omega)) (nI_pos (by omega)) (nI_lt (b := 4) hj894 (by decide)) (isSet (setOk (by omega) hsh)) (nI_nlt (b := 1) (by omega) (by omega)) (nI_le (b := 9) (by omega) (by decide))) (cwV 3 hts gL_law_X5_pack rfl rfl rfl (by decide +kernel) ⟨Nat.le_of_ble_eq_true rfl, Nat.le_of_ble_eq_true rfl⟩) (pc_preV pcN_ok hX hW.1 hM.1 rfl rfl ⟨hW.1, hW.2.1, fun q h => hA q (Nat.le_trans hW.2.2.1 h)⟩) rfl rfl hl.1 rfl (lv_room (Nat.le_of_ble_eq_true rfl)) dL_law_660 ⟨(by show _ ≤ (600074 : Nat); omega), (by show _ ≤ (7301550 : Nat); omega)⟩) hW.2.2 (fun z897r z897 H locs hwz897 hB hS9 => ?_)
    obtain ⟨NL898, ad899⟩ := z897
    obtain ⟨rfl, hM900, hN901, hA902⟩ := hwz897
    have hA902 : ad899 5 0 = ad 5 0 := hA902
    have hW : pcS D vwCl (lwA s rr) HR NL898 ad899 (ctO cA (uC c 4 (c 4 + 1)) (V_X5_pack c v w (nI j894) ((1 : Int32) <<< ((nI sh) &&& 31)) (nI (j896 + 1))) (W_X5_pack c v w (nI j894) ((1 : Int32) <<< ((nI sh) &&& 31)) (nI (j896 + 1))) u ad899) H locs := ⟨hB.1, hB.2, hS9⟩
    have hl : lv_has ls 13 [(8, .ref rr), (7, .int pk), (6, .int (nI (c 4))), (5, .int (nI sh)), (4, .int x9), (3, .int (nI i)), (2, .int (nI (c 0))), (1, .ref (ad899 5 0)), (0, .ref b)] := by rw [hA902]; exact hl
    have hi903 : INV (uC c 4 (c 4 + 1)) (V_X5_pack c v w (nI j894) ((1 : Int32) <<< ((nI sh) &&& 31)) (nI (j896 + 1))) (W_X5_pack c v w (nI j894) ((1 : Int32) <<< ((nI sh) &&& 31)) (nI (j896 + 1))) := (INV_pack hi (room8 c892 (by omega)) hj894 hsh (by omega) (by omega))
    have hp4 : c 4 < uC c 4 (c 4 + 1) 4 := by simp [uC]
    refine lv_iload hx hb dL_law_663 (lv_at hl 2 rfl) ?_
    refine lv_icmp_ne (tgt := 716) hx hb dL_law_665 (by decide) (fun c904 => absurd c904 (fun q => q rfl)) (fun _ => ?_)
    refine lv_aload_n hx hb dL_law_668 rfl (lv_at hl 7 rfl) ?_
    refine lv_iload hx hb dL_law_669 (lv_at hl 2 rfl) ?_
    refine lv_aload hx hb dL_law_671 (lv_at hl 0 rfl) ?_
    refine lv_iconst (v := 0) hx hb dL_law_673 (by decide) ?_
    have hPr := rr_kept hPr0 hrl hW
    refine va_iald hx hb hX.1 hPr 0 0 rfl rfl (vp_in_nI (n := 0) (by decide) (by decide)) dL_law_674 ?_
    rw [rg0]
    refine lv_aload hx hb dL_law_675 (lv_at hl 0 rfl) ?_
    refine lv_iconst (v := 1) hx hb dL_law_677 (by decide) ?_
    have hPr := rr_kept hPr0 hrl hW
    refine va_iald hx hb hX.1 hPr 0 0 rfl rfl (vp_in_nI (n := 1) (by decide) (by decide)) dL_law_678 ?_
    rw [rg1]
    refine lv_aload hx hb dL_law_679 (lv_at hl 0 rfl) ?_
    refine lv_iconst (v := 2) hx hb dL_law_681 (by decide) ?_
    have hPr := rr_kept hPr0 hrl hW
    refine va_iald hx hb hX.1 hPr 0 0 rfl rfl (vp_in_nI (n := 2) (by decide) (by decide)) dL_law_682 ?_
    rw [rg2]
    refine lv_aload hx hb dL_law_683 (lv_at hl 0 rfl) ?_
    refine lv_iconst (v := 3) hx hb dL_law_685 (by decide) ?_
    have hPr := rr_kept hPr0 hrl hW
    refine va_iald hx hb hX.1 hPr 0 0 rfl rfl (vp_in_nI (n := 3) (by decide) (by decide)) dL_law_686 ?_
    rw [rg3]
    have hD9 := hW.2.1
    refine pc_mcalli (va_runV (As := [.int (nI (c 4)), .int (nI ug.1), .int (nI ug.2.1), .int (nI ug.2.2.1), .int (nI ug.2.2.2)]) (rest := []) ⟨hx, hb, hml, hown, hts⟩ (m_X5_place l D cA NL898 (uC c 4 (c 4 + 1)) (V_X5_pack c v w (nI j894) ((1 : Int32) <<< ((nI sh) &&& 31)) (nI (j896 + 1))) (W_X5_pack c v w (nI j894) ((1 : Int32) <<< ((nI sh) &&& 31)) (nI (j896 + 1))) u ad899 (lwA s rr) (nI (c 4)) (nI ug.1) (nI ug.2.1) (nI ug.2.2.1) (nI ug.2.2.2) hM900 (INV_bnd hi903) (INV_wf hi903) (nI_nn (Nat.lt_of_lt_of_le hp4 (Nat.le_trans (INV_bnd hi903).2.2.2.2 (by decide)))) (by rw [nI_clamp (Nat.lt_of_lt_of_le hp4 (Nat.le_trans (INV_bnd hi903).2.2.2.2 (by decide)))]; exact hp4) (rg_ok hug).1 (rg_ok hug).2.1 (rg_ok hug).2.2.1 (rg_ok hug).2.2.2.1 (rg_ok hug).2.2.2.2.1 (rg_ok hug).2.2.2.2.2 (by rw [cl (by have := (room8 c892 (by omega)); omega)]; unfold V_X5_pack; simp [newV_7])) (cwV 5 hts gL_law_X5_place rfl rfl rfl (by decide +kernel) ⟨Nat.le_of_ble_eq_true rfl, Nat.le_of_ble_eq_true rfl⟩) (pc_preV pcN_ok hX hW.1 hM900.1 rfl rfl ⟨hW.1, hW.2.1, fun q h => hA q (Nat.le_trans hW.2.2.1 h)⟩) rfl rfl hl.1 rfl (lv_room (Nat.le_of_ble_eq_true rfl)) dL_law_687 ⟨(by show _ ≤ (600074 : Nat); omega), (by show _ ≤ (7301550 : Nat); omega)⟩) hW.2.2 (fun r905 _ H locs hwr905 hB hS9 => ?_)
    replace hwr905 := hwr905.symm
    subst hwr905
    have hW : pcS D vwCl (lwA s rr) HR NL898 ad899 (ctO cA (uC c 4 (c 4 + 1)) (V_X5_place (uC c 4 (c 4 + 1)) (V_X5_pack c v w (nI j894) ((1 : Int32) <<< ((nI sh) &&& 31)) (nI (j896 + 1))) (W_X5_pack c v w (nI j894) ((1 : Int32) <<< ((nI sh) &&& 31)) (nI (j896 + 1))) (nI (c 4)) (nI ug.1) (nI ug.2.1) (nI ug.2.2.1) (nI ug.2.2.2)) (W_X5_place (uC c 4 (c 4 + 1)) (V_X5_pack c v w (nI j894) ((1 : Int32) <<< ((nI sh) &&& 31)) (nI (j896 + 1))) (W_X5_pack c v w (nI j894) ((1 : Int32) <<< ((nI sh) &&& 31)) (nI (j896 + 1))) (nI (c 4)) (nI ug.1) (nI ug.2.1) (nI ug.2.2.1) (nI ug.2.2.2)) u ad899) H locs := ⟨hB, pcD_ct hD9, hS9⟩
    have hi906 : INV (uC c 4 (c 4 + 1)) (V_X5_place (uC c 4 (c 4 + 1)) (V_X5_pack c v w (nI j894) ((1 : Int32) <<< ((nI sh) &&& 31)) (nI (j896 + 1))) (W_X5_pack c v w (nI j894) ((1 : Int32) <<< ((nI sh) &&& 31)) (nI (j896 + 1))) (nI (c 4)) (nI ug.1) (nI ug.2.1) (nI ug.2.2.1) (nI ug.2.2.2)) (W_X5_place (uC c 4 (c 4 + 1)) (V_X5_pack c v w (nI j894) ((1 : Int32) <<< ((nI sh) &&& 31)) (nI (j896 + 1))) (W_X5_pack c v w (nI j894) ((1 : Int32) <<< ((nI sh) &&& 31)) (nI (j896 + 1))) (nI (c 4)) (nI ug.1) (nI ug.2.1) (nI ug.2.2.1) (nI ug.2.2.2)) := (INV_place hi903 hp4 _ _ _ _)
    refine lv_aload hx hb dL_law_690 (lv_at hl 0 rfl) ?_
    refine lv_iconst (v := 2) hx hb dL_law_692 (by decide) ?_
    have hPr := rr_kept hPr0 hrl hW
    refine va_iald hx hb hX.1 hPr 0 0 rfl rfl (vp_in_nI (n := 2) (by decide) (by decide)) dL_law_693 ?_
    rw [rg2]
    refine lv_aload hx hb dL_law_694 (lv_at hl 0 rfl) ?_
    refine lv_iconst (v := 0) hx hb dL_law_696 (by decide) ?_
    have hPr := rr_kept hPr0 hrl hW
    refine va_iald hx hb hX.1 hPr 0 0 rfl rfl (vp_in_nI (n := 0) (by decide) (by decide)) dL_law_697 ?_
    rw [rg0]
    refine lv_isub hx hb dL_law_698 ?_
    refine lv_iconst (v := 1) hx hb dL_law_699 (by decide) ?_
    refine lv_iadd hx hb dL_law_700 ?_
    refine lv_aload hx hb dL_law_701 (lv_at hl 0 rfl) ?_
    refine lv_iconst (v := 3) hx hb dL_law_703 (by decide) ?_
    have hPr := rr_kept hPr0 hrl hW
    refine va_iald hx hb hX.1 hPr 0 0 rfl rfl (vp_in_nI (n := 3) (by decide) (by decide)) dL_law_704 ?_
    rw [rg3]
    refine lv_aload hx hb dL_law_705 (lv_at hl 0 rfl) ?_
    refine lv_iconst (v := 1) hx hb dL_law_707 (by decide) ?_
    have hPr := rr_kept hPr0 hrl hW
    refine va_iald hx hb hX.1 hPr 0 0 rfl rfl (vp_in_nI (n := 1) (by decide) (by decide)) dL_law_708 ?_
    rw [rg1]
    refine lv_isub hx hb dL_law_709 ?_
    refine lv_iconst (v := 1) hx hb dL_law_710 (by decide) ?_
    refine lv_iadd hx hb dL_law_711 ?_
    refine lv_imul hx hb dL_law_712 ?_
    refine lv_icmp_eq (tgt := 789) hx hb dL_law_713 (by decide) (fun _ => ?_) (fun c907 => absurd (place_ans.trans (fields_law hug.1 hug.2.1 hug.2.2.1 hug.2.2.2)) c907)
    refine W.widen (k := cl0 + 40) (n := sl0 + 200) (by omega) (by omega) ?_
    exact kk (uC c 4 (c 4 + 1)) (V_X5_place (uC c 4 (c 4 + 1)) (V_X5_pack c v w (nI j894) ((1 : Int32) <<< ((nI sh) &&& 31)) (nI (j896 + 1))) (W_X5_pack c v w (nI j894) ((1 : Int32) <<< ((nI sh) &&& 31)) (nI (j896 + 1))) (nI (c 4)) (nI ug.1) (nI ug.2.1) (nI ug.2.2.1) (nI ug.2.2.2)) (W_X5_place (uC c 4 (c 4 + 1)) (V_X5_pack c v w (nI j894) ((1 : Int32) <<< ((nI sh) &&& 31)) (nI (j896 + 1))) (W_X5_pack c v w (nI j894) ((1 : Int32) <<< ((nI sh) &&& 31)) (nI (j896 + 1))) (nI (c 4)) (nI ug.1) (nI ug.2.1) (nI ug.2.2.1) (nI ug.2.2.2)) u NL898 ad899 H locs ls hi906 rfl hM900 hN901 hW (lv_sub hl [5, 6, 7, 8] rfl)

set_option maxHeartbeats 4000000 in
set_option maxRecDepth 100000 in
theorem law_arm_7 {p : Program} {e : Env} {s : State} {m : MethodId} {below : List Frame} {meth : Method} {c0 : Code} {l : Launch} {b L : Nat} {xs : Nat → Int32} {D : va_G} {cA : Nat → ClassId} (C1 : law_C p l s m meth c0 b L xs D cA) {c : SC} {v : SV} {w : SW} {u : Nat → Int32} {NL : List (Nat × Nat)} {ad : Nat → Nat → Nat} {i sh rr cl0 sl0 : Nat} {pk x9 : Int32} {ug : Nat × Nat × Nat × Nat} {HR : Heap} (hcl : cl0 ≤ 300000) (hsl : sl0 ≤ 3000000) (hi : INV c v w) (h2n : 2 ≤ c 0) (hM : MEM c NL) (hN : NMEM c NL) (hsh : sh < c 0) (hpk : pk = -1 ∨ ∃ q, q < c 4 ∧ pk = nI q) (hsz : s.heap.size ≤ HR.size) (hrl : rr < HR.size) (hPr0 : va_P D vwCl [(rr, .inl (cA 0, 4, .inl (rgF ug)))] HR) (hug : rgO ug) (H : Heap) (locs : List Loc) (hW : pcS D vwCl (lwA s rr) HR NL ad (ctO cA c v w u ad) H locs) (ls : Array Slot) (hl : lv_has ls 13 [(8, .ref rr), (7, .int pk), (6, .int (nI (c 4))), (5, .int (nI sh)), (4, .int x9), (3, .int (nI i)), (2, .int (nI (c 0))), (1, .ref (ad 5 0)), (0, .ref b)]) (kk : ∀ (c2 : SC) (v2 : SV) (w2 : SW) (u2 : Nat → Int32) (NL2 : List (Nat × Nat)) (ad2 : Nat → Nat → Nat) (H : Heap) (locs : List Loc) (ls : Array Slot), INV c2 v2 w2 → c2 0 = c 0 → MEM c2 NL2 → NMEM c2 NL2 → pcS D vwCl (lwA s rr) HR NL2 ad2 (ctO cA c2 v2 w2 u2 ad2) H locs → lv_has ls 13 [(3, .int (nI i)), (2, .int (nI (c 0))), (1, .ref (ad2 5 0)), (0, .ref b)] → W p l e room_1 s m #[Value.ref b] below meth c0 H locs (cl0 + 40) (sl0 + 200) (lw_Z below #[Value.ref b] s) (F0 m 789 ls [])) : W p l e room_1 s m #[Value.ref b] below meth c0 H locs cl0 sl0 (lw_Z below #[Value.ref b] s) (F0 m 718 ls []) := by
  obtain ⟨hx, hb, hr, hml, hown, hts, hlocks, hX, hsc, hbl, hL⟩ := id C1
  have hA : ∀ q : Nat, HR.size ≤ q → lwA s rr q := fun q h => ⟨Nat.le_trans hsz h, fun e => by omega⟩
  have h5n := hi.1
  refine lv_aload_n hx hb dL_law_718 rfl (lv_at hl 7 rfl) ?_
  refine lv_bipush (v := 11) hx hb dL_law_719 (by decide) ?_
  refine pc_rcalli (va_runV (As := [.int 11]) (rest := []) ⟨hx, hb, hml, hown, hts⟩ (r_X5_many11 l D cA NL c v w u ad  hM (INV_bnd hi) (INV_wf hi) ) (cwV 1 hts gL_law_X5_many rfl rfl rfl (by decide +kernel) ⟨Nat.le_of_ble_eq_true rfl, Nat.le_of_ble_eq_true rfl⟩) (pc_preV pcN_ok hX hW.1 hM.1 rfl rfl hW.1) rfl rfl hl.1 rfl (lv_room (Nat.le_of_ble_eq_true rfl)) dL_law_721 ⟨(by show _ ≤ (600074 : Nat); omega), (by show _ ≤ (7301550 : Nat); omega)⟩) hW (fun r908 H locs hwr908 hW => ?_)
  replace hwr908 := hwr908.symm
  subst hwr908
  refine lv_istore (lv' := [(12, .int (F_X5_many11 c v w)), (8, .ref rr), (7, .int pk), (6, .int (nI (c 4))), (5, .int (nI sh)), (4, .int x9), (3, .int (nI i)), (2, .int (nI (c 0))), (1, .ref (ad 5 0)), (0, .ref b)]) hx hb dL_law_724 hl (by decide) rfl (fun ls hl => ?_)
  refine lv_aload_n hx hb dL_law_726 rfl (lv_at hl 8 rfl) ?_
  have hD9 := hW.2.1
  refine pc_mcalli (va_runV (As := []) (rest := []) ⟨hx, hb, hml, hown, hts⟩ (m_X5_day l D cA NL c v w u ad (lwA s rr)  hM (INV_bnd hi) (INV_wf hi) ) (cwV 0 hts gL_law_X5_day rfl rfl rfl (by decide +kernel) ⟨Nat.le_of_ble_eq_true rfl, Nat.le_of_ble_eq_true rfl⟩) (pc_preV pcN_ok hX hW.1 hM.1 rfl rfl ⟨hW.1, hW.2.1, fun q h => hA q (Nat.le_trans hW.2.2.1 h)⟩) rfl rfl hl.1 rfl (lv_room (Nat.le_of_ble_eq_true rfl)) dL_law_727 ⟨(by show _ ≤ (600074 : Nat); omega), (by show _ ≤ (7301550 : Nat); omega)⟩) hW.2.2 (fun r909 _ H locs hwr909 hB hS9 => ?_)
  replace hwr909 := hwr909.symm
  subst hwr909
  have hW : pcS D vwCl (lwA s rr) HR NL ad (ctO cA (uC c 5 (c 5 + 1)) (V_X5_day c v w) w u ad) H locs := ⟨hB, pcD_ct hD9, hS9⟩
  have hi910 : INV (uC c 5 (c 5 + 1)) (V_X5_day c v w) w := (INV_day hi)
  refine lv_aload_n hx hb dL_law_730 rfl (lv_at hl 8 rfl) ?_
  refine lv_bipush (v := 11) hx hb dL_law_731 (by decide) ?_
  refine pc_rcalli (va_runV (As := [.int 11]) (rest := [.int (F_X5_day c v w)]) ⟨hx, hb, hml, hown, hts⟩ (r_X5_many11 l D cA NL (uC c 5 (c 5 + 1)) (V_X5_day c v w) w u ad  hM (INV_bnd hi910) (INV_wf hi910) ) (cwV 1 hts gL_law_X5_many rfl rfl rfl (by decide +kernel) ⟨Nat.le_of_ble_eq_true rfl, Nat.le_of_ble_eq_true rfl⟩) (pc_preV pcN_ok hX hW.1 hM.1 rfl rfl hW.1) rfl rfl hl.1 rfl (lv_room (Nat.le_of_ble_eq_true rfl)) dL_law_733 ⟨(by show _ ≤ (600074 : Nat); omega), (by show _ ≤ (7301550 : Nat); omega)⟩) hW (fun r911 H locs hwr911 hW => ?_)
  replace hwr911 := hwr911.symm
  subst hwr911
  refine lv_iload hx hb dL_law_736 (lv_at hl 0 rfl) ?_
  refine lv_isub hx hb dL_law_738 ?_
  refine lv_icmp_eq (tgt := 789) hx hb dL_law_739 (by decide) (fun _ => ?_) (fun c912 => absurd (day_many hi) c912)
  refine W.widen (k := cl0 + 40) (n := sl0 + 200) (by omega) (by omega) ?_
  exact kk (uC c 5 (c 5 + 1)) (V_X5_day c v w) w u NL ad H locs ls hi910 rfl hM hN hW (lv_sub hl [6, 7, 8, 9] rfl)

set_option maxHeartbeats 4000000 in
set_option maxRecDepth 100000 in
theorem law_arm_8 {p : Program} {e : Env} {s : State} {m : MethodId} {below : List Frame} {meth : Method} {c0 : Code} {l : Launch} {b L : Nat} {xs : Nat → Int32} {D : va_G} {cA : Nat → ClassId} (C1 : law_C p l s m meth c0 b L xs D cA) {c : SC} {v : SV} {w : SW} {u : Nat → Int32} {NL : List (Nat × Nat)} {ad : Nat → Nat → Nat} {i sh rr cl0 sl0 : Nat} {pk x9 : Int32} {ug : Nat × Nat × Nat × Nat} {HR : Heap} (hcl : cl0 ≤ 300000) (hsl : sl0 ≤ 3000000) (hi : INV c v w) (h2n : 2 ≤ c 0) (hM : MEM c NL) (hN : NMEM c NL) (hsh : sh < c 0) (hpk : pk = -1 ∨ ∃ q, q < c 4 ∧ pk = nI q) (hsz : s.heap.size ≤ HR.size) (hrl : rr < HR.size) (hPr0 : va_P D vwCl [(rr, .inl (cA 0, 4, .inl (rgF ug)))] HR) (hug : rgO ug) (H : Heap) (locs : List Loc) (hW : pcS D vwCl (lwA s rr) HR NL ad (ctO cA c v w u ad) H locs) (ls : Array Slot) (hl : lv_has ls 13 [(8, .ref rr), (7, .int pk), (6, .int (nI (c 4))), (5, .int (nI sh)), (4, .int x9), (3, .int (nI i)), (2, .int (nI (c 0))), (1, .ref (ad 5 0)), (0, .ref b)]) (kk : ∀ (c2 : SC) (v2 : SV) (w2 : SW) (u2 : Nat → Int32) (NL2 : List (Nat × Nat)) (ad2 : Nat → Nat → Nat) (H : Heap) (locs : List Loc) (ls : Array Slot), INV c2 v2 w2 → c2 0 = c 0 → MEM c2 NL2 → NMEM c2 NL2 → pcS D vwCl (lwA s rr) HR NL2 ad2 (ctO cA c2 v2 w2 u2 ad2) H locs → lv_has ls 13 [(3, .int (nI i)), (2, .int (nI (c 0))), (1, .ref (ad2 5 0)), (0, .ref b)] → W p l e room_1 s m #[Value.ref b] below meth c0 H locs (cl0 + 40) (sl0 + 200) (lw_Z below #[Value.ref b] s) (F0 m 789 ls [])) : W p l e room_1 s m #[Value.ref b] below meth c0 H locs cl0 sl0 (lw_Z below #[Value.ref b] s) (F0 m 744 ls []) := by
  obtain ⟨hx, hb, hr, hml, hown, hts, hlocks, hX, hsc, hbl, hL⟩ := id C1
  have hA : ∀ q : Nat, HR.size ≤ q → lwA s rr q := fun q h => ⟨Nat.le_trans hsz h, fun e => by omega⟩
  have h5n := hi.1
  refine lv_iload hx hb dL_law_744 (lv_at hl 1 rfl) ?_
  refine lv_if_lt (tgt := 789) hx hb dL_law_746 (by decide) (fun (c913 : pk < 0) => ?_) (fun (c913 : ¬ pk < 0) => ?_)
  · refine W.widen (k := cl0 + 40) (n := sl0 + 200) (by omega) (by omega) ?_
    exact kk c v w u NL ad H locs ls hi rfl hM hN hW (lv_sub hl [5, 6, 7, 8] rfl)
  · obtain ⟨pq, hpq, rfl⟩ : ∃ q, q < c 4 ∧ pk = nI q := hpk.resolve_left (fun q => c913 (q ▸ (by decide)))
    refine lv_aload_n hx hb dL_law_749 rfl (lv_at hl 7 rfl) ?_
    refine lv_iload hx hb dL_law_750 (lv_at hl 1 rfl) ?_
    refine lv_iconst (v := 2) hx hb dL_law_752 (by decide) ?_
    refine pc_rcalli (va_runV (As := [.int (nI pq), .int 2]) (rest := []) ⟨hx, hb, hml, hown, hts⟩ (r_X5_ofPack2 l D cA NL c v w u ad (nI pq) hM (INV_bnd hi) (INV_wf hi) (nI_nn (Nat.lt_of_lt_of_le hpq (Nat.le_trans (INV_bnd hi).2.2.2.2 (by decide)))) (by rw [nI_clamp (Nat.lt_of_lt_of_le hpq (Nat.le_trans (INV_bnd hi).2.2.2.2 (by decide)))]; exact hpq)) (cwV 2 hts gL_law_X5_ofPack rfl rfl rfl (by decide +kernel) ⟨Nat.le_of_ble_eq_true rfl, Nat.le_of_ble_eq_true rfl⟩) (pc_preV pcN_ok hX hW.1 hM.1 rfl rfl hW.1) rfl rfl hl.1 rfl (lv_room (Nat.le_of_ble_eq_true rfl)) dL_law_753 ⟨(by show _ ≤ (600074 : Nat); omega), (by show _ ≤ (7301550 : Nat); omega)⟩) hW (fun r914 H locs hwr914 hW => ?_)
    replace hwr914 := hwr914.symm
    subst hwr914
    refine lv_iconst (v := 2) hx hb dL_law_756 (by decide) ?_
    refine lv_irem hx hb dL_law_757 (by decide) ?_
    refine lv_if_ne (tgt := 789) hx hb dL_law_758 (by decide) (fun (c915 : ¬ ((F_X5_ofPack2 c v w (nI pq)) - (F_X5_ofPack2 c v w (nI pq)) / (2 : Int32) * (2 : Int32)) = 0) => ?_) (fun (c915 : ((F_X5_ofPack2 c v w (nI pq)) - (F_X5_ofPack2 c v w (nI pq)) / (2 : Int32) * (2 : Int32)) = 0) => ?_)
    · refine W.widen (k := cl0 + 40) (n := sl0 + 200) (by omega) (by omega) ?_
      exact kk c v w u NL ad H locs ls hi rfl hM hN hW (lv_sub hl [5, 6, 7, 8] rfl)
    · refine lv_aload_n hx hb dL_law_761 rfl (lv_at hl 7 rfl) ?_
      refine lv_iload hx hb dL_law_762 (lv_at hl 1 rfl) ?_
      refine lv_iconst (v := 4) hx hb dL_law_764 (by decide) ?_
      refine pc_rcalli (va_runV (As := [.int (nI pq), .int 4]) (rest := []) ⟨hx, hb, hml, hown, hts⟩ (r_X5_ofPack4 l D cA NL c v w u ad (nI pq) hM (INV_bnd hi) (INV_wf hi) (nI_nn (Nat.lt_of_lt_of_le hpq (Nat.le_trans (INV_bnd hi).2.2.2.2 (by decide)))) (by rw [nI_clamp (Nat.lt_of_lt_of_le hpq (Nat.le_trans (INV_bnd hi).2.2.2.2 (by decide)))]; exact hpq)) (cwV 2 hts gL_law_X5_ofPack rfl rfl rfl (by decide +kernel) ⟨Nat.le_of_ble_eq_true rfl, Nat.le_of_ble_eq_true rfl⟩) (pc_preV pcN_ok hX hW.1 hM.1 rfl rfl hW.1) rfl rfl hl.1 rfl (lv_room (Nat.le_of_ble_eq_true rfl)) dL_law_765 ⟨(by show _ ≤ (600074 : Nat); omega), (by show _ ≤ (7301550 : Nat); omega)⟩) hW (fun r916 H locs hwr916 hW => ?_)
      replace hwr916 := hwr916.symm
      subst hwr916
      refine lv_if_ge (tgt := 789) hx hb dL_law_768 (by decide) (fun (c917 : 0 ≤ (F_X5_ofPack4 c v w (nI pq))) => ?_) (fun (c917 : ¬ 0 ≤ (F_X5_ofPack4 c v w (nI pq))) => ?_)
      · refine W.widen (k := cl0 + 40) (n := sl0 + 200) (by omega) (by omega) ?_
        exact kk c v w u NL ad H locs ls hi rfl hM hN hW (lv_sub hl [5, 6, 7, 8] rfl)
      · refine lv_aload_n hx hb dL_law_771 rfl (lv_at hl 7 rfl) ?_
        refine lv_iload hx hb dL_law_772 (lv_at hl 1 rfl) ?_
        have hD9 := hW.2.1
        refine pc_mcalli (va_runV (As := [.int (nI pq)]) (rest := []) ⟨hx, hb, hml, hown, hts⟩ (m_X5_start l D cA NL c v w u ad (lwA s rr) (nI pq) hM (INV_bnd hi) (INV_wf hi) (nI_nn (Nat.lt_of_lt_of_le hpq (Nat.le_trans (INV_bnd hi).2.2.2.2 (by decide)))) (by rw [nI_clamp (Nat.lt_of_lt_of_le hpq (Nat.le_trans (INV_bnd hi).2.2.2.2 (by decide)))]; exact hpq) (start_rest (by omega) (even_state hi hpq c915)) (start_fit hi c917)) (cwV 1 hts gL_law_X5_start rfl rfl rfl (by decide +kernel) ⟨Nat.le_of_ble_eq_true rfl, Nat.le_of_ble_eq_true rfl⟩) (pc_preV pcN_ok hX hW.1 hM.1 rfl rfl ⟨hW.1, hW.2.1, fun q h => hA q (Nat.le_trans hW.2.2.1 h)⟩) rfl rfl hl.1 rfl (lv_room (Nat.le_of_ble_eq_true rfl)) dL_law_774 ⟨(by show _ ≤ (600074 : Nat); omega), (by show _ ≤ (7301550 : Nat); omega)⟩) hW.2.2 (fun r918 _ H locs hwr918 hB hS9 => ?_)
        replace hwr918 := hwr918.symm
        subst hwr918
        have hW : pcS D vwCl (lwA s rr) HR NL ad (ctO cA c (V_X5_start c v w (nI pq)) w u ad) H locs := ⟨hB, pcD_ct hD9, hS9⟩
        have hi919 : INV c (V_X5_start c v w (nI pq)) w := (INV_start hi hpq (even_state hi hpq c915) (by have h9 := start_fit hi c917; rw [cl (i := pq) (by omega)] at h9; exact h9))
        refine lv_aload_n hx hb dL_law_777 rfl (lv_at hl 7 rfl) ?_
        refine lv_iload hx hb dL_law_778 (lv_at hl 1 rfl) ?_
        refine lv_iconst (v := 3) hx hb dL_law_780 (by decide) ?_
        refine pc_rcalli (va_runV (As := [.int (nI pq), .int 3]) (rest := [.int (F_X5_start c v w (nI pq))]) ⟨hx, hb, hml, hown, hts⟩ (r_X5_ofPack3 l D cA NL c (V_X5_start c v w (nI pq)) w u ad (nI pq) hM (INV_bnd hi919) (INV_wf hi919) (nI_nn (Nat.lt_of_lt_of_le hpq (Nat.le_trans (INV_bnd hi919).2.2.2.2 (by decide)))) (by rw [nI_clamp (Nat.lt_of_lt_of_le hpq (Nat.le_trans (INV_bnd hi919).2.2.2.2 (by decide)))]; exact hpq)) (cwV 2 hts gL_law_X5_ofPack rfl rfl rfl (by decide +kernel) ⟨Nat.le_of_ble_eq_true rfl, Nat.le_of_ble_eq_true rfl⟩) (pc_preV pcN_ok hX hW.1 hM.1 rfl rfl hW.1) rfl rfl hl.1 rfl (lv_room (Nat.le_of_ble_eq_true rfl)) dL_law_781 ⟨(by show _ ≤ (600074 : Nat); omega), (by show _ ≤ (7301550 : Nat); omega)⟩) hW (fun r920 H locs hwr920 hW => ?_)
        replace hwr920 := hwr920.symm
        subst hwr920
        refine lv_icmp_eq (tgt := 789) hx hb dL_law_784 (by decide) (fun _ => ?_) (fun c921 => absurd start_ans c921)
        refine W.widen (k := cl0 + 40) (n := sl0 + 200) (by omega) (by omega) ?_
        exact kk c (V_X5_start c v w (nI pq)) w u NL ad H locs ls hi919 rfl hM hN hW (lv_sub hl [5, 6, 7, 8] rfl)

