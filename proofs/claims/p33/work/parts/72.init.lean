def NL0 : List (Nat × Nat) := [(5, 0), (50, 0), (51, 0), (52, 0), (53, 0), (54, 0), (55, 0), (56, 0), (57, 0), (57, 1), (57, 2), (57, 3)]
def adS (h a b c d e g w r0 r1 r2 r3 : Nat) : Nat → Nat → Nat := fun k i => if k = 5 then h else if k = 50 then a else if k = 51 then b else if k = 52 then c else if k = 53 then d else if k = 54 then e else if k = 55 then g else if k = 56 then w else if k = 57 then (if i = 0 then r0 else if i = 1 then r1 else if i = 2 then r2 else r3) else 0
def cS : SC := fun _ => 0
def vS : SV := fun a _ _ => if a = 57 then -1 else 0
def wS : SW := fun _ _ _ => 0
def uS : Nat → Int32 := fun _ => 0
theorem sRf_0 (f : Nat → Nat) : sRf 0 f = fun _ => none := by
  funext j
  unfold sRf
  rw [if_neg (Nat.not_lt_zero j)]
theorem sRf_4 {h a b c d e g w r0 r1 r2 r3 : Nat} : sRf 4 (adS h a b c d e g w r0 r1 r2 r3 57) = fun i => ([r0, r1, r2, r3] : List Nat)[i]? := by
  funext i
  unfold sRf
  rcases (show i = 0 ∨ i = 1 ∨ i = 2 ∨ i = 3 ∨ 4 ≤ i by omega) with rfl | rfl | rfl | rfl | h9
  · rfl
  · rfl
  · rfl
  · rfl
  · rw [if_neg (by omega), List.getElem?_eq_none (by simpa using h9)]
theorem start_eq {cA : Nat → ClassId} {h a b c d e g w r0 r1 r2 r3 : Nat} : pcW NL0 (adS h a b c d e g w r0 r1 r2 r3) (ctO cA cS vS wS uS (adS h a b c d e g w r0 r1 r2 r3)) = [(h, .inr (5, [.ref a, .ref b, .ref c, .ref d, .ref e, .ref g, .ref w, .int 0, .int 0, .int 0, .int 0, .int 0, .int 0])), (a, .inl (cA 3, 10, .inr (.inr (.inr (.inr (fun _ => none)))))), (b, .inl (cA 4, 20, .inr (.inr (.inr (.inr (fun _ => none)))))), (c, .inl (cA 5, 20, .inr (.inr (.inr (.inr (fun _ => none)))))), (d, .inl (cA 6, 20, .inr (.inr (.inr (.inr (fun _ => none)))))), (e, .inl (cA 7, 8, .inr (.inr (.inr (.inr (fun _ => none)))))), (g, .inl (cA 2, 4, .inr (.inr (.inr (.inr (fun i => ([r0, r1, r2, r3] : List Nat)[i]?)))))), (w, .inl (cA 0, 10, .inl (fun _ => 0))), (r0, .inl (cA 0, 10, .inl (fun _ => (-1)))), (r1, .inl (cA 0, 10, .inl (fun _ => (-1)))), (r2, .inl (cA 0, 10, .inl (fun _ => (-1)))), (r3, .inl (cA 0, 10, .inl (fun _ => (-1))))] := by
  have h50 : ctO cA cS vS wS uS (adS h a b c d e g w r0 r1 r2 r3) 50 0 = .inl (cA 3, 10, .inr (.inr (.inr (.inr (fun _ => none))))) := by
    rw [ctO_50, if_pos rfl]
    exact congrArg (fun f => (.inl (cA 3, 10, .inr (.inr (.inr (.inr f)))) : va_E)) (sRf_0 _)
  have h51 : ctO cA cS vS wS uS (adS h a b c d e g w r0 r1 r2 r3) 51 0 = .inl (cA 4, 20, .inr (.inr (.inr (.inr (fun _ => none))))) := by
    rw [ctO_51, if_pos rfl]
    exact congrArg (fun f => (.inl (cA 4, 20, .inr (.inr (.inr (.inr f)))) : va_E)) (sRf_0 _)
  have h52 : ctO cA cS vS wS uS (adS h a b c d e g w r0 r1 r2 r3) 52 0 = .inl (cA 5, 20, .inr (.inr (.inr (.inr (fun _ => none))))) := by
    rw [ctO_52, if_pos rfl]
    exact congrArg (fun f => (.inl (cA 5, 20, .inr (.inr (.inr (.inr f)))) : va_E)) (sRf_0 _)
  have h53 : ctO cA cS vS wS uS (adS h a b c d e g w r0 r1 r2 r3) 53 0 = .inl (cA 6, 20, .inr (.inr (.inr (.inr (fun _ => none))))) := by
    rw [ctO_53, if_pos rfl]
    exact congrArg (fun f => (.inl (cA 6, 20, .inr (.inr (.inr (.inr f)))) : va_E)) (sRf_0 _)
  have h54 : ctO cA cS vS wS uS (adS h a b c d e g w r0 r1 r2 r3) 54 0 = .inl (cA 7, 8, .inr (.inr (.inr (.inr (fun _ => none))))) := by
    rw [ctO_54, if_pos rfl]
    exact congrArg (fun f => (.inl (cA 7, 8, .inr (.inr (.inr (.inr f)))) : va_E)) (sRf_0 _)
  have h55 : ctO cA cS vS wS uS (adS h a b c d e g w r0 r1 r2 r3) 55 0 = .inl (cA 2, 4, .inr (.inr (.inr (.inr (fun i => ([r0, r1, r2, r3] : List Nat)[i]?))))) := by
    rw [ctO_55, if_pos rfl]
    exact congrArg (fun f => (.inl (cA 2, 4, .inr (.inr (.inr (.inr f)))) : va_E)) sRf_4
  show [(h, ctO cA cS vS wS uS (adS h a b c d e g w r0 r1 r2 r3) 5 0), (a, ctO cA cS vS wS uS (adS h a b c d e g w r0 r1 r2 r3) 50 0), (b, ctO cA cS vS wS uS (adS h a b c d e g w r0 r1 r2 r3) 51 0), (c, ctO cA cS vS wS uS (adS h a b c d e g w r0 r1 r2 r3) 52 0), (d, ctO cA cS vS wS uS (adS h a b c d e g w r0 r1 r2 r3) 53 0), (e, ctO cA cS vS wS uS (adS h a b c d e g w r0 r1 r2 r3) 54 0), (g, ctO cA cS vS wS uS (adS h a b c d e g w r0 r1 r2 r3) 55 0), (w, ctO cA cS vS wS uS (adS h a b c d e g w r0 r1 r2 r3) 56 0), (r0, ctO cA cS vS wS uS (adS h a b c d e g w r0 r1 r2 r3) 57 0), (r1, ctO cA cS vS wS uS (adS h a b c d e g w r0 r1 r2 r3) 57 1), (r2, ctO cA cS vS wS uS (adS h a b c d e g w r0 r1 r2 r3) 57 2), (r3, ctO cA cS vS wS uS (adS h a b c d e g w r0 r1 r2 r3) 57 3)] = _
  rw [h50, h51, h52, h53, h54, h55]
  rfl
theorem MEM_0 : MEM cS NL0 := by
  refine ⟨by decide, fun k h1 h2 => ?_, fun i hi => ?_, fun i hi => absurd hi (Nat.not_lt_zero i), fun i hi => absurd hi (Nat.not_lt_zero i), fun i hi => absurd hi (Nat.not_lt_zero i), fun i hi => absurd hi (Nat.not_lt_zero i), fun i hi => absurd hi (Nat.not_lt_zero i)⟩
  · rcases (show k = 50 ∨ k = 51 ∨ k = 52 ∨ k = 53 ∨ k = 54 ∨ k = 55 ∨ k = 56 by omega) with rfl | rfl | rfl | rfl | rfl | rfl | rfl <;> decide
  · rcases (show i = 0 ∨ i = 1 ∨ i = 2 ∨ i = 3 by omega) with rfl | rfl | rfl | rfl <;> decide
theorem NMEM_0 : NMEM cS NL0 := by
  refine ⟨fun k i hk h => ?_, fun i h => ?_, fun k i hk h => ?_, fun i h => ?_, fun i h => ?_⟩
  · rcases hk with rfl | rfl | rfl <;> simp [NL0] at h
  · simp [NL0] at h
  · rcases hk with rfl | rfl <;> simp [NL0] at h
  · simp [NL0] at h
  · simp [NL0] at h
theorem INI_0 : INI cS vS wS 0 := ⟨⟨rfl, rfl, rfl, rfl, rfl⟩, fun i hi => absurd hi (Nat.not_lt_zero i), fun _ _ => rfl⟩

set_option maxHeartbeats 4000000 in
set_option maxRecDepth 100000 in
theorem law_ini {p : Program} {e : Env} {s : State} {m : MethodId} {below : List Frame} {meth : Method} {c0 : Code} {l : Launch} {b L : Nat} {xs : Nat → Int32} {D : va_G} {cA : Nat → ClassId} (C1 : law_C p l s m meth c0 b L xs D cA) {c : SC} {v : SV} {w : SW} {u : Nat → Int32} {NL : List (Nat × Nat)} {ad : Nat → Nat → Nat} {n : Nat} {locs : List Loc} {H : Heap} (hini : INI c v w (c 0)) (hkn : c 0 < n) (hn5 : n ≤ 5) (hM : MEM c NL) (hN : NMEM c NL) (hW : pcS D vwCl (lwA0 s) s.heap NL ad (ctO cA c v w u ad) H locs) (ls : Array Slot) (hl : lv_has ls 13 [(3, .int (nI (c 0))), (2, .int (nI n)), (1, .ref (ad 5 0)), (0, .ref b)]) (next : ∀ (c2 : SC) (v2 : SV) (w2 : SW) (u2 : Nat → Int32) (NL2 : List (Nat × Nat)) (ad2 : Nat → Nat → Nat) (H : Heap) (locs : List Loc) (ls : Array Slot), INI c2 v2 w2 (c 0 + 1) → MEM c2 NL2 → NMEM c2 NL2 → pcS D vwCl (lwA0 s) s.heap NL2 ad2 (ctO cA c2 v2 w2 u2 ad2) H locs → lv_has ls 13 [(3, .int (nI (c 0 + 1))), (2, .int (nI n)), (1, .ref (ad2 5 0)), (0, .ref b)] → W p l e room_1 s m #[Value.ref b] below meth c0 H locs (20 + 10 * (c 0 + 1)) (200 + 60 * (c 0 + 1)) (lw_Z below #[Value.ref b] s) (F0 m 22 ls [])) : W p l e room_1 s m #[Value.ref b] below meth c0 H locs (20 + 10 * (c 0)) (200 + 60 * (c 0)) (lw_Z below #[Value.ref b] s) (F0 m 22 ls []) := by
  obtain ⟨hx, hb, hr, hml, hown, hts, hlocks, hX, hsc, hbl, hL⟩ := id C1
  have hbA : ¬ lwA0 s b := Nat.not_le.mpr hbl
  have hk5 : c 0 < 5 := by omega
  have hi := INI_inv hini (by omega)
  refine lv_iload_n hx hb dL_law_22 rfl (lv_at hl 0 rfl) ?_
  refine lv_iload_n hx hb dL_law_23 rfl (lv_at hl 1 rfl) ?_
  refine lv_icmp_ge (tgt := 108) hx hb dL_law_24 (by decide) (fun c952 => absurd c952 (nI_ge hkn (by omega))) (fun _ => ?_)
  refine lv_aload_n hx hb dL_law_27 rfl (lv_at hl 3 rfl) ?_
  refine lv_iload_n hx hb dL_law_28 rfl (lv_at hl 0 rfl) ?_
  refine lv_iconst (v := 1) hx hb dL_law_29 (by decide) ?_
  refine lv_iadd hx hb dL_law_30 ?_
  rw [nI_1]
  refine pc_rcalli (va_runS (As := [.ref b, .int (nI ((c 0) + 1))]) (rest := []) ⟨hx, hb, hml, hown, hts⟩ (r_L_cell l D cA b L xs hL (nI ((c 0) + 1)) (nI_pos (by omega))) (va_cwS 2 hts gL_law_L_cell rfl rfl rfl (by decide +kernel) ⟨Nat.le_of_ble_eq_true rfl, Nat.le_of_ble_eq_true rfl⟩) (pcX_preS hX (hsc.kept (hW.2.2.2.1 b hbl hbA))) rfl rfl hl.1 rfl (lv_room (Nat.le_of_ble_eq_true rfl)) dL_law_31 ⟨(by show _ ≤ (600074 : Nat); omega), (by show _ ≤ (7301550 : Nat); omega)⟩) hW (fun x953 H locs _ hW => ?_)
  refine va_callr (va_runS (As := [.int x953]) (rest := []) ⟨hx, hb, hml, hown, hts⟩ (l_L_region l D cA (va_A [] H.size) x953) (va_cwS 1 hts gL_law_L_region rfl rfl rfl (by decide +kernel) ⟨Nat.le_of_ble_eq_true rfl, Nat.le_of_ble_eq_true rfl⟩) (pc_preS pcN_ok hX ⟨fun k q h => by simp at h, ⟨fun i j x y h => by simp at h, fun k q h => by simp at h⟩, fun q h => Or.inr h⟩) rfl rfl hl.1 rfl (lv_room (Nat.le_of_ble_eq_true rfl)) dL_law_34 ⟨(by show _ ≤ (600074 : Nat); omega), (by show _ ≤ (7301550 : Nat); omega)⟩) hW.2.2 (fun _ _ h => fresh_out hW.2.2.1 h) (fun _ h => fresh_out hW.2.2.1 h) (fun ug rr t H1 locs1 ht hvm hug hB hz1 hk1 hS0 => ?_)
  obtain ⟨hPr0, hD1⟩ := hB
  rw [ht] at hPr0
  have hrl : rr < H1.size := (hPr0 0 _ rfl).lt
  obtain ⟨hW, hsr⟩ := pcS_row9 (locs1 := []) hW hD1 hk1
  refine va_forget (fun q hq => hS0.2.2 q hq) ?_
  have hsc1 := hsc.kept (hS0.2.1 b hbl hbA)
  have hbl1 := Nat.lt_of_lt_of_le hbl hS0.1
  have hbA1 : ¬ lwA s rr b := fun h => hbA h.1
  have hA : ∀ q : Nat, H1.size ≤ q → lwA s rr q := fun q h => ⟨Nat.le_trans hS0.1 h, fun e => by omega⟩
  refine lv_astore (lv' := [(4, .ref rr), (3, .int (nI (c 0))), (2, .int (nI n)), (1, .ref (ad 5 0)), (0, .ref b)]) hx hb dL_law_37 hl (by decide) rfl (fun ls hl => ?_)
  refine lv_aload_n hx hb dL_law_39 rfl (lv_at hl 3 rfl) ?_
  refine lv_aload_n hx hb dL_law_40 rfl (lv_at hl 4 rfl) ?_
  refine lv_iload_n hx hb dL_law_41 rfl (lv_at hl 1 rfl) ?_
  refine pc_rcalli (va_runS (As := [.ref b, .int (nI (c 0))]) (rest := [.ref (ad 5 0)]) ⟨hx, hb, hml, hown, hts⟩ (r_L_cell l D cA b L xs hL (nI (c 0)) (nI_pos (by omega))) (va_cwS 2 hts gL_law_L_cell rfl rfl rfl (by decide +kernel) ⟨Nat.le_of_ble_eq_true rfl, Nat.le_of_ble_eq_true rfl⟩) (pcX_preS hX (hsc1.kept (hW.2.2.2.1 b hbl1 hbA1))) rfl rfl hl.1 rfl (lv_room (Nat.le_of_ble_eq_true rfl)) dL_law_42 ⟨(by show _ ≤ (600074 : Nat); omega), (by show _ ≤ (7301550 : Nat); omega)⟩) hW (fun x954 H locs _ hW => ?_)
  refine lv_iconst (v := 3) hx hb dL_law_45 (by decide) ?_
  refine pc_rcalli (va_runS (As := [.int x954, .int 3]) (rest := [.ref (ad 5 0)]) ⟨hx, hb, hml, hown, hts⟩ (r_L_below l D cA x954 (3 : Int32) (by decide)) (va_cwS 2 hts gL_law_L_below rfl rfl rfl (by decide +kernel) ⟨Nat.le_of_ble_eq_true rfl, Nat.le_of_ble_eq_true rfl⟩) (pc_preS pcN_ok hX trivial) rfl rfl hl.1 rfl (lv_room (Nat.le_of_ble_eq_true rfl)) dL_law_46 ⟨(by show _ ≤ (600074 : Nat); omega), (by show _ ≤ (7301550 : Nat); omega)⟩) hW (fun r955 H locs hwr955 hW => ?_)
  replace hwr955 := hwr955.symm
  subst hwr955
  obtain ⟨j956, hj956, ej956⟩ : ∃ j, j < 3 ∧ (F_L_below x954 (3 : Int32)) = nI j := below_ok _ 3 (by decide) (by decide)
  rw [ej956]
  refine pc_mcalli (S := List (Nat × Nat) × (Nat → Nat → Nat)) (post := fun r z => r = nI (c 0) ∧ MEM (uC c 0 (c 0 + 1)) z.1 ∧ NMEM (uC c 0 (c 0 + 1)) z.1 ∧ z.2 5 0 = ad 5 0) (B := fun z H9 => va_P D vwCl (pcW z.1 z.2 (ctO cA (uC c 0 (c 0 + 1)) (V_X5_sheet c v w (nI j956)) (W_X5_sheet c v w (nI j956)) u z.2)) H9 ∧ va_D (lwA s rr) (pcW z.1 z.2 (ctO cA (uC c 0 (c 0 + 1)) (V_X5_sheet c v w (nI j956)) (W_X5_sheet c v w (nI j956)) u z.2))) (va_runV (As := [.int (nI j956)]) (rest := []) ⟨hx, hb, hml, hown, hts⟩ (k_X5_sheet l D cA NL c v w u ad (lwA s rr) (nI j956) hM (INV_bnd hi) (INV_wf hi) hN (by omega) (nI_pos (by omega)) (nI_lt (b := 4) (by omega) (by decide))) (cwV 1 hts gL_law_X5_sheet rfl rfl rfl (by decide +kernel) ⟨Nat.le_of_ble_eq_true rfl, Nat.le_of_ble_eq_true rfl⟩) (pc_preV pcN_ok hX hW.1 hM.1 rfl rfl ⟨hW.1, hW.2.1, fun q h => hA q (Nat.le_trans hW.2.2.1 h)⟩) rfl rfl hl.1 rfl (lv_room (Nat.le_of_ble_eq_true rfl)) dL_law_49 ⟨(by show _ ≤ (600074 : Nat); omega), (by show _ ≤ (7301550 : Nat); omega)⟩) hW.2.2 (fun z957r z957 H locs hwz957 hB hS9 => ?_)
  obtain ⟨NL958, ad959⟩ := z957
  obtain ⟨rfl, hM960, hN961, hA962⟩ := hwz957
  have hA962 : ad959 5 0 = ad 5 0 := hA962
  have hW : pcS D vwCl (lwA s rr) H1 NL958 ad959 (ctO cA (uC c 0 (c 0 + 1)) (V_X5_sheet c v w (nI j956)) (W_X5_sheet c v w (nI j956)) u ad959) H locs := ⟨hB.1, hB.2, hS9⟩
  have hl : lv_has ls 13 [(4, .ref rr), (3, .int (nI (c 0))), (2, .int (nI n)), (1, .ref (ad959 5 0)), (0, .ref b)] := by rw [hA962]; exact hl
  have hd1 := (ini_sheet hini (nI j956)).1
  have hz1 := (ini_sheet hini (nI j956)).2
  have hk9 : c 0 < uC c 0 (c 0 + 1) 0 := by simp [uC]
  refine lv_iload_n hx hb dL_law_52 rfl (lv_at hl 1 rfl) ?_
  refine lv_icmp_ne (tgt := 100) hx hb dL_law_53 (by decide) (fun c963 => absurd c963 (fun q => q rfl)) (fun _ => ?_)
  refine lv_aload_n hx hb dL_law_56 rfl (lv_at hl 3 rfl) ?_
  refine lv_iload_n hx hb dL_law_57 rfl (lv_at hl 1 rfl) ?_
  refine lv_aload hx hb dL_law_58 (lv_at hl 0 rfl) ?_
  refine lv_iconst (v := 0) hx hb dL_law_60 (by decide) ?_
  have hPr := rr_kept hPr0 hrl hW
  refine va_iald hx hb hX.1 hPr 0 0 rfl rfl (vp_in_nI (n := 0) (by decide) (by decide)) dL_law_61 ?_
  rw [rg0]
  refine lv_aload hx hb dL_law_62 (lv_at hl 0 rfl) ?_
  refine lv_iconst (v := 1) hx hb dL_law_64 (by decide) ?_
  have hPr := rr_kept hPr0 hrl hW
  refine va_iald hx hb hX.1 hPr 0 0 rfl rfl (vp_in_nI (n := 1) (by decide) (by decide)) dL_law_65 ?_
  rw [rg1]
  refine lv_aload hx hb dL_law_66 (lv_at hl 0 rfl) ?_
  refine lv_iconst (v := 2) hx hb dL_law_68 (by decide) ?_
  have hPr := rr_kept hPr0 hrl hW
  refine va_iald hx hb hX.1 hPr 0 0 rfl rfl (vp_in_nI (n := 2) (by decide) (by decide)) dL_law_69 ?_
  rw [rg2]
  refine lv_aload hx hb dL_law_70 (lv_at hl 0 rfl) ?_
  refine lv_iconst (v := 3) hx hb dL_law_72 (by decide) ?_
  have hPr := rr_kept hPr0 hrl hW
  refine va_iald hx hb hX.1 hPr 0 0 rfl rfl (vp_in_nI (n := 3) (by decide) (by decide)) dL_law_73 ?_
  rw [rg3]
  refine lv_sipush (v := 255) hx hb dL_law_74 (by decide) ?_
  have hD9 := hW.2.1
  refine pc_mcalli (va_runV (As := [.int (nI (c 0)), .int (nI ug.1), .int (nI ug.2.1), .int (nI ug.2.2.1), .int (nI ug.2.2.2), .int 255]) (rest := []) ⟨hx, hb, hml, hown, hts⟩ (m_X5_draw l D cA NL958 (uC c 0 (c 0 + 1)) (V_X5_sheet c v w (nI j956)) (W_X5_sheet c v w (nI j956)) u ad959 (lwA s rr) (nI (c 0)) (nI ug.1) (nI ug.2.1) (nI ug.2.2.1) (nI ug.2.2.2) (255 : Int32) hM960 (DRA_bnd hd1 hk5) (DRA_wf hd1 hk5) (nI_nn (Nat.lt_of_lt_of_le hk9 (Nat.le_trans (DRA_bnd hd1 hk5).1 (by decide)))) (by rw [nI_clamp (Nat.lt_of_lt_of_le hk9 (Nat.le_trans (DRA_bnd hd1 hk5).1 (by decide)))]; exact hk9) (rg_ok hug).1 (rg_ok hug).2.1 (rg_ok hug).2.2.1 (rg_ok hug).2.2.2.1 (rg_ok hug).2.2.2.2.1 (rg_ok hug).2.2.2.2.2 (by decide) (by decide) ((ini_last hd1 hk5).2.1 hz1)) (cwV 6 hts gL_law_X5_draw rfl rfl rfl (by decide +kernel) ⟨Nat.le_of_ble_eq_true rfl, Nat.le_of_ble_eq_true rfl⟩) (pc_preV pcN_ok hX hW.1 hM960.1 rfl rfl ⟨hW.1, hW.2.1, fun q h => hA q (Nat.le_trans hW.2.2.1 h)⟩) rfl rfl hl.1 rfl (lv_room (Nat.le_of_ble_eq_true rfl)) dL_law_77 ⟨(by show _ ≤ (600074 : Nat); omega), (by show _ ≤ (7301550 : Nat); omega)⟩) hW.2.2 (fun r964 _ H locs hwr964 hB hS9 => ?_)
  replace hwr964 := hwr964.symm
  subst hwr964
  have hW : pcS D vwCl (lwA s rr) H1 NL958 ad959 (ctO cA (uC c 0 (c 0 + 1)) (V_X5_draw (uC c 0 (c 0 + 1)) (V_X5_sheet c v w (nI j956)) (W_X5_sheet c v w (nI j956)) (nI (c 0)) (nI ug.1) (nI ug.2.1) (nI ug.2.2.1) (nI ug.2.2.2) (255 : Int32)) (W_X5_draw (uC c 0 (c 0 + 1)) (V_X5_sheet c v w (nI j956)) (W_X5_sheet c v w (nI j956)) (nI (c 0)) (nI ug.1) (nI ug.2.1) (nI ug.2.2.1) (nI ug.2.2.2) (255 : Int32)) u ad959) H locs := ⟨hB, pcD_ct hD9, hS9⟩
  obtain ⟨hd2, hz2, hg2⟩ := ini_draw hd1 hk5 (nI ug.1) (nI ug.2.1) (nI ug.2.2.1) (nI ug.2.2.2) (255 : Int32)
  have hz2 := hz2.trans hz1
  refine lv_iconst (v := 1) hx hb dL_law_80 (by decide) ?_
  refine lv_icmp_lt (tgt := 100) hx hb dL_law_81 (by decide) (fun c965 => absurd c965 (fields_pos hug.1 hug.2.1 hug.2.2.1 hug.2.2.2)) (fun _ => ?_)
  refine lv_aload_n hx hb dL_law_84 rfl (lv_at hl 3 rfl) ?_
  refine lv_iload_n hx hb dL_law_85 rfl (lv_at hl 1 rfl) ?_
  have hD9 := hW.2.1
  refine pc_mcalli (va_runV (As := [.int (nI (c 0))]) (rest := []) ⟨hx, hb, hml, hown, hts⟩ (m_X5_check l D cA NL958 (uC c 0 (c 0 + 1)) (V_X5_draw (uC c 0 (c 0 + 1)) (V_X5_sheet c v w (nI j956)) (W_X5_sheet c v w (nI j956)) (nI (c 0)) (nI ug.1) (nI ug.2.1) (nI ug.2.2.1) (nI ug.2.2.2) (255 : Int32)) (W_X5_draw (uC c 0 (c 0 + 1)) (V_X5_sheet c v w (nI j956)) (W_X5_sheet c v w (nI j956)) (nI (c 0)) (nI ug.1) (nI ug.2.1) (nI ug.2.2.1) (nI ug.2.2.2) (255 : Int32)) u ad959 (lwA s rr) (nI (c 0)) hM960 (DRA_bnd hd2 hk5) (DRA_wf hd2 hk5) (nI_nn (Nat.lt_of_lt_of_le hk9 (Nat.le_trans (DRA_bnd hd2 hk5).1 (by decide)))) (by rw [nI_clamp (Nat.lt_of_lt_of_le hk9 (Nat.le_trans (DRA_bnd hd2 hk5).1 (by decide)))]; exact hk9) ((ini_last hd2 hk5).2.1 hz2)) (cwV 1 hts gL_law_X5_check rfl rfl rfl (by decide +kernel) ⟨Nat.le_of_ble_eq_true rfl, Nat.le_of_ble_eq_true rfl⟩) (pc_preV pcN_ok hX hW.1 hM960.1 rfl rfl ⟨hW.1, hW.2.1, fun q h => hA q (Nat.le_trans hW.2.2.1 h)⟩) rfl rfl hl.1 rfl (lv_room (Nat.le_of_ble_eq_true rfl)) dL_law_86 ⟨(by show _ ≤ (600074 : Nat); omega), (by show _ ≤ (7301550 : Nat); omega)⟩) hW.2.2 (fun r966 _ H locs hwr966 hB hS9 => ?_)
  replace hwr966 := hwr966.symm
  subst hwr966
  have hW : pcS D vwCl (lwA s rr) H1 NL958 ad959 (ctO cA (uC c 0 (c 0 + 1)) (V_X5_check (uC c 0 (c 0 + 1)) (V_X5_draw (uC c 0 (c 0 + 1)) (V_X5_sheet c v w (nI j956)) (W_X5_sheet c v w (nI j956)) (nI (c 0)) (nI ug.1) (nI ug.2.1) (nI ug.2.2.1) (nI ug.2.2.2) (255 : Int32)) (W_X5_draw (uC c 0 (c 0 + 1)) (V_X5_sheet c v w (nI j956)) (W_X5_sheet c v w (nI j956)) (nI (c 0)) (nI ug.1) (nI ug.2.1) (nI ug.2.2.1) (nI ug.2.2.2) (255 : Int32)) (nI (c 0))) (W_X5_draw (uC c 0 (c 0 + 1)) (V_X5_sheet c v w (nI j956)) (W_X5_sheet c v w (nI j956)) (nI (c 0)) (nI ug.1) (nI ug.2.1) (nI ug.2.2.1) (nI ug.2.2.2) (255 : Int32)) u ad959) H locs := ⟨hB, pcD_ct hD9, hS9⟩
  obtain ⟨hd3, hz3, hc3⟩ := ini_check hd2 hk5
  refine lv_if_ne (tgt := 100) hx hb dL_law_89 (by decide) (fun c967 => absurd c967 (fun q => q hc3)) (fun _ => ?_)
  refine lv_aload_n hx hb dL_law_92 rfl (lv_at hl 3 rfl) ?_
  refine lv_iload_n hx hb dL_law_93 rfl (lv_at hl 1 rfl) ?_
  have hD9 := hW.2.1
  refine pc_mcalli (va_runV (As := [.int (nI (c 0))]) (rest := []) ⟨hx, hb, hml, hown, hts⟩ (m_X5_issue l D cA NL958 (uC c 0 (c 0 + 1)) (V_X5_check (uC c 0 (c 0 + 1)) (V_X5_draw (uC c 0 (c 0 + 1)) (V_X5_sheet c v w (nI j956)) (W_X5_sheet c v w (nI j956)) (nI (c 0)) (nI ug.1) (nI ug.2.1) (nI ug.2.2.1) (nI ug.2.2.2) (255 : Int32)) (W_X5_draw (uC c 0 (c 0 + 1)) (V_X5_sheet c v w (nI j956)) (W_X5_sheet c v w (nI j956)) (nI (c 0)) (nI ug.1) (nI ug.2.1) (nI ug.2.2.1) (nI ug.2.2.2) (255 : Int32)) (nI (c 0))) (W_X5_draw (uC c 0 (c 0 + 1)) (V_X5_sheet c v w (nI j956)) (W_X5_sheet c v w (nI j956)) (nI (c 0)) (nI ug.1) (nI ug.2.1) (nI ug.2.2.1) (nI ug.2.2.2) (255 : Int32)) u ad959 (lwA s rr) (nI (c 0)) hM960 (DRA_bnd hd3 hk5) (DRA_wf hd3 hk5) (nI_nn (Nat.lt_of_lt_of_le hk9 (Nat.le_trans (DRA_bnd hd3 hk5).1 (by decide)))) (by rw [nI_clamp (Nat.lt_of_lt_of_le hk9 (Nat.le_trans (DRA_bnd hd3 hk5).1 (by decide)))]; exact hk9) ((ini_last hd3 hk5).2.2.1 hz3)) (cwV 1 hts gL_law_X5_issue rfl rfl rfl (by decide +kernel) ⟨Nat.le_of_ble_eq_true rfl, Nat.le_of_ble_eq_true rfl⟩) (pc_preV pcN_ok hX hW.1 hM960.1 rfl rfl ⟨hW.1, hW.2.1, fun q h => hA q (Nat.le_trans hW.2.2.1 h)⟩) rfl rfl hl.1 rfl (lv_room (Nat.le_of_ble_eq_true rfl)) dL_law_94 ⟨(by show _ ≤ (600074 : Nat); omega), (by show _ ≤ (7301550 : Nat); omega)⟩) hW.2.2 (fun r968 _ H locs hwr968 hB hS9 => ?_)
  replace hwr968 := hwr968.symm
  subst hwr968
  have hW : pcS D vwCl (lwA s rr) H1 NL958 ad959 (ctO cA (uC c 0 (c 0 + 1)) (V_X5_issue (uC c 0 (c 0 + 1)) (V_X5_check (uC c 0 (c 0 + 1)) (V_X5_draw (uC c 0 (c 0 + 1)) (V_X5_sheet c v w (nI j956)) (W_X5_sheet c v w (nI j956)) (nI (c 0)) (nI ug.1) (nI ug.2.1) (nI ug.2.2.1) (nI ug.2.2.2) (255 : Int32)) (W_X5_draw (uC c 0 (c 0 + 1)) (V_X5_sheet c v w (nI j956)) (W_X5_sheet c v w (nI j956)) (nI (c 0)) (nI ug.1) (nI ug.2.1) (nI ug.2.2.1) (nI ug.2.2.2) (255 : Int32)) (nI (c 0))) (W_X5_draw (uC c 0 (c 0 + 1)) (V_X5_sheet c v w (nI j956)) (W_X5_sheet c v w (nI j956)) (nI (c 0)) (nI ug.1) (nI ug.2.1) (nI ug.2.2.1) (nI ug.2.2.2) (255 : Int32)) (nI (c 0))) (W_X5_issue (uC c 0 (c 0 + 1)) (V_X5_check (uC c 0 (c 0 + 1)) (V_X5_draw (uC c 0 (c 0 + 1)) (V_X5_sheet c v w (nI j956)) (W_X5_sheet c v w (nI j956)) (nI (c 0)) (nI ug.1) (nI ug.2.1) (nI ug.2.2.1) (nI ug.2.2.2) (255 : Int32)) (W_X5_draw (uC c 0 (c 0 + 1)) (V_X5_sheet c v w (nI j956)) (W_X5_sheet c v w (nI j956)) (nI (c 0)) (nI ug.1) (nI ug.2.1) (nI ug.2.2.1) (nI ug.2.2.2) (255 : Int32)) (nI (c 0))) (W_X5_draw (uC c 0 (c 0 + 1)) (V_X5_sheet c v w (nI j956)) (W_X5_sheet c v w (nI j956)) (nI (c 0)) (nI ug.1) (nI ug.2.1) (nI ug.2.2.1) (nI ug.2.2.2) (255 : Int32)) (nI (c 0))) u ad959) H locs := ⟨hB, pcD_ct hD9, hS9⟩
  have hR : REG _ := ⟨ug.1, ug.2.1, ug.2.2.1, ug.2.2.2, hug.1, hug.2.1, hug.2.2.1, hug.2.2.2, hg2⟩
  obtain ⟨hd4, hz4⟩ := ini_issue hd3 hk5 hR
  refine lv_if_eq (tgt := 102) hx hb dL_law_97 (by decide) (fun _ => ?_) (fun c969 => absurd hz4 c969)
  refine lv_iinc (v := nI ((c 0) + 1)) (lv' := [(3, .int (nI ((c 0) + 1))), (4, .ref rr), (2, .int (nI n)), (1, .ref (ad959 5 0)), (0, .ref b)]) hx hb dL_law_102 hl (k := 1) rfl (nI_1 (c 0)) (by decide) rfl (fun ls hl => ?_)
  refine lv_goto (tgt := 22) hx hb dL_law_105 (by decide) ?_
  refine W.widen (k := 20 + 10 * (c 0 + 1)) (n := 200 + 60 * (c 0 + 1)) (by omega) (by omega) ?_
  exact next (uC c 0 (c 0 + 1)) (V_X5_issue (uC c 0 (c 0 + 1)) (V_X5_check (uC c 0 (c 0 + 1)) (V_X5_draw (uC c 0 (c 0 + 1)) (V_X5_sheet c v w (nI j956)) (W_X5_sheet c v w (nI j956)) (nI (c 0)) (nI ug.1) (nI ug.2.1) (nI ug.2.2.1) (nI ug.2.2.2) (255 : Int32)) (W_X5_draw (uC c 0 (c 0 + 1)) (V_X5_sheet c v w (nI j956)) (W_X5_sheet c v w (nI j956)) (nI (c 0)) (nI ug.1) (nI ug.2.1) (nI ug.2.2.1) (nI ug.2.2.2) (255 : Int32)) (nI (c 0))) (W_X5_draw (uC c 0 (c 0 + 1)) (V_X5_sheet c v w (nI j956)) (W_X5_sheet c v w (nI j956)) (nI (c 0)) (nI ug.1) (nI ug.2.1) (nI ug.2.2.1) (nI ug.2.2.2) (255 : Int32)) (nI (c 0))) (W_X5_issue (uC c 0 (c 0 + 1)) (V_X5_check (uC c 0 (c 0 + 1)) (V_X5_draw (uC c 0 (c 0 + 1)) (V_X5_sheet c v w (nI j956)) (W_X5_sheet c v w (nI j956)) (nI (c 0)) (nI ug.1) (nI ug.2.1) (nI ug.2.2.1) (nI ug.2.2.2) (255 : Int32)) (W_X5_draw (uC c 0 (c 0 + 1)) (V_X5_sheet c v w (nI j956)) (W_X5_sheet c v w (nI j956)) (nI (c 0)) (nI ug.1) (nI ug.2.1) (nI ug.2.2.1) (nI ug.2.2.2) (255 : Int32)) (nI (c 0))) (W_X5_draw (uC c 0 (c 0 + 1)) (V_X5_sheet c v w (nI j956)) (W_X5_sheet c v w (nI j956)) (nI (c 0)) (nI ug.1) (nI ug.2.1) (nI ug.2.2.1) (nI ug.2.2.2) (255 : Int32)) (nI (c 0))) u NL958 ad959 H locs ls hd4 hM960 hN961 (pcS_back hS0 hW) (lv_sub hl [0, 2, 3, 4] rfl)

set_option maxHeartbeats 4000000 in
set_option maxRecDepth 100000 in
theorem law_sent {p : Program} {e : Env} {s : State} {m : MethodId} {below : List Frame} {meth : Method} {c0 : Code} {l : Launch} {b L : Nat} {xs : Nat → Int32} {D : va_G} {cA : Nat → ClassId} (C1 : law_C p l s m meth c0 b L xs D cA) {c : SC} {v : SV} {w : SW} {u : Nat → Int32} {NL : List (Nat × Nat)} {ad : Nat → Nat → Nat} {locs : List Loc} {H : Heap} (hini : INI c v w (c 0)) (h2n : 2 ≤ c 0) (hn5 : c 0 ≤ 5) (hM : MEM c NL) (hN : NMEM c NL) (hW : pcS D vwCl (lwA0 s) s.heap NL ad (ctO cA c v w u ad) H locs) (ls : Array Slot) (hl : lv_has ls 13 [(3, .int (nI (c 0))), (2, .int (nI (c 0))), (1, .ref (ad 5 0)), (0, .ref b)]) : W p l e room_1 s m #[Value.ref b] below meth c0 H locs 100 1000 (lw_Z below #[Value.ref b] s) (F0 m 108 ls []) := by
  obtain ⟨hx, hb, hr, hml, hown, hts, hlocks, hX, hsc, hbl, hL⟩ := id C1
  have hbA : ¬ lwA0 s b := Nat.not_le.mpr hbl
  have hi := INI_inv hini hn5
  have h1n : 1 ≤ c 0 := by omega
  have hA : ∀ q : Nat, s.heap.size ≤ q → lwA0 s q := fun _ h => h
  refine lv_aload_n hx hb dL_law_108 rfl (lv_at hl 2 rfl) ?_
  refine lv_bipush (v := 15) hx hb dL_law_109 (by decide) ?_
  refine lv_iconst (v := 1) hx hb dL_law_111 (by decide) ?_
  refine lv_iload_n hx hb dL_law_112 rfl (lv_at hl 1 rfl) ?_
  refine lv_ishl hx hb dL_law_113 ?_
  refine lv_iconst (v := 1) hx hb dL_law_114 (by decide) ?_
  refine lv_isub hx hb dL_law_115 ?_
  refine pc_mcalli (S := List (Nat × Nat) × (Nat → Nat → Nat)) (post := fun r z => r = nI (c 2) ∧ MEM (uC c 2 (c 2 + 1)) z.1 ∧ NMEM (uC c 2 (c 2 + 1)) z.1 ∧ z.2 5 0 = ad 5 0) (B := fun z H9 => va_P D vwCl (pcW z.1 z.2 (ctO cA (uC c 2 (c 2 + 1)) (V_X5_send c v w (15 : Int32) (((1 : Int32) <<< ((nI (c 0)) &&& 31)) - (1 : Int32))) w u z.2)) H9 ∧ va_D (lwA0 s) (pcW z.1 z.2 (ctO cA (uC c 2 (c 2 + 1)) (V_X5_send c v w (15 : Int32) (((1 : Int32) <<< ((nI (c 0)) &&& 31)) - (1 : Int32))) w u z.2))) (va_runV (As := [.int 15, .int (((1 : Int32) <<< ((nI (c 0)) &&& 31)) - (1 : Int32))]) (rest := []) ⟨hx, hb, hml, hown, hts⟩ (k_X5_send l D cA NL c v w u ad (lwA0 s) (15 : Int32) (((1 : Int32) <<< ((nI (c 0)) &&& 31)) - (1 : Int32)) hM (INV_bnd hi) (INV_wf hi) hN (by have := hini.1; omega) (by decide) (by decide) (isSet (setAll (by omega) (by omega))) (allIssued (INV_all hi))) (cwV 2 hts gL_law_X5_send rfl rfl rfl (by decide +kernel) ⟨Nat.le_of_ble_eq_true rfl, Nat.le_of_ble_eq_true rfl⟩) (pc_preV pcN_ok hX hW.1 hM.1 rfl rfl ⟨hW.1, hW.2.1, fun q h => hA q (Nat.le_trans hW.2.2.1 h)⟩) rfl rfl hl.1 rfl (lv_room (Nat.le_of_ble_eq_true rfl)) dL_law_116 ⟨(by show _ ≤ (600074 : Nat); omega), (by show _ ≤ (7301550 : Nat); omega)⟩) hW.2.2 (fun z970r z970 H locs hwz970 hB hS9 => ?_)
  obtain ⟨NL971, ad972⟩ := z970
  obtain ⟨rfl, hM973, hN974, hA975⟩ := hwz970
  have hA975 : ad972 5 0 = ad 5 0 := hA975
  have hW : pcS D vwCl (lwA0 s) s.heap NL971 ad972 (ctO cA (uC c 2 (c 2 + 1)) (V_X5_send c v w (15 : Int32) (((1 : Int32) <<< ((nI (c 0)) &&& 31)) - (1 : Int32))) w u ad972) H locs := ⟨hB.1, hB.2, hS9⟩
  have hl : lv_has ls 13 [(3, .int (nI (c 0))), (2, .int (nI (c 0))), (1, .ref (ad972 5 0)), (0, .ref b)] := by rw [hA975]; exact hl
  have hs0 := ini_send hini h1n hn5
  have hc2 : uC c 2 (c 2 + 1) 2 = 1 := hs0.2.2.1
  have hr0 : 0 < uC c 2 (c 2 + 1) 2 := by omega
  refine lv_if_eq (tgt := 124) hx hb dL_law_119 (by decide) (fun _ => ?_) (fun c976 => absurd (by rw [hini.1.2.2.1]; rfl) c976)
  refine lv_iconst (v := 0) hx hb dL_law_124 (by decide) ?_
  refine lv_istore_n (lv' := [(3, .int 0), (2, .int (nI (c 0))), (1, .ref (ad972 5 0)), (0, .ref b)]) hx hb dL_law_125 rfl hl (by decide) rfl (fun ls hl => ?_)
  refine lv_iload_n hx hb dL_law_126 rfl (lv_at hl 0 rfl) ?_
  refine lv_iconst (v := 4) hx hb dL_law_127 (by decide) ?_
  refine lv_icmp_ge (tgt := 149) hx hb dL_law_128 (by decide) (fun c977 => absurd c977 (by decide)) (fun _ => ?_)
  refine lv_aload_n hx hb dL_law_131 rfl (lv_at hl 2 rfl) ?_
  refine lv_iconst (v := 0) hx hb dL_law_132 (by decide) ?_
  refine lv_iload_n hx hb dL_law_133 rfl (lv_at hl 0 rfl) ?_
  have hD9 := hW.2.1
  refine pc_mcalli (va_runV (As := [.int 0, .int 0]) (rest := []) ⟨hx, hb, hml, hown, hts⟩ (m_X5_receive l D cA NL971 (uC c 2 (c 2 + 1)) (V_X5_send c v w (15 : Int32) (((1 : Int32) <<< ((nI (c 0)) &&& 31)) - (1 : Int32))) w u ad972 (lwA0 s) (0 : Int32) (0 : Int32) hM973 (INV_bnd hs0.1) (INV_wf hs0.1) (nI_nn (Nat.lt_of_lt_of_le hr0 (Nat.le_trans (INV_bnd hs0.1).2.2.1 (by decide)))) (show (nI 0).toNatClampNeg < _ from by rw [nI_clamp (Nat.lt_of_lt_of_le hr0 (Nat.le_trans (INV_bnd hs0.1).2.2.1 (by decide)))]; exact hr0) (by decide) (by decide) (by rw [show (0 : Int32).toNatClampNeg = 0 from by decide]; rw [hs0.2.2.2.2.2.2.2]; decide +kernel)) (cwV 2 hts gL_law_X5_receive rfl rfl rfl (by decide +kernel) ⟨Nat.le_of_ble_eq_true rfl, Nat.le_of_ble_eq_true rfl⟩) (pc_preV pcN_ok hX hW.1 hM973.1 rfl rfl ⟨hW.1, hW.2.1, fun q h => hA q (Nat.le_trans hW.2.2.1 h)⟩) rfl rfl hl.1 rfl (lv_room (Nat.le_of_ble_eq_true rfl)) dL_law_134 ⟨(by show _ ≤ (600074 : Nat); omega), (by show _ ≤ (7301550 : Nat); omega)⟩) hW.2.2 (fun r978 _ H locs hwr978 hB hS9 => ?_)
  replace hwr978 := hwr978.symm
  subst hwr978
  have hW : pcS D vwCl (lwA0 s) s.heap NL971 ad972 (ctO cA (uC c 2 (c 2 + 1)) (V_X5_receive (uC c 2 (c 2 + 1)) (V_X5_send c v w (15 : Int32) (((1 : Int32) <<< ((nI (c 0)) &&& 31)) - (1 : Int32))) w (0 : Int32) (0 : Int32)) w u ad972) H locs := ⟨hB, pcD_ct hD9, hS9⟩
  have hs1 : SNT (uC c 2 (c 2 + 1)) (V_X5_receive (uC c 2 (c 2 + 1)) (V_X5_send c v w (15 : Int32) (((1 : Int32) <<< ((nI (c 0)) &&& 31)) - (1 : Int32))) w (0 : Int32) (0 : Int32)) w (c 0) 1 (15 &&& (((1 : Int32) <<< (nI 0 &&& 31)) ^^^ (-1 : Int32))) := (ini_receive (cr := 0) hs0 (by decide)).1
  refine lv_iload_n hx hb dL_law_137 rfl (lv_at hl 1 rfl) ?_
  refine lv_icmp_eq (tgt := 143) hx hb dL_law_138 (by decide) (fun _ => ?_) (fun c979 => absurd ((ini_receive (cr := 0) hs0 (by decide)).2) c979)
  refine lv_iinc (v := 1) (lv' := [(3, .int 1), (2, .int (nI (c 0))), (1, .ref (ad972 5 0)), (0, .ref b)]) hx hb dL_law_143 hl (k := 0) rfl (by decide) (by decide) rfl (fun ls hl => ?_)
  refine lv_goto (tgt := 126) hx hb dL_law_146 (by decide) ?_
  refine lv_iload_n hx hb dL_law_126 rfl (lv_at hl 0 rfl) ?_
  refine lv_iconst (v := 4) hx hb dL_law_127 (by decide) ?_
  refine lv_icmp_ge (tgt := 149) hx hb dL_law_128 (by decide) (fun c980 => absurd c980 (by decide)) (fun _ => ?_)
  refine lv_aload_n hx hb dL_law_131 rfl (lv_at hl 2 rfl) ?_
  refine lv_iconst (v := 0) hx hb dL_law_132 (by decide) ?_
  refine lv_iload_n hx hb dL_law_133 rfl (lv_at hl 0 rfl) ?_
  have hD9 := hW.2.1
  refine pc_mcalli (va_runV (As := [.int 0, .int 1]) (rest := []) ⟨hx, hb, hml, hown, hts⟩ (m_X5_receive l D cA NL971 (uC c 2 (c 2 + 1)) (V_X5_receive (uC c 2 (c 2 + 1)) (V_X5_send c v w (15 : Int32) (((1 : Int32) <<< ((nI (c 0)) &&& 31)) - (1 : Int32))) w (0 : Int32) (0 : Int32)) w u ad972 (lwA0 s) (0 : Int32) (1 : Int32) hM973 (INV_bnd hs1.1) (INV_wf hs1.1) (nI_nn (Nat.lt_of_lt_of_le hr0 (Nat.le_trans (INV_bnd hs1.1).2.2.1 (by decide)))) (show (nI 0).toNatClampNeg < _ from by rw [nI_clamp (Nat.lt_of_lt_of_le hr0 (Nat.le_trans (INV_bnd hs1.1).2.2.1 (by decide)))]; exact hr0) (by decide) (by decide) (by rw [show (0 : Int32).toNatClampNeg = 0 from by decide]; rw [hs1.2.2.2.2.2.2.2]; decide +kernel)) (cwV 2 hts gL_law_X5_receive rfl rfl rfl (by decide +kernel) ⟨Nat.le_of_ble_eq_true rfl, Nat.le_of_ble_eq_true rfl⟩) (pc_preV pcN_ok hX hW.1 hM973.1 rfl rfl ⟨hW.1, hW.2.1, fun q h => hA q (Nat.le_trans hW.2.2.1 h)⟩) rfl rfl hl.1 rfl (lv_room (Nat.le_of_ble_eq_true rfl)) dL_law_134 ⟨(by show _ ≤ (600074 : Nat); omega), (by show _ ≤ (7301550 : Nat); omega)⟩) hW.2.2 (fun r981 _ H locs hwr981 hB hS9 => ?_)
  replace hwr981 := hwr981.symm
  subst hwr981
  have hW : pcS D vwCl (lwA0 s) s.heap NL971 ad972 (ctO cA (uC c 2 (c 2 + 1)) (V_X5_receive (uC c 2 (c 2 + 1)) (V_X5_receive (uC c 2 (c 2 + 1)) (V_X5_send c v w (15 : Int32) (((1 : Int32) <<< ((nI (c 0)) &&& 31)) - (1 : Int32))) w (0 : Int32) (0 : Int32)) w (0 : Int32) (1 : Int32)) w u ad972) H locs := ⟨hB, pcD_ct hD9, hS9⟩
  have hs2 : SNT (uC c 2 (c 2 + 1)) (V_X5_receive (uC c 2 (c 2 + 1)) (V_X5_receive (uC c 2 (c 2 + 1)) (V_X5_send c v w (15 : Int32) (((1 : Int32) <<< ((nI (c 0)) &&& 31)) - (1 : Int32))) w (0 : Int32) (0 : Int32)) w (0 : Int32) (1 : Int32)) w (c 0) 2 ((15 &&& (((1 : Int32) <<< (nI 0 &&& 31)) ^^^ (-1 : Int32))) &&& (((1 : Int32) <<< (nI 1 &&& 31)) ^^^ (-1 : Int32))) := (ini_receive (cr := 1) hs1 (by decide)).1
  refine lv_iload_n hx hb dL_law_137 rfl (lv_at hl 1 rfl) ?_
  refine lv_icmp_eq (tgt := 143) hx hb dL_law_138 (by decide) (fun _ => ?_) (fun c982 => absurd ((ini_receive (cr := 1) hs1 (by decide)).2) c982)
  refine lv_iinc (v := 2) (lv' := [(3, .int 2), (2, .int (nI (c 0))), (1, .ref (ad972 5 0)), (0, .ref b)]) hx hb dL_law_143 hl (k := 0) rfl (by decide) (by decide) rfl (fun ls hl => ?_)
  refine lv_goto (tgt := 126) hx hb dL_law_146 (by decide) ?_
  refine lv_iload_n hx hb dL_law_126 rfl (lv_at hl 0 rfl) ?_
  refine lv_iconst (v := 4) hx hb dL_law_127 (by decide) ?_
  refine lv_icmp_ge (tgt := 149) hx hb dL_law_128 (by decide) (fun c983 => absurd c983 (by decide)) (fun _ => ?_)
  refine lv_aload_n hx hb dL_law_131 rfl (lv_at hl 2 rfl) ?_
  refine lv_iconst (v := 0) hx hb dL_law_132 (by decide) ?_
  refine lv_iload_n hx hb dL_law_133 rfl (lv_at hl 0 rfl) ?_
  have hD9 := hW.2.1
  refine pc_mcalli (va_runV (As := [.int 0, .int 2]) (rest := []) ⟨hx, hb, hml, hown, hts⟩ (m_X5_receive l D cA NL971 (uC c 2 (c 2 + 1)) (V_X5_receive (uC c 2 (c 2 + 1)) (V_X5_receive (uC c 2 (c 2 + 1)) (V_X5_send c v w (15 : Int32) (((1 : Int32) <<< ((nI (c 0)) &&& 31)) - (1 : Int32))) w (0 : Int32) (0 : Int32)) w (0 : Int32) (1 : Int32)) w u ad972 (lwA0 s) (0 : Int32) (2 : Int32) hM973 (INV_bnd hs2.1) (INV_wf hs2.1) (nI_nn (Nat.lt_of_lt_of_le hr0 (Nat.le_trans (INV_bnd hs2.1).2.2.1 (by decide)))) (show (nI 0).toNatClampNeg < _ from by rw [nI_clamp (Nat.lt_of_lt_of_le hr0 (Nat.le_trans (INV_bnd hs2.1).2.2.1 (by decide)))]; exact hr0) (by decide) (by decide) (by rw [show (0 : Int32).toNatClampNeg = 0 from by decide]; rw [hs2.2.2.2.2.2.2.2]; decide +kernel)) (cwV 2 hts gL_law_X5_receive rfl rfl rfl (by decide +kernel) ⟨Nat.le_of_ble_eq_true rfl, Nat.le_of_ble_eq_true rfl⟩) (pc_preV pcN_ok hX hW.1 hM973.1 rfl rfl ⟨hW.1, hW.2.1, fun q h => hA q (Nat.le_trans hW.2.2.1 h)⟩) rfl rfl hl.1 rfl (lv_room (Nat.le_of_ble_eq_true rfl)) dL_law_134 ⟨(by show _ ≤ (600074 : Nat); omega), (by show _ ≤ (7301550 : Nat); omega)⟩) hW.2.2 (fun r984 _ H locs hwr984 hB hS9 => ?_)
  replace hwr984 := hwr984.symm
  subst hwr984
  have hW : pcS D vwCl (lwA0 s) s.heap NL971 ad972 (ctO cA (uC c 2 (c 2 + 1)) (V_X5_receive (uC c 2 (c 2 + 1)) (V_X5_receive (uC c 2 (c 2 + 1)) (V_X5_receive (uC c 2 (c 2 + 1)) (V_X5_send c v w (15 : Int32) (((1 : Int32) <<< ((nI (c 0)) &&& 31)) - (1 : Int32))) w (0 : Int32) (0 : Int32)) w (0 : Int32) (1 : Int32)) w (0 : Int32) (2 : Int32)) w u ad972) H locs := ⟨hB, pcD_ct hD9, hS9⟩
  have hs3 : SNT (uC c 2 (c 2 + 1)) (V_X5_receive (uC c 2 (c 2 + 1)) (V_X5_receive (uC c 2 (c 2 + 1)) (V_X5_receive (uC c 2 (c 2 + 1)) (V_X5_send c v w (15 : Int32) (((1 : Int32) <<< ((nI (c 0)) &&& 31)) - (1 : Int32))) w (0 : Int32) (0 : Int32)) w (0 : Int32) (1 : Int32)) w (0 : Int32) (2 : Int32)) w (c 0) 3 (((15 &&& (((1 : Int32) <<< (nI 0 &&& 31)) ^^^ (-1 : Int32))) &&& (((1 : Int32) <<< (nI 1 &&& 31)) ^^^ (-1 : Int32))) &&& (((1 : Int32) <<< (nI 2 &&& 31)) ^^^ (-1 : Int32))) := (ini_receive (cr := 2) hs2 (by decide)).1
  refine lv_iload_n hx hb dL_law_137 rfl (lv_at hl 1 rfl) ?_
  refine lv_icmp_eq (tgt := 143) hx hb dL_law_138 (by decide) (fun _ => ?_) (fun c985 => absurd ((ini_receive (cr := 2) hs2 (by decide)).2) c985)
  refine lv_iinc (v := 3) (lv' := [(3, .int 3), (2, .int (nI (c 0))), (1, .ref (ad972 5 0)), (0, .ref b)]) hx hb dL_law_143 hl (k := 0) rfl (by decide) (by decide) rfl (fun ls hl => ?_)
  refine lv_goto (tgt := 126) hx hb dL_law_146 (by decide) ?_
  refine lv_iload_n hx hb dL_law_126 rfl (lv_at hl 0 rfl) ?_
  refine lv_iconst (v := 4) hx hb dL_law_127 (by decide) ?_
  refine lv_icmp_ge (tgt := 149) hx hb dL_law_128 (by decide) (fun c986 => absurd c986 (by decide)) (fun _ => ?_)
  refine lv_aload_n hx hb dL_law_131 rfl (lv_at hl 2 rfl) ?_
  refine lv_iconst (v := 0) hx hb dL_law_132 (by decide) ?_
  refine lv_iload_n hx hb dL_law_133 rfl (lv_at hl 0 rfl) ?_
  have hD9 := hW.2.1
  refine pc_mcalli (va_runV (As := [.int 0, .int 3]) (rest := []) ⟨hx, hb, hml, hown, hts⟩ (m_X5_receive l D cA NL971 (uC c 2 (c 2 + 1)) (V_X5_receive (uC c 2 (c 2 + 1)) (V_X5_receive (uC c 2 (c 2 + 1)) (V_X5_receive (uC c 2 (c 2 + 1)) (V_X5_send c v w (15 : Int32) (((1 : Int32) <<< ((nI (c 0)) &&& 31)) - (1 : Int32))) w (0 : Int32) (0 : Int32)) w (0 : Int32) (1 : Int32)) w (0 : Int32) (2 : Int32)) w u ad972 (lwA0 s) (0 : Int32) (3 : Int32) hM973 (INV_bnd hs3.1) (INV_wf hs3.1) (nI_nn (Nat.lt_of_lt_of_le hr0 (Nat.le_trans (INV_bnd hs3.1).2.2.1 (by decide)))) (show (nI 0).toNatClampNeg < _ from by rw [nI_clamp (Nat.lt_of_lt_of_le hr0 (Nat.le_trans (INV_bnd hs3.1).2.2.1 (by decide)))]; exact hr0) (by decide) (by decide) (by rw [show (0 : Int32).toNatClampNeg = 0 from by decide]; rw [hs3.2.2.2.2.2.2.2]; decide +kernel)) (cwV 2 hts gL_law_X5_receive rfl rfl rfl (by decide +kernel) ⟨Nat.le_of_ble_eq_true rfl, Nat.le_of_ble_eq_true rfl⟩) (pc_preV pcN_ok hX hW.1 hM973.1 rfl rfl ⟨hW.1, hW.2.1, fun q h => hA q (Nat.le_trans hW.2.2.1 h)⟩) rfl rfl hl.1 rfl (lv_room (Nat.le_of_ble_eq_true rfl)) dL_law_134 ⟨(by show _ ≤ (600074 : Nat); omega), (by show _ ≤ (7301550 : Nat); omega)⟩) hW.2.2 (fun r987 _ H locs hwr987 hB hS9 => ?_)
  replace hwr987 := hwr987.symm
  subst hwr987
  have hW : pcS D vwCl (lwA0 s) s.heap NL971 ad972 (ctO cA (uC c 2 (c 2 + 1)) (V_X5_receive (uC c 2 (c 2 + 1)) (V_X5_receive (uC c 2 (c 2 + 1)) (V_X5_receive (uC c 2 (c 2 + 1)) (V_X5_receive (uC c 2 (c 2 + 1)) (V_X5_send c v w (15 : Int32) (((1 : Int32) <<< ((nI (c 0)) &&& 31)) - (1 : Int32))) w (0 : Int32) (0 : Int32)) w (0 : Int32) (1 : Int32)) w (0 : Int32) (2 : Int32)) w (0 : Int32) (3 : Int32)) w u ad972) H locs := ⟨hB, pcD_ct hD9, hS9⟩
  have hs4 : SNT (uC c 2 (c 2 + 1)) (V_X5_receive (uC c 2 (c 2 + 1)) (V_X5_receive (uC c 2 (c 2 + 1)) (V_X5_receive (uC c 2 (c 2 + 1)) (V_X5_receive (uC c 2 (c 2 + 1)) (V_X5_send c v w (15 : Int32) (((1 : Int32) <<< ((nI (c 0)) &&& 31)) - (1 : Int32))) w (0 : Int32) (0 : Int32)) w (0 : Int32) (1 : Int32)) w (0 : Int32) (2 : Int32)) w (0 : Int32) (3 : Int32)) w (c 0) 4 ((((15 &&& (((1 : Int32) <<< (nI 0 &&& 31)) ^^^ (-1 : Int32))) &&& (((1 : Int32) <<< (nI 1 &&& 31)) ^^^ (-1 : Int32))) &&& (((1 : Int32) <<< (nI 2 &&& 31)) ^^^ (-1 : Int32))) &&& (((1 : Int32) <<< (nI 3 &&& 31)) ^^^ (-1 : Int32))) := (ini_receive (cr := 3) hs3 (by decide)).1
  refine lv_iload_n hx hb dL_law_137 rfl (lv_at hl 1 rfl) ?_
  refine lv_icmp_eq (tgt := 143) hx hb dL_law_138 (by decide) (fun _ => ?_) (fun c988 => absurd ((ini_receive (cr := 3) hs3 (by decide)).2) c988)
  refine lv_iinc (v := 4) (lv' := [(3, .int 4), (2, .int (nI (c 0))), (1, .ref (ad972 5 0)), (0, .ref b)]) hx hb dL_law_143 hl (k := 0) rfl (by decide) (by decide) rfl (fun ls hl => ?_)
  refine lv_goto (tgt := 126) hx hb dL_law_146 (by decide) ?_
  refine lv_iload_n hx hb dL_law_126 rfl (lv_at hl 0 rfl) ?_
  refine lv_iconst (v := 4) hx hb dL_law_127 (by decide) ?_
  refine lv_icmp_ge (tgt := 149) hx hb dL_law_128 (by decide) (fun _ => ?_) (fun c989 => absurd (by decide) c989)
  refine lv_iconst (v := 0) hx hb dL_law_149 (by decide) ?_
  refine lv_istore_n (lv' := [(3, .int 0), (2, .int (nI (c 0))), (1, .ref (ad972 5 0)), (0, .ref b)]) hx hb dL_law_150 rfl hl (by decide) rfl (fun ls hl => ?_)
  refine W.widen (k := 500 + 60 * 0) (n := 4000 + 300 * 0) (by omega) (by omega) ?_
  exact law_loop C1 40 0 (uC c 2 (c 2 + 1)) (V_X5_receive (uC c 2 (c 2 + 1)) (V_X5_receive (uC c 2 (c 2 + 1)) (V_X5_receive (uC c 2 (c 2 + 1)) (V_X5_receive (uC c 2 (c 2 + 1)) (V_X5_send c v w (15 : Int32) (((1 : Int32) <<< ((nI (c 0)) &&& 31)) - (1 : Int32))) w (0 : Int32) (0 : Int32)) w (0 : Int32) (1 : Int32)) w (0 : Int32) (2 : Int32)) w (0 : Int32) (3 : Int32)) w u NL971 ad972 H locs ls (by omega) hs4.1 h2n hM973 hN974 hW (lv_sub hl [0, 1, 2, 3] rfl)

theorem law_ini_end {p : Program} {e : Env} {s : State} {m : MethodId} {below : List Frame} {meth : Method} {c0 : Code} {l : Launch} {b L : Nat} {xs : Nat → Int32} {D : va_G} {cA : Nat → ClassId} (C1 : law_C p l s m meth c0 b L xs D cA) {c : SC} {v : SV} {w : SW} {u : Nat → Int32} {NL : List (Nat × Nat)} {ad : Nat → Nat → Nat} {locs : List Loc} {H : Heap} (hini : INI c v w (c 0)) (h2n : 2 ≤ c 0) (hn5 : c 0 ≤ 5) (hM : MEM c NL) (hN : NMEM c NL) (hW : pcS D vwCl (lwA0 s) s.heap NL ad (ctO cA c v w u ad) H locs) (ls : Array Slot) (hl : lv_has ls 13 [(3, .int (nI (c 0))), (2, .int (nI (c 0))), (1, .ref (ad 5 0)), (0, .ref b)]) : W p l e room_1 s m #[Value.ref b] below meth c0 H locs (20 + 10 * (c 0)) (200 + 60 * (c 0)) (lw_Z below #[Value.ref b] s) (F0 m 22 ls []) := by
  obtain ⟨hx, hb, hr, hml, hown, hts, hlocks, hX, hsc, hbl, hL⟩ := id C1
  refine lv_iload_n hx hb dL_law_22 rfl (lv_at hl 0 rfl) ?_
  refine lv_iload_n hx hb dL_law_23 rfl (lv_at hl 1 rfl) ?_
  refine lv_icmp_ge (tgt := 108) hx hb dL_law_24 (by decide) (fun _ => ?_) (fun q => absurd (Int32.le_refl _) q)
  refine W.widen (k := 100) (n := 1000) (by omega) (by omega) ?_
  exact law_sent C1 hini h2n hn5 hM hN hW ls hl
theorem law_inis {p : Program} {e : Env} {s : State} {m : MethodId} {below : List Frame} {meth : Method} {c0 : Code} {l : Launch} {b L : Nat} {xs : Nat → Int32} {D : va_G} {cA : Nat → ClassId} (C1 : law_C p l s m meth c0 b L xs D cA) {n : Nat} (h2n : 2 ≤ n) (hn5 : n ≤ 5) : ∀ (k : Nat) (c : SC) (v : SV) (w : SW) (u : Nat → Int32) (NL : List (Nat × Nat)) (ad : Nat → Nat → Nat) (H : Heap) (locs : List Loc) (ls : Array Slot), c 0 + k = n → INI c v w (c 0) → MEM c NL → NMEM c NL → pcS D vwCl (lwA0 s) s.heap NL ad (ctO cA c v w u ad) H locs → lv_has ls 13 [(3, .int (nI (c 0))), (2, .int (nI n)), (1, .ref (ad 5 0)), (0, .ref b)] → W p l e room_1 s m #[Value.ref b] below meth c0 H locs (20 + 10 * (c 0)) (200 + 60 * (c 0)) (lw_Z below #[Value.ref b] s) (F0 m 22 ls []) := by
  intro k
  induction k with
  | zero =>
    intro c v w u NL ad H locs ls hk hini hM hN hW hl
    obtain rfl : n = c 0 := by omega
    exact law_ini_end C1 hini h2n hn5 hM hN hW ls hl
  | succ k ih =>
    intro c v w u NL ad H locs ls hk hini hM hN hW hl
    refine law_ini C1 hini (by omega) hn5 hM hN hW ls hl (fun c2 v2 w2 u2 NL2 ad2 H locs ls a1 a2 a3 a4 a5 => ?_)
    have e : c2 0 = c 0 + 1 := a1.1.1
    have h := ih c2 v2 w2 u2 NL2 ad2 H locs ls (by omega) (by rw [e]; exact a1) a2 a3 a4 (by rw [e]; exact a5)
    rw [e] at h
    exact h

