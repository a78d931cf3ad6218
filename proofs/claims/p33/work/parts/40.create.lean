def V_X5_sheet (c : SC) (v : SV) (w : SW) (x1 : Int32) : SV := (newV_1 v (c 0) x1)
def W_X5_sheet (c : SC) (v : SV) (w : SW) (x1 : Int32) : SW := (newW_1 w (c 0))

set_option maxHeartbeats 4000000 in
set_option maxRecDepth 100000 in
theorem k_X5_sheet (l : Launch) (D : va_G) (cA : Nat → ClassId) (NL : List (Nat × Nat)) (c : SC) (v : SV) (w : SW) (u : Nat → Int32) (ad : Nat → Nat → Nat) (A : Nat → Prop) (x1 : Int32) (hM : MEM c NL) (hBd : BND c) (hF : WF c v) (hN : NMEM c NL) (hroom : c 0 < 10) (g1 : ¬ x1 < 0) (g2 : x1 < 4) : Met l yX5_sheet wsX5_sheet ({ frames := 2, cells := 3, slots := 22, locals := 41 }) (pcPre D vwCl (tyL cA) [.ref (ad 5 0), .int x1] (fun H => va_P D vwCl (pcW NL ad (ctO cA c v w u ad)) H ∧ va_D A (pcW NL ad (ctO cA c v w u ad)) ∧ ∀ q, H.size ≤ q → A q)) (va_Qi (fun (r : Int32) (z : List (Nat × Nat) × (Nat → Nat → Nat)) => r = nI (c 0) ∧ MEM (uC c 0 (c 0 + 1)) z.1 ∧ NMEM (uC c 0 (c 0 + 1)) z.1 ∧ z.2 5 0 = ad 5 0) (fun (z : List (Nat × Nat) × (Nat → Nat → Nat)) t => va_P D vwCl (pcW z.1 z.2 (ctO cA (uC c 0 (c 0 + 1)) (V_X5_sheet c v w x1) (W_X5_sheet c v w x1) u z.2)) t.heap ∧ va_D A (pcW z.1 z.2 (ctO cA (uC c 0 (c 0 + 1)) (V_X5_sheet c v w x1) (W_X5_sheet c v w x1) u z.2))) A) 3 22 A := by
  refine Met.ofW (cc := cX5_sheet) (maxL := 3) (ret := (some .int)) (by decide) rfl ?_
  intro p e s m args below meth c0 s₁ B hml hv
  obtain ⟨rfl, hX, hP0, hD, hA⟩ := hv
  have hx := B.exec
  have hb := B.bytes
  have hr := B.returns
  have hts := atoms_spec (ws := wsX5_sheet) B.pre
  have hown : s.vm.findClass RX5 = some m.cls := findClass_of_methodNamed B.named
  have hlocks := B.notSynchronized
  have hW : pcS D vwCl A s.heap NL ad (ctO cA c v w u ad) s.heap [] := ⟨hP0, hD, va_S.rf⟩
  have hl := lv_entry ([.ref (ad 5 0), .int x1]) (n := 3) (Nat.le_of_ble_eq_true rfl)
  rw [lg_entry_eq]
  generalize (lg_sl ([.ref (ad 5 0), .int x1]) ++ List.replicate (3 - (lg_sl ([.ref (ad 5 0), .int x1])).length) Slot.unset).toArray = ls at hl ⊢
  have hl : lv_has ls 3 [(0, .ref (ad 5 0)), (1, .int x1)] := hl
  refine lv_iload_n hx hb dX5_sheet_0 rfl (lv_at hl 1 rfl) ?_
  refine lv_if_lt (tgt := 9) hx hb dX5_sheet_1 (by decide) (fun c550 => absurd c550 g1) (fun _ => ?_)
  refine lv_iload_n hx hb dX5_sheet_4 rfl (lv_at hl 1 rfl) ?_
  refine lv_iconst (v := 4) hx hb dX5_sheet_5 (by decide) ?_
  refine lv_icmp_lt (tgt := 19) hx hb dX5_sheet_6 (by decide) (fun _ => ?_) (fun c551 => absurd g2 c551)
  refine lv_aload_n hx hb dX5_sheet_19 rfl (lv_at hl 0 rfl) ?_
  refine pc_get (C := RX5) (T := TX5) (N := 13) (ci := 5) hx hb hts (by decide +kernel) hown hX.1 hW.1 5 0 hM.1 rfl rfl 7 (by decide) (hts (.fieldLink RX5 48 "DraftsmanOffice" "sheetCount" "I") (by decide +kernel)) (fun _ h9 => h9) rfl dX5_sheet_20 ?_
  refine lv_bipush (v := 10) hx hb dX5_sheet_23 (by decide) ?_
  refine lv_icmp_lt (tgt := 38) hx hb dX5_sheet_25 (by decide) (fun _ => ?_) (fun c552 => absurd (nI_lt10 hroom) c552)
  refine lv_aload_n hx hb dX5_sheet_38 rfl (lv_at hl 0 rfl) ?_
  refine pc_get (C := RX5) (T := TX5) (N := 13) (ci := 5) hx hb hts (by decide +kernel) hown hX.1 hW.1 5 0 hM.1 rfl rfl 7 (by decide) (hts (.fieldLink RX5 48 "DraftsmanOffice" "sheetCount" "I") (by decide +kernel)) (fun _ h9 => h9) rfl dX5_sheet_39 ?_
  refine lv_istore_n (lv' := [(2, .int (nI (c 0))), (0, .ref (ad 5 0)), (1, .int x1)]) hx hb dX5_sheet_42 rfl hl (by decide) rfl (fun ls hl => ?_)
  refine lv_aload_n hx hb dX5_sheet_43 rfl (lv_at hl 1 rfl) ?_
  refine pc_get (C := RX5) (T := TX5) (N := 13) (ci := 5) hx hb hts (by decide +kernel) hown hX.1 hW.1 5 0 hM.1 rfl rfl 0 (by decide) (hts (.fieldLink RX5 11 "DraftsmanOffice" "sheets" "[LDraftsmanOffice$Sheet;") (by decide +kernel)) (fun _ h9 => h9) rfl dX5_sheet_44 ?_
  refine lv_iload_n hx hb dX5_sheet_47 rfl (lv_at hl 0 rfl) ?_
  refine pc_new2 (ci := 3) (fs := [.int 0, .null, .null, .int 0, .int 0, .int 0, .long 0, .int 0, .int 0, .int 0]) (C := RX3) (T := TX3) (N := 10) hx hb hts (by decide +kernel) tyX3 tyX3_ok hown (hts (.classLink RX5 9 RX3) (by decide +kernel)) (hts (.instantiable RX3 10) (by decide +kernel)) (hts (.initialized RX3) (by decide +kernel)) hX.1 hW hA 1 (c 0) (fun q => Nat.lt_irrefl _ (hN.1 1 _ (Or.inl rfl) q)) rfl (fun j hj => by rcases (show j = 0 ∨ j = 1 ∨ j = 2 ∨ j = 3 ∨ j = 4 ∨ j = 5 ∨ j = 6 ∨ j = 7 ∨ j = 8 ∨ j = 9 by omega) with rfl | rfl | rfl | rfl | rfl | rfl | rfl | rfl | rfl | rfl <;> rfl) (Nat.le_of_ble_eq_true rfl) (Nat.le_of_ble_eq_true rfl) dX5_sheet_48 (fun q553 H hW => ?_)
  refine W.widen (k := 1) (n := 10) (Nat.le_of_ble_eq_true rfl) (Nat.le_of_ble_eq_true rfl) ?_
  refine lv_dup hx hb dX5_sheet_51 rfl ?_
  refine lv_iload_n hx hb dX5_sheet_52 rfl (lv_at hl 2 rfl) ?_
  have hm9 : (1, (c 0)) ∈ (NL ++ [(1, (c 0))]) := (List.mem_append_right _ (List.mem_singleton.mpr rfl))
  have he9 : (pcU (ctO cA c v w u ad) 1 (c 0) (.inr (3, [.int 0, .null, .null, .int 0, .int 0, .int 0, .long 0, .int 0, .int 0, .int 0]))) 1 (c 0) = .inr (3, [.int 0, .null, .null, .int 0, .int 0, .int 0, .long 0, .int 0, .int 0, .int 0]) := pcU_self _ _ _ _
  refine va_callv (va_runIN (As := [.int x1]) (rest := [.ref ((pcV ad 1 (c 0) q553) 1 (c 0)), .int (nI (c 0)), .ref (ad 50 0)]) ⟨hx, hb, hml, hown, hts⟩ (l_X3_init l D cA (va_A [((pcV ad 1 (c 0) q553) 1 (c 0), .inr (3, [.int 0, .null, .null, .int 0, .int 0, .int 0, .long 0, .int 0, .int 0, .int 0]))] H.size) ((pcV ad 1 (c 0) q553) 1 (c 0)) x1) ⟨va_cnB 1 hts gX5_sheet_X3_init_n85 rfl rfl rfl (hX.2.1 (.methodLinkNest RX5 85 yX3_init R_host) (by decide +kernel)) (hts (.initialized RX3) (by decide +kernel)) (by decide +kernel) ⟨Nat.le_of_ble_eq_true rfl, Nat.le_of_ble_eq_true rfl⟩, rfl, hts (.instanceMethod yX3_init) (by decide +kernel)⟩ (pc_preS pcN_ok hX ⟨pc_one hW.1 hm9 he9, va_D_one, fun q h => Or.inr h⟩) rfl rfl hl.1 rfl (lv_room (Nat.le_of_ble_eq_true rfl)) dX5_sheet_53 ⟨Nat.le_of_ble_eq_true rfl, Nat.le_of_ble_eq_true rfl⟩) hW.2.2 (fun q _ h => pc_oneF hW hA hm9 q h) (pc_oneF hW hA hm9) (fun _ t H1 locs ht hvm hw hB hz1 hk1 hS => ?_)
  obtain ⟨q554, q555, hP1, hD1⟩ := hB
  rw [ht] at hP1
  have hJ := pc_join1 hW hA _ _ hm9 hk1 hP1 hD1
  have hW := pcS_push2 (k1 := 11) (i1 := (c 0)) (k2 := 12) (i2 := (c 0)) (nmem_app (fun q => Nat.lt_irrefl _ (hN.1 11 _ (Or.inr (Or.inl rfl)) q)) (by simp)) (nmem_app (nmem_app (fun q => Nat.lt_irrefl _ (hN.1 12 _ (Or.inr (Or.inr rfl)) q)) (by simp)) (by simp)) hJ hS
  generalize H1 = H at hW ⊢
  have hW : pcS D vwCl A s.heap (((NL ++ [(1, (c 0))]) ++ [(11, (c 0))]) ++ [(12, (c 0))]) (pcV (pcV (pcV ad 1 (c 0) q553) 11 (c 0) q554) 12 (c 0) q555) (ctO cA c (newV_1 v (c 0) x1) (newW_1 w (c 0)) u (pcV (pcV (pcV ad 1 (c 0) q553) 11 (c 0) q554) 12 (c 0) q555)) H locs := pcS_eq (by rw [pcU_twice] at hW; exact hW) (ctO_new_1 rfl)
  refine W.widen (k := 3) (n := 22) (Nat.le_of_ble_eq_true rfl) (Nat.le_of_ble_eq_true rfl) ?_
  refine pc_aast hx hb hX.1 hW 50 0 3 1 (c 0) 3 ((MEM_app (MEM_app (MEM_app hM))).2.1 50 (by decide) (by decide)) (by simp : (1, (c 0)) ∈ (((NL ++ [(1, (c 0))]) ++ [(11, (c 0))]) ++ [(12, (c 0))])) rfl rfl rfl rfl (vp_in_nI hroom (by decide)) dX5_sheet_56 (fun H locs hW => ?_)
  rw [nI_clamp (Nat.lt_of_lt_of_le hroom (by decide))] at hW
  refine lv_aload_n hx hb dX5_sheet_57 rfl (lv_at hl 1 rfl) ?_
  refine lv_dup hx hb dX5_sheet_58 rfl ?_
  refine pc_get (C := RX5) (T := TX5) (N := 13) (ci := 5) hx hb hts (by decide +kernel) hown hX.1 hW.1 5 0 (MEM_app (MEM_app (MEM_app hM))).1 rfl rfl 7 (by decide) (hts (.fieldLink RX5 48 "DraftsmanOffice" "sheetCount" "I") (by decide +kernel)) (fun _ h9 => h9) rfl dX5_sheet_59 ?_
  refine lv_iconst (v := 1) hx hb dX5_sheet_62 (by decide) ?_
  refine lv_iadd hx hb dX5_sheet_63 ?_
  rw [nI_1]
  refine pc_put (v := .int (nI ((c 0) + 1))) (C := RX5) (T := TX5) (N := 13) (ci := 5) (ty := .int) hx hb hts (by decide +kernel) tyX5 tyX5_ok nmX5 hown hX.1 hW 5 0 (MEM_app (MEM_app (MEM_app hM))).1 rfl rfl 7 (by decide) (hts (.fieldLink RX5 48 "DraftsmanOffice" "sheetCount" "I") (by decide +kernel)) (fun _ h9 => h9) rfl (by decide +kernel) rfl rfl (Nat.le_of_ble_eq_true rfl) dX5_sheet_64 (fun H locs hW => ?_)
  have hW : pcS D vwCl A s.heap (((NL ++ [(1, (c 0))]) ++ [(11, (c 0))]) ++ [(12, (c 0))]) (pcV (pcV (pcV ad 1 (c 0) q553) 11 (c 0) q554) 12 (c 0) q555) (ctO cA (uC c 0 (c 0 + 1)) (newV_1 v (c 0) x1) (newW_1 w (c 0)) u (pcV (pcV (pcV ad 1 (c 0) q553) 11 (c 0) q554) 12 (c 0) q555)) H locs := pcS_eq hW ctO_add_1
  refine lv_iload_n hx hb dX5_sheet_67 rfl (lv_at hl 0 rfl) ?_
  refine W.widen (k := 3) (n := 22) (Nat.le_of_ble_eq_true rfl) (Nat.le_of_ble_eq_true rfl) ?_
  have e9v : V_X5_sheet c v w x1 = (newV_1 v (c 0) x1) := rfl
  have e9w : W_X5_sheet c v w x1 = (newW_1 w (c 0)) := rfl
  exact W.iret (v := (nI (c 0))) hx hb hr (fun t ht hW9 => ⟨⟨(nI (c 0)), ((((NL ++ [(1, (c 0))]) ++ [(11, (c 0))]) ++ [(12, (c 0))]), (pcV (pcV (pcV ad 1 (c 0) q553) 11 (c 0) q554) 12 (c 0) q555)), rfl, ⟨rfl, (MEM_add_1 hM), NMEM_add_1 hN, rfl⟩, ⟨(by show va_P D vwCl (pcW (((NL ++ [(1, (c 0))]) ++ [(11, (c 0))]) ++ [(12, (c 0))]) (pcV (pcV (pcV ad 1 (c 0) q553) 11 (c 0) q554) 12 (c 0) q555) (ctO cA (uC c 0 (c 0 + 1)) (V_X5_sheet c v w x1) (W_X5_sheet c v w x1) u (pcV (pcV (pcV ad 1 (c 0) q553) 11 (c 0) q554) 12 (c 0) q555))) t.heap; rw [e9v]; rw [e9w]; rw [ht]; exact hW.1), (by show va_D A (pcW (((NL ++ [(1, (c 0))]) ++ [(11, (c 0))]) ++ [(12, (c 0))]) (pcV (pcV (pcV ad 1 (c 0) q553) 11 (c 0) q554) 12 (c 0) q555) (ctO cA (uC c 0 (c 0 + 1)) (V_X5_sheet c v w x1) (W_X5_sheet c v w x1) u (pcV (pcV (pcV ad 1 (c 0) q553) 11 (c 0) q554) 12 (c 0) q555))); rw [e9v]; rw [e9w]; exact hW.2.1)⟩⟩, hW.2.2.F ht⟩) hW.2.2.2.2 dX5_sheet_68

def V_X5_refer (c : SC) (v : SV) (w : SW) (x1 x2 x3 : Int32) : SV := (V_X5_stopUnfit (uC c 1 (c 1 + 1)) (newV_2 v (c 1) x1 x2 x3) w)

set_option maxHeartbeats 4000000 in
set_option maxRecDepth 100000 in
theorem k_X5_refer (l : Launch) (D : va_G) (cA : Nat → ClassId) (NL : List (Nat × Nat)) (c : SC) (v : SV) (w : SW) (u : Nat → Int32) (ad : Nat → Nat → Nat) (A : Nat → Prop) (x1 x2 x3 : Int32) (hM : MEM c NL) (hBd : BND c) (hF : WF c v) (hN : NMEM c NL) (h1n : ¬ x1 < 0) (h1 : x1.toNatClampNeg < c 0) (h2n : ¬ x2 < 0) (h2 : x2.toNatClampNeg < c 0) (hroom : c 1 < 20) (hne : ¬ x1 = x2) (g1 : ¬ x3 < 0) (g2 : x3 < 8) (hs : F_X3_lastStatus c v w x1.toNatClampNeg = 0) : Met l yX5_refer wsX5_refer ({ frames := 7, cells := 1, slots := 3, locals := 163 }) (pcPre D vwCl (tyL cA) [.ref (ad 5 0), .int x1, .int x2, .int x3] (fun H => va_P D vwCl (pcW NL ad (ctO cA c v w u ad)) H ∧ va_D A (pcW NL ad (ctO cA c v w u ad)) ∧ ∀ q, H.size ≤ q → A q)) (va_Qi (fun (r : Int32) (z : List (Nat × Nat) × (Nat → Nat → Nat)) => r = nI (c 1) ∧ MEM (uC c 1 (c 1 + 1)) z.1 ∧ NMEM (uC c 1 (c 1 + 1)) z.1 ∧ z.2 5 0 = ad 5 0) (fun (z : List (Nat × Nat) × (Nat → Nat → Nat)) t => va_P D vwCl (pcW z.1 z.2 (ctO cA (uC c 1 (c 1 + 1)) (V_X5_refer c v w x1 x2 x3) w u z.2)) t.heap ∧ va_D A (pcW z.1 z.2 (ctO cA (uC c 1 (c 1 + 1)) (V_X5_refer c v w x1 x2 x3) w u z.2))) A) 1 3 A := by
  refine Met.ofW (cc := cX5_refer) (maxL := 5) (ret := (some .int)) (by decide) rfl ?_
  intro p e s m args below meth c0 s₁ B hml hv
  obtain ⟨rfl, hX, hP0, hD, hA⟩ := hv
  have hx := B.exec
  have hb := B.bytes
  have hr := B.returns
  have hts := atoms_spec (ws := wsX5_refer) B.pre
  have hown : s.vm.findClass RX5 = some m.cls := findClass_of_methodNamed B.named
  have hlocks := B.notSynchronized
  have hW : pcS D vwCl A s.heap NL ad (ctO cA c v w u ad) s.heap [] := ⟨hP0, hD, va_S.rf⟩
  have hl := lv_entry ([.ref (ad 5 0), .int x1, .int x2, .int x3]) (n := 5) (Nat.le_of_ble_eq_true rfl)
  rw [lg_entry_eq]
  generalize (lg_sl ([.ref (ad 5 0), .int x1, .int x2, .int x3]) ++ List.replicate (5 - (lg_sl ([.ref (ad 5 0), .int x1, .int x2, .int x3])).length) Slot.unset).toArray = ls at hl ⊢
  have hl : lv_has ls 5 [(0, .ref (ad 5 0)), (1, .int x1), (2, .int x2), (3, .int x3)] := hl
  refine lv_aload_n hx hb dX5_refer_0 rfl (lv_at hl 0 rfl) ?_
  refine lv_iload_n hx hb dX5_refer_1 rfl (lv_at hl 1 rfl) ?_
  refine pc_rcallv (va_runV (As := [.int x1]) (rest := []) ⟨hx, hb, hml, hown, hts⟩ (r_X5_requireSheet l D cA NL c v w u ad x1 hM hBd hF h1n h1) (cwV 1 hts gX5_refer_X5_requireSheet rfl rfl rfl (by decide +kernel) ⟨Nat.le_of_ble_eq_true rfl, Nat.le_of_ble_eq_true rfl⟩) (pc_preV pcN_ok hX hW.1 hM.1 rfl rfl hW.1) rfl rfl hl.1 rfl (lv_room (Nat.le_of_ble_eq_true rfl)) dX5_refer_2 ⟨Nat.le_of_ble_eq_true rfl, Nat.le_of_ble_eq_true rfl⟩) hW (fun H locs _ hW => ?_)
  refine lv_aload_n hx hb dX5_refer_5 rfl (lv_at hl 0 rfl) ?_
  refine lv_iload_n hx hb dX5_refer_6 rfl (lv_at hl 2 rfl) ?_
  refine pc_rcallv (va_runV (As := [.int x2]) (rest := []) ⟨hx, hb, hml, hown, hts⟩ (r_X5_requireSheet l D cA NL c v w u ad x2 hM hBd hF h2n h2) (cwV 1 hts gX5_refer_X5_requireSheet rfl rfl rfl (by decide +kernel) ⟨Nat.le_of_ble_eq_true rfl, Nat.le_of_ble_eq_true rfl⟩) (pc_preV pcN_ok hX hW.1 hM.1 rfl rfl hW.1) rfl rfl hl.1 rfl (lv_room (Nat.le_of_ble_eq_true rfl)) dX5_refer_7 ⟨Nat.le_of_ble_eq_true rfl, Nat.le_of_ble_eq_true rfl⟩) hW (fun H locs _ hW => ?_)
  refine lv_iload_n hx hb dX5_refer_10 rfl (lv_at hl 1 rfl) ?_
  refine lv_iload_n hx hb dX5_refer_11 rfl (lv_at hl 2 rfl) ?_
  refine lv_icmp_eq (tgt := 25) hx hb dX5_refer_12 (by decide) (fun c558 => absurd c558 hne) (fun _ => ?_)
  refine lv_iload_n hx hb dX5_refer_15 rfl (lv_at hl 3 rfl) ?_
  refine lv_if_lt (tgt := 25) hx hb dX5_refer_16 (by decide) (fun c559 => absurd c559 g1) (fun _ => ?_)
  refine lv_iload_n hx hb dX5_refer_19 rfl (lv_at hl 3 rfl) ?_
  refine lv_bipush (v := 8) hx hb dX5_refer_20 (by decide) ?_
  refine lv_icmp_lt (tgt := 35) hx hb dX5_refer_22 (by decide) (fun _ => ?_) (fun c560 => absurd g2 c560)
  refine lv_aload_n hx hb dX5_refer_35 rfl (lv_at hl 0 rfl) ?_
  refine pc_get (C := RX5) (T := TX5) (N := 13) (ci := 5) hx hb hts (by decide +kernel) hown hX.1 hW.1 5 0 hM.1 rfl rfl 8 (by decide) (hts (.fieldLink RX5 52 "DraftsmanOffice" "referenceCount" "I") (by decide +kernel)) (fun _ h9 => h9) rfl dX5_refer_36 ?_
  refine lv_bipush (v := 20) hx hb dX5_refer_39 (by decide) ?_
  refine lv_icmp_ge (tgt := 56) hx hb dX5_refer_41 (by decide) (fun c561 => absurd c561 (Int32.not_le.mpr (nI_lt20 hroom))) (fun _ => ?_)
  refine lv_aload_n hx hb dX5_refer_44 rfl (lv_at hl 0 rfl) ?_
  refine pc_get (C := RX5) (T := TX5) (N := 13) (ci := 5) hx hb hts (by decide +kernel) hown hX.1 hW.1 5 0 hM.1 rfl rfl 0 (by decide) (hts (.fieldLink RX5 11 "DraftsmanOffice" "sheets" "[LDraftsmanOffice$Sheet;") (by decide +kernel)) (fun _ h9 => h9) rfl dX5_refer_45 ?_
  refine lv_iload_n hx hb dX5_refer_48 rfl (lv_at hl 1 rfl) ?_
  refine pc_aald (r := .ref (ad 1 x1.toNatClampNeg)) hx hb hX.1 hW.1 50 0 3 (hM.2.1 50 (by decide) (by decide)) rfl rfl rfl (fun q => q.elim h1n (fun q => absurd (Nat.lt_of_lt_of_le h1 hBd.1) (Nat.not_lt.mpr q))) (by rw [sRf_in h1]; rfl) dX5_refer_49 ?_
  refine pc_rcalli (va_runVN (As := []) (rest := []) ⟨hx, hb, hml, hown, hts⟩ (r_X3_lastStatus l D cA NL c v w u ad x1.toNatClampNeg hM hBd h1) ⟨va_cnB 0 hts gX5_refer_X3_lastStatus_n97 rfl rfl rfl (hX.2.1 (.methodLinkNest RX5 97 yX3_lastStatus R_host) (by decide +kernel)) (hts (.initialized RX3) (by decide +kernel)) (by decide +kernel) ⟨Nat.le_of_ble_eq_true rfl, Nat.le_of_ble_eq_true rfl⟩, hts (.instanceMethod yX3_lastStatus) (by decide +kernel), hts (.selects RX3 yX3_lastStatus yX3_lastStatus) (by decide +kernel)⟩ (pc_preV pcN_ok hX hW.1 (hM.2.2.2.1 x1.toNatClampNeg h1).1 rfl rfl hW.1) rfl rfl hl.1 rfl (lv_room (Nat.le_of_ble_eq_true rfl)) dX5_refer_50 ⟨Nat.le_of_ble_eq_true rfl, Nat.le_of_ble_eq_true rfl⟩) hW (fun r562 H locs hwr562 hW => ?_)
  replace hwr562 := hwr562.symm
  subst hwr562
  refine lv_if_eq (tgt := 66) hx hb dX5_refer_53 (by decide) (fun _ => ?_) (fun c563 => absurd hs c563)
  refine lv_aload_n hx hb dX5_refer_66 rfl (lv_at hl 0 rfl) ?_
  refine pc_get (C := RX5) (T := TX5) (N := 13) (ci := 5) hx hb hts (by decide +kernel) hown hX.1 hW.1 5 0 hM.1 rfl rfl 8 (by decide) (hts (.fieldLink RX5 52 "DraftsmanOffice" "referenceCount" "I") (by decide +kernel)) (fun _ h9 => h9) rfl dX5_refer_67 ?_
  refine lv_istore (lv' := [(4, .int (nI (c 1))), (0, .ref (ad 5 0)), (1, .int x1), (2, .int x2), (3, .int x3)]) hx hb dX5_refer_70 hl (by decide) rfl (fun ls hl => ?_)
  refine lv_aload_n hx hb dX5_refer_72 rfl (lv_at hl 1 rfl) ?_
  refine pc_get (C := RX5) (T := TX5) (N := 13) (ci := 5) hx hb hts (by decide +kernel) hown hX.1 hW.1 5 0 hM.1 rfl rfl 1 (by decide) (hts (.fieldLink RX5 17 "DraftsmanOffice" "references" "[LDraftsmanOffice$Reference;") (by decide +kernel)) (fun _ h9 => h9) rfl dX5_refer_73 ?_
  refine lv_iload hx hb dX5_refer_76 (lv_at hl 0 rfl) ?_
  refine pc_new2 (ci := 1) (fs := [.int 0, .int 0, .int 0]) (C := RX1) (T := TX1) (N := 3) hx hb hts (by decide +kernel) tyX1 tyX1_ok hown (hts (.classLink RX5 15 RX1) (by decide +kernel)) (hts (.instantiable RX1 3) (by decide +kernel)) (hts (.initialized RX1) (by decide +kernel)) hX.1 hW hA 2 (c 1) (fun q => Nat.lt_irrefl _ (hN.2.1 _ q)) rfl (fun j hj => by rcases (show j = 0 ∨ j = 1 ∨ j = 2 by omega) with rfl | rfl | rfl <;> rfl) (Nat.le_of_ble_eq_true rfl) (Nat.le_of_ble_eq_true rfl) dX5_refer_78 (fun q564 H hW => ?_)
  refine W.widen (k := 1) (n := 3) (Nat.le_of_ble_eq_true rfl) (Nat.le_of_ble_eq_true rfl) ?_
  refine lv_dup hx hb dX5_refer_81 rfl ?_
  refine lv_iload_n hx hb dX5_refer_82 rfl (lv_at hl 2 rfl) ?_
  refine lv_iload_n hx hb dX5_refer_83 rfl (lv_at hl 3 rfl) ?_
  refine lv_iload_n hx hb dX5_refer_84 rfl (lv_at hl 4 rfl) ?_
  have hm9 : (2, (c 1)) ∈ (NL ++ [(2, (c 1))]) := (List.mem_append_right _ (List.mem_singleton.mpr rfl))
  have he9 : (pcU (ctO cA c v w u ad) 2 (c 1) (.inr (1, [.int 0, .int 0, .int 0]))) 2 (c 1) = .inr (1, [.int 0, .int 0, .int 0]) := pcU_self _ _ _ _
  refine va_callv (va_runIN (As := [.int x1, .int x2, .int x3]) (rest := [.ref ((pcV ad 2 (c 1) q564) 2 (c 1)), .int (nI (c 1)), .ref (ad 51 0)]) ⟨hx, hb, hml, hown, hts⟩ (l_X1_init l D cA (va_A [((pcV ad 2 (c 1) q564) 2 (c 1), .inr (1, [.int 0, .int 0, .int 0]))] H.size) ((pcV ad 2 (c 1) q564) 2 (c 1)) x1 x2 x3) ⟨va_cnB 3 hts gX5_refer_X1_init_n150 rfl rfl rfl (hX.2.1 (.methodLinkNest RX5 150 yX1_init R_host) (by decide +kernel)) (hts (.initialized RX1) (by decide +kernel)) (by decide +kernel) ⟨Nat.le_of_ble_eq_true rfl, Nat.le_of_ble_eq_true rfl⟩, rfl, hts (.instanceMethod yX1_init) (by decide +kernel)⟩ (pc_preS pcN_ok hX ⟨pc_one hW.1 hm9 he9, va_D_one, fun q h => Or.inr h⟩) rfl rfl hl.1 rfl (lv_room (Nat.le_of_ble_eq_true rfl)) dX5_refer_85 ⟨Nat.le_of_ble_eq_true rfl, Nat.le_of_ble_eq_true rfl⟩) hW.2.2 (fun q _ h => pc_oneF hW hA hm9 q h) (pc_oneF hW hA hm9) (fun _ t H1 locs ht hvm hw hB hz1 hk1 hS => ?_)
  obtain ⟨hP1, hD1⟩ := hB
  rw [ht] at hP1
  have hJ := pc_join1 hW hA _ _ hm9 hk1 hP1 hD1
  have hW := pcS_push0 hJ hS
  generalize H1 = H at hW ⊢
  have hW : pcS D vwCl A s.heap (NL ++ [(2, (c 1))]) (pcV ad 2 (c 1) q564) (ctO cA c (newV_2 v (c 1) x1 x2 x3) w u (pcV ad 2 (c 1) q564)) H locs := pcS_eq (by rw [pcU_twice] at hW; exact hW) (ctO_new_2 rfl)
  refine W.widen (k := 1) (n := 3) (Nat.le_of_ble_eq_true rfl) (Nat.le_of_ble_eq_true rfl) ?_
  refine pc_aast hx hb hX.1 hW 51 0 4 2 (c 1) 1 ((MEM_app hM).2.1 51 (by decide) (by decide)) (by simp : (2, (c 1)) ∈ (NL ++ [(2, (c 1))])) rfl rfl rfl rfl (vp_in_nI hroom (by decide)) dX5_refer_88 (fun H locs hW => ?_)
  rw [nI_clamp (Nat.lt_of_lt_of_le hroom (by decide))] at hW
  refine lv_aload_n hx hb dX5_refer_89 rfl (lv_at hl 1 rfl) ?_
  refine lv_dup hx hb dX5_refer_90 rfl ?_
  refine pc_get (C := RX5) (T := TX5) (N := 13) (ci := 5) hx hb hts (by decide +kernel) hown hX.1 hW.1 5 0 (MEM_app hM).1 rfl rfl 8 (by decide) (hts (.fieldLink RX5 52 "DraftsmanOffice" "referenceCount" "I") (by decide +kernel)) (fun _ h9 => h9) rfl dX5_refer_91 ?_
  refine lv_iconst (v := 1) hx hb dX5_refer_94 (by decide) ?_
  refine lv_iadd hx hb dX5_refer_95 ?_
  rw [nI_1]
  refine pc_put (v := .int (nI ((c 1) + 1))) (C := RX5) (T := TX5) (N := 13) (ci := 5) (ty := .int) hx hb hts (by decide +kernel) tyX5 tyX5_ok nmX5 hown hX.1 hW 5 0 (MEM_app hM).1 rfl rfl 8 (by decide) (hts (.fieldLink RX5 52 "DraftsmanOffice" "referenceCount" "I") (by decide +kernel)) (fun _ h9 => h9) rfl (by decide +kernel) rfl rfl (Nat.le_of_ble_eq_true rfl) dX5_refer_96 (fun H locs hW => ?_)
  have hW : pcS D vwCl A s.heap (NL ++ [(2, (c 1))]) (pcV ad 2 (c 1) q564) (ctO cA (uC c 1 (c 1 + 1)) (newV_2 v (c 1) x1 x2 x3) w u (pcV ad 2 (c 1) q564)) H locs := pcS_eq hW ctO_add_2
  refine lv_aload_n hx hb dX5_refer_99 rfl (lv_at hl 1 rfl) ?_
  have hD9 := hW.2.1
  refine pc_mcalli (va_runV (As := []) (rest := []) ⟨hx, hb, hml, hown, hts⟩ (m_X5_stopUnfit l D cA (NL ++ [(2, (c 1))]) (uC c 1 (c 1 + 1)) (newV_2 v (c 1) x1 x2 x3) w u (pcV ad 2 (c 1) q564) A  (MEM_add_2 hM) (BND_1 hBd hroom) (WF_add_2 hF h2n h2) ) (cwV 0 hts gX5_refer_X5_stopUnfit rfl rfl rfl (by decide +kernel) ⟨Nat.le_of_ble_eq_true rfl, Nat.le_of_ble_eq_true rfl⟩) (pc_preV pcN_ok hX hW.1 (MEM_add_2 hM).1 rfl rfl ⟨hW.1, hW.2.1, fun q h => hA q (Nat.le_trans hW.2.2.1 h)⟩) rfl rfl hl.1 rfl (lv_room (Nat.le_of_ble_eq_true rfl)) dX5_refer_100 ⟨Nat.le_of_ble_eq_true rfl, Nat.le_of_ble_eq_true rfl⟩) hW.2.2 (fun r565 _ H locs hwr565 hB hS9 => ?_)
  replace hwr565 := hwr565.symm
  subst hwr565
  have hW : pcS D vwCl A s.heap (NL ++ [(2, (c 1))]) (pcV ad 2 (c 1) q564) (ctO cA (uC c 1 (c 1 + 1)) (V_X5_stopUnfit (uC c 1 (c 1 + 1)) (newV_2 v (c 1) x1 x2 x3) w) w u (pcV ad 2 (c 1) q564)) H locs := ⟨hB, pcD_ct hD9, hS9⟩
  refine lv_pop hx hb dX5_refer_103 rfl ?_
  refine lv_iload hx hb dX5_refer_104 (lv_at hl 0 rfl) ?_
  refine W.widen (k := 1) (n := 3) (Nat.le_of_ble_eq_true rfl) (Nat.le_of_ble_eq_true rfl) ?_
  have e9v : V_X5_refer c v w x1 x2 x3 = (V_X5_stopUnfit (uC c 1 (c 1 + 1)) (newV_2 v (c 1) x1 x2 x3) w) := rfl
  exact W.iret (v := (nI (c 1))) hx hb hr (fun t ht hW9 => ⟨⟨(nI (c 1)), ((NL ++ [(2, (c 1))]), (pcV ad 2 (c 1) q564)), rfl, ⟨rfl, (MEM_add_2 hM), NMEM_add_2 hN, rfl⟩, ⟨(by show va_P D vwCl (pcW (NL ++ [(2, (c 1))]) (pcV ad 2 (c 1) q564) (ctO cA (uC c 1 (c 1 + 1)) (V_X5_refer c v w x1 x2 x3) w u (pcV ad 2 (c 1) q564))) t.heap; rw [e9v]; rw [ht]; exact hW.1), (by show va_D A (pcW (NL ++ [(2, (c 1))]) (pcV ad 2 (c 1) q564) (ctO cA (uC c 1 (c 1 + 1)) (V_X5_refer c v w x1 x2 x3) w u (pcV ad 2 (c 1) q564))); rw [e9v]; exact hW.2.1)⟩⟩, hW.2.2.F ht⟩) hW.2.2.2.2 dX5_refer_106

def V_X5_send (c : SC) (v : SV) (w : SW) (x1 x2 : Int32) : SV := (V_X5_packSheets c (newV_3 v (c 2) x1 (nI (c 5))) w (c 2) x2)

set_option maxHeartbeats 4000000 in
set_option maxRecDepth 100000 in
theorem k_X5_send (l : Launch) (D : va_G) (cA : Nat → ClassId) (NL : List (Nat × Nat)) (c : SC) (v : SV) (w : SW) (u : Nat → Int32) (ad : Nat → Nat → Nat) (A : Nat → Prop) (x1 x2 : Int32) (hM : MEM c NL) (hBd : BND c) (hF : WF c v) (hN : NMEM c NL) (hroom : c 2 < 20) (g1 : ¬ x1 < 1) (g2 : ¬ 15 < x1) (hset : ¬ F_X5_isSetOfSheets c v w x2 = 0) (hall : ¬ F_X5_areAllIssued c v w x2 = 0) : Met l yX5_send wsX5_send ({ frames := 2, cells := 2, slots := 13, locals := 45 }) (pcPre D vwCl (tyL cA) [.ref (ad 5 0), .int x1, .int x2] (fun H => va_P D vwCl (pcW NL ad (ctO cA c v w u ad)) H ∧ va_D A (pcW NL ad (ctO cA c v w u ad)) ∧ ∀ q, H.size ≤ q → A q)) (va_Qi (fun (r : Int32) (z : List (Nat × Nat) × (Nat → Nat → Nat)) => r = nI (c 2) ∧ MEM (uC c 2 (c 2 + 1)) z.1 ∧ NMEM (uC c 2 (c 2 + 1)) z.1 ∧ z.2 5 0 = ad 5 0) (fun (z : List (Nat × Nat) × (Nat → Nat → Nat)) t => va_P D vwCl (pcW z.1 z.2 (ctO cA (uC c 2 (c 2 + 1)) (V_X5_send c v w x1 x2) w u z.2)) t.heap ∧ va_D A (pcW z.1 z.2 (ctO cA (uC c 2 (c 2 + 1)) (V_X5_send c v w x1 x2) w u z.2))) A) 2 13 A := by
  refine Met.ofW (cc := cX5_send) (maxL := 5) (ret := (some .int)) (by decide) rfl ?_
  intro p e s m args below meth c0 s₁ B hml hv
  obtain ⟨rfl, hX, hP0, hD, hA⟩ := hv
  have hx := B.exec
  have hb := B.bytes
  have hr := B.returns
  have hts := atoms_spec (ws := wsX5_send) B.pre
  have hown : s.vm.findClass RX5 = some m.cls := findClass_of_methodNamed B.named
  have hlocks := B.notSynchronized
  have hW : pcS D vwCl A s.heap NL ad (ctO cA c v w u ad) s.heap [] := ⟨hP0, hD, va_S.rf⟩
  have hl := lv_entry ([.ref (ad 5 0), .int x1, .int x2]) (n := 5) (Nat.le_of_ble_eq_true rfl)
  rw [lg_entry_eq]
  generalize (lg_sl ([.ref (ad 5 0), .int x1, .int x2]) ++ List.replicate (5 - (lg_sl ([.ref (ad 5 0), .int x1, .int x2])).length) Slot.unset).toArray = ls at hl ⊢
  have hl : lv_has ls 5 [(0, .ref (ad 5 0)), (1, .int x1), (2, .int x2)] := hl
  refine lv_iload_n hx hb dX5_send_0 rfl (lv_at hl 1 rfl) ?_
  refine lv_iconst (v := 1) hx hb dX5_send_1 (by decide) ?_
  refine lv_icmp_lt (tgt := 19) hx hb dX5_send_2 (by decide) (fun c566 => absurd c566 g1) (fun _ => ?_)
  refine lv_iload_n hx hb dX5_send_5 rfl (lv_at hl 1 rfl) ?_
  refine lv_bipush (v := 15) hx hb dX5_send_6 (by decide) ?_
  refine lv_icmp_gt (tgt := 19) hx hb dX5_send_8 (by decide) (fun c567 => absurd c567 g2) (fun _ => ?_)
  refine lv_aload_n hx hb dX5_send_11 rfl (lv_at hl 0 rfl) ?_
  refine lv_iload_n hx hb dX5_send_12 rfl (lv_at hl 2 rfl) ?_
  refine pc_rcalli (va_runV (As := [.int x2]) (rest := []) ⟨hx, hb, hml, hown, hts⟩ (r_X5_isSetOfSheets l D cA NL c v w u ad x2 hM hBd hF ) (cwV 1 hts gX5_send_X5_isSetOfSheets rfl rfl rfl (by decide +kernel) ⟨Nat.le_of_ble_eq_true rfl, Nat.le_of_ble_eq_true rfl⟩) (pc_preV pcN_ok hX hW.1 hM.1 rfl rfl hW.1) rfl rfl hl.1 rfl (lv_room (Nat.le_of_ble_eq_true rfl)) dX5_send_13 ⟨Nat.le_of_ble_eq_true rfl, Nat.le_of_ble_eq_true rfl⟩) hW (fun r568 H locs hwr568 hW => ?_)
  replace hwr568 := hwr568.symm
  subst hwr568
  refine lv_if_ne (tgt := 29) hx hb dX5_send_16 (by decide) (fun _ => ?_) (fun c569 => absurd c569 hset)
  refine lv_aload_n hx hb dX5_send_29 rfl (lv_at hl 0 rfl) ?_
  refine pc_get (C := RX5) (T := TX5) (N := 13) (ci := 5) hx hb hts (by decide +kernel) hown hX.1 hW.1 5 0 hM.1 rfl rfl 9 (by decide) (hts (.fieldLink RX5 55 "DraftsmanOffice" "sendingCount" "I") (by decide +kernel)) (fun _ h9 => h9) rfl dX5_send_30 ?_
  refine lv_bipush (v := 20) hx hb dX5_send_33 (by decide) ?_
  refine lv_icmp_ge (tgt := 46) hx hb dX5_send_35 (by decide) (fun c570 => absurd c570 (Int32.not_le.mpr (nI_lt20 hroom))) (fun _ => ?_)
  refine lv_aload_n hx hb dX5_send_38 rfl (lv_at hl 0 rfl) ?_
  refine lv_iload_n hx hb dX5_send_39 rfl (lv_at hl 2 rfl) ?_
  refine pc_rcalli (va_runV (As := [.int x2]) (rest := []) ⟨hx, hb, hml, hown, hts⟩ (r_X5_areAllIssued l D cA NL c v w u ad x2 hM hBd hF ) (cwV 1 hts gX5_send_X5_areAllIssued rfl rfl rfl (by decide +kernel) ⟨Nat.le_of_ble_eq_true rfl, Nat.le_of_ble_eq_true rfl⟩) (pc_preV pcN_ok hX hW.1 hM.1 rfl rfl hW.1) rfl rfl hl.1 rfl (lv_room (Nat.le_of_ble_eq_true rfl)) dX5_send_40 ⟨Nat.le_of_ble_eq_true rfl, Nat.le_of_ble_eq_true rfl⟩) hW (fun r571 H locs hwr571 hW => ?_)
  replace hwr571 := hwr571.symm
  subst hwr571
  refine lv_if_ne (tgt := 56) hx hb dX5_send_43 (by decide) (fun _ => ?_) (fun c572 => absurd c572 hall)
  refine lv_aload_n hx hb dX5_send_56 rfl (lv_at hl 0 rfl) ?_
  refine pc_get (C := RX5) (T := TX5) (N := 13) (ci := 5) hx hb hts (by decide +kernel) hown hX.1 hW.1 5 0 hM.1 rfl rfl 9 (by decide) (hts (.fieldLink RX5 55 "DraftsmanOffice" "sendingCount" "I") (by decide +kernel)) (fun _ h9 => h9) rfl dX5_send_57 ?_
  refine lv_istore_n (lv' := [(3, .int (nI (c 2))), (0, .ref (ad 5 0)), (1, .int x1), (2, .int x2)]) hx hb dX5_send_60 rfl hl (by decide) rfl (fun ls hl => ?_)
  refine pc_new2 (ci := 2) (fs := [.int 0, .null, .int 0]) (C := RX2) (T := TX2) (N := 3) hx hb hts (by decide +kernel) tyX2 tyX2_ok hown (hts (.classLink RX5 21 RX2) (by decide +kernel)) (hts (.instantiable RX2 3) (by decide +kernel)) (hts (.initialized RX2) (by decide +kernel)) hX.1 hW hA 3 (c 2) (fun q => Nat.lt_irrefl _ (hN.2.2.1 3 _ (Or.inl rfl) q)) rfl (fun j hj => by rcases (show j = 0 ∨ j = 1 ∨ j = 2 by omega) with rfl | rfl | rfl <;> rfl) (Nat.le_of_ble_eq_true rfl) (Nat.le_of_ble_eq_true rfl) dX5_send_61 (fun q573 H hW => ?_)
  refine W.widen (k := 1) (n := 3) (Nat.le_of_ble_eq_true rfl) (Nat.le_of_ble_eq_true rfl) ?_
  refine lv_dup hx hb dX5_send_64 rfl ?_
  refine lv_iload_n hx hb dX5_send_65 rfl (lv_at hl 2 rfl) ?_
  refine lv_aload_n hx hb dX5_send_66 rfl (lv_at hl 1 rfl) ?_
  refine pc_get (C := RX5) (T := TX5) (N := 13) (ci := 5) hx hb hts (by decide +kernel) hown hX.1 hW.1 5 0 (MEM_app hM).1 rfl rfl 12 (by decide) (hts (.fieldLink RX5 64 "DraftsmanOffice" "today" "I") (by decide +kernel)) (fun _ h9 => h9) rfl dX5_send_67 ?_
  have hm9 : (3, (c 2)) ∈ (NL ++ [(3, (c 2))]) := (List.mem_append_right _ (List.mem_singleton.mpr rfl))
  have he9 : (pcU (ctO cA c v w u ad) 3 (c 2) (.inr (2, [.int 0, .null, .int 0]))) 3 (c 2) = .inr (2, [.int 0, .null, .int 0]) := pcU_self _ _ _ _
  refine va_callv (va_runIN (As := [.int x1, .int (nI (c 5))]) (rest := [.ref ((pcV ad 3 (c 2) q573) 3 (c 2))]) ⟨hx, hb, hml, hown, hts⟩ (l_X2_init l D cA (va_A [((pcV ad 3 (c 2) q573) 3 (c 2), .inr (2, [.int 0, .null, .int 0]))] H.size) ((pcV ad 3 (c 2) q573) 3 (c 2)) x1 (nI (c 5))) ⟨va_cnB 2 hts gX5_send_X2_init_n201 rfl rfl rfl (hX.2.1 (.methodLinkNest RX5 201 yX2_init R_host) (by decide +kernel)) (hts (.initialized RX2) (by decide +kernel)) (by decide +kernel) ⟨Nat.le_of_ble_eq_true rfl, Nat.le_of_ble_eq_true rfl⟩, rfl, hts (.instanceMethod yX2_init) (by decide +kernel)⟩ (pc_preS pcN_ok hX ⟨pc_one hW.1 hm9 he9, va_D_one, fun q h => Or.inr h⟩) rfl rfl hl.1 rfl (lv_room (Nat.le_of_ble_eq_true rfl)) dX5_send_70 ⟨Nat.le_of_ble_eq_true rfl, Nat.le_of_ble_eq_true rfl⟩) hW.2.2 (fun q _ h => pc_oneF hW hA hm9 q h) (pc_oneF hW hA hm9) (fun _ t H1 locs ht hvm hw hB hz1 hk1 hS => ?_)
  obtain ⟨q574, hP1, hD1⟩ := hB
  rw [ht] at hP1
  have hJ := pc_join1 hW hA _ _ hm9 hk1 hP1 hD1
  have hW := pcS_push1 (k1 := 13) (i1 := (c 2)) (nmem_app (fun q => Nat.lt_irrefl _ (hN.2.2.1 13 _ (Or.inr rfl) q)) (by simp)) hJ hS
  generalize H1 = H at hW ⊢
  have hW : pcS D vwCl A s.heap ((NL ++ [(3, (c 2))]) ++ [(13, (c 2))]) (pcV (pcV ad 3 (c 2) q573) 13 (c 2) q574) (ctO cA c (newV_3 v (c 2) x1 (nI (c 5))) w u (pcV (pcV ad 3 (c 2) q573) 13 (c 2) q574)) H locs := pcS_eq (by rw [pcU_twice] at hW; exact hW) (ctO_new_3 rfl)
  refine W.widen (k := 2) (n := 13) (Nat.le_of_ble_eq_true rfl) (Nat.le_of_ble_eq_true rfl) ?_
  refine lv_astore (lv' := [(4, .ref ((pcV ad 3 (c 2) q573) 3 (c 2))), (3, .int (nI (c 2))), (0, .ref (ad 5 0)), (1, .int x1), (2, .int x2)]) hx hb dX5_send_73 hl (by decide) rfl (fun ls hl => ?_)
  refine lv_aload_n hx hb dX5_send_75 rfl (lv_at hl 2 rfl) ?_
  refine lv_aload hx hb dX5_send_76 (lv_at hl 0 rfl) ?_
  refine lv_iload_n hx hb dX5_send_78 rfl (lv_at hl 4 rfl) ?_
  have hD9 := hW.2.1
  refine pc_mcallv (va_runV (As := [.ref ((pcV ad 3 (c 2) q573) 3 (c 2)), .int x2]) (rest := []) ⟨hx, hb, hml, hown, hts⟩ (m_X5_packSheets l D cA ((NL ++ [(3, (c 2))]) ++ [(13, (c 2))]) c (newV_3 v (c 2) x1 (nI (c 5))) w u (pcV (pcV ad 3 (c 2) q573) 13 (c 2) q574) A (c 2) x2 (MEM_app (MEM_app hM)) hBd (by simp : (3, (c 2)) ∈ ((NL ++ [(3, (c 2))]) ++ [(13, (c 2))])) (by simp : (13, (c 2)) ∈ ((NL ++ [(3, (c 2))]) ++ [(13, (c 2))]))) (cwV 2 hts gX5_send_X5_packSheets rfl rfl rfl (by decide +kernel) ⟨Nat.le_of_ble_eq_true rfl, Nat.le_of_ble_eq_true rfl⟩) (pc_preV pcN_ok hX hW.1 (MEM_app (MEM_app hM)).1 rfl rfl ⟨hW.1, hW.2.1, fun q h => hA q (Nat.le_trans hW.2.2.1 h)⟩) rfl rfl hl.1 rfl (lv_room (Nat.le_of_ble_eq_true rfl)) dX5_send_79 ⟨Nat.le_of_ble_eq_true rfl, Nat.le_of_ble_eq_true rfl⟩) hW.2.2 (fun _ H locs _ hB hS9 => ?_)
  have hW : pcS D vwCl A s.heap ((NL ++ [(3, (c 2))]) ++ [(13, (c 2))]) (pcV (pcV ad 3 (c 2) q573) 13 (c 2) q574) (ctO cA c (V_X5_packSheets c (newV_3 v (c 2) x1 (nI (c 5))) w (c 2) x2) w u (pcV (pcV ad 3 (c 2) q573) 13 (c 2) q574)) H locs := ⟨hB, pcD_ct hD9, hS9⟩
  refine lv_aload_n hx hb dX5_send_82 rfl (lv_at hl 2 rfl) ?_
  refine pc_get (C := RX5) (T := TX5) (N := 13) (ci := 5) hx hb hts (by decide +kernel) hown hX.1 hW.1 5 0 (MEM_app (MEM_app hM)).1 rfl rfl 2 (by decide) (hts (.fieldLink RX5 23 "DraftsmanOffice" "sendings" "[LDraftsmanOffice$Sending;") (by decide +kernel)) (fun _ h9 => h9) rfl dX5_send_83 ?_
  refine lv_iload_n hx hb dX5_send_86 rfl (lv_at hl 1 rfl) ?_
  refine lv_aload hx hb dX5_send_87 (lv_at hl 0 rfl) ?_
  refine pc_aast hx hb hX.1 hW 52 0 5 3 (c 2) 2 ((MEM_app (MEM_app hM)).2.1 52 (by decide) (by decide)) (by simp : (3, (c 2)) ∈ ((NL ++ [(3, (c 2))]) ++ [(13, (c 2))])) rfl rfl rfl rfl (vp_in_nI hroom (by decide)) dX5_send_89 (fun H locs hW => ?_)
  rw [nI_clamp (Nat.lt_of_lt_of_le hroom (by decide))] at hW
  refine lv_aload_n hx hb dX5_send_90 rfl (lv_at hl 2 rfl) ?_
  refine lv_dup hx hb dX5_send_91 rfl ?_
  refine pc_get (C := RX5) (T := TX5) (N := 13) (ci := 5) hx hb hts (by decide +kernel) hown hX.1 hW.1 5 0 (MEM_app (MEM_app hM)).1 rfl rfl 9 (by decide) (hts (.fieldLink RX5 55 "DraftsmanOffice" "sendingCount" "I") (by decide +kernel)) (fun _ h9 => h9) rfl dX5_send_92 ?_
  refine lv_iconst (v := 1) hx hb dX5_send_95 (by decide) ?_
  refine lv_iadd hx hb dX5_send_96 ?_
  rw [nI_1]
  refine pc_put (v := .int (nI ((c 2) + 1))) (C := RX5) (T := TX5) (N := 13) (ci := 5) (ty := .int) hx hb hts (by decide +kernel) tyX5 tyX5_ok nmX5 hown hX.1 hW 5 0 (MEM_app (MEM_app hM)).1 rfl rfl 9 (by decide) (hts (.fieldLink RX5 55 "DraftsmanOffice" "sendingCount" "I") (by decide +kernel)) (fun _ h9 => h9) rfl (by decide +kernel) rfl rfl (Nat.le_of_ble_eq_true rfl) dX5_send_97 (fun H locs hW => ?_)
  have hW : pcS D vwCl A s.heap ((NL ++ [(3, (c 2))]) ++ [(13, (c 2))]) (pcV (pcV ad 3 (c 2) q573) 13 (c 2) q574) (ctO cA (uC c 2 (c 2 + 1)) (V_X5_packSheets c (newV_3 v (c 2) x1 (nI (c 5))) w (c 2) x2) w u (pcV (pcV ad 3 (c 2) q573) 13 (c 2) q574)) H locs := pcS_eq hW ctO_add_3
  refine lv_iload_n hx hb dX5_send_100 rfl (lv_at hl 1 rfl) ?_
  refine W.widen (k := 2) (n := 13) (Nat.le_of_ble_eq_true rfl) (Nat.le_of_ble_eq_true rfl) ?_
  have e9v : V_X5_send c v w x1 x2 = (V_X5_packSheets c (newV_3 v (c 2) x1 (nI (c 5))) w (c 2) x2) := rfl
  exact W.iret (v := (nI (c 2))) hx hb hr (fun t ht hW9 => ⟨⟨(nI (c 2)), (((NL ++ [(3, (c 2))]) ++ [(13, (c 2))]), (pcV (pcV ad 3 (c 2) q573) 13 (c 2) q574)), rfl, ⟨rfl, (MEM_add_3 hM), NMEM_add_3 hN, rfl⟩, ⟨(by show va_P D vwCl (pcW ((NL ++ [(3, (c 2))]) ++ [(13, (c 2))]) (pcV (pcV ad 3 (c 2) q573) 13 (c 2) q574) (ctO cA (uC c 2 (c 2 + 1)) (V_X5_send c v w x1 x2) w u (pcV (pcV ad 3 (c 2) q573) 13 (c 2) q574))) t.heap; rw [e9v]; rw [ht]; exact hW.1), (by show va_D A (pcW ((NL ++ [(3, (c 2))]) ++ [(13, (c 2))]) (pcV (pcV ad 3 (c 2) q573) 13 (c 2) q574) (ctO cA (uC c 2 (c 2 + 1)) (V_X5_send c v w x1 x2) w u (pcV (pcV ad 3 (c 2) q573) 13 (c 2) q574))); rw [e9v]; exact hW.2.1)⟩⟩, hW.2.2.F ht⟩) hW.2.2.2.2 dX5_send_101

def V_X5_query (c : SC) (v : SV) (w : SW) (x1 x2 x3 x4 x5 : Int32) : SV := (V_X5_stopUnfit (uC c 3 (c 3 + 1)) (newV_4 v (c 3) x1 (F_X5_regionOf x2 x3 x4 x5)) (newW_4 w (c 3) (F_X5_regionOf x2 x3 x4 x5)))
def W_X5_query (c : SC) (v : SV) (w : SW) (x1 x2 x3 x4 x5 : Int32) : SW := (newW_4 w (c 3) (F_X5_regionOf x2 x3 x4 x5))

set_option maxHeartbeats 4000000 in
set_option maxRecDepth 100000 in
theorem k_X5_query (l : Launch) (D : va_G) (cA : Nat → ClassId) (NL : List (Nat × Nat)) (c : SC) (v : SV) (w : SW) (u : Nat → Int32) (ad : Nat → Nat → Nat) (A : Nat → Prop) (x1 x2 x3 x4 x5 : Int32) (hM : MEM c NL) (hBd : BND c) (hF : WF c v) (hN : NMEM c NL) (h1n : ¬ x1 < 0) (h1 : x1.toNatClampNeg < c 0) (g1 : ¬ x2 < 0) (g2 : ¬ x4 < x2) (g3 : ¬ 20 ≤ x4) (g4 : ¬ x3 < 0) (g5 : ¬ x5 < x3) (g6 : x5 < 20) (hroom : c 3 < 20) (hs : ¬ v 1 x1.toNatClampNeg 3 = -1) : Met l yX5_query wsX5_query ({ frames := 7, cells := 1, slots := 3, locals := 163 }) (pcPre D vwCl (tyL cA) [.ref (ad 5 0), .int x1, .int x2, .int x3, .int x4, .int x5] (fun H => va_P D vwCl (pcW NL ad (ctO cA c v w u ad)) H ∧ va_D A (pcW NL ad (ctO cA c v w u ad)) ∧ ∀ q, H.size ≤ q → A q)) (va_Qi (fun (r : Int32) (z : List (Nat × Nat) × (Nat → Nat → Nat)) => r = nI (c 3) ∧ MEM (uC c 3 (c 3 + 1)) z.1 ∧ NMEM (uC c 3 (c 3 + 1)) z.1 ∧ z.2 5 0 = ad 5 0) (fun (z : List (Nat × Nat) × (Nat → Nat → Nat)) t => va_P D vwCl (pcW z.1 z.2 (ctO cA (uC c 3 (c 3 + 1)) (V_X5_query c v w x1 x2 x3 x4 x5) (W_X5_query c v w x1 x2 x3 x4 x5) u z.2)) t.heap ∧ va_D A (pcW z.1 z.2 (ctO cA (uC c 3 (c 3 + 1)) (V_X5_query c v w x1 x2 x3 x4 x5) (W_X5_query c v w x1 x2 x3 x4 x5) u z.2))) A) 1 3 A := by
  refine Met.ofW (cc := cX5_query) (maxL := 7) (ret := (some .int)) (by decide) rfl ?_
  intro p e s m args below meth c0 s₁ B hml hv
  obtain ⟨rfl, hX, hP0, hD, hA⟩ := hv
  have hx := B.exec
  have hb := B.bytes
  have hr := B.returns
  have hts := atoms_spec (ws := wsX5_query) B.pre
  have hown : s.vm.findClass RX5 = some m.cls := findClass_of_methodNamed B.named
  have hlocks := B.notSynchronized
  have hW : pcS D vwCl A s.heap NL ad (ctO cA c v w u ad) s.heap [] := ⟨hP0, hD, va_S.rf⟩
  have hl := lv_entry ([.ref (ad 5 0), .int x1, .int x2, .int x3, .int x4, .int x5]) (n := 7) (Nat.le_of_ble_eq_true rfl)
  rw [lg_entry_eq]
  generalize (lg_sl ([.ref (ad 5 0), .int x1, .int x2, .int x3, .int x4, .int x5]) ++ List.replicate (7 - (lg_sl ([.ref (ad 5 0), .int x1, .int x2, .int x3, .int x4, .int x5])).length) Slot.unset).toArray = ls at hl ⊢
  have hl : lv_has ls 7 [(0, .ref (ad 5 0)), (1, .int x1), (2, .int x2), (3, .int x3), (4, .int x4), (5, .int x5)] := hl
  refine lv_aload_n hx hb dX5_query_0 rfl (lv_at hl 0 rfl) ?_
  refine lv_iload_n hx hb dX5_query_1 rfl (lv_at hl 1 rfl) ?_
  refine pc_rcallv (va_runV (As := [.int x1]) (rest := []) ⟨hx, hb, hml, hown, hts⟩ (r_X5_requireSheet l D cA NL c v w u ad x1 hM hBd hF h1n h1) (cwV 1 hts gX5_query_X5_requireSheet rfl rfl rfl (by decide +kernel) ⟨Nat.le_of_ble_eq_true rfl, Nat.le_of_ble_eq_true rfl⟩) (pc_preV pcN_ok hX hW.1 hM.1 rfl rfl hW.1) rfl rfl hl.1 rfl (lv_room (Nat.le_of_ble_eq_true rfl)) dX5_query_2 ⟨Nat.le_of_ble_eq_true rfl, Nat.le_of_ble_eq_true rfl⟩) hW (fun H locs _ hW => ?_)
  refine lv_iload_n hx hb dX5_query_5 rfl (lv_at hl 2 rfl) ?_
  refine lv_iload_n hx hb dX5_query_6 rfl (lv_at hl 3 rfl) ?_
  refine lv_iload hx hb dX5_query_7 (lv_at hl 4 rfl) ?_
  refine lv_iload hx hb dX5_query_9 (lv_at hl 5 rfl) ?_
  refine pc_rcallv (va_runS (As := [.int x2, .int x3, .int x4, .int x5]) (rest := []) ⟨hx, hb, hml, hown, hts⟩ (r_X5_requireRegion l D cA x2 x3 x4 x5 g1 g2 g3 g4 g5 g6) (va_cwS 4 hts gX5_query_X5_requireRegion rfl rfl rfl (by decide +kernel) ⟨Nat.le_of_ble_eq_true rfl, Nat.le_of_ble_eq_true rfl⟩) (pc_preS pcN_ok hX trivial) rfl rfl hl.1 rfl (lv_room (Nat.le_of_ble_eq_true rfl)) dX5_query_11 ⟨Nat.le_of_ble_eq_true rfl, Nat.le_of_ble_eq_true rfl⟩) hW (fun H locs _ hW => ?_)
  refine lv_aload_n hx hb dX5_query_14 rfl (lv_at hl 0 rfl) ?_
  refine pc_get (C := RX5) (T := TX5) (N := 13) (ci := 5) hx hb hts (by decide +kernel) hown hX.1 hW.1 5 0 hM.1 rfl rfl 10 (by decide) (hts (.fieldLink RX5 58 "DraftsmanOffice" "queryCount" "I") (by decide +kernel)) (fun _ h9 => h9) rfl dX5_query_15 ?_
  refine lv_bipush (v := 20) hx hb dX5_query_18 (by decide) ?_
  refine lv_icmp_ge (tgt := 36) hx hb dX5_query_20 (by decide) (fun c578 => absurd c578 (Int32.not_le.mpr (nI_lt20 hroom))) (fun _ => ?_)
  refine lv_aload_n hx hb dX5_query_23 rfl (lv_at hl 0 rfl) ?_
  refine pc_get (C := RX5) (T := TX5) (N := 13) (ci := 5) hx hb hts (by decide +kernel) hown hX.1 hW.1 5 0 hM.1 rfl rfl 0 (by decide) (hts (.fieldLink RX5 11 "DraftsmanOffice" "sheets" "[LDraftsmanOffice$Sheet;") (by decide +kernel)) (fun _ h9 => h9) rfl dX5_query_24 ?_
  refine lv_iload_n hx hb dX5_query_27 rfl (lv_at hl 1 rfl) ?_
  refine pc_aald (r := .ref (ad 1 x1.toNatClampNeg)) hx hb hX.1 hW.1 50 0 3 (hM.2.1 50 (by decide) (by decide)) rfl rfl rfl (fun q => q.elim h1n (fun q => absurd (Nat.lt_of_lt_of_le h1 hBd.1) (Nat.not_lt.mpr q))) (by rw [sRf_in h1]; rfl) dX5_query_28 ?_
  refine pc_getN (C := RX3) (T := TX3) (N := 10) (ci := 3) hx hb hts (by decide +kernel) hown hX.1 hW.1 1 x1.toNatClampNeg (hM.2.2.2.1 x1.toNatClampNeg h1).1 rfl rfl 5 (by decide) (hX.2.1 (.fieldLinkNest RX5 156 "DraftsmanOffice$Sheet" "issued" "I" R_host) (by decide +kernel)) (fun _ h9 => h9) rfl dX5_query_29 ?_
  refine lv_iconst (v := -1) hx hb dX5_query_32 (by decide) ?_
  refine lv_icmp_ne (tgt := 46) hx hb dX5_query_33 (by decide) (fun _ => ?_) (fun c579 => absurd c579 hs)
  refine lv_aload_n hx hb dX5_query_46 rfl (lv_at hl 0 rfl) ?_
  refine pc_get (C := RX5) (T := TX5) (N := 13) (ci := 5) hx hb hts (by decide +kernel) hown hX.1 hW.1 5 0 hM.1 rfl rfl 10 (by decide) (hts (.fieldLink RX5 58 "DraftsmanOffice" "queryCount" "I") (by decide +kernel)) (fun _ h9 => h9) rfl dX5_query_47 ?_
  refine lv_istore (lv' := [(6, .int (nI (c 3))), (0, .ref (ad 5 0)), (1, .int x1), (2, .int x2), (3, .int x3), (4, .int x4), (5, .int x5)]) hx hb dX5_query_50 hl (by decide) rfl (fun ls hl => ?_)
  refine lv_aload_n hx hb dX5_query_52 rfl (lv_at hl 1 rfl) ?_
  refine pc_get (C := RX5) (T := TX5) (N := 13) (ci := 5) hx hb hts (by decide +kernel) hown hX.1 hW.1 5 0 hM.1 rfl rfl 3 (by decide) (hts (.fieldLink RX5 29 "DraftsmanOffice" "queries" "[LDraftsmanOffice$Query;") (by decide +kernel)) (fun _ h9 => h9) rfl dX5_query_53 ?_
  refine lv_iload hx hb dX5_query_56 (lv_at hl 0 rfl) ?_
  refine pc_new2 (ci := 0) (fs := [.int 0, .long 0, .int 0]) (C := RX0) (T := TX0) (N := 3) hx hb hts (by decide +kernel) tyX0 tyX0_ok hown (hts (.classLink RX5 27 RX0) (by decide +kernel)) (hts (.instantiable RX0 3) (by decide +kernel)) (hts (.initialized RX0) (by decide +kernel)) hX.1 hW hA 4 (c 3) (fun q => Nat.lt_irrefl _ (hN.2.2.2.1 _ q)) rfl (fun j hj => by rcases (show j = 0 ∨ j = 1 ∨ j = 2 by omega) with rfl | rfl | rfl <;> rfl) (Nat.le_of_ble_eq_true rfl) (Nat.le_of_ble_eq_true rfl) dX5_query_58 (fun q580 H hW => ?_)
  refine W.widen (k := 1) (n := 3) (Nat.le_of_ble_eq_true rfl) (Nat.le_of_ble_eq_true rfl) ?_
  refine lv_dup hx hb dX5_query_61 rfl ?_
  refine lv_iload_n hx hb dX5_query_62 rfl (lv_at hl 2 rfl) ?_
  refine lv_iload_n hx hb dX5_query_63 rfl (lv_at hl 3 rfl) ?_
  refine lv_iload_n hx hb dX5_query_64 rfl (lv_at hl 4 rfl) ?_
  refine lv_iload hx hb dX5_query_65 (lv_at hl 5 rfl) ?_
  refine lv_iload hx hb dX5_query_67 (lv_at hl 6 rfl) ?_
  refine pc_rcalll (va_runS (As := [.int x2, .int x3, .int x4, .int x5]) (rest := [.int x1, .ref ((pcV ad 4 (c 3) q580) 4 (c 3)), .ref ((pcV ad 4 (c 3) q580) 4 (c 3)), .int (nI (c 3)), .ref (ad 53 0)]) ⟨hx, hb, hml, hown, hts⟩ (r_X5_regionOf l D cA x2 x3 x4 x5 ) (va_cwS 4 hts gX5_query_X5_regionOf rfl rfl rfl (by decide +kernel) ⟨Nat.le_of_ble_eq_true rfl, Nat.le_of_ble_eq_true rfl⟩) (pc_preS pcN_ok hX trivial) rfl rfl hl.1 rfl (lv_room (Nat.le_of_ble_eq_true rfl)) dX5_query_69 ⟨Nat.le_of_ble_eq_true rfl, Nat.le_of_ble_eq_true rfl⟩) hW (fun r581 H locs hwr581 hW => ?_)
  replace hwr581 := hwr581.symm
  subst hwr581
  have hm9 : (4, (c 3)) ∈ (NL ++ [(4, (c 3))]) := (List.mem_append_right _ (List.mem_singleton.mpr rfl))
  have he9 : (pcU (ctO cA c v w u ad) 4 (c 3) (.inr (0, [.int 0, .long 0, .int 0]))) 4 (c 3) = .inr (0, [.int 0, .long 0, .int 0]) := pcU_self _ _ _ _
  refine va_callv (va_runIN (As := [.int x1, .long (F_X5_regionOf x2 x3 x4 x5)]) (rest := [.ref ((pcV ad 4 (c 3) q580) 4 (c 3)), .int (nI (c 3)), .ref (ad 53 0)]) ⟨hx, hb, hml, hown, hts⟩ (l_X0_init l D cA (va_A [((pcV ad 4 (c 3) q580) 4 (c 3), .inr (0, [.int 0, .long 0, .int 0]))] H.size) ((pcV ad 4 (c 3) q580) 4 (c 3)) x1 (F_X5_regionOf x2 x3 x4 x5)) ⟨va_cnB 2 hts gX5_query_X0_init_n231 rfl rfl rfl (hX.2.1 (.methodLinkNest RX5 231 yX0_init R_host) (by decide +kernel)) (hts (.initialized RX0) (by decide +kernel)) (by decide +kernel) ⟨Nat.le_of_ble_eq_true rfl, Nat.le_of_ble_eq_true rfl⟩, rfl, hts (.instanceMethod yX0_init) (by decide +kernel)⟩ (pc_preS pcN_ok hX ⟨pc_one hW.1 hm9 he9, va_D_one, fun q h => Or.inr h⟩) rfl rfl hl.1 rfl (lv_room (Nat.le_of_ble_eq_true rfl)) dX5_query_72 ⟨Nat.le_of_ble_eq_true rfl, Nat.le_of_ble_eq_true rfl⟩) hW.2.2 (fun q _ h => pc_oneF hW hA hm9 q h) (pc_oneF hW hA hm9) (fun _ t H1 locs ht hvm hw hB hz1 hk1 hS => ?_)
  obtain ⟨hP1, hD1⟩ := hB
  rw [ht] at hP1
  have hJ := pc_join1 hW hA _ _ hm9 hk1 hP1 hD1
  have hW := pcS_push0 hJ hS
  generalize H1 = H at hW ⊢
  have hW : pcS D vwCl A s.heap (NL ++ [(4, (c 3))]) (pcV ad 4 (c 3) q580) (ctO cA c (newV_4 v (c 3) x1 (F_X5_regionOf x2 x3 x4 x5)) (newW_4 w (c 3) (F_X5_regionOf x2 x3 x4 x5)) u (pcV ad 4 (c 3) q580)) H locs := pcS_eq (by rw [pcU_twice] at hW; exact hW) (ctO_new_4 rfl)
  refine W.widen (k := 1) (n := 3) (Nat.le_of_ble_eq_true rfl) (Nat.le_of_ble_eq_true rfl) ?_
  refine pc_aast hx hb hX.1 hW 53 0 6 4 (c 3) 0 ((MEM_app hM).2.1 53 (by decide) (by decide)) (by simp : (4, (c 3)) ∈ (NL ++ [(4, (c 3))])) rfl rfl rfl rfl (vp_in_nI hroom (by decide)) dX5_query_75 (fun H locs hW => ?_)
  rw [nI_clamp (Nat.lt_of_lt_of_le hroom (by decide))] at hW
  refine lv_aload_n hx hb dX5_query_76 rfl (lv_at hl 1 rfl) ?_
  refine lv_dup hx hb dX5_query_77 rfl ?_
  refine pc_get (C := RX5) (T := TX5) (N := 13) (ci := 5) hx hb hts (by decide +kernel) hown hX.1 hW.1 5 0 (MEM_app hM).1 rfl rfl 10 (by decide) (hts (.fieldLink RX5 58 "DraftsmanOffice" "queryCount" "I") (by decide +kernel)) (fun _ h9 => h9) rfl dX5_query_78 ?_
  refine lv_iconst (v := 1) hx hb dX5_query_81 (by decide) ?_
  refine lv_iadd hx hb dX5_query_82 ?_
  rw [nI_1]
  refine pc_put (v := .int (nI ((c 3) + 1))) (C := RX5) (T := TX5) (N := 13) (ci := 5) (ty := .int) hx hb hts (by decide +kernel) tyX5 tyX5_ok nmX5 hown hX.1 hW 5 0 (MEM_app hM).1 rfl rfl 10 (by decide) (hts (.fieldLink RX5 58 "DraftsmanOffice" "queryCount" "I") (by decide +kernel)) (fun _ h9 => h9) rfl (by decide +kernel) rfl rfl (Nat.le_of_ble_eq_true rfl) dX5_query_83 (fun H locs hW => ?_)
  have hW : pcS D vwCl A s.heap (NL ++ [(4, (c 3))]) (pcV ad 4 (c 3) q580) (ctO cA (uC c 3 (c 3 + 1)) (newV_4 v (c 3) x1 (F_X5_regionOf x2 x3 x4 x5)) (newW_4 w (c 3) (F_X5_regionOf x2 x3 x4 x5)) u (pcV ad 4 (c 3) q580)) H locs := pcS_eq hW ctO_add_4
  refine lv_aload_n hx hb dX5_query_86 rfl (lv_at hl 1 rfl) ?_
  have hD9 := hW.2.1
  refine pc_mcalli (va_runV (As := []) (rest := []) ⟨hx, hb, hml, hown, hts⟩ (m_X5_stopUnfit l D cA (NL ++ [(4, (c 3))]) (uC c 3 (c 3 + 1)) (newV_4 v (c 3) x1 (F_X5_regionOf x2 x3 x4 x5)) (newW_4 w (c 3) (F_X5_regionOf x2 x3 x4 x5)) u (pcV ad 4 (c 3) q580) A  (MEM_add_4 hM) (BND_3 hBd hroom) (WF_add_4 hF) ) (cwV 0 hts gX5_query_X5_stopUnfit rfl rfl rfl (by decide +kernel) ⟨Nat.le_of_ble_eq_true rfl, Nat.le_of_ble_eq_true rfl⟩) (pc_preV pcN_ok hX hW.1 (MEM_add_4 hM).1 rfl rfl ⟨hW.1, hW.2.1, fun q h => hA q (Nat.le_trans hW.2.2.1 h)⟩) rfl rfl hl.1 rfl (lv_room (Nat.le_of_ble_eq_true rfl)) dX5_query_87 ⟨Nat.le_of_ble_eq_true rfl, Nat.le_of_ble_eq_true rfl⟩) hW.2.2 (fun r582 _ H locs hwr582 hB hS9 => ?_)
  replace hwr582 := hwr582.symm
  subst hwr582
  have hW : pcS D vwCl A s.heap (NL ++ [(4, (c 3))]) (pcV ad 4 (c 3) q580) (ctO cA (uC c 3 (c 3 + 1)) (V_X5_stopUnfit (uC c 3 (c 3 + 1)) (newV_4 v (c 3) x1 (F_X5_regionOf x2 x3 x4 x5)) (newW_4 w (c 3) (F_X5_regionOf x2 x3 x4 x5))) (newW_4 w (c 3) (F_X5_regionOf x2 x3 x4 x5)) u (pcV ad 4 (c 3) q580)) H locs := ⟨hB, pcD_ct hD9, hS9⟩
  refine lv_pop hx hb dX5_query_90 rfl ?_
  refine lv_iload hx hb dX5_query_91 (lv_at hl 0 rfl) ?_
  refine W.widen (k := 1) (n := 3) (Nat.le_of_ble_eq_true rfl) (Nat.le_of_ble_eq_true rfl) ?_
  have e9v : V_X5_query c v w x1 x2 x3 x4 x5 = (V_X5_stopUnfit (uC c 3 (c 3 + 1)) (newV_4 v (c 3) x1 (F_X5_regionOf x2 x3 x4 x5)) (newW_4 w (c 3) (F_X5_regionOf x2 x3 x4 x5))) := rfl
  have e9w : W_X5_query c v w x1 x2 x3 x4 x5 = (newW_4 w (c 3) (F_X5_regionOf x2 x3 x4 x5)) := rfl
  exact W.iret (v := (nI (c 3))) hx hb hr (fun t ht hW9 => ⟨⟨(nI (c 3)), ((NL ++ [(4, (c 3))]), (pcV ad 4 (c 3) q580)), rfl, ⟨rfl, (MEM_add_4 hM), NMEM_add_4 hN, rfl⟩, ⟨(by show va_P D vwCl (pcW (NL ++ [(4, (c 3))]) (pcV ad 4 (c 3) q580) (ctO cA (uC c 3 (c 3 + 1)) (V_X5_query c v w x1 x2 x3 x4 x5) (W_X5_query c v w x1 x2 x3 x4 x5) u (pcV ad 4 (c 3) q580))) t.heap; rw [e9v]; rw [e9w]; rw [ht]; exact hW.1), (by show va_D A (pcW (NL ++ [(4, (c 3))]) (pcV ad 4 (c 3) q580) (ctO cA (uC c 3 (c 3 + 1)) (V_X5_query c v w x1 x2 x3 x4 x5) (W_X5_query c v w x1 x2 x3 x4 x5) u (pcV ad 4 (c 3) q580))); rw [e9v]; rw [e9w]; exact hW.2.1)⟩⟩, hW.2.2.F ht⟩) hW.2.2.2.2 dX5_query_93

def V_X5_pack (c : SC) (v : SV) (w : SW) (x1 x2 x3 : Int32) : SV := (newV_7 v (c 4) x1 x2 x3)
def W_X5_pack (c : SC) (v : SV) (w : SW) (x1 x2 x3 : Int32) : SW := (newW_7 w (c 4))

set_option maxHeartbeats 4000000 in
set_option maxRecDepth 100000 in
theorem k_X5_pack (l : Launch) (D : va_G) (cA : Nat → ClassId) (NL : List (Nat × Nat)) (c : SC) (v : SV) (w : SW) (u : Nat → Int32) (ad : Nat → Nat → Nat) (A : Nat → Prop) (x1 x2 x3 : Int32) (hM : MEM c NL) (hBd : BND c) (hF : WF c v) (hN : NMEM c NL) (hroom : c 4 < 8) (g1 : ¬ x1 < 0) (g2 : x1 < 4) (hset : ¬ F_X5_isSetOfSheets c v w x2 = 0) (g3 : ¬ x3 < 1) (g4 : x3 ≤ 9) : Met l yX5_pack wsX5_pack ({ frames := 2, cells := 1, slots := 6, locals := 43 }) (pcPre D vwCl (tyL cA) [.ref (ad 5 0), .int x1, .int x2, .int x3] (fun H => va_P D vwCl (pcW NL ad (ctO cA c v w u ad)) H ∧ va_D A (pcW NL ad (ctO cA c v w u ad)) ∧ ∀ q, H.size ≤ q → A q)) (va_Qi (fun (r : Int32) (z : List (Nat × Nat) × (Nat → Nat → Nat)) => r = nI (c 4) ∧ MEM (uC c 4 (c 4 + 1)) z.1 ∧ NMEM (uC c 4 (c 4 + 1)) z.1 ∧ z.2 5 0 = ad 5 0) (fun (z : List (Nat × Nat) × (Nat → Nat → Nat)) t => va_P D vwCl (pcW z.1 z.2 (ctO cA (uC c 4 (c 4 + 1)) (V_X5_pack c v w x1 x2 x3) (W_X5_pack c v w x1 x2 x3) u z.2)) t.heap ∧ va_D A (pcW z.1 z.2 (ctO cA (uC c 4 (c 4 + 1)) (V_X5_pack c v w x1 x2 x3) (W_X5_pack c v w x1 x2 x3) u z.2))) A) 1 6 A := by
  refine Met.ofW (cc := cX5_pack) (maxL := 5) (ret := (some .int)) (by decide) rfl ?_
  intro p e s m args below meth c0 s₁ B hml hv
  obtain ⟨rfl, hX, hP0, hD, hA⟩ := hv
  have hx := B.exec
  have hb := B.bytes
  have hr := B.returns
  have hts := atoms_spec (ws := wsX5_pack) B.pre
  have hown : s.vm.findClass RX5 = some m.cls := findClass_of_methodNamed B.named
  have hlocks := B.notSynchronized
  have hW : pcS D vwCl A s.heap NL ad (ctO cA c v w u ad) s.heap [] := ⟨hP0, hD, va_S.rf⟩
  have hl := lv_entry ([.ref (ad 5 0), .int x1, .int x2, .int x3]) (n := 5) (Nat.le_of_ble_eq_true rfl)
  rw [lg_entry_eq]
  generalize (lg_sl ([.ref (ad 5 0), .int x1, .int x2, .int x3]) ++ List.replicate (5 - (lg_sl ([.ref (ad 5 0), .int x1, .int x2, .int x3])).length) Slot.unset).toArray = ls at hl ⊢
  have hl : lv_has ls 5 [(0, .ref (ad 5 0)), (1, .int x1), (2, .int x2), (3, .int x3)] := hl
  refine lv_iload_n hx hb dX5_pack_0 rfl (lv_at hl 1 rfl) ?_
  refine pc_rcallv (va_runS (As := [.int x1]) (rest := []) ⟨hx, hb, hml, hown, hts⟩ (r_X5_requireCrew l D cA x1 g1 g2) (va_cwS 1 hts gX5_pack_X5_requireCrew rfl rfl rfl (by decide +kernel) ⟨Nat.le_of_ble_eq_true rfl, Nat.le_of_ble_eq_true rfl⟩) (pc_preS pcN_ok hX trivial) rfl rfl hl.1 rfl (lv_room (Nat.le_of_ble_eq_true rfl)) dX5_pack_1 ⟨Nat.le_of_ble_eq_true rfl, Nat.le_of_ble_eq_true rfl⟩) hW (fun H locs _ hW => ?_)
  refine lv_aload_n hx hb dX5_pack_4 rfl (lv_at hl 0 rfl) ?_
  refine lv_iload_n hx hb dX5_pack_5 rfl (lv_at hl 2 rfl) ?_
  refine pc_rcalli (va_runV (As := [.int x2]) (rest := []) ⟨hx, hb, hml, hown, hts⟩ (r_X5_isSetOfSheets l D cA NL c v w u ad x2 hM hBd hF ) (cwV 1 hts gX5_pack_X5_isSetOfSheets rfl rfl rfl (by decide +kernel) ⟨Nat.le_of_ble_eq_true rfl, Nat.le_of_ble_eq_true rfl⟩) (pc_preV pcN_ok hX hW.1 hM.1 rfl rfl hW.1) rfl rfl hl.1 rfl (lv_room (Nat.le_of_ble_eq_true rfl)) dX5_pack_6 ⟨Nat.le_of_ble_eq_true rfl, Nat.le_of_ble_eq_true rfl⟩) hW (fun r584 H locs hwr584 hW => ?_)
  replace hwr584 := hwr584.symm
  subst hwr584
  refine lv_if_eq (tgt := 23) hx hb dX5_pack_9 (by decide) (fun c585 => absurd c585 hset) (fun _ => ?_)
  refine lv_iload_n hx hb dX5_pack_12 rfl (lv_at hl 3 rfl) ?_
  refine lv_iconst (v := 1) hx hb dX5_pack_13 (by decide) ?_
  refine lv_icmp_lt (tgt := 23) hx hb dX5_pack_14 (by decide) (fun c586 => absurd c586 g3) (fun _ => ?_)
  refine lv_iload_n hx hb dX5_pack_17 rfl (lv_at hl 3 rfl) ?_
  refine lv_bipush (v := 9) hx hb dX5_pack_18 (by decide) ?_
  refine lv_icmp_le (tgt := 34) hx hb dX5_pack_20 (by decide) (fun _ => ?_) (fun c587 => absurd g4 c587)
  refine lv_aload_n hx hb dX5_pack_34 rfl (lv_at hl 0 rfl) ?_
  refine pc_get (C := RX5) (T := TX5) (N := 13) (ci := 5) hx hb hts (by decide +kernel) hown hX.1 hW.1 5 0 hM.1 rfl rfl 11 (by decide) (hts (.fieldLink RX5 61 "DraftsmanOffice" "packageCount" "I") (by decide +kernel)) (fun _ h9 => h9) rfl dX5_pack_35 ?_
  refine lv_bipush (v := 8) hx hb dX5_pack_38 (by decide) ?_
  refine lv_icmp_lt (tgt := 54) hx hb dX5_pack_40 (by decide) (fun _ => ?_) (fun c588 => absurd (nI_lt8 hroom) c588)
  refine lv_aload_n hx hb dX5_pack_54 rfl (lv_at hl 0 rfl) ?_
  refine pc_get (C := RX5) (T := TX5) (N := 13) (ci := 5) hx hb hts (by decide +kernel) hown hX.1 hW.1 5 0 hM.1 rfl rfl 11 (by decide) (hts (.fieldLink RX5 61 "DraftsmanOffice" "packageCount" "I") (by decide +kernel)) (fun _ h9 => h9) rfl dX5_pack_55 ?_
  refine lv_istore (lv' := [(4, .int (nI (c 4))), (0, .ref (ad 5 0)), (1, .int x1), (2, .int x2), (3, .int x3)]) hx hb dX5_pack_58 hl (by decide) rfl (fun ls hl => ?_)
  refine lv_aload_n hx hb dX5_pack_60 rfl (lv_at hl 1 rfl) ?_
  refine pc_get (C := RX5) (T := TX5) (N := 13) (ci := 5) hx hb hts (by decide +kernel) hown hX.1 hW.1 5 0 hM.1 rfl rfl 4 (by decide) (hts (.fieldLink RX5 35 "DraftsmanOffice" "packages" "[LDraftsmanOffice$WorkPackage;") (by decide +kernel)) (fun _ h9 => h9) rfl dX5_pack_61 ?_
  refine lv_iload hx hb dX5_pack_64 (lv_at hl 0 rfl) ?_
  refine pc_new2 (ci := 4) (fs := [.int 0, .int 0, .int 0, .long 0, .int 0, .int 0]) (C := RX4) (T := TX4) (N := 6) hx hb hts (by decide +kernel) tyX4 tyX4_ok hown (hts (.classLink RX5 33 RX4) (by decide +kernel)) (hts (.instantiable RX4 6) (by decide +kernel)) (hts (.initialized RX4) (by decide +kernel)) hX.1 hW hA 7 (c 4) (fun q => Nat.lt_irrefl _ (hN.2.2.2.2 _ q)) rfl (fun j hj => by rcases (show j = 0 ∨ j = 1 ∨ j = 2 ∨ j = 3 ∨ j = 4 ∨ j = 5 by omega) with rfl | rfl | rfl | rfl | rfl | rfl <;> rfl) (Nat.le_of_ble_eq_true rfl) (Nat.le_of_ble_eq_true rfl) dX5_pack_66 (fun q589 H hW => ?_)
  refine W.widen (k := 1) (n := 6) (Nat.le_of_ble_eq_true rfl) (Nat.le_of_ble_eq_true rfl) ?_
  refine lv_dup hx hb dX5_pack_69 rfl ?_
  refine lv_iload_n hx hb dX5_pack_70 rfl (lv_at hl 2 rfl) ?_
  refine lv_iload_n hx hb dX5_pack_71 rfl (lv_at hl 3 rfl) ?_
  refine lv_iload_n hx hb dX5_pack_72 rfl (lv_at hl 4 rfl) ?_
  have hm9 : (7, (c 4)) ∈ (NL ++ [(7, (c 4))]) := (List.mem_append_right _ (List.mem_singleton.mpr rfl))
  have he9 : (pcU (ctO cA c v w u ad) 7 (c 4) (.inr (4, [.int 0, .int 0, .int 0, .long 0, .int 0, .int 0]))) 7 (c 4) = .inr (4, [.int 0, .int 0, .int 0, .long 0, .int 0, .int 0]) := pcU_self _ _ _ _
  refine va_callv (va_runIN (As := [.int x1, .int x2, .int x3]) (rest := [.ref ((pcV ad 7 (c 4) q589) 7 (c 4)), .int (nI (c 4)), .ref (ad 54 0)]) ⟨hx, hb, hml, hown, hts⟩ (l_X4_init l D cA (va_A [((pcV ad 7 (c 4) q589) 7 (c 4), .inr (4, [.int 0, .int 0, .int 0, .long 0, .int 0, .int 0]))] H.size) ((pcV ad 7 (c 4) q589) 7 (c 4)) x1 x2 x3) ⟨va_cnB 3 hts gX5_pack_X4_init_n260 rfl rfl rfl (hX.2.1 (.methodLinkNest RX5 260 yX4_init R_host) (by decide +kernel)) (hts (.initialized RX4) (by decide +kernel)) (by decide +kernel) ⟨Nat.le_of_ble_eq_true rfl, Nat.le_of_ble_eq_true rfl⟩, rfl, hts (.instanceMethod yX4_init) (by decide +kernel)⟩ (pc_preS pcN_ok hX ⟨pc_one hW.1 hm9 he9, va_D_one, fun q h => Or.inr h⟩) rfl rfl hl.1 rfl (lv_room (Nat.le_of_ble_eq_true rfl)) dX5_pack_73 ⟨Nat.le_of_ble_eq_true rfl, Nat.le_of_ble_eq_true rfl⟩) hW.2.2 (fun q _ h => pc_oneF hW hA hm9 q h) (pc_oneF hW hA hm9) (fun _ t H1 locs ht hvm hw hB hz1 hk1 hS => ?_)
  obtain ⟨hP1, hD1⟩ := hB
  rw [ht] at hP1
  have hJ := pc_join1 hW hA _ _ hm9 hk1 hP1 hD1
  have hW := pcS_push0 hJ hS
  generalize H1 = H at hW ⊢
  have hW : pcS D vwCl A s.heap (NL ++ [(7, (c 4))]) (pcV ad 7 (c 4) q589) (ctO cA c (newV_7 v (c 4) x1 x2 x3) (newW_7 w (c 4)) u (pcV ad 7 (c 4) q589)) H locs := pcS_eq (by rw [pcU_twice] at hW; exact hW) (ctO_new_7 rfl)
  refine W.widen (k := 1) (n := 6) (Nat.le_of_ble_eq_true rfl) (Nat.le_of_ble_eq_true rfl) ?_
  refine pc_aast hx hb hX.1 hW 54 0 7 7 (c 4) 4 ((MEM_app hM).2.1 54 (by decide) (by decide)) (by simp : (7, (c 4)) ∈ (NL ++ [(7, (c 4))])) rfl rfl rfl rfl (vp_in_nI hroom (by decide)) dX5_pack_76 (fun H locs hW => ?_)
  rw [nI_clamp (Nat.lt_of_lt_of_le hroom (by decide))] at hW
  refine lv_aload_n hx hb dX5_pack_77 rfl (lv_at hl 1 rfl) ?_
  refine lv_dup hx hb dX5_pack_78 rfl ?_
  refine pc_get (C := RX5) (T := TX5) (N := 13) (ci := 5) hx hb hts (by decide +kernel) hown hX.1 hW.1 5 0 (MEM_app hM).1 rfl rfl 11 (by decide) (hts (.fieldLink RX5 61 "DraftsmanOffice" "packageCount" "I") (by decide +kernel)) (fun _ h9 => h9) rfl dX5_pack_79 ?_
  refine lv_iconst (v := 1) hx hb dX5_pack_82 (by decide) ?_
  refine lv_iadd hx hb dX5_pack_83 ?_
  rw [nI_1]
  refine pc_put (v := .int (nI ((c 4) + 1))) (C := RX5) (T := TX5) (N := 13) (ci := 5) (ty := .int) hx hb hts (by decide +kernel) tyX5 tyX5_ok nmX5 hown hX.1 hW 5 0 (MEM_app hM).1 rfl rfl 11 (by decide) (hts (.fieldLink RX5 61 "DraftsmanOffice" "packageCount" "I") (by decide +kernel)) (fun _ h9 => h9) rfl (by decide +kernel) rfl rfl (Nat.le_of_ble_eq_true rfl) dX5_pack_84 (fun H locs hW => ?_)
  have hW : pcS D vwCl A s.heap (NL ++ [(7, (c 4))]) (pcV ad 7 (c 4) q589) (ctO cA (uC c 4 (c 4 + 1)) (newV_7 v (c 4) x1 x2 x3) (newW_7 w (c 4)) u (pcV ad 7 (c 4) q589)) H locs := pcS_eq hW ctO_add_7
  refine lv_iload hx hb dX5_pack_87 (lv_at hl 0 rfl) ?_
  refine W.widen (k := 1) (n := 6) (Nat.le_of_ble_eq_true rfl) (Nat.le_of_ble_eq_true rfl) ?_
  have e9v : V_X5_pack c v w x1 x2 x3 = (newV_7 v (c 4) x1 x2 x3) := rfl
  have e9w : W_X5_pack c v w x1 x2 x3 = (newW_7 w (c 4)) := rfl
  exact W.iret (v := (nI (c 4))) hx hb hr (fun t ht hW9 => ⟨⟨(nI (c 4)), ((NL ++ [(7, (c 4))]), (pcV ad 7 (c 4) q589)), rfl, ⟨rfl, (MEM_add_7 hM), NMEM_add_7 hN, rfl⟩, ⟨(by show va_P D vwCl (pcW (NL ++ [(7, (c 4))]) (pcV ad 7 (c 4) q589) (ctO cA (uC c 4 (c 4 + 1)) (V_X5_pack c v w x1 x2 x3) (W_X5_pack c v w x1 x2 x3) u (pcV ad 7 (c 4) q589))) t.heap; rw [e9v]; rw [e9w]; rw [ht]; exact hW.1), (by show va_D A (pcW (NL ++ [(7, (c 4))]) (pcV ad 7 (c 4) q589) (ctO cA (uC c 4 (c 4 + 1)) (V_X5_pack c v w x1 x2 x3) (W_X5_pack c v w x1 x2 x3) u (pcV ad 7 (c 4) q589))); rw [e9v]; rw [e9w]; exact hW.2.1)⟩⟩, hW.2.2.F ht⟩) hW.2.2.2.2 dX5_pack_89

