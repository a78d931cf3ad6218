theorem pcS_row {D : va_G} {cl : List vw_C} {A : Nat → Prop} {H0 H : Heap} {locs : List Loc} {NL : List (Nat × Nat)} {cA : Nat → ClassId} {c : SC} {v : SV} {w : SW} {u u2 : Nat → Int32} {ad : Nat → Nat → Nat} (hW : pcS D cl A H0 NL ad (ctO cA c v w u ad) H locs) (h : ∀ j, j < 10 → u j = u2 j) : pcS D cl A H0 NL ad (ctO cA c v w u2 ad) H locs := by
  refine ⟨pcP_of (fun k i hm => ?_), pcD_ct hW.2.1, hW.2.2⟩
  have h1 := pcP_at hW.1 hm
  by_cases e : k = 56 ∧ i = 0
  · obtain ⟨rfl, rfl⟩ := e
    show H[ad 56 0]? = some (arrV (cA 0) 10 (fun j => .int (u2 j)))
    have h2 : H[ad 56 0]? = some (arrV (cA 0) 10 (fun j => .int (u j))) := h1
    rw [h2]
    unfold arrV
    congr 3
    funext j
    exact congrArg Value.int (h j.val j.isLt)
  · have e2 : ctO cA c v w u2 ad k i = ctO cA c v w u ad k i := by
      by_cases h56 : k = 56
      · subst h56
        rw [ctO_56, ctO_56, if_neg (fun q => e ⟨rfl, q⟩), if_neg (fun q => e ⟨rfl, q⟩)]
      · simp only [ctO, if_neg h56]
    rw [e2]
    exact h1
theorem cpy_row {f g : Nat → Int32} {j : Nat} (h : j < 10) : va_cpy f g (0 : Int32).toNatClampNeg (0 : Int32).toNatClampNeg (10 : Int32).toNatClampNeg j = f j := by
  have e0 : (0 : Int32).toNatClampNeg = 0 := by decide
  have e1 : (10 : Int32).toNatClampNeg = 10 := by decide
  rw [e0, e1]
  unfold va_cpy
  rw [if_pos (by omega)]
  congr 1
  omega
theorem last_exit {x : Int32} (h : ¬ x < 0) (h6 : x.toNatClampNeg < 6) : x < nI (x.toNatClampNeg + 1) := by
  obtain ⟨j, hj, rfl⟩ := nI_of h
  rw [nI_clamp hj] at h6 ⊢
  exact nI_lt (Nat.lt_succ_self j) (by omega)
theorem last_step {x : Int32} {r : Nat} (h : ¬ x < 0) (h6 : x.toNatClampNeg < 6) (hr : r < x.toNatClampNeg + 1) : ¬ x < nI r := by
  obtain ⟨j, hj, rfl⟩ := nI_of h
  rw [nI_clamp hj] at h6 hr
  exact Int32.not_lt.mpr (nI_le (by omega) (by omega))
theorem last_le {x : Int32} {r : Nat} (h : ¬ x < 0) (h6 : x.toNatClampNeg < 6) (hr : r < x.toNatClampNeg + 1) : nI r ≤ x := Int32.not_lt.mp (last_step h h6 hr)

def UL_X5_freedByAll (c : SC) (v : SV) (w : SW)  (x1 : Int32) : Nat → Nat → (Nat → Int32) → (Nat → Int32)
  | 0, _, Us419 => Us419
  | k416 + 1, i415, Us419 => UL_X5_freedByAll c v w x1 k416 (i415 + 1) (if (F_X5_isIn (v 3 i415 1) x1) = 0 then Us419 else (U_X5_takeLater_row c v w Us419 i415))
def FL2_X5_freedByAll (c : SC) (v : SV) (w : SW)  (x1 : Int32) : Nat → Nat → Int32 → Int32
  | 0, _, s423 => s423
  | k422 + 1, i421, s423 => FL2_X5_freedByAll c v w x1 k422 (i421 + 1) (if (v 7 i421 0) = x1 then (if (F_X4_isAtRest c v w i421) = 0 then s423 else (if (F_X5_firstUnfit c v w i421 (UL_X5_freedByAll c v w x1 (c 2) 0 (v 57 x1.toNatClampNeg))) = (-1 : Int32) then (s423 + 1) else s423)) else s423)
def F_X5_freedByAll (c : SC) (v : SV) (w : SW) (x1 : Int32) : Int32 := (FL2_X5_freedByAll c v w x1 (c 4) 0 (0 : Int32))
def U_X5_freedByAll (c : SC) (v : SV) (w : SW) (x1 : Int32) : (Nat → Int32) := (UL_X5_freedByAll c v w x1 (c 2) 0 (v 57 x1.toNatClampNeg))

set_option maxHeartbeats 4000000 in
set_option maxRecDepth 100000 in
theorem m_X5_freedByAll (l : Launch) (D : va_G) (cA : Nat → ClassId) (NL : List (Nat × Nat)) (c : SC) (v : SV) (w : SW) (u : Nat → Int32) (ad : Nat → Nat → Nat) (A : Nat → Prop) (x1 : Int32) (hM : MEM c NL) (hBd : BND c) (hF : WF c v) (g1 : ¬ x1 < 0) (g2 : x1 < 4) : Met l yX5_freedByAll wsX5_freedByAll ({ frames := 5, cells := 0, slots := 0, locals := 118 }) (pcPre D vwCl (tyL cA) [.ref (ad 5 0), .int x1] (fun H => va_P D vwCl (pcW NL ad (ctO cA c v w u ad)) H ∧ va_D A (pcW NL ad (ctO cA c v w u ad)) ∧ ∀ q, H.size ≤ q → A q)) (va_Qi (fun (r : Int32) (_ : Unit) => r = F_X5_freedByAll c v w x1) (fun (_ : Unit) t => va_P D vwCl (pcW NL ad (ctO cA c v w (U_X5_freedByAll c v w x1) ad)) t.heap) A) 0 0 A := by
  refine Met.ofW (cc := cX5_freedByAll) (maxL := 5) (ret := (some .int)) (by decide) rfl ?_
  intro p e s m args below meth c0 s₁ B hml hv
  obtain ⟨rfl, hX, hP0, hD, hA⟩ := hv
  have hx := B.exec
  have hb := B.bytes
  have hr := B.returns
  have hts := atoms_spec (ws := wsX5_freedByAll) B.pre
  have hown : s.vm.findClass RX5 = some m.cls := findClass_of_methodNamed B.named
  have hlocks := B.notSynchronized
  have hW : pcS D vwCl A s.heap NL ad (ctO cA c v w u ad) s.heap [] := ⟨hP0, hD, va_S.rf⟩
  have hl := lv_entry ([.ref (ad 5 0), .int x1]) (n := 5) (Nat.le_of_ble_eq_true rfl)
  rw [lg_entry_eq]
  generalize (lg_sl ([.ref (ad 5 0), .int x1]) ++ List.replicate (5 - (lg_sl ([.ref (ad 5 0), .int x1])).length) Slot.unset).toArray = ls at hl ⊢
  have hl : lv_has ls 5 [(0, .ref (ad 5 0)), (1, .int x1)] := hl
  refine lv_iload_n hx hb dX5_freedByAll_0 rfl (lv_at hl 1 rfl) ?_
  refine pc_rcallv (va_runS (As := [.int x1]) (rest := []) ⟨hx, hb, hml, hown, hts⟩ (r_X5_requireCrew l D cA x1 g1 g2) (va_cwS 1 hts gX5_freedByAll_X5_requireCrew rfl rfl rfl (by decide +kernel) ⟨Nat.le_of_ble_eq_true rfl, Nat.le_of_ble_eq_true rfl⟩) (pc_preS pcN_ok hX trivial) rfl rfl hl.1 rfl (lv_room (Nat.le_of_ble_eq_true rfl)) dX5_freedByAll_1 ⟨Nat.le_of_ble_eq_true rfl, Nat.le_of_ble_eq_true rfl⟩) hW (fun H locs _ hW => ?_)
  refine lv_aload_n hx hb dX5_freedByAll_4 rfl (lv_at hl 0 rfl) ?_
  refine pc_get (C := RX5) (T := TX5) (N := 13) (ci := 5) hx hb hts (by decide +kernel) hown hX.1 hW.1 5 0 hM.1 rfl rfl 5 (by decide) (hts (.fieldLink RX5 41 "DraftsmanOffice" "crewHas" "[[I") (by decide +kernel)) (fun _ h9 => h9) rfl dX5_freedByAll_5 ?_
  refine lv_iload_n hx hb dX5_freedByAll_8 rfl (lv_at hl 1 rfl) ?_
  refine pc_aald (r := .ref (ad 57 x1.toNatClampNeg)) hx hb hX.1 hW.1 55 0 2 (hM.2.1 55 (by decide) (by decide)) rfl rfl rfl (fun q => q.elim g1 (fun q => absurd (by have h4 := Int32.lt_iff_toInt_lt.mp g2; obtain ⟨j, hj, rfl⟩ := nI_of g1; rw [nI_clamp hj]; rw [nI_toInt hj] at h4; have h5 : (4 : Int32).toInt = 4 := (by decide); omega) (Nat.not_lt.mpr q))) (by rw [sRf_in (by have h4 := Int32.lt_iff_toInt_lt.mp g2; obtain ⟨j, hj, rfl⟩ := nI_of g1; rw [nI_clamp hj]; rw [nI_toInt hj] at h4; have h5 : (4 : Int32).toInt = 4 := (by decide); omega)]; rfl) dX5_freedByAll_9 ?_
  refine lv_iconst (v := 0) hx hb dX5_freedByAll_10 (by decide) ?_
  refine lv_aload_n hx hb dX5_freedByAll_11 rfl (lv_at hl 0 rfl) ?_
  refine pc_get (C := RX5) (T := TX5) (N := 13) (ci := 5) hx hb hts (by decide +kernel) hown hX.1 hW.1 5 0 hM.1 rfl rfl 6 (by decide) (hts (.fieldLink RX5 44 "DraftsmanOffice" "wouldHave" "[I") (by decide +kernel)) (fun _ h9 => h9) rfl dX5_freedByAll_12 ?_
  refine lv_iconst (v := 0) hx hb dX5_freedByAll_15 (by decide) ?_
  refine lv_bipush (v := 10) hx hb dX5_freedByAll_16 (by decide) ?_
  refine pc_copyi (f := (v 57 x1.toNatClampNeg)) (g := u) hx hb (hml.trans hl.1.symm) hown (hts (.methodLink RX5 328 arraycopyName) (by decide +kernel)) (hts (.native arraycopyName) (by decide +kernel)) (hts (.static arraycopyName) (by decide +kernel)) (hts (.initialized "java/lang/System") (by decide +kernel)) hX.1 hW 57 x1.toNatClampNeg 56 0 0 (hM.2.2.1 x1.toNatClampNeg (by have h4 := Int32.lt_iff_toInt_lt.mp g2; obtain ⟨j, hj, rfl⟩ := nI_of g1; rw [nI_clamp hj]; rw [nI_toInt hj] at h4; have h5 : (4 : Int32).toInt = 4 := (by decide); omega)) (hM.2.1 56 (by decide) (by decide)) rfl rfl rfl rfl (by decide) (by decide) (by decide) (Nat.le_of_ble_eq_true rfl) (Nat.le_of_ble_eq_true rfl) (fun _ _ => rfl) (Nat.le_of_ble_eq_true rfl) (Nat.le_of_ble_eq_true rfl) dX5_freedByAll_18 (fun H locs hW => ?_)
  have hW : pcS D vwCl A s.heap NL ad (ctO cA c v w (v 57 x1.toNatClampNeg) ad) H locs := pcS_row (pcS_eq hW ctO_row) (fun j hj => cpy_row hj)
  refine lv_iconst (v := 0) hx hb dX5_freedByAll_21 (by decide) ?_
  refine lv_istore_n (lv' := [(2, .int 0), (0, .ref (ad 5 0)), (1, .int x1)]) hx hb dX5_freedByAll_22 rfl hl (by decide) rfl (fun ls hl => ?_)
  have K418 : ∀ (k416 i415 : Nat) (Us419 : (Nat → Int32)) (H : Heap) (locs : List Loc) (ls : Array Slot), i415 + k416 = c 2 → (UL_X5_freedByAll c v w x1 k416 i415 Us419) = (UL_X5_freedByAll c v w x1 (c 2) 0 (v 57 x1.toNatClampNeg)) → pcS D vwCl A s.heap NL ad (ctO cA c v w Us419 ad) H locs → lv_has ls 5 [(2, .int (nI i415)), (0, .ref (ad 5 0)), (1, .int x1)] → W p l e (headSpec wsX5_freedByAll ({ frames := 5, cells := 0, slots := 0, locals := 118 })).room s m ([.ref (ad 5 0), .int x1] : List Value).toArray below meth c0 H locs 0 0 (MQ below (va_Qi (fun (r : Int32) (_ : Unit) => r = F_X5_freedByAll c v w x1) (fun (_ : Unit) t => va_P D vwCl (pcW NL ad (ctO cA c v w (U_X5_freedByAll c v w x1) ad)) t.heap) A) ([.ref (ad 5 0), .int x1] : List Value).toArray s 0 0 A) (F0 m 23 ls []) := by
    intro k416
    induction k416 with
    | zero =>
      intro i415 Us419 H locs ls hk heU hW hl
      have ei : i415 = c 2 := by omega
      rw [ei] at hl
      obtain rfl : (UL_X5_freedByAll c v w x1 (c 2) 0 (v 57 x1.toNatClampNeg)) = Us419 := heU.symm
      clear heU
      refine lv_iload_n hx hb dX5_freedByAll_23 rfl (lv_at hl 0 rfl) ?_
      refine lv_aload_n hx hb dX5_freedByAll_24 rfl (lv_at hl 1 rfl) ?_
      refine pc_get (C := RX5) (T := TX5) (N := 13) (ci := 5) hx hb hts (by decide +kernel) hown hX.1 hW.1 5 0 hM.1 rfl rfl 9 (by decide) (hts (.fieldLink RX5 55 "DraftsmanOffice" "sendingCount" "I") (by decide +kernel)) (fun _ h9 => h9) rfl dX5_freedByAll_25 ?_
      refine lv_icmp_ge (tgt := 67) hx hb dX5_freedByAll_28 (by decide) (fun _ => ?_) (fun c420 => absurd (Int32.le_refl _) c420)
      refine lv_iconst (v := 0) hx hb dX5_freedByAll_67 (by decide) ?_
      refine lv_istore_n (lv' := [(2, .int 0), (0, .ref (ad 5 0)), (1, .int x1)]) hx hb dX5_freedByAll_68 rfl hl (by decide) rfl (fun ls hl => ?_)
      refine lv_iconst (v := 0) hx hb dX5_freedByAll_69 (by decide) ?_
      refine lv_istore_n (lv' := [(3, .int 0), (2, .int 0), (0, .ref (ad 5 0)), (1, .int x1)]) hx hb dX5_freedByAll_70 rfl hl (by decide) rfl (fun ls hl => ?_)
      have K424 : ∀ (k422 i421 : Nat) (s423 : Int32) (H : Heap) (locs : List Loc) (ls : Array Slot), i421 + k422 = c 4 → (FL2_X5_freedByAll c v w x1 k422 i421 s423) = (FL2_X5_freedByAll c v w x1 (c 4) 0 (0 : Int32)) → pcS D vwCl A s.heap NL ad (ctO cA c v w (UL_X5_freedByAll c v w x1 (c 2) 0 (v 57 x1.toNatClampNeg)) ad) H locs → lv_has ls 5 [(3, .int (nI i421)), (2, .int s423), (0, .ref (ad 5 0)), (1, .int x1)] → W p l e (headSpec wsX5_freedByAll ({ frames := 5, cells := 0, slots := 0, locals := 118 })).room s m ([.ref (ad 5 0), .int x1] : List Value).toArray below meth c0 H locs 0 0 (MQ below (va_Qi (fun (r : Int32) (_ : Unit) => r = F_X5_freedByAll c v w x1) (fun (_ : Unit) t => va_P D vwCl (pcW NL ad (ctO cA c v w (U_X5_freedByAll c v w x1) ad)) t.heap) A) ([.ref (ad 5 0), .int x1] : List Value).toArray s 0 0 A) (F0 m 71 ls []) := by
        intro k422
        induction k422 with
        | zero =>
          intro i421 s423 H locs ls hk heF hW hl
          have ei : i421 = c 4 := by omega
          rw [ei] at hl
          obtain rfl : (FL2_X5_freedByAll c v w x1 (c 4) 0 (0 : Int32)) = s423 := heF.symm
          clear heF
          refine lv_iload_n hx hb dX5_freedByAll_71 rfl (lv_at hl 0 rfl) ?_
          refine lv_aload_n hx hb dX5_freedByAll_72 rfl (lv_at hl 2 rfl) ?_
          refine pc_get (C := RX5) (T := TX5) (N := 13) (ci := 5) hx hb hts (by decide +kernel) hown hX.1 hW.1 5 0 hM.1 rfl rfl 11 (by decide) (hts (.fieldLink RX5 61 "DraftsmanOffice" "packageCount" "I") (by decide +kernel)) (fun _ h9 => h9) rfl dX5_freedByAll_73 ?_
          refine lv_icmp_ge (tgt := 127) hx hb dX5_freedByAll_76 (by decide) (fun _ => ?_) (fun c425 => absurd (Int32.le_refl _) c425)
          refine lv_iload_n hx hb dX5_freedByAll_127 rfl (lv_at hl 1 rfl) ?_
          have e9u : U_X5_freedByAll c v w x1 = (UL_X5_freedByAll c v w x1 (c 2) 0 (v 57 x1.toNatClampNeg)) := rfl
          exact W.iret (v := (FL2_X5_freedByAll c v w x1 (c 4) 0 (0 : Int32))) hx hb hr (fun t ht hW9 => ⟨⟨(FL2_X5_freedByAll c v w x1 (c 4) 0 (0 : Int32)), (), rfl, rfl, (by show va_P D vwCl (pcW NL ad (ctO cA c v w (U_X5_freedByAll c v w x1) ad)) t.heap; rw [e9u]; rw [ht]; exact hW.1)⟩, hW.2.2.F ht⟩) hW.2.2.2.2 dX5_freedByAll_128
        | succ k422 ihk422 =>
          intro i421 s423 H locs ls hk heF hW hl
          have hlt : i421 < c 4 := by omega
          have hlt9i421 := hlt
          refine lv_iload_n hx hb dX5_freedByAll_71 rfl (lv_at hl 0 rfl) ?_
          refine lv_aload_n hx hb dX5_freedByAll_72 rfl (lv_at hl 2 rfl) ?_
          refine pc_get (C := RX5) (T := TX5) (N := 13) (ci := 5) hx hb hts (by decide +kernel) hown hX.1 hW.1 5 0 hM.1 rfl rfl 11 (by decide) (hts (.fieldLink RX5 61 "DraftsmanOffice" "packageCount" "I") (by decide +kernel)) (fun _ h9 => h9) rfl dX5_freedByAll_73 ?_
          refine lv_icmp_ge (tgt := 127) hx hb dX5_freedByAll_76 (by decide) (fun c426 => absurd c426 (nI_ge hlt (Nat.lt_of_le_of_lt hBd.2.2.2.2 (by decide)))) (fun _ => ?_)
          refine lv_aload_n hx hb dX5_freedByAll_79 rfl (lv_at hl 2 rfl) ?_
          refine pc_get (C := RX5) (T := TX5) (N := 13) (ci := 5) hx hb hts (by decide +kernel) hown hX.1 hW.1 5 0 hM.1 rfl rfl 4 (by decide) (hts (.fieldLink RX5 35 "DraftsmanOffice" "packages" "[LDraftsmanOffice$WorkPackage;") (by decide +kernel)) (fun _ h9 => h9) rfl dX5_freedByAll_80 ?_
          refine lv_iload_n hx hb dX5_freedByAll_83 rfl (lv_at hl 0 rfl) ?_
          refine pc_aald (r := .ref (ad 7 i421)) hx hb hX.1 hW.1 54 0 7 (hM.2.1 54 (by decide) (by decide)) rfl rfl rfl (vp_in_nI (Nat.lt_of_lt_of_le hlt9i421 hBd.2.2.2.2) (by decide)) (by rw [nI_clamp (Nat.lt_of_lt_of_le (Nat.lt_of_lt_of_le hlt9i421 hBd.2.2.2.2) (by decide)), sRf_in hlt9i421]; rfl) dX5_freedByAll_84 ?_
          refine lv_astore (lv' := [(4, .ref (ad 7 i421)), (3, .int (nI i421)), (2, .int s423), (0, .ref (ad 5 0)), (1, .int x1)]) hx hb dX5_freedByAll_85 hl (by decide) rfl (fun ls hl => ?_)
          refine lv_aload hx hb dX5_freedByAll_87 (lv_at hl 0 rfl) ?_
          refine pc_getN (C := RX4) (T := TX4) (N := 6) (ci := 4) hx hb hts (by decide +kernel) hown hX.1 hW.1 7 i421 (hM.2.2.2.2.2.2.2 i421 hlt9i421) rfl rfl 0 (by decide) (hX.2.1 (.fieldLinkNest RX5 274 "DraftsmanOffice$WorkPackage" "crew" "I" R_host) (by decide +kernel)) (fun _ h9 => h9) rfl dX5_freedByAll_89 ?_
          refine lv_iload_n hx hb dX5_freedByAll_92 rfl (lv_at hl 4 rfl) ?_
          refine lv_icmp_ne (tgt := 121) hx hb dX5_freedByAll_93 (by decide) (fun (c427 : ¬ (v 7 i421 0) = x1) => ?_) (fun (c427 : (v 7 i421 0) = x1) => ?_)
          · refine lv_iinc (v := nI (i421 + 1)) (lv' := [(3, .int (nI (i421 + 1))), (4, .ref (ad 7 i421)), (2, .int s423), (0, .ref (ad 5 0)), (1, .int x1)]) hx hb dX5_freedByAll_121 hl (k := 1) rfl (nI_1 i421) (by decide) rfl (fun ls hl => ?_)
            refine lv_goto (tgt := 71) hx hb dX5_freedByAll_124 (by decide) ?_
            have he9F : (FL2_X5_freedByAll c v w x1 k422 (i421 + 1) s423) = (FL2_X5_freedByAll c v w x1 (c 4) 0 (0 : Int32)) := by rw [← heF]; show (FL2_X5_freedByAll c v w x1 k422 (i421 + 1) s423) = (FL2_X5_freedByAll c v w x1 (k422 + 1) i421 s423); simp only [FL2_X5_freedByAll, if_neg c427]
            exact ihk422 (i421 + 1)  s423 H locs ls (by omega) he9F hW (lv_sub hl [0, 2, 3, 4] rfl)
          · refine lv_aload hx hb dX5_freedByAll_96 (lv_at hl 0 rfl) ?_
            refine pc_rcalli (va_runVN (As := []) (rest := []) ⟨hx, hb, hml, hown, hts⟩ (r_X4_isAtRest l D cA NL c v w (UL_X5_freedByAll c v w x1 (c 2) 0 (v 57 x1.toNatClampNeg)) ad i421 hM hBd hlt9i421) ⟨va_cnB 0 hts gX5_freedByAll_X4_isAtRest_n270 rfl rfl rfl (hX.2.1 (.methodLinkNest RX5 270 yX4_isAtRest R_host) (by decide +kernel)) (hts (.initialized RX4) (by decide +kernel)) (by decide +kernel) ⟨Nat.le_of_ble_eq_true rfl, Nat.le_of_ble_eq_true rfl⟩, hts (.instanceMethod yX4_isAtRest) (by decide +kernel), hts (.selects RX4 yX4_isAtRest yX4_isAtRest) (by decide +kernel)⟩ (pc_preV pcN_ok hX hW.1 (hM.2.2.2.2.2.2.2 i421 hlt9i421) rfl rfl hW.1) rfl rfl hl.1 rfl (lv_room (Nat.le_of_ble_eq_true rfl)) dX5_freedByAll_98 ⟨Nat.le_of_ble_eq_true rfl, Nat.le_of_ble_eq_true rfl⟩) hW (fun r428 H locs hwr428 hW => ?_)
            replace hwr428 := hwr428.symm
            subst hwr428
            refine lv_if_eq (tgt := 121) hx hb dX5_freedByAll_101 (by decide) (fun (c429 : (F_X4_isAtRest c v w i421) = 0) => ?_) (fun (c429 : ¬ (F_X4_isAtRest c v w i421) = 0) => ?_)
            · refine lv_iinc (v := nI (i421 + 1)) (lv' := [(3, .int (nI (i421 + 1))), (4, .ref (ad 7 i421)), (2, .int s423), (0, .ref (ad 5 0)), (1, .int x1)]) hx hb dX5_freedByAll_121 hl (k := 1) rfl (nI_1 i421) (by decide) rfl (fun ls hl => ?_)
              refine lv_goto (tgt := 71) hx hb dX5_freedByAll_124 (by decide) ?_
              have he9F : (FL2_X5_freedByAll c v w x1 k422 (i421 + 1) s423) = (FL2_X5_freedByAll c v w x1 (c 4) 0 (0 : Int32)) := by rw [← heF]; show (FL2_X5_freedByAll c v w x1 k422 (i421 + 1) s423) = (FL2_X5_freedByAll c v w x1 (k422 + 1) i421 s423); simp only [FL2_X5_freedByAll, if_pos c427, if_pos c429]
              exact ihk422 (i421 + 1)  s423 H locs ls (by omega) he9F hW (lv_sub hl [0, 2, 3, 4] rfl)
            · refine lv_aload_n hx hb dX5_freedByAll_104 rfl (lv_at hl 3 rfl) ?_
              refine lv_aload hx hb dX5_freedByAll_105 (lv_at hl 0 rfl) ?_
              refine lv_aload_n hx hb dX5_freedByAll_107 rfl (lv_at hl 3 rfl) ?_
              refine pc_get (C := RX5) (T := TX5) (N := 13) (ci := 5) hx hb hts (by decide +kernel) hown hX.1 hW.1 5 0 hM.1 rfl rfl 6 (by decide) (hts (.fieldLink RX5 44 "DraftsmanOffice" "wouldHave" "[I") (by decide +kernel)) (fun _ h9 => h9) rfl dX5_freedByAll_108 ?_
              refine pc_rcalli (va_runV (As := [.ref (ad 7 i421), .ref (ad 56 0)]) (rest := []) ⟨hx, hb, hml, hown, hts⟩ (r_X5_firstUnfit l D cA NL c v w (UL_X5_freedByAll c v w x1 (c 2) 0 (v 57 x1.toNatClampNeg)) ad i421 56 0 (UL_X5_freedByAll c v w x1 (c 2) 0 (v 57 x1.toNatClampNeg)) hM hBd hF hlt9i421 (hM.2.1 56 (by decide) (by decide)) rfl) (cwV 2 hts gX5_freedByAll_X5_firstUnfit rfl rfl rfl (by decide +kernel) ⟨Nat.le_of_ble_eq_true rfl, Nat.le_of_ble_eq_true rfl⟩) (pc_preV pcN_ok hX hW.1 hM.1 rfl rfl hW.1) rfl rfl hl.1 rfl (lv_room (Nat.le_of_ble_eq_true rfl)) dX5_freedByAll_111 ⟨Nat.le_of_ble_eq_true rfl, Nat.le_of_ble_eq_true rfl⟩) hW (fun r430 H locs hwr430 hW => ?_)
              replace hwr430 := hwr430.symm
              subst hwr430
              refine lv_iconst (v := -1) hx hb dX5_freedByAll_114 (by decide) ?_
              refine lv_icmp_ne (tgt := 121) hx hb dX5_freedByAll_115 (by decide) (fun (c431 : ¬ (F_X5_firstUnfit c v w i421 (UL_X5_freedByAll c v w x1 (c 2) 0 (v 57 x1.toNatClampNeg))) = (-1 : Int32)) => ?_) (fun (c431 : (F_X5_firstUnfit c v w i421 (UL_X5_freedByAll c v w x1 (c 2) 0 (v 57 x1.toNatClampNeg))) = (-1 : Int32)) => ?_)
              · refine lv_iinc (v := nI (i421 + 1)) (lv' := [(3, .int (nI (i421 + 1))), (4, .ref (ad 7 i421)), (2, .int s423), (0, .ref (ad 5 0)), (1, .int x1)]) hx hb dX5_freedByAll_121 hl (k := 1) rfl (nI_1 i421) (by decide) rfl (fun ls hl => ?_)
                refine lv_goto (tgt := 71) hx hb dX5_freedByAll_124 (by decide) ?_
                have he9F : (FL2_X5_freedByAll c v w x1 k422 (i421 + 1) s423) = (FL2_X5_freedByAll c v w x1 (c 4) 0 (0 : Int32)) := by rw [← heF]; show (FL2_X5_freedByAll c v w x1 k422 (i421 + 1) s423) = (FL2_X5_freedByAll c v w x1 (k422 + 1) i421 s423); simp only [FL2_X5_freedByAll, if_pos c427, if_neg c429, if_neg c431]
                exact ihk422 (i421 + 1)  s423 H locs ls (by omega) he9F hW (lv_sub hl [0, 2, 3, 4] rfl)
              · refine lv_iinc (v := (s423 + 1)) (lv' := [(2, .int (s423 + 1)), (4, .ref (ad 7 i421)), (3, .int (nI i421)), (0, .ref (ad 5 0)), (1, .int x1)]) hx hb dX5_freedByAll_118 hl (k := 2) rfl rfl (by decide) rfl (fun ls hl => ?_)
                refine lv_iinc (v := nI (i421 + 1)) (lv' := [(3, .int (nI (i421 + 1))), (2, .int (s423 + 1)), (4, .ref (ad 7 i421)), (0, .ref (ad 5 0)), (1, .int x1)]) hx hb dX5_freedByAll_121 hl (k := 2) rfl (nI_1 i421) (by decide) rfl (fun ls hl => ?_)
                refine lv_goto (tgt := 71) hx hb dX5_freedByAll_124 (by decide) ?_
                have he9F : (FL2_X5_freedByAll c v w x1 k422 (i421 + 1) (s423 + 1)) = (FL2_X5_freedByAll c v w x1 (c 4) 0 (0 : Int32)) := by rw [← heF]; show (FL2_X5_freedByAll c v w x1 k422 (i421 + 1) (s423 + 1)) = (FL2_X5_freedByAll c v w x1 (k422 + 1) i421 s423); simp only [FL2_X5_freedByAll, if_pos c427, if_neg c429, if_pos c431]
                exact ihk422 (i421 + 1)  (s423 + 1) H locs ls (by omega) he9F hW (lv_sub hl [0, 1, 3, 4] rfl)
      exact K424 (c 4) 0  (0 : Int32) _ _ ls (by omega) rfl hW (lv_sub hl [0, 1, 2, 3] rfl)
    | succ k416 ihk416 =>
      intro i415 Us419 H locs ls hk heU hW hl
      have hlt : i415 < c 2 := by omega
      have hlt9i415 := hlt
      refine lv_iload_n hx hb dX5_freedByAll_23 rfl (lv_at hl 0 rfl) ?_
      refine lv_aload_n hx hb dX5_freedByAll_24 rfl (lv_at hl 1 rfl) ?_
      refine pc_get (C := RX5) (T := TX5) (N := 13) (ci := 5) hx hb hts (by decide +kernel) hown hX.1 hW.1 5 0 hM.1 rfl rfl 9 (by decide) (hts (.fieldLink RX5 55 "DraftsmanOffice" "sendingCount" "I") (by decide +kernel)) (fun _ h9 => h9) rfl dX5_freedByAll_25 ?_
      refine lv_icmp_ge (tgt := 67) hx hb dX5_freedByAll_28 (by decide) (fun c432 => absurd c432 (nI_ge hlt (Nat.lt_of_le_of_lt hBd.2.2.1 (by decide)))) (fun _ => ?_)
      refine lv_aload_n hx hb dX5_freedByAll_31 rfl (lv_at hl 1 rfl) ?_
      refine pc_get (C := RX5) (T := TX5) (N := 13) (ci := 5) hx hb hts (by decide +kernel) hown hX.1 hW.1 5 0 hM.1 rfl rfl 2 (by decide) (hts (.fieldLink RX5 23 "DraftsmanOffice" "sendings" "[LDraftsmanOffice$Sending;") (by decide +kernel)) (fun _ h9 => h9) rfl dX5_freedByAll_32 ?_
      refine lv_iload_n hx hb dX5_freedByAll_35 rfl (lv_at hl 0 rfl) ?_
      refine pc_aald (r := .ref (ad 3 i415)) hx hb hX.1 hW.1 52 0 5 (hM.2.1 52 (by decide) (by decide)) rfl rfl rfl (vp_in_nI (Nat.lt_of_lt_of_le hlt9i415 hBd.2.2.1) (by decide)) (by rw [nI_clamp (Nat.lt_of_lt_of_le (Nat.lt_of_lt_of_le hlt9i415 hBd.2.2.1) (by decide)), sRf_in hlt9i415]; rfl) dX5_freedByAll_36 ?_
      refine pc_getN (C := RX2) (T := TX2) (N := 3) (ci := 2) hx hb hts (by decide +kernel) hown hX.1 hW.1 3 i415 (hM.2.2.2.2.2.1 i415 hlt9i415).1 rfl rfl 2 (by decide) (hX.2.1 (.fieldLinkNest RX5 213 "DraftsmanOffice$Sending" "awaitedBy" "I" R_host) (by decide +kernel)) (fun _ h9 => h9) rfl dX5_freedByAll_37 ?_
      refine lv_iload_n hx hb dX5_freedByAll_40 rfl (lv_at hl 2 rfl) ?_
      refine pc_rcalli (va_runS (As := [.int (v 3 i415 1), .int x1]) (rest := []) ⟨hx, hb, hml, hown, hts⟩ (r_X5_isIn l D cA (v 3 i415 1) x1 ) (va_cwS 2 hts gX5_freedByAll_X5_isIn rfl rfl rfl (by decide +kernel) ⟨Nat.le_of_ble_eq_true rfl, Nat.le_of_ble_eq_true rfl⟩) (pc_preS pcN_ok hX trivial) rfl rfl hl.1 rfl (lv_room (Nat.le_of_ble_eq_true rfl)) dX5_freedByAll_41 ⟨Nat.le_of_ble_eq_true rfl, Nat.le_of_ble_eq_true rfl⟩) hW (fun r433 H locs hwr433 hW => ?_)
      replace hwr433 := hwr433.symm
      subst hwr433
      refine lv_if_eq (tgt := 61) hx hb dX5_freedByAll_44 (by decide) (fun (c434 : (F_X5_isIn (v 3 i415 1) x1) = 0) => ?_) (fun (c434 : ¬ (F_X5_isIn (v 3 i415 1) x1) = 0) => ?_)
      · refine lv_iinc (v := nI (i415 + 1)) (lv' := [(2, .int (nI (i415 + 1))), (0, .ref (ad 5 0)), (1, .int x1)]) hx hb dX5_freedByAll_61 hl (k := 0) rfl (nI_1 i415) (by decide) rfl (fun ls hl => ?_)
        refine lv_goto (tgt := 23) hx hb dX5_freedByAll_64 (by decide) ?_
        have he9U : (UL_X5_freedByAll c v w x1 k416 (i415 + 1) Us419) = (UL_X5_freedByAll c v w x1 (c 2) 0 (v 57 x1.toNatClampNeg)) := by rw [← heU]; show (UL_X5_freedByAll c v w x1 k416 (i415 + 1) Us419) = (UL_X5_freedByAll c v w x1 (k416 + 1) i415 Us419); simp only [UL_X5_freedByAll, if_pos c434]
        exact ihk416 (i415 + 1) Us419  H locs ls (by omega) he9U hW (lv_sub hl [0, 1, 2] rfl)
      · refine lv_aload_n hx hb dX5_freedByAll_47 rfl (lv_at hl 1 rfl) ?_
        refine pc_get (C := RX5) (T := TX5) (N := 13) (ci := 5) hx hb hts (by decide +kernel) hown hX.1 hW.1 5 0 hM.1 rfl rfl 2 (by decide) (hts (.fieldLink RX5 23 "DraftsmanOffice" "sendings" "[LDraftsmanOffice$Sending;") (by decide +kernel)) (fun _ h9 => h9) rfl dX5_freedByAll_48 ?_
        refine lv_iload_n hx hb dX5_freedByAll_51 rfl (lv_at hl 0 rfl) ?_
        refine pc_aald (r := .ref (ad 3 i415)) hx hb hX.1 hW.1 52 0 5 (hM.2.1 52 (by decide) (by decide)) rfl rfl rfl (vp_in_nI (Nat.lt_of_lt_of_le hlt9i415 hBd.2.2.1) (by decide)) (by rw [nI_clamp (Nat.lt_of_lt_of_le (Nat.lt_of_lt_of_le hlt9i415 hBd.2.2.1) (by decide)), sRf_in hlt9i415]; rfl) dX5_freedByAll_52 ?_
        refine lv_aload_n hx hb dX5_freedByAll_53 rfl (lv_at hl 1 rfl) ?_
        refine pc_get (C := RX5) (T := TX5) (N := 13) (ci := 5) hx hb hts (by decide +kernel) hown hX.1 hW.1 5 0 hM.1 rfl rfl 6 (by decide) (hts (.fieldLink RX5 44 "DraftsmanOffice" "wouldHave" "[I") (by decide +kernel)) (fun _ h9 => h9) rfl dX5_freedByAll_54 ?_
        have hD9 := hW.2.1
        refine pc_mcalli (va_runS (As := [.ref (ad 3 i415), .ref (ad 56 0)]) (rest := []) ⟨hx, hb, hml, hown, hts⟩ (m_X5_takeLater_row l D cA NL c v w Us419 ad A i415 hM hBd hlt9i415) (va_cwS 2 hts gX5_freedByAll_X5_takeLater rfl rfl rfl (by decide +kernel) ⟨Nat.le_of_ble_eq_true rfl, Nat.le_of_ble_eq_true rfl⟩) (pc_preS pcN_ok hX ⟨hW.1, hW.2.1, fun q h => hA q (Nat.le_trans hW.2.2.1 h)⟩) rfl rfl hl.1 rfl (lv_room (Nat.le_of_ble_eq_true rfl)) dX5_freedByAll_57 ⟨Nat.le_of_ble_eq_true rfl, Nat.le_of_ble_eq_true rfl⟩) hW.2.2 (fun r435 _ H locs hwr435 hB hS9 => ?_)
        replace hwr435 := hwr435.symm
        subst hwr435
        have hW : pcS D vwCl A s.heap NL ad (ctO cA c v w (U_X5_takeLater_row c v w Us419 i415) ad) H locs := ⟨hB, pcD_ct hD9, hS9⟩
        refine lv_pop hx hb dX5_freedByAll_60 rfl ?_
        refine lv_iinc (v := nI (i415 + 1)) (lv' := [(2, .int (nI (i415 + 1))), (0, .ref (ad 5 0)), (1, .int x1)]) hx hb dX5_freedByAll_61 hl (k := 0) rfl (nI_1 i415) (by decide) rfl (fun ls hl => ?_)
        refine lv_goto (tgt := 23) hx hb dX5_freedByAll_64 (by decide) ?_
        have he9U : (UL_X5_freedByAll c v w x1 k416 (i415 + 1) (U_X5_takeLater_row c v w Us419 i415)) = (UL_X5_freedByAll c v w x1 (c 2) 0 (v 57 x1.toNatClampNeg)) := by rw [← heU]; show (UL_X5_freedByAll c v w x1 k416 (i415 + 1) (U_X5_takeLater_row c v w Us419 i415)) = (UL_X5_freedByAll c v w x1 (k416 + 1) i415 Us419); simp only [UL_X5_freedByAll, if_neg c434]
        exact ihk416 (i415 + 1) (U_X5_takeLater_row c v w Us419 i415)  H locs ls (by omega) he9U hW (lv_sub hl [0, 1, 2] rfl)
  exact K418 (c 2) 0 (v 57 x1.toNatClampNeg) _ _ ls (by omega) rfl hW (lv_sub hl [0, 1, 2] rfl)

def FL3_X5_digest (c : SC) (v : SV) (w : SW)   : Nat → Nat → Int64 → Int64
  | 0, _, s489 => s489
  | k488 + 1, i487, s489 => FL3_X5_digest c v w k488 (i487 + 1) ((((((((((((((s489 * (31 : Int64)) + ((F_X5_ofPack0 c v w (nI i487)).toInt64)) * (31 : Int64)) + ((F_X5_ofPack1 c v w (nI i487)).toInt64)) * (31 : Int64)) + ((F_X5_ofPack2 c v w (nI i487)).toInt64)) * (31 : Int64)) + ((F_X5_ofPack3 c v w (nI i487)).toInt64)) * (31 : Int64)) + ((F_X5_ofPack4 c v w (nI i487)).toInt64)) * (31 : Int64)) + ((F_X5_ofPack5 c v w (nI i487)).toInt64)) * (31 : Int64)) + ((F_X5_ofPack6 c v w (nI i487)).toInt64))
def FL2_X5_digest (c : SC) (v : SV) (w : SW)   : Nat → Nat → Int64 → Int64
  | 0, _, s471 => s471
  | k470 + 1, i469, s471 => FL2_X5_digest c v w k470 (i469 + 1) ((((s471 * (31 : Int64)) + ((F_X5_ofQuery c v w (nI i469)).toInt64)) * (31 : Int64)) + ((F_X5_freedBy c v w (nI i469)).toInt64))
def FL4_X5_digest (c : SC) (v : SV) (w : SW)   (i464 : Nat) : Nat → Nat → Int64 → Int64
  | 0, _, s535 => s535
  | k534 + 1, i533, s535 => FL4_X5_digest c v w i464 k534 (i533 + 1) ((s535 * (31 : Int64)) + ((F_X5_status c v w (nI i464) (nI i533)).toInt64))
def FL_X5_digest (c : SC) (v : SV) (w : SW)   : Nat → Nat → Int64 → Int64
  | 0, _, s466 => s466
  | k465 + 1, i464, s466 => FL_X5_digest c v w k465 (i464 + 1) (((((((((((FL4_X5_digest c v w i464 (((v 1 i464 1).toNatClampNeg + 1)) 0 ((((((((((((((((((((s466 * (31 : Int64)) + ((F_X5_ofSheet0 c v w (nI i464)).toInt64)) * (31 : Int64)) + ((F_X5_ofSheet1 c v w (nI i464)).toInt64)) * (31 : Int64)) + ((F_X5_ofSheet2 c v w (nI i464)).toInt64)) * (31 : Int64)) + ((F_X5_ofSheet3 c v w (nI i464)).toInt64)) * (31 : Int64)) + ((F_X5_ofSheet4 c v w (nI i464)).toInt64)) * (31 : Int64)) + ((F_X5_ofSheet5 c v w (nI i464)).toInt64)) * (31 : Int64)) + ((F_X5_ofSheet6 c v w (nI i464)).toInt64)) * (31 : Int64)) + ((F_X5_ofSheet7 c v w (nI i464)).toInt64)) * (31 : Int64)) + ((F_X5_ofSheet8 c v w (nI i464)).toInt64)) * (31 : Int64)) + ((F_X5_ofSheet9 c v w (nI i464)).toInt64))) * (31 : Int64)) + ((F_X5_has c v w (0 : Int32) (nI i464)).toInt64)) * (31 : Int64)) + ((F_X5_has c v w (1 : Int32) (nI i464)).toInt64)) * (31 : Int64)) + ((F_X5_has c v w (2 : Int32) (nI i464)).toInt64)) * (31 : Int64)) + ((F_X5_has c v w (3 : Int32) (nI i464)).toInt64)) * (31 : Int64)) + ((F_X5_stoppedBy c v w (nI i464)).toInt64))
def F_X5_digest (c : SC) (v : SV) (w : SW)  : Int64 := (FL3_X5_digest c v w (c 4) 0 (((((((((((((((((FL2_X5_digest c v w (c 3) 0 (FL_X5_digest c v w (c 0) 0 ((((((((((((((((((((((((((1801317 : Int64) + ((F_X5_many0 c v w).toInt64)) * (31 : Int64)) + ((F_X5_many1 c v w).toInt64)) * (31 : Int64)) + ((F_X5_many2 c v w).toInt64)) * (31 : Int64)) + ((F_X5_many3 c v w).toInt64)) * (31 : Int64)) + ((F_X5_many4 c v w).toInt64)) * (31 : Int64)) + ((F_X5_many5 c v w).toInt64)) * (31 : Int64)) + ((F_X5_many6 c v w).toInt64)) * (31 : Int64)) + ((F_X5_many7 c v w).toInt64)) * (31 : Int64)) + ((F_X5_many8 c v w).toInt64)) * (31 : Int64)) + ((F_X5_many9 c v w).toInt64)) * (31 : Int64)) + ((F_X5_many10 c v w).toInt64)) * (31 : Int64)) + ((F_X5_many11 c v w).toInt64)) * (31 : Int64)) + ((F_X5_many12 c v w).toInt64)))) * (31 : Int64)) + ((F_X5_owes c v w (0 : Int32)).toInt64)) * (31 : Int64)) + ((F_X5_freedByAll c v w (0 : Int32)).toInt64)) * (31 : Int64)) + ((F_X5_owes c v w (1 : Int32)).toInt64)) * (31 : Int64)) + ((F_X5_freedByAll c v w (1 : Int32)).toInt64)) * (31 : Int64)) + ((F_X5_owes c v w (2 : Int32)).toInt64)) * (31 : Int64)) + ((F_X5_freedByAll c v w (2 : Int32)).toInt64)) * (31 : Int64)) + ((F_X5_owes c v w (3 : Int32)).toInt64)) * (31 : Int64)) + ((F_X5_freedByAll c v w (3 : Int32)).toInt64)))
def U_X5_digest (c : SC) (v : SV) (w : SW)  : (Nat → Int32) := (U_X5_freedByAll c v w (3 : Int32))

set_option maxHeartbeats 4000000 in
set_option maxRecDepth 100000 in
theorem m_X5_digest (l : Launch) (D : va_G) (cA : Nat → ClassId) (NL : List (Nat × Nat)) (c : SC) (v : SV) (w : SW) (u : Nat → Int32) (ad : Nat → Nat → Nat) (A : Nat → Prop)  (hM : MEM c NL) (hBd : BND c) (hF : WF c v) (hRI : RI c v w) : Met l yX5_digest wsX5_digest ({ frames := 7, cells := 0, slots := 0, locals := 166 }) (pcPre D vwCl (tyL cA) [.ref (ad 5 0)] (fun H => va_P D vwCl (pcW NL ad (ctO cA c v w u ad)) H ∧ va_D A (pcW NL ad (ctO cA c v w u ad)) ∧ ∀ q, H.size ≤ q → A q)) (va_Ql (fun (r : Int64) (_ : Unit) => r = F_X5_digest c v w) (fun (_ : Unit) t => va_P D vwCl (pcW NL ad (ctO cA c v w (U_X5_digest c v w) ad)) t.heap) A) 0 0 A := by
  refine Met.ofW (cc := cX5_digest) (maxL := 5) (ret := (some .long)) (by decide) rfl ?_
  intro p e s m args below meth c0 s₁ B hml hv
  obtain ⟨rfl, hX, hP0, hD, hA⟩ := hv
  have hx := B.exec
  have hb := B.bytes
  have hr := B.returns
  have hts := atoms_spec (ws := wsX5_digest) B.pre
  have hown : s.vm.findClass RX5 = some m.cls := findClass_of_methodNamed B.named
  have hlocks := B.notSynchronized
  have hW : pcS D vwCl A s.heap NL ad (ctO cA c v w u ad) s.heap [] := ⟨hP0, hD, va_S.rf⟩
  have hl := lv_entry ([.ref (ad 5 0)]) (n := 5) (Nat.le_of_ble_eq_true rfl)
  rw [lg_entry_eq]
  generalize (lg_sl ([.ref (ad 5 0)]) ++ List.replicate (5 - (lg_sl ([.ref (ad 5 0)])).length) Slot.unset).toArray = ls at hl ⊢
  have hl : lv_has ls 5 [(0, .ref (ad 5 0))] := hl
  refine lv_ldc2 (v := 58107) hx hb hown (hts (.constantLong RX5 334 58107) (by decide +kernel)) dX5_digest_0 ?_
  refine lv_lstore_n (lv' := [(1, .long 58107), (0, .ref (ad 5 0))]) hx hb dX5_digest_3 rfl hl (by decide) rfl (fun ls hl => ?_)
  refine lv_iconst (v := 0) hx hb dX5_digest_4 (by decide) ?_
  refine lv_istore_n (lv' := [(3, .int 0), (1, .long 58107), (0, .ref (ad 5 0))]) hx hb dX5_digest_5 rfl hl (by decide) rfl (fun ls hl => ?_)
  refine lv_iload_n hx hb dX5_digest_6 rfl (lv_at hl 0 rfl) ?_
  refine lv_bipush (v := 12) hx hb dX5_digest_7 (by decide) ?_
  refine lv_icmp_gt (tgt := 31) hx hb dX5_digest_9 (by decide) (fun c436 => absurd c436 (by decide)) (fun _ => ?_)
  refine lv_lload_n hx hb dX5_digest_12 rfl (lv_at hl 1 rfl) ?_
  refine lv_ldc2 (v := 31) hx hb hown (hts (.constantLong RX5 336 31) (by decide +kernel)) dX5_digest_13 ?_
  refine lv_lmul hx hb dX5_digest_16 ?_
  refine lv_topl (fun a437 ea437 => ?_)
  obtain rfl : a437 = 1801317 := ea437.trans (by decide)
  refine lv_aload_n hx hb dX5_digest_17 rfl (lv_at hl 2 rfl) ?_
  refine lv_iload_n hx hb dX5_digest_18 rfl (lv_at hl 0 rfl) ?_
  refine pc_rcalli (va_runV (As := [.int 0]) (rest := [.long 1801317]) ⟨hx, hb, hml, hown, hts⟩ (r_X5_many0 l D cA NL c v w u ad  hM hBd hF ) (cwV 1 hts gX5_digest_X5_many rfl rfl rfl (by decide +kernel) ⟨Nat.le_of_ble_eq_true rfl, Nat.le_of_ble_eq_true rfl⟩) (pc_preV pcN_ok hX hW.1 hM.1 rfl rfl hW.1) rfl rfl hl.1 rfl (lv_room (Nat.le_of_ble_eq_true rfl)) dX5_digest_19 ⟨Nat.le_of_ble_eq_true rfl, Nat.le_of_ble_eq_true rfl⟩) hW (fun r438 H locs hwr438 hW => ?_)
  replace hwr438 := hwr438.symm
  subst hwr438
  refine lv_i2l (v := (F_X5_many0 c v w).toInt64) hx hb dX5_digest_22 rfl ?_
  refine lv_ladd hx hb dX5_digest_23 ?_
  refine lv_lstore_n (lv' := [(1, .long ((1801317 : Int64) + ((F_X5_many0 c v w).toInt64))), (3, .int 0), (0, .ref (ad 5 0))]) hx hb dX5_digest_24 rfl hl (by decide) rfl (fun ls hl => ?_)
  refine lv_iinc (v := 1) (lv' := [(3, .int 1), (1, .long ((1801317 : Int64) + ((F_X5_many0 c v w).toInt64))), (0, .ref (ad 5 0))]) hx hb dX5_digest_25 hl (k := 1) rfl (by decide) (by decide) rfl (fun ls hl => ?_)
  refine lv_goto (tgt := 6) hx hb dX5_digest_28 (by decide) ?_
  refine lv_iload_n hx hb dX5_digest_6 rfl (lv_at hl 0 rfl) ?_
  refine lv_bipush (v := 12) hx hb dX5_digest_7 (by decide) ?_
  refine lv_icmp_gt (tgt := 31) hx hb dX5_digest_9 (by decide) (fun c439 => absurd c439 (by decide)) (fun _ => ?_)
  refine lv_lload_n hx hb dX5_digest_12 rfl (lv_at hl 1 rfl) ?_
  refine lv_ldc2 (v := 31) hx hb hown (hts (.constantLong RX5 336 31) (by decide +kernel)) dX5_digest_13 ?_
  refine lv_lmul hx hb dX5_digest_16 ?_
  refine lv_aload_n hx hb dX5_digest_17 rfl (lv_at hl 2 rfl) ?_
  refine lv_iload_n hx hb dX5_digest_18 rfl (lv_at hl 0 rfl) ?_
  refine pc_rcalli (va_runV (As := [.int 1]) (rest := [.long (((1801317 : Int64) + ((F_X5_many0 c v w).toInt64)) * (31 : Int64))]) ⟨hx, hb, hml, hown, hts⟩ (r_X5_many1 l D cA NL c v w u ad  hM hBd hF ) (cwV 1 hts gX5_digest_X5_many rfl rfl rfl (by decide +kernel) ⟨Nat.le_of_ble_eq_true rfl, Nat.le_of_ble_eq_true rfl⟩) (pc_preV pcN_ok hX hW.1 hM.1 rfl rfl hW.1) rfl rfl hl.1 rfl (lv_room (Nat.le_of_ble_eq_true rfl)) dX5_digest_19 ⟨Nat.le_of_ble_eq_true rfl, Nat.le_of_ble_eq_true rfl⟩) hW (fun r440 H locs hwr440 hW => ?_)
  replace hwr440 := hwr440.symm
  subst hwr440
  refine lv_i2l (v := (F_X5_many1 c v w).toInt64) hx hb dX5_digest_22 rfl ?_
  refine lv_ladd hx hb dX5_digest_23 ?_
  refine lv_lstore_n (lv' := [(1, .long ((((1801317 : Int64) + ((F_X5_many0 c v w).toInt64)) * (31 : Int64)) + ((F_X5_many1 c v w).toInt64))), (3, .int 1), (0, .ref (ad 5 0))]) hx hb dX5_digest_24 rfl hl (by decide) rfl (fun ls hl => ?_)
  refine lv_iinc (v := 2) (lv' := [(3, .int 2), (1, .long ((((1801317 : Int64) + ((F_X5_many0 c v w).toInt64)) * (31 : Int64)) + ((F_X5_many1 c v w).toInt64))), (0, .ref (ad 5 0))]) hx hb dX5_digest_25 hl (k := 1) rfl (by decide) (by decide) rfl (fun ls hl => ?_)
  refine lv_goto (tgt := 6) hx hb dX5_digest_28 (by decide) ?_
  refine lv_iload_n hx hb dX5_digest_6 rfl (lv_at hl 0 rfl) ?_
  refine lv_bipush (v := 12) hx hb dX5_digest_7 (by decide) ?_
  refine lv_icmp_gt (tgt := 31) hx hb dX5_digest_9 (by decide) (fun c441 => absurd c441 (by decide)) (fun _ => ?_)
  refine lv_lload_n hx hb dX5_digest_12 rfl (lv_at hl 1 rfl) ?_
  refine lv_ldc2 (v := 31) hx hb hown (hts (.constantLong RX5 336 31) (by decide +kernel)) dX5_digest_13 ?_
  refine lv_lmul hx hb dX5_digest_16 ?_
  refine lv_aload_n hx hb dX5_digest_17 rfl (lv_at hl 2 rfl) ?_
  refine lv_iload_n hx hb dX5_digest_18 rfl (lv_at hl 0 rfl) ?_
  refine pc_rcalli (va_runV (As := [.int 2]) (rest := [.long (((((1801317 : Int64) + ((F_X5_many0 c v w).toInt64)) * (31 : Int64)) + ((F_X5_many1 c v w).toInt64)) * (31 : Int64))]) ⟨hx, hb, hml, hown, hts⟩ (r_X5_many2 l D cA NL c v w u ad  hM hBd hF ) (cwV 1 hts gX5_digest_X5_many rfl rfl rfl (by decide +kernel) ⟨Nat.le_of_ble_eq_true rfl, Nat.le_of_ble_eq_true rfl⟩) (pc_preV pcN_ok hX hW.1 hM.1 rfl rfl hW.1) rfl rfl hl.1 rfl (lv_room (Nat.le_of_ble_eq_true rfl)) dX5_digest_19 ⟨Nat.le_of_ble_eq_true rfl, Nat.le_of_ble_eq_true rfl⟩) hW (fun r442 H locs hwr442 hW => ?_)
  replace hwr442 := hwr442.symm
  subst hwr442
  refine lv_i2l (v := (F_X5_many2 c v w).toInt64) hx hb dX5_digest_22 rfl ?_
  refine lv_ladd hx hb dX5_digest_23 ?_
  refine lv_lstore_n (lv' := [(1, .long ((((((1801317 : Int64) + ((F_X5_many0 c v w).toInt64)) * (31 : Int64)) + ((F_X5_many1 c v w).toInt64)) * (31 : Int64)) + ((F_X5_many2 c v w).toInt64))), (3, .int 2), (0, .ref (ad 5 0))]) hx hb dX5_digest_24 rfl hl (by decide) rfl (fun ls hl => ?_)
  refine lv_iinc (v := 3) (lv' := [(3, .int 3), (1, .long ((((((1801317 : Int64) + ((F_X5_many0 c v w).toInt64)) * (31 : Int64)) + ((F_X5_many1 c v w).toInt64)) * (31 : Int64)) + ((F_X5_many2 c v w).toInt64))), (0, .ref (ad 5 0))]) hx hb dX5_digest_25 hl (k := 1) rfl (by decide) (by decide) rfl (fun ls hl => ?_)
  refine lv_goto (tgt := 6) hx hb dX5_digest_28 (by decide) ?_
  refine lv_iload_n hx hb dX5_digest_6 rfl (lv_at hl 0 rfl) ?_
  refine lv_bipush (v := 12) hx hb dX5_digest_7 (by decide) ?_
  refine lv_icmp_gt (tgt := 31) hx hb dX5_digest_9 (by decide) (fun c443 => absurd c443 (by decide)) (fun _ => ?_)
  refine lv_lload_n hx hb dX5_digest_12 rfl (lv_at hl 1 rfl) ?_
  refine lv_ldc2 (v := 31) hx hb hown (hts (.constantLong RX5 336 31) (by decide +kernel)) dX5_digest_13 ?_
  refine lv_lmul hx hb dX5_digest_16 ?_
  refine lv_aload_n hx hb dX5_digest_17 rfl (lv_at hl 2 rfl) ?_
  refine lv_iload_n hx hb dX5_digest_18 rfl (lv_at hl 0 rfl) ?_
  refine pc_rcalli (va_runV (As := [.int 3]) (rest := [.long (((((((1801317 : Int64) + ((F_X5_many0 c v w).toInt64)) * (31 : Int64)) + ((F_X5_many1 c v w).toInt64)) * (31 : Int64)) + ((F_X5_many2 c v w).toInt64)) * (31 : Int64))]) ⟨hx, hb, hml, hown, hts⟩ (r_X5_many3 l D cA NL c v w u ad  hM hBd hF ) (cwV 1 hts gX5_digest_X5_many rfl rfl rfl (by decide +kernel) ⟨Nat.le_of_ble_eq_true rfl, Nat.le_of_ble_eq_true rfl⟩) (pc_preV pcN_ok hX hW.1 hM.1 rfl rfl hW.1) rfl rfl hl.1 rfl (lv_room (Nat.le_of_ble_eq_true rfl)) dX5_digest_19 ⟨Nat.le_of_ble_eq_true rfl, Nat.le_of_ble_eq_true rfl⟩) hW (fun r444 H locs hwr444 hW => ?_)
  replace hwr444 := hwr444.symm
  subst hwr444
  refine lv_i2l (v := (F_X5_many3 c v w).toInt64) hx hb dX5_digest_22 rfl ?_
  refine lv_ladd hx hb dX5_digest_23 ?_
  refine lv_lstore_n (lv' := [(1, .long ((((((((1801317 : Int64) + ((F_X5_many0 c v w).toInt64)) * (31 : Int64)) + ((F_X5_many1 c v w).toInt64)) * (31 : Int64)) + ((F_X5_many2 c v w).toInt64)) * (31 : Int64)) + ((F_X5_many3 c v w).toInt64))), (3, .int 3), (0, .ref (ad 5 0))]) hx hb dX5_digest_24 rfl hl (by decide) rfl (fun ls hl => ?_)
  refine lv_iinc (v := 4) (lv' := [(3, .int 4), (1, .long ((((((((1801317 : Int64) + ((F_X5_many0 c v w).toInt64)) * (31 : Int64)) + ((F_X5_many1 c v w).toInt64)) * (31 : Int64)) + ((F_X5_many2 c v w).toInt64)) * (31 : Int64)) + ((F_X5_many3 c v w).toInt64))), (0, .ref (ad 5 0))]) hx hb dX5_digest_25 hl (k := 1) rfl (by decide) (by decide) rfl (fun ls hl => ?_)
  refine lv_goto (tgt := 6) hx hb dX5_digest_28 (by decide) ?_
  refine lv_iload_n hx hb dX5_digest_6 rfl (lv_at hl 0 rfl) ?_
  refine lv_bipush (v := 12) hx hb dX5_digest_7 (by decide) ?_
  refine lv_icmp_gt (tgt := 31) hx hb dX5_digest_9 (by decide) (fun c445 => absurd c445 (by decide)) (fun _ => ?_)
  refine lv_lload_n hx hb dX5_digest_12 rfl (lv_at hl 1 rfl) ?_
  refine lv_ldc2 (v := 31) hx hb hown (hts (.constantLong RX5 336 31) (by decide +kernel)) dX5_digest_13 ?_
  refine lv_lmul hx hb dX5_digest_16 ?_
  refine lv_aload_n hx hb dX5_digest_17 rfl (lv_at hl 2 rfl) ?_
  refine lv_iload_n hx hb dX5_digest_18 rfl (lv_at hl 0 rfl) ?_
  refine pc_rcalli (va_runV (As := [.int 4]) (rest := [.long (((((((((1801317 : Int64) + ((F_X5_many0 c v w).toInt64)) * (31 : Int64)) + ((F_X5_many1 c v w).toInt64)) * (31 : Int64)) + ((F_X5_many2 c v w).toInt64)) * (31 : Int64)) + ((F_X5_many3 c v w).toInt64)) * (31 : Int64))]) ⟨hx, hb, hml, hown, hts⟩ (r_X5_many4 l D cA NL c v w u ad  hM hBd hF ) (cwV 1 hts gX5_digest_X5_many rfl rfl rfl (by decide +kernel) ⟨Nat.le_of_ble_eq_true rfl, Nat.le_of_ble_eq_true rfl⟩) (pc_preV pcN_ok hX hW.1 hM.1 rfl rfl hW.1) rfl rfl hl.1 rfl (lv_room (Nat.le_of_ble_eq_true rfl)) dX5_digest_19 ⟨Nat.le_of_ble_eq_true rfl, Nat.le_of_ble_eq_true rfl⟩) hW (fun r446 H locs hwr446 hW => ?_)
  replace hwr446 := hwr446.symm
  subst hwr446
  refine lv_i2l (v := (F_X5_many4 c v w).toInt64) hx hb dX5_digest_22 rfl ?_
  refine lv_ladd hx hb dX5_digest_23 ?_
  refine lv_lstore_n (lv' := [(1, .long ((((((((((1801317 : Int64) + ((F_X5_many0 c v w).toInt64)) * (31 : Int64)) + ((F_X5_many1 c v w).toInt64)) * (31 : Int64)) + ((F_X5_many2 c v w).toInt64)) * (31 : Int64)) + ((F_X5_many3 c v w).toInt64)) * (31 : Int64)) + ((F_X5_many4 c v w).toInt64))), (3, .int 4), (0, .ref (ad 5 0))]) hx hb dX5_digest_24 rfl hl (by decide) rfl (fun ls hl => ?_)
  refine lv_iinc (v := 5) (lv' := [(3, .int 5), (1, .long ((((((((((1801317 : Int64) + ((F_X5_many0 c v w).toInt64)) * (31 : Int64)) + ((F_X5_many1 c v w).toInt64)) * (31 : Int64)) + ((F_X5_many2 c v w).toInt64)) * (31 : Int64)) + ((F_X5_many3 c v w).toInt64)) * (31 : Int64)) + ((F_X5_many4 c v w).toInt64))), (0, .ref (ad 5 0))]) hx hb dX5_digest_25 hl (k := 1) rfl (by decide) (by decide) rfl (fun ls hl => ?_)
  refine lv_goto (tgt := 6) hx hb dX5_digest_28 (by decide) ?_
  refine lv_iload_n hx hb dX5_digest_6 rfl (lv_at hl 0 rfl) ?_
  refine lv_bipush (v := 12) hx hb dX5_digest_7 (by decide) ?_
  refine lv_icmp_gt (tgt := 31) hx hb dX5_digest_9 (by decide) (fun c447 => absurd c447 (by decide)) (fun _ => ?_)
  refine lv_lload_n hx hb dX5_digest_12 rfl (lv_at hl 1 rfl) ?_
  refine lv_ldc2 (v := 31) hx hb hown (hts (.constantLong RX5 336 31) (by decide +kernel)) dX5_digest_13 ?_
  refine lv_lmul hx hb dX5_digest_16 ?_
  refine lv_aload_n hx hb dX5_digest_17 rfl (lv_at hl 2 rfl) ?_
  refine lv_iload_n hx hb dX5_digest_18 rfl (lv_at hl 0 rfl) ?_
  refine pc_rcalli (va_runV (As := [.int 5]) (rest := [.long (((((((((((1801317 : Int64) + ((F_X5_many0 c v w).toInt64)) * (31 : Int64)) + ((F_X5_many1 c v w).toInt64)) * (31 : Int64)) + ((F_X5_many2 c v w).toInt64)) * (31 : Int64)) + ((F_X5_many3 c v w).toInt64)) * (31 : Int64)) + ((F_X5_many4 c v w).toInt64)) * (31 : Int64))]) ⟨hx, hb, hml, hown, hts⟩ (r_X5_many5 l D cA NL c v w u ad  hM hBd hF ) (cwV 1 hts gX5_digest_X5_many rfl rfl rfl (by decide +kernel) ⟨Nat.le_of_ble_eq_true rfl, Nat.le_of_ble_eq_true rfl⟩) (pc_preV pcN_ok hX hW.1 hM.1 rfl rfl hW.1) rfl rfl hl.1 rfl (lv_room (Nat.le_of_ble_eq_true rfl)) dX5_digest_19 ⟨Nat.le_of_ble_eq_true rfl, Nat.le_of_ble_eq_true rfl⟩) hW (fun r448 H locs hwr448 hW => ?_)
  replace hwr448 := hwr448.symm
  subst hwr448
  refine lv_i2l (v := (F_X5_many5 c v w).toInt64) hx hb dX5_digest_22 rfl ?_
  refine lv_ladd hx hb dX5_digest_23 ?_
  refine lv_lstore_n (lv' := [(1, .long ((((((((((((1801317 : Int64) + ((F_X5_many0 c v w).toInt64)) * (31 : Int64)) + ((F_X5_many1 c v w).toInt64)) * (31 : Int64)) + ((F_X5_many2 c v w).toInt64)) * (31 : Int64)) + ((F_X5_many3 c v w).toInt64)) * (31 : Int64)) + ((F_X5_many4 c v w).toInt64)) * (31 : Int64)) + ((F_X5_many5 c v w).toInt64))), (3, .int 5), (0, .ref (ad 5 0))]) hx hb dX5_digest_24 rfl hl (by decide) rfl (fun ls hl => ?_)
  refine lv_iinc (v := 6) (lv' := [(3, .int 6), (1, .long ((((((((((((1801317 : Int64) + ((F_X5_many0 c v w).toInt64)) * (31 : Int64)) + ((F_X5_many1 c v w).toInt64)) * (31 : Int64)) + ((F_X5_many2 c v w).toInt64)) * (31 : Int64)) + ((F_X5_many3 c v w).toInt64)) * (31 : Int64)) + ((F_X5_many4 c v w).toInt64)) * (31 : Int64)) + ((F_X5_many5 c v w).toInt64))), (0, .ref (ad 5 0))]) hx hb dX5_digest_25 hl (k := 1) rfl (by decide) (by decide) rfl (fun ls hl => ?_)
  refine lv_goto (tgt := 6) hx hb dX5_digest_28 (by decide) ?_
  refine lv_iload_n hx hb dX5_digest_6 rfl (lv_at hl 0 rfl) ?_
  refine lv_bipush (v := 12) hx hb dX5_digest_7 (by decide) ?_
  refine lv_icmp_gt (tgt := 31) hx hb dX5_digest_9 (by decide) (fun c449 => absurd c449 (by decide)) (fun _ => ?_)
  refine lv_lload_n hx hb dX5_digest_12 rfl (lv_at hl 1 rfl) ?_
  refine lv_ldc2 (v := 31) hx hb hown (hts (.constantLong RX5 336 31) (by decide +kernel)) dX5_digest_13 ?_
  refine lv_lmul hx hb dX5_digest_16 ?_
  refine lv_aload_n hx hb dX5_digest_17 rfl (lv_at hl 2 rfl) ?_
  refine lv_iload_n hx hb dX5_digest_18 rfl (lv_at hl 0 rfl) ?_
  refine pc_rcalli (va_runV (As := [.int 6]) (rest := [.long (((((((((((((1801317 : Int64) + ((F_X5_many0 c v w).toInt64)) * (31 : Int64)) + ((F_X5_many1 c v w).toInt64)) * (31 : Int64)) + ((F_X5_many2 c v w).toInt64)) * (31 : Int64)) + ((F_X5_many3 c v w).toInt64)) * (31 : Int64)) + ((F_X5_many4 c v w).toInt64)) * (31 : Int64)) + ((F_X5_many5 c v w).toInt64)) * (31 : Int64))]) ⟨hx, hb, hml, hown, hts⟩ (r_X5_many6 l D cA NL c v w u ad  hM hBd hF ) (cwV 1 hts gX5_digest_X5_many rfl rfl rfl (by decide +kernel) ⟨Nat.le_of_ble_eq_true rfl, Nat.le_of_ble_eq_true rfl⟩) (pc_preV pcN_ok hX hW.1 hM.1 rfl rfl hW.1) rfl rfl hl.1 rfl (lv_room (Nat.le_of_ble_eq_true rfl)) dX5_digest_19 ⟨Nat.le_of_ble_eq_true rfl, Nat.le_of_ble_eq_true rfl⟩) hW (fun r450 H locs hwr450 hW => ?_)
  replace hwr450 := hwr450.symm
  subst hwr450
  refine lv_i2l (v := (F_X5_many6 c v w).toInt64) hx hb dX5_digest_22 rfl ?_
  refine lv_ladd hx hb dX5_digest_23 ?_
  refine lv_lstore_n (lv' := [(1, .long ((((((((((((((1801317 : Int64) + ((F_X5_many0 c v w).toInt64)) * (31 : Int64)) + ((F_X5_many1 c v w).toInt64)) * (31 : Int64)) + ((F_X5_many2 c v w).toInt64)) * (31 : Int64)) + ((F_X5_many3 c v w).toInt64)) * (31 : Int64)) + ((F_X5_many4 c v w).toInt64)) * (31 : Int64)) + ((F_X5_many5 c v w).toInt64)) * (31 : Int64)) + ((F_X5_many6 c v w).toInt64))), (3, .int 6), (0, .ref (ad 5 0))]) hx hb dX5_digest_24 rfl hl (by decide) rfl (fun ls hl => ?_)
  refine lv_iinc (v := 7) (lv' := [(3, .int 7), (1, .long ((((((((((((((1801317 : Int64) + ((F_X5_many0 c v w).toInt64)) * (31 : Int64)) + ((F_X5_many1 c v w).toInt64)) * (31 : Int64)) + ((F_X5_many2 c v w).toInt64)) * (31 : Int64)) + ((F_X5_many3 c v w).toInt64)) * (31 : Int64)) + ((F_X5_many4 c v w).toInt64)) * (31 : Int64)) + ((F_X5_many5 c v w).toInt64)) * (31 : Int64)) + ((F_X5_many6 c v w).toInt64))), (0, .ref (ad 5 0))]) hx hb dX5_digest_25 hl (k := 1) rfl (by decide) (by decide) rfl (fun ls hl => ?_)
  refine lv_goto (tgt := 6) hx hb dX5_digest_28 (by decide) ?_
  refine lv_iload_n hx hb dX5_digest_6 rfl (lv_at hl 0 rfl) ?_
  refine lv_bipush (v := 12) hx hb dX5_digest_7 (by decide) ?_
  refine lv_icmp_gt (tgt := 31) hx hb dX5_digest_9 (by decide) (fun c451 => absurd c451 (by decide)) (fun _ => ?_)
  refine lv_lload_n hx hb dX5_digest_12 rfl (lv_at hl 1 rfl) ?_
  refine lv_ldc2 (v := 31) hx hb hown (hts (.constantLong RX5 336 31) (by decide +kernel)) dX5_digest_13 ?_
  refine lv_lmul hx hb dX5_digest_16 ?_
  refine lv_aload_n hx hb dX5_digest_17 rfl (lv_at hl 2 rfl) ?_
  refine lv_iload_n hx hb dX5_digest_18 rfl (lv_at hl 0 rfl) ?_
  refine pc_rcalli (va_runV (As := [.int 7]) (rest := [.long (((((((((((((((1801317 : Int64) + ((F_X5_many0 c v w).toInt64)) * (31 : Int64)) + ((F_X5_many1 c v w).toInt64)) * (31 : Int64)) + ((F_X5_many2 c v w).toInt64)) * (31 : Int64)) + ((F_X5_many3 c v w).toInt64)) * (31 : Int64)) + ((F_X5_many4 c v w).toInt64)) * (31 : Int64)) + ((F_X5_many5 c v w).toInt64)) * (31 : Int64)) + ((F_X5_many6 c v w).toInt64)) * (31 : Int64))]) ⟨hx, hb, hml, hown, hts⟩ (r_X5_many7 l D cA NL c v w u ad  hM hBd hF ) (cwV 1 hts gX5_digest_X5_many rfl rfl rfl (by decide +kernel) ⟨Nat.le_of_ble_eq_true rfl, Nat.le_of_ble_eq_true rfl⟩) (pc_preV pcN_ok hX hW.1 hM.1 rfl rfl hW.1) rfl rfl hl.1 rfl (lv_room (Nat.le_of_ble_eq_true rfl)) dX5_digest_19 ⟨Nat.le_of_ble_eq_true rfl, Nat.le_of_ble_eq_true rfl⟩) hW (fun r452 H locs hwr452 hW => ?_)
  replace hwr452 := hwr452.symm
  subst hwr452
  refine lv_i2l (v := (F_X5_many7 c v w).toInt64) hx hb dX5_digest_22 rfl ?_
  refine lv_ladd hx hb dX5_digest_23 ?_
  refine lv_lstore_n (lv' := [(1, .long ((((((((((((((((1801317 : Int64) + ((F_X5_many0 c v w).toInt64)) * (31 : Int64)) + ((F_X5_many1 c v w).toInt64)) * (31 : Int64)) + ((F_X5_many2 c v w).toInt64)) * (31 : Int64)) + ((F_X5_many3 c v w).toInt64)) * (31 : Int64)) + ((F_X5_many4 c v w).toInt64)) * (31 : Int64)) + ((F_X5_many5 c v w).toInt64)) * (31 : Int64)) + ((F_X5_many6 c v w).toInt64)) * (31 : Int64)) + ((F_X5_many7 c v w).toInt64))), (3, .int 7), (0, .ref (ad 5 0))]) hx hb dX5_digest_24 rfl hl (by decide) rfl (fun ls hl => ?_)
  refine lv_iinc (v := 8) (lv' := [(3, .int 8), (1, .long ((((((((((((((((1801317 : Int64) + ((F_X5_many0 c v w).toInt64)) * (31 : Int64)) + ((F_X5_many1 c v w).toInt64)) * (31 : Int64)) + ((F_X5_many2 c v w).toInt64)) * (31 : Int64)) + ((F_X5_many3 c v w).toInt64)) * (31 : Int64)) + ((F_X5_many4 c v w).toInt64)) * (31 : Int64)) + ((F_X5_many5 c v w).toInt64)) * (31 : Int64)) + ((F_X5_many6 c v w).toInt64)) * (31 : Int64)) + ((F_X5_many7 c v w).toInt64))), (0, .ref (ad 5 0))]) hx hb dX5_digest_25 hl (k := 1) rfl (by decide) (by decide) rfl (fun ls hl => ?_)
  refine lv_goto (tgt := 6) hx hb dX5_digest_28 (by decide) ?_
  refine lv_iload_n hx hb dX5_digest_6 rfl (lv_at hl 0 rfl) ?_
  refine lv_bipush (v := 12) hx hb dX5_digest_7 (by decide) ?_
  refine lv_icmp_gt (tgt := 31) hx hb dX5_digest_9 (by decide) (fun c453 => absurd c453 (by decide)) (fun _ => ?_)
  refine lv_lload_n hx hb dX5_digest_12 rfl (lv_at hl 1 rfl) ?_
  refine lv_ldc2 (v := 31) hx hb hown (hts (.constantLong RX5 336 31) (by decide +kernel)) dX5_digest_13 ?_
  refine lv_lmul hx hb dX5_digest_16 ?_
  refine lv_aload_n hx hb dX5_digest_17 rfl (lv_at hl 2 rfl) ?_
  refine lv_iload_n hx hb dX5_digest_18 rfl (lv_at hl 0 rfl) ?_
  refine pc_rcalli (va_runV (As := [.int 8]) (rest := [.long (((((((((((((((((1801317 : Int64) + ((F_X5_many0 c v w).toInt64)) * (31 : Int64)) + ((F_X5_many1 c v w).toInt64)) * (31 : Int64)) + ((F_X5_many2 c v w).toInt64)) * (31 : Int64)) + ((F_X5_many3 c v w).toInt64)) * (31 : Int64)) + ((F_X5_many4 c v w).toInt64)) * (31 : Int64)) + ((F_X5_many5 c v w).toInt64)) * (31 : Int64)) + ((F_X5_many6 c v w).toInt64)) * (31 : Int64)) + ((F_X5_many7 c v w).toInt64)) * (31 : Int64))]) ⟨hx, hb, hml, hown, hts⟩ (r_X5_many8 l D cA NL c v w u ad  hM hBd hF ) (cwV 1 hts gX5_digest_X5_many rfl rfl rfl (by decide +kernel) ⟨Nat.le_of_ble_eq_true rfl, Nat.le_of_ble_eq_true rfl⟩) (pc_preV pcN_ok hX hW.1 hM.1 rfl rfl hW.1) rfl rfl hl.1 rfl (lv_room (Nat.le_of_ble_eq_true rfl)) dX5_digest_19 ⟨Nat.le_of_ble_eq_true rfl, Nat.le_of_ble_eq_true rfl⟩) hW (fun r454 H locs hwr454 hW => ?_)
  replace hwr454 := hwr454.symm
  subst hwr454
  refine lv_i2l (v := (F_X5_many8 c v w).toInt64) hx hb dX5_digest_22 rfl ?_
  refine lv_ladd hx hb dX5_digest_23 ?_
  refine lv_lstore_n (lv' := [(1, .long ((((((((((((((((((1801317 : Int64) + ((F_X5_many0 c v w).toInt64)) * (31 : Int64)) + ((F_X5_many1 c v w).toInt64)) * (31 : Int64)) + ((F_X5_many2 c v w).toInt64)) * (31 : Int64)) + ((F_X5_many3 c v w).toInt64)) * (31 : Int64)) + ((F_X5_many4 c v w).toInt64)) * (31 : Int64)) + ((F_X5_many5 c v w).toInt64)) * (31 : Int64)) + ((F_X5_many6 c v w).toInt64)) * (31 : Int64)) + ((F_X5_many7 c v w).toInt64)) * (31 : Int64)) + ((F_X5_many8 c v w).toInt64))), (3, .int 8), (0, .ref (ad 5 0))]) hx hb dX5_digest_24 rfl hl (by decide) rfl (fun ls hl => ?_)
  refine lv_iinc (v := 9) (lv' := [(3, .int 9), (1, .long ((((((((((((((((((1801317 : Int64) + ((F_X5_many0 c v w).toInt64)) * (31 : Int64)) + ((F_X5_many1 c v w).toInt64)) * (31 : Int64)) + ((F_X5_many2 c v w).toInt64)) * (31 : Int64)) + ((F_X5_many3 c v w).toInt64)) * (31 : Int64)) + ((F_X5_many4 c v w).toInt64)) * (31 : Int64)) + ((F_X5_many5 c v w).toInt64)) * (31 : Int64)) + ((F_X5_many6 c v w).toInt64)) * (31 : Int64)) + ((F_X5_many7 c v w).toInt64)) * (31 : Int64)) + ((F_X5_many8 c v w).toInt64))), (0, .ref (ad 5 0))]) hx hb dX5_digest_25 hl (k := 1) rfl (by decide) (by decide) rfl (fun ls hl => ?_)
  refine lv_goto (tgt := 6) hx hb dX5_digest_28 (by decide) ?_
  refine lv_iload_n hx hb dX5_digest_6 rfl (lv_at hl 0 rfl) ?_
  refine lv_bipush (v := 12) hx hb dX5_digest_7 (by decide) ?_
  refine lv_icmp_gt (tgt := 31) hx hb dX5_digest_9 (by decide) (fun c455 => absurd c455 (by decide)) (fun _ => ?_)
  refine lv_lload_n hx hb dX5_digest_12 rfl (lv_at hl 1 rfl) ?_
  refine lv_ldc2 (v := 31) hx hb hown (hts (.constantLong RX5 336 31) (by decide +kernel)) dX5_digest_13 ?_
  refine lv_lmul hx hb dX5_digest_16 ?_
  refine lv_aload_n hx hb dX5_digest_17 rfl (lv_at hl 2 rfl) ?_
  refine lv_iload_n hx hb dX5_digest_18 rfl (lv_at hl 0 rfl) ?_
  refine pc_rcalli (va_runV (As := [.int 9]) (rest := [.long (((((((((((((((((((1801317 : Int64) + ((F_X5_many0 c v w).toInt64)) * (31 : Int64)) + ((F_X5_many1 c v w).toInt64)) * (31 : Int64)) + ((F_X5_many2 c v w).toInt64)) * (31 : Int64)) + ((F_X5_many3 c v w).toInt64)) * (31 : Int64)) + ((F_X5_many4 c v w).toInt64)) * (31 : Int64)) + ((F_X5_many5 c v w).toInt64)) * (31 : Int64)) + ((F_X5_many6 c v w).toInt64)) * (31 : Int64)) + ((F_X5_many7 c v w).toInt64)) * (31 : Int64)) + ((F_X5_many8 c v w).toInt64)) * (31 : Int64))]) ⟨hx, hb, hml, hown, hts⟩ (r_X5_many9 l D cA NL c v w u ad  hM hBd hF ) (cwV 1 hts gX5_digest_X5_many rfl rfl rfl (by decide +kernel) ⟨Nat.le_of_ble_eq_true rfl, Nat.le_of_ble_eq_true rfl⟩) (pc_preV pcN_ok hX hW.1 hM.1 rfl rfl hW.1) rfl rfl hl.1 rfl (lv_room (Nat.le_of_ble_eq_true rfl)) dX5_digest_19 ⟨Nat.le_of_ble_eq_true rfl, Nat.le_of_ble_eq_true rfl⟩) hW (fun r456 H locs hwr456 hW => ?_)
  replace hwr456 := hwr456.symm
  subst hwr456
  refine lv_i2l (v := (F_X5_many9 c v w).toInt64) hx hb dX5_digest_22 rfl ?_
  refine lv_ladd hx hb dX5_digest_23 ?_
  refine lv_lstore_n (lv' := [(1, .long ((((((((((((((((((((1801317 : Int64) + ((F_X5_many0 c v w).toInt64)) * (31 : Int64)) + ((F_X5_many1 c v w).toInt64)) * (31 : Int64)) + ((F_X5_many2 c v w).toInt64)) * (31 : Int64)) + ((F_X5_many3 c v w).toInt64)) * (31 : Int64)) + ((F_X5_many4 c v w).toInt64)) * (31 : Int64)) + ((F_X5_many5 c v w).toInt64)) * (31 : Int64)) + ((F_X5_many6 c v w).toInt64)) * (31 : Int64)) + ((F_X5_many7 c v w).toInt64)) * (31 : Int64)) + ((F_X5_many8 c v w).toInt64)) * (31 : Int64)) + ((F_X5_many9 c v w).toInt64))), (3, .int 9), (0, .ref (ad 5 0))]) hx hb dX5_digest_24 rfl hl (by decide) rfl (fun ls hl => ?_)
  refine lv_iinc (v := 10) (lv' := [(3, .int 10), (1, .long ((((((((((((((((((((1801317 : Int64) + ((F_X5_many0 c v w).toInt64)) * (31 : Int64)) + ((F_X5_many1 c v w).toInt64)) * (31 : Int64)) + ((F_X5_many2 c v w).toInt64)) * (31 : Int64)) + ((F_X5_many3 c v w).toInt64)) * (31 : Int64)) + ((F_X5_many4 c v w).toInt64)) * (31 : Int64)) + ((F_X5_many5 c v w).toInt64)) * (31 : Int64)) + ((F_X5_many6 c v w).toInt64)) * (31 : Int64)) + ((F_X5_many7 c v w).toInt64)) * (31 : Int64)) + ((F_X5_many8 c v w).toInt64)) * (31 : Int64)) + ((F_X5_many9 c v w).toInt64))), (0, .ref (ad 5 0))]) hx hb dX5_digest_25 hl (k := 1) rfl (by decide) (by decide) rfl (fun ls hl => ?_)
  refine lv_goto (tgt := 6) hx hb dX5_digest_28 (by decide) ?_
  refine lv_iload_n hx hb dX5_digest_6 rfl (lv_at hl 0 rfl) ?_
  refine lv_bipush (v := 12) hx hb dX5_digest_7 (by decide) ?_
  refine lv_icmp_gt (tgt := 31) hx hb dX5_digest_9 (by decide) (fun c457 => absurd c457 (by decide)) (fun _ => ?_)
  refine lv_lload_n hx hb dX5_digest_12 rfl (lv_at hl 1 rfl) ?_
  refine lv_ldc2 (v := 31) hx hb hown (hts (.constantLong RX5 336 31) (by decide +kernel)) dX5_digest_13 ?_
  refine lv_lmul hx hb dX5_digest_16 ?_
  refine lv_aload_n hx hb dX5_digest_17 rfl (lv_at hl 2 rfl) ?_
  refine lv_iload_n hx hb dX5_digest_18 rfl (lv_at hl 0 rfl) ?_
  refine pc_rcalli (va_runV (As := [.int 10]) (rest := [.long (((((((((((((((((((((1801317 : Int64) + ((F_X5_many0 c v w).toInt64)) * (31 : Int64)) + ((F_X5_many1 c v w).toInt64)) * (31 : Int64)) + ((F_X5_many2 c v w).toInt64)) * (31 : Int64)) + ((F_X5_many3 c v w).toInt64)) * (31 : Int64)) + ((F_X5_many4 c v w).toInt64)) * (31 : Int64)) + ((F_X5_many5 c v w).toInt64)) * (31 : Int64)) + ((F_X5_many6 c v w).toInt64)) * (31 : Int64)) + ((F_X5_many7 c v w).toInt64)) * (31 : Int64)) + ((F_X5_many8 c v w).toInt64)) * (31 : Int64)) + ((F_X5_many9 c v w).toInt64)) * (31 : Int64))]) ⟨hx, hb, hml, hown, hts⟩ (r_X5_many10 l D cA NL c v w u ad  hM hBd hF ) (cwV 1 hts gX5_digest_X5_many rfl rfl rfl (by decide +kernel) ⟨Nat.le_of_ble_eq_true rfl, Nat.le_of_ble_eq_true rfl⟩) (pc_preV pcN_ok hX hW.1 hM.1 rfl rfl hW.1) rfl rfl hl.1 rfl (lv_room (Nat.le_of_ble_eq_true rfl)) dX5_digest_19 ⟨Nat.le_of_ble_eq_true rfl, Nat.le_of_ble_eq_true rfl⟩) hW (fun r458 H locs hwr458 hW => ?_)
  replace hwr458 := hwr458.symm
  subst hwr458
  refine lv_i2l (v := (F_X5_many10 c v w).toInt64) hx hb dX5_digest_22 rfl ?_
  refine lv_ladd hx hb dX5_digest_23 ?_
  refine lv_lstore_n (lv' := [(1, .long ((((((((((((((((((((((1801317 : Int64) + ((F_X5_many0 c v w).toInt64)) * (31 : Int64)) + ((F_X5_many1 c v w).toInt64)) * (31 : Int64)) + ((F_X5_many2 c v w).toInt64)) * (31 : Int64)) + ((F_X5_many3 c v w).toInt64)) * (31 : Int64)) + ((F_X5_many4 c v w).toInt64)) * (31 : Int64)) + ((F_X5_many5 c v w).toInt64)) * (31 : Int64)) + ((F_X5_many6 c v w).toInt64)) * (31 : Int64)) + ((F_X5_many7 c v w).toInt64)) * (31 : Int64)) + ((F_X5_many8 c v w).toInt64)) * (31 : Int64)) + ((F_X5_many9 c v w).toInt64)) * (31 : Int64)) + ((F_X5_many10 c v w).toInt64))), (3, .int 10), (0, .ref (ad 5 0))]) hx hb dX5_digest_24 rfl hl (by decide) rfl (fun ls hl => ?_)
  refine lv_iinc (v := 11) (lv' := [(3, .int 11), (1, .long ((((((((((((((((((((((1801317 : Int64) + ((F_X5_many0 c v w).toInt64)) * (31 : Int64)) + ((F_X5_many1 c v w).toInt64)) * (31 : Int64)) + ((F_X5_many2 c v w).toInt64)) * (31 : Int64)) + ((F_X5_many3 c v w).toInt64)) * (31 : Int64)) + ((F_X5_many4 c v w).toInt64)) * (31 : Int64)) + ((F_X5_many5 c v w).toInt64)) * (31 : Int64)) + ((F_X5_many6 c v w).toInt64)) * (31 : Int64)) + ((F_X5_many7 c v w).toInt64)) * (31 : Int64)) + ((F_X5_many8 c v w).toInt64)) * (31 : Int64)) + ((F_X5_many9 c v w).toInt64)) * (31 : Int64)) + ((F_X5_many10 c v w).toInt64))), (0, .ref (ad 5 0))]) hx hb dX5_digest_25 hl (k := 1) rfl (by decide) (by decide) rfl (fun ls hl => ?_)
  refine lv_goto (tgt := 6) hx hb dX5_digest_28 (by decide) ?_
  refine lv_iload_n hx hb dX5_digest_6 rfl (lv_at hl 0 rfl) ?_
  refine lv_bipush (v := 12) hx hb dX5_digest_7 (by decide) ?_
  refine lv_icmp_gt (tgt := 31) hx hb dX5_digest_9 (by decide) (fun c459 => absurd c459 (by decide)) (fun _ => ?_)
  refine lv_lload_n hx hb dX5_digest_12 rfl (lv_at hl 1 rfl) ?_
  refine lv_ldc2 (v := 31) hx hb hown (hts (.constantLong RX5 336 31) (by decide +kernel)) dX5_digest_13 ?_
  refine lv_lmul hx hb dX5_digest_16 ?_
  refine lv_aload_n hx hb dX5_digest_17 rfl (lv_at hl 2 rfl) ?_
  refine lv_iload_n hx hb dX5_digest_18 rfl (lv_at hl 0 rfl) ?_
  refine pc_rcalli (va_runV (As := [.int 11]) (rest := [.long (((((((((((((((((((((((1801317 : Int64) + ((F_X5_many0 c v w).toInt64)) * (31 : Int64)) + ((F_X5_many1 c v w).toInt64)) * (31 : Int64)) + ((F_X5_many2 c v w).toInt64)) * (31 : Int64)) + ((F_X5_many3 c v w).toInt64)) * (31 : Int64)) + ((F_X5_many4 c v w).toInt64)) * (31 : Int64)) + ((F_X5_many5 c v w).toInt64)) * (31 : Int64)) + ((F_X5_many6 c v w).toInt64)) * (31 : Int64)) + ((F_X5_many7 c v w).toInt64)) * (31 : Int64)) + ((F_X5_many8 c v w).toInt64)) * (31 : Int64)) + ((F_X5_many9 c v w).toInt64)) * (31 : Int64)) + ((F_X5_many10 c v w).toInt64)) * (31 : Int64))]) ⟨hx, hb, hml, hown, hts⟩ (r_X5_many11 l D cA NL c v w u ad  hM hBd hF ) (cwV 1 hts gX5_digest_X5_many rfl rfl rfl (by decide +kernel) ⟨Nat.le_of_ble_eq_true rfl, Nat.le_of_ble_eq_true rfl⟩) (pc_preV pcN_ok hX hW.1 hM.1 rfl rfl hW.1) rfl rfl hl.1 rfl (lv_room (Nat.le_of_ble_eq_true rfl)) dX5_digest_19 ⟨Nat.le_of_ble_eq_true rfl, Nat.le_of_ble_eq_true rfl⟩) hW (fun r460 H locs hwr460 hW => ?_)
  replace hwr460 := hwr460.symm
  subst hwr460
  refine lv_i2l (v := (F_X5_many11 c v w).toInt64) hx hb dX5_digest_22 rfl ?_
  refine lv_ladd hx hb dX5_digest_23 ?_
  refine lv_lstore_n (lv' := [(1, .long ((((((((((((((((((((((((1801317 : Int64) + ((F_X5_many0 c v w).toInt64)) * (31 : Int64)) + ((F_X5_many1 c v w).toInt64)) * (31 : Int64)) + ((F_X5_many2 c v w).toInt64)) * (31 : Int64)) + ((F_X5_many3 c v w).toInt64)) * (31 : Int64)) + ((F_X5_many4 c v w).toInt64)) * (31 : Int64)) + ((F_X5_many5 c v w).toInt64)) * (31 : Int64)) + ((F_X5_many6 c v w).toInt64)) * (31 : Int64)) + ((F_X5_many7 c v w).toInt64)) * (31 : Int64)) + ((F_X5_many8 c v w).toInt64)) * (31 : Int64)) + ((F_X5_many9 c v w).toInt64)) * (31 : Int64)) + ((F_X5_many10 c v w).toInt64)) * (31 : Int64)) + ((F_X5_many11 c v w).toInt64))), (3, .int 11), (0, .ref (ad 5 0))]) hx hb dX5_digest_24 rfl hl (by decide) rfl (fun ls hl => ?_)
  refine lv_iinc (v := 12) (lv' := [(3, .int 12), (1, .long ((((((((((((((((((((((((1801317 : Int64) + ((F_X5_many0 c v w).toInt64)) * (31 : Int64)) + ((F_X5_many1 c v w).toInt64)) * (31 : Int64)) + ((F_X5_many2 c v w).toInt64)) * (31 : Int64)) + ((F_X5_many3 c v w).toInt64)) * (31 : Int64)) + ((F_X5_many4 c v w).toInt64)) * (31 : Int64)) + ((F_X5_many5 c v w).toInt64)) * (31 : Int64)) + ((F_X5_many6 c v w).toInt64)) * (31 : Int64)) + ((F_X5_many7 c v w).toInt64)) * (31 : Int64)) + ((F_X5_many8 c v w).toInt64)) * (31 : Int64)) + ((F_X5_many9 c v w).toInt64)) * (31 : Int64)) + ((F_X5_many10 c v w).toInt64)) * (31 : Int64)) + ((F_X5_many11 c v w).toInt64))), (0, .ref (ad 5 0))]) hx hb dX5_digest_25 hl (k := 1) rfl (by decide) (by decide) rfl (fun ls hl => ?_)
  refine lv_goto (tgt := 6) hx hb dX5_digest_28 (by decide) ?_
  refine lv_iload_n hx hb dX5_digest_6 rfl (lv_at hl 0 rfl) ?_
  refine lv_bipush (v := 12) hx hb dX5_digest_7 (by decide) ?_
  refine lv_icmp_gt (tgt := 31) hx hb dX5_digest_9 (by decide) (fun c461 => absurd c461 (by decide)) (fun _ => ?_)
  refine lv_lload_n hx hb dX5_digest_12 rfl (lv_at hl 1 rfl) ?_
  refine lv_ldc2 (v := 31) hx hb hown (hts (.constantLong RX5 336 31) (by decide +kernel)) dX5_digest_13 ?_
  refine lv_lmul hx hb dX5_digest_16 ?_
  refine lv_aload_n hx hb dX5_digest_17 rfl (lv_at hl 2 rfl) ?_
  refine lv_iload_n hx hb dX5_digest_18 rfl (lv_at hl 0 rfl) ?_
  refine pc_rcalli (va_runV (As := [.int 12]) (rest := [.long (((((((((((((((((((((((((1801317 : Int64) + ((F_X5_many0 c v w).toInt64)) * (31 : Int64)) + ((F_X5_many1 c v w).toInt64)) * (31 : Int64)) + ((F_X5_many2 c v w).toInt64)) * (31 : Int64)) + ((F_X5_many3 c v w).toInt64)) * (31 : Int64)) + ((F_X5_many4 c v w).toInt64)) * (31 : Int64)) + ((F_X5_many5 c v w).toInt64)) * (31 : Int64)) + ((F_X5_many6 c v w).toInt64)) * (31 : Int64)) + ((F_X5_many7 c v w).toInt64)) * (31 : Int64)) + ((F_X5_many8 c v w).toInt64)) * (31 : Int64)) + ((F_X5_many9 c v w).toInt64)) * (31 : Int64)) + ((F_X5_many10 c v w).toInt64)) * (31 : Int64)) + ((F_X5_many11 c v w).toInt64)) * (31 : Int64))]) ⟨hx, hb, hml, hown, hts⟩ (r_X5_many12 l D cA NL c v w u ad  hM hBd hF ) (cwV 1 hts gX5_digest_X5_many rfl rfl rfl (by decide +kernel) ⟨Nat.le_of_ble_eq_true rfl, Nat.le_of_ble_eq_true rfl⟩) (pc_preV pcN_ok hX hW.1 hM.1 rfl rfl hW.1) rfl rfl hl.1 rfl (lv_room (Nat.le_of_ble_eq_true rfl)) dX5_digest_19 ⟨Nat.le_of_ble_eq_true rfl, Nat.le_of_ble_eq_true rfl⟩) hW (fun r462 H locs hwr462 hW => ?_)
  replace hwr462 := hwr462.symm
  subst hwr462
  refine lv_i2l (v := (F_X5_many12 c v w).toInt64) hx hb dX5_digest_22 rfl ?_
  refine lv_ladd hx hb dX5_digest_23 ?_
  refine lv_lstore_n (lv' := [(1, .long ((((((((((((((((((((((((((1801317 : Int64) + ((F_X5_many0 c v w).toInt64)) * (31 : Int64)) + ((F_X5_many1 c v w).toInt64)) * (31 : Int64)) + ((F_X5_many2 c v w).toInt64)) * (31 : Int64)) + ((F_X5_many3 c v w).toInt64)) * (31 : Int64)) + ((F_X5_many4 c v w).toInt64)) * (31 : Int64)) + ((F_X5_many5 c v w).toInt64)) * (31 : Int64)) + ((F_X5_many6 c v w).toInt64)) * (31 : Int64)) + ((F_X5_many7 c v w).toInt64)) * (31 : Int64)) + ((F_X5_many8 c v w).toInt64)) * (31 : Int64)) + ((F_X5_many9 c v w).toInt64)) * (31 : Int64)) + ((F_X5_many10 c v w).toInt64)) * (31 : Int64)) + ((F_X5_many11 c v w).toInt64)) * (31 : Int64)) + ((F_X5_many12 c v w).toInt64))), (3, .int 12), (0, .ref (ad 5 0))]) hx hb dX5_digest_24 rfl hl (by decide) rfl (fun ls hl => ?_)
  refine lv_iinc (v := 13) (lv' := [(3, .int 13), (1, .long ((((((((((((((((((((((((((1801317 : Int64) + ((F_X5_many0 c v w).toInt64)) * (31 : Int64)) + ((F_X5_many1 c v w).toInt64)) * (31 : Int64)) + ((F_X5_many2 c v w).toInt64)) * (31 : Int64)) + ((F_X5_many3 c v w).toInt64)) * (31 : Int64)) + ((F_X5_many4 c v w).toInt64)) * (31 : Int64)) + ((F_X5_many5 c v w).toInt64)) * (31 : Int64)) + ((F_X5_many6 c v w).toInt64)) * (31 : Int64)) + ((F_X5_many7 c v w).toInt64)) * (31 : Int64)) + ((F_X5_many8 c v w).toInt64)) * (31 : Int64)) + ((F_X5_many9 c v w).toInt64)) * (31 : Int64)) + ((F_X5_many10 c v w).toInt64)) * (31 : Int64)) + ((F_X5_many11 c v w).toInt64)) * (31 : Int64)) + ((F_X5_many12 c v w).toInt64))), (0, .ref (ad 5 0))]) hx hb dX5_digest_25 hl (k := 1) rfl (by decide) (by decide) rfl (fun ls hl => ?_)
  refine lv_goto (tgt := 6) hx hb dX5_digest_28 (by decide) ?_
  refine lv_iload_n hx hb dX5_digest_6 rfl (lv_at hl 0 rfl) ?_
  refine lv_bipush (v := 12) hx hb dX5_digest_7 (by decide) ?_
  refine lv_icmp_gt (tgt := 31) hx hb dX5_digest_9 (by decide) (fun _ => ?_) (fun c463 => absurd (by decide) c463)
  refine lv_iconst (v := 0) hx hb dX5_digest_31 (by decide) ?_
  refine lv_istore_n (lv' := [(3, .int 0), (1, .long ((((((((((((((((((((((((((1801317 : Int64) + ((F_X5_many0 c v w).toInt64)) * (31 : Int64)) + ((F_X5_many1 c v w).toInt64)) * (31 : Int64)) + ((F_X5_many2 c v w).toInt64)) * (31 : Int64)) + ((F_X5_many3 c v w).toInt64)) * (31 : Int64)) + ((F_X5_many4 c v w).toInt64)) * (31 : Int64)) + ((F_X5_many5 c v w).toInt64)) * (31 : Int64)) + ((F_X5_many6 c v w).toInt64)) * (31 : Int64)) + ((F_X5_many7 c v w).toInt64)) * (31 : Int64)) + ((F_X5_many8 c v w).toInt64)) * (31 : Int64)) + ((F_X5_many9 c v w).toInt64)) * (31 : Int64)) + ((F_X5_many10 c v w).toInt64)) * (31 : Int64)) + ((F_X5_many11 c v w).toInt64)) * (31 : Int64)) + ((F_X5_many12 c v w).toInt64))), (0, .ref (ad 5 0))]) hx hb dX5_digest_32 rfl hl (by decide) rfl (fun ls hl => ?_)
  have K467 : ∀ (k465 i464 : Nat) (s466 : Int64) (H : Heap) (locs : List Loc) (ls : Array Slot), i464 + k465 = c 0 → (FL_X5_digest c v w k465 i464 s466) = (FL_X5_digest c v w (c 0) 0 ((((((((((((((((((((((((((1801317 : Int64) + ((F_X5_many0 c v w).toInt64)) * (31 : Int64)) + ((F_X5_many1 c v w).toInt64)) * (31 : Int64)) + ((F_X5_many2 c v w).toInt64)) * (31 : Int64)) + ((F_X5_many3 c v w).toInt64)) * (31 : Int64)) + ((F_X5_many4 c v w).toInt64)) * (31 : Int64)) + ((F_X5_many5 c v w).toInt64)) * (31 : Int64)) + ((F_X5_many6 c v w).toInt64)) * (31 : Int64)) + ((F_X5_many7 c v w).toInt64)) * (31 : Int64)) + ((F_X5_many8 c v w).toInt64)) * (31 : Int64)) + ((F_X5_many9 c v w).toInt64)) * (31 : Int64)) + ((F_X5_many10 c v w).toInt64)) * (31 : Int64)) + ((F_X5_many11 c v w).toInt64)) * (31 : Int64)) + ((F_X5_many12 c v w).toInt64))) → pcS D vwCl A s.heap NL ad (ctO cA c v w u ad) H locs → lv_has ls 5 [(3, .int (nI i464)), (1, .long s466), (0, .ref (ad 5 0))] → W p l e (headSpec wsX5_digest ({ frames := 7, cells := 0, slots := 0, locals := 166 })).room s m ([.ref (ad 5 0)] : List Value).toArray below meth c0 H locs 0 0 (MQ below (va_Ql (fun (r : Int64) (_ : Unit) => r = F_X5_digest c v w) (fun (_ : Unit) t => va_P D vwCl (pcW NL ad (ctO cA c v w (U_X5_digest c v w) ad)) t.heap) A) ([.ref (ad 5 0)] : List Value).toArray s 0 0 A) (F0 m 33 ls []) := by
    intro k465
    induction k465 with
    | zero =>
      intro i464 s466 H locs ls hk heF hW hl
      have ei : i464 = c 0 := by omega
      rw [ei] at hl
      obtain rfl : (FL_X5_digest c v w (c 0) 0 ((((((((((((((((((((((((((1801317 : Int64) + ((F_X5_many0 c v w).toInt64)) * (31 : Int64)) + ((F_X5_many1 c v w).toInt64)) * (31 : Int64)) + ((F_X5_many2 c v w).toInt64)) * (31 : Int64)) + ((F_X5_many3 c v w).toInt64)) * (31 : Int64)) + ((F_X5_many4 c v w).toInt64)) * (31 : Int64)) + ((F_X5_many5 c v w).toInt64)) * (31 : Int64)) + ((F_X5_many6 c v w).toInt64)) * (31 : Int64)) + ((F_X5_many7 c v w).toInt64)) * (31 : Int64)) + ((F_X5_many8 c v w).toInt64)) * (31 : Int64)) + ((F_X5_many9 c v w).toInt64)) * (31 : Int64)) + ((F_X5_many10 c v w).toInt64)) * (31 : Int64)) + ((F_X5_many11 c v w).toInt64)) * (31 : Int64)) + ((F_X5_many12 c v w).toInt64))) = s466 := heF.symm
      clear heF
      refine lv_iload_n hx hb dX5_digest_33 rfl (lv_at hl 0 rfl) ?_
      refine lv_aload_n hx hb dX5_digest_34 rfl (lv_at hl 2 rfl) ?_
      refine pc_get (C := RX5) (T := TX5) (N := 13) (ci := 5) hx hb hts (by decide +kernel) hown hX.1 hW.1 5 0 hM.1 rfl rfl 7 (by decide) (hts (.fieldLink RX5 48 "DraftsmanOffice" "sheetCount" "I") (by decide +kernel)) (fun _ h9 => h9) rfl dX5_digest_35 ?_
      refine lv_icmp_ge (tgt := 159) hx hb dX5_digest_38 (by decide) (fun _ => ?_) (fun c468 => absurd (Int32.le_refl _) c468)
      refine lv_iconst (v := 0) hx hb dX5_digest_159 (by decide) ?_
      refine lv_istore_n (lv' := [(3, .int 0), (1, .long (FL_X5_digest c v w (c 0) 0 ((((((((((((((((((((((((((1801317 : Int64) + ((F_X5_many0 c v w).toInt64)) * (31 : Int64)) + ((F_X5_many1 c v w).toInt64)) * (31 : Int64)) + ((F_X5_many2 c v w).toInt64)) * (31 : Int64)) + ((F_X5_many3 c v w).toInt64)) * (31 : Int64)) + ((F_X5_many4 c v w).toInt64)) * (31 : Int64)) + ((F_X5_many5 c v w).toInt64)) * (31 : Int64)) + ((F_X5_many6 c v w).toInt64)) * (31 : Int64)) + ((F_X5_many7 c v w).toInt64)) * (31 : Int64)) + ((F_X5_many8 c v w).toInt64)) * (31 : Int64)) + ((F_X5_many9 c v w).toInt64)) * (31 : Int64)) + ((F_X5_many10 c v w).toInt64)) * (31 : Int64)) + ((F_X5_many11 c v w).toInt64)) * (31 : Int64)) + ((F_X5_many12 c v w).toInt64)))), (0, .ref (ad 5 0))]) hx hb dX5_digest_160 rfl hl (by decide) rfl (fun ls hl => ?_)
      have K472 : ∀ (k470 i469 : Nat) (s471 : Int64) (H : Heap) (locs : List Loc) (ls : Array Slot), i469 + k470 = c 3 → (FL2_X5_digest c v w k470 i469 s471) = (FL2_X5_digest c v w (c 3) 0 (FL_X5_digest c v w (c 0) 0 ((((((((((((((((((((((((((1801317 : Int64) + ((F_X5_many0 c v w).toInt64)) * (31 : Int64)) + ((F_X5_many1 c v w).toInt64)) * (31 : Int64)) + ((F_X5_many2 c v w).toInt64)) * (31 : Int64)) + ((F_X5_many3 c v w).toInt64)) * (31 : Int64)) + ((F_X5_many4 c v w).toInt64)) * (31 : Int64)) + ((F_X5_many5 c v w).toInt64)) * (31 : Int64)) + ((F_X5_many6 c v w).toInt64)) * (31 : Int64)) + ((F_X5_many7 c v w).toInt64)) * (31 : Int64)) + ((F_X5_many8 c v w).toInt64)) * (31 : Int64)) + ((F_X5_many9 c v w).toInt64)) * (31 : Int64)) + ((F_X5_many10 c v w).toInt64)) * (31 : Int64)) + ((F_X5_many11 c v w).toInt64)) * (31 : Int64)) + ((F_X5_many12 c v w).toInt64)))) → pcS D vwCl A s.heap NL ad (ctO cA c v w u ad) H locs → lv_has ls 5 [(3, .int (nI i469)), (1, .long s471), (0, .ref (ad 5 0))] → W p l e (headSpec wsX5_digest ({ frames := 7, cells := 0, slots := 0, locals := 166 })).room s m ([.ref (ad 5 0)] : List Value).toArray below meth c0 H locs 0 0 (MQ below (va_Ql (fun (r : Int64) (_ : Unit) => r = F_X5_digest c v w) (fun (_ : Unit) t => va_P D vwCl (pcW NL ad (ctO cA c v w (U_X5_digest c v w) ad)) t.heap) A) ([.ref (ad 5 0)] : List Value).toArray s 0 0 A) (F0 m 161 ls []) := by
        intro k470
        induction k470 with
        | zero =>
          intro i469 s471 H locs ls hk heF hW hl
          have ei : i469 = c 3 := by omega
          rw [ei] at hl
          obtain rfl : (FL2_X5_digest c v w (c 3) 0 (FL_X5_digest c v w (c 0) 0 ((((((((((((((((((((((((((1801317 : Int64) + ((F_X5_many0 c v w).toInt64)) * (31 : Int64)) + ((F_X5_many1 c v w).toInt64)) * (31 : Int64)) + ((F_X5_many2 c v w).toInt64)) * (31 : Int64)) + ((F_X5_many3 c v w).toInt64)) * (31 : Int64)) + ((F_X5_many4 c v w).toInt64)) * (31 : Int64)) + ((F_X5_many5 c v w).toInt64)) * (31 : Int64)) + ((F_X5_many6 c v w).toInt64)) * (31 : Int64)) + ((F_X5_many7 c v w).toInt64)) * (31 : Int64)) + ((F_X5_many8 c v w).toInt64)) * (31 : Int64)) + ((F_X5_many9 c v w).toInt64)) * (31 : Int64)) + ((F_X5_many10 c v w).toInt64)) * (31 : Int64)) + ((F_X5_many11 c v w).toInt64)) * (31 : Int64)) + ((F_X5_many12 c v w).toInt64)))) = s471 := heF.symm
          clear heF
          refine lv_iload_n hx hb dX5_digest_161 rfl (lv_at hl 0 rfl) ?_
          refine lv_aload_n hx hb dX5_digest_162 rfl (lv_at hl 2 rfl) ?_
          refine pc_get (C := RX5) (T := TX5) (N := 13) (ci := 5) hx hb hts (by decide +kernel) hown hX.1 hW.1 5 0 hM.1 rfl rfl 10 (by decide) (hts (.fieldLink RX5 58 "DraftsmanOffice" "queryCount" "I") (by decide +kernel)) (fun _ h9 => h9) rfl dX5_digest_163 ?_
          refine lv_icmp_ge (tgt := 201) hx hb dX5_digest_166 (by decide) (fun _ => ?_) (fun c473 => absurd (Int32.le_refl _) c473)
          refine lv_iconst (v := 0) hx hb dX5_digest_201 (by decide) ?_
          refine lv_istore_n (lv' := [(3, .int 0), (1, .long (FL2_X5_digest c v w (c 3) 0 (FL_X5_digest c v w (c 0) 0 ((((((((((((((((((((((((((1801317 : Int64) + ((F_X5_many0 c v w).toInt64)) * (31 : Int64)) + ((F_X5_many1 c v w).toInt64)) * (31 : Int64)) + ((F_X5_many2 c v w).toInt64)) * (31 : Int64)) + ((F_X5_many3 c v w).toInt64)) * (31 : Int64)) + ((F_X5_many4 c v w).toInt64)) * (31 : Int64)) + ((F_X5_many5 c v w).toInt64)) * (31 : Int64)) + ((F_X5_many6 c v w).toInt64)) * (31 : Int64)) + ((F_X5_many7 c v w).toInt64)) * (31 : Int64)) + ((F_X5_many8 c v w).toInt64)) * (31 : Int64)) + ((F_X5_many9 c v w).toInt64)) * (31 : Int64)) + ((F_X5_many10 c v w).toInt64)) * (31 : Int64)) + ((F_X5_many11 c v w).toInt64)) * (31 : Int64)) + ((F_X5_many12 c v w).toInt64))))), (0, .ref (ad 5 0))]) hx hb dX5_digest_202 rfl hl (by decide) rfl (fun ls hl => ?_)
          refine lv_iload_n hx hb dX5_digest_203 rfl (lv_at hl 0 rfl) ?_
          refine lv_iconst (v := 4) hx hb dX5_digest_204 (by decide) ?_
          refine lv_icmp_ge (tgt := 240) hx hb dX5_digest_205 (by decide) (fun c474 => absurd c474 (by decide)) (fun _ => ?_)
          refine lv_lload_n hx hb dX5_digest_208 rfl (lv_at hl 1 rfl) ?_
          refine lv_ldc2 (v := 31) hx hb hown (hts (.constantLong RX5 336 31) (by decide +kernel)) dX5_digest_209 ?_
          refine lv_lmul hx hb dX5_digest_212 ?_
          refine lv_aload_n hx hb dX5_digest_213 rfl (lv_at hl 2 rfl) ?_
          refine lv_iload_n hx hb dX5_digest_214 rfl (lv_at hl 0 rfl) ?_
          refine pc_rcalli (va_runV (As := [.int 0]) (rest := [.long ((FL2_X5_digest c v w (c 3) 0 (FL_X5_digest c v w (c 0) 0 ((((((((((((((((((((((((((1801317 : Int64) + ((F_X5_many0 c v w).toInt64)) * (31 : Int64)) + ((F_X5_many1 c v w).toInt64)) * (31 : Int64)) + ((F_X5_many2 c v w).toInt64)) * (31 : Int64)) + ((F_X5_many3 c v w).toInt64)) * (31 : Int64)) + ((F_X5_many4 c v w).toInt64)) * (31 : Int64)) + ((F_X5_many5 c v w).toInt64)) * (31 : Int64)) + ((F_X5_many6 c v w).toInt64)) * (31 : Int64)) + ((F_X5_many7 c v w).toInt64)) * (31 : Int64)) + ((F_X5_many8 c v w).toInt64)) * (31 : Int64)) + ((F_X5_many9 c v w).toInt64)) * (31 : Int64)) + ((F_X5_many10 c v w).toInt64)) * (31 : Int64)) + ((F_X5_many11 c v w).toInt64)) * (31 : Int64)) + ((F_X5_many12 c v w).toInt64)))) * (31 : Int64))]) ⟨hx, hb, hml, hown, hts⟩ (r_X5_owes l D cA NL c v w u ad (0 : Int32) hM hBd hF (by decide) (by decide)) (cwV 1 hts gX5_digest_X5_owes rfl rfl rfl (by decide +kernel) ⟨Nat.le_of_ble_eq_true rfl, Nat.le_of_ble_eq_true rfl⟩) (pc_preV pcN_ok hX hW.1 hM.1 rfl rfl hW.1) rfl rfl hl.1 rfl (lv_room (Nat.le_of_ble_eq_true rfl)) dX5_digest_215 ⟨Nat.le_of_ble_eq_true rfl, Nat.le_of_ble_eq_true rfl⟩) hW (fun r475 H locs hwr475 hW => ?_)
          replace hwr475 := hwr475.symm
          subst hwr475
          refine lv_i2l (v := (F_X5_owes c v w (0 : Int32)).toInt64) hx hb dX5_digest_218 rfl ?_
          refine lv_ladd hx hb dX5_digest_219 ?_
          refine lv_lstore_n (lv' := [(1, .long (((FL2_X5_digest c v w (c 3) 0 (FL_X5_digest c v w (c 0) 0 ((((((((((((((((((((((((((1801317 : Int64) + ((F_X5_many0 c v w).toInt64)) * (31 : Int64)) + ((F_X5_many1 c v w).toInt64)) * (31 : Int64)) + ((F_X5_many2 c v w).toInt64)) * (31 : Int64)) + ((F_X5_many3 c v w).toInt64)) * (31 : Int64)) + ((F_X5_many4 c v w).toInt64)) * (31 : Int64)) + ((F_X5_many5 c v w).toInt64)) * (31 : Int64)) + ((F_X5_many6 c v w).toInt64)) * (31 : Int64)) + ((F_X5_many7 c v w).toInt64)) * (31 : Int64)) + ((F_X5_many8 c v w).toInt64)) * (31 : Int64)) + ((F_X5_many9 c v w).toInt64)) * (31 : Int64)) + ((F_X5_many10 c v w).toInt64)) * (31 : Int64)) + ((F_X5_many11 c v w).toInt64)) * (31 : Int64)) + ((F_X5_many12 c v w).toInt64)))) * (31 : Int64)) + ((F_X5_owes c v w (0 : Int32)).toInt64))), (3, .int 0), (0, .ref (ad 5 0))]) hx hb dX5_digest_220 rfl hl (by decide) rfl (fun ls hl => ?_)
          refine lv_lload_n hx hb dX5_digest_221 rfl (lv_at hl 0 rfl) ?_
          refine lv_ldc2 (v := 31) hx hb hown (hts (.constantLong RX5 336 31) (by decide +kernel)) dX5_digest_222 ?_
          refine lv_lmul hx hb dX5_digest_225 ?_
          refine lv_aload_n hx hb dX5_digest_226 rfl (lv_at hl 2 rfl) ?_
          refine lv_iload_n hx hb dX5_digest_227 rfl (lv_at hl 1 rfl) ?_
          have hD9 := hW.2.1
          refine pc_mcalli (va_runV (As := [.int 0]) (rest := [.long ((((FL2_X5_digest c v w (c 3) 0 (FL_X5_digest c v w (c 0) 0 ((((((((((((((((((((((((((1801317 : Int64) + ((F_X5_many0 c v w).toInt64)) * (31 : Int64)) + ((F_X5_many1 c v w).toInt64)) * (31 : Int64)) + ((F_X5_many2 c v w).toInt64)) * (31 : Int64)) + ((F_X5_many3 c v w).toInt64)) * (31 : Int64)) + ((F_X5_many4 c v w).toInt64)) * (31 : Int64)) + ((F_X5_many5 c v w).toInt64)) * (31 : Int64)) + ((F_X5_many6 c v w).toInt64)) * (31 : Int64)) + ((F_X5_many7 c v w).toInt64)) * (31 : Int64)) + ((F_X5_many8 c v w).toInt64)) * (31 : Int64)) + ((F_X5_many9 c v w).toInt64)) * (31 : Int64)) + ((F_X5_many10 c v w).toInt64)) * (31 : Int64)) + ((F_X5_many11 c v w).toInt64)) * (31 : Int64)) + ((F_X5_many12 c v w).toInt64)))) * (31 : Int64)) + ((F_X5_owes c v w (0 : Int32)).toInt64)) * (31 : Int64))]) ⟨hx, hb, hml, hown, hts⟩ (m_X5_freedByAll l D cA NL c v w u ad A (0 : Int32) hM hBd hF (by decide) (by decide)) (cwV 1 hts gX5_digest_X5_freedByAll rfl rfl rfl (by decide +kernel) ⟨Nat.le_of_ble_eq_true rfl, Nat.le_of_ble_eq_true rfl⟩) (pc_preV pcN_ok hX hW.1 hM.1 rfl rfl ⟨hW.1, hW.2.1, fun q h => hA q (Nat.le_trans hW.2.2.1 h)⟩) rfl rfl hl.1 rfl (lv_room (Nat.le_of_ble_eq_true rfl)) dX5_digest_228 ⟨Nat.le_of_ble_eq_true rfl, Nat.le_of_ble_eq_true rfl⟩) hW.2.2 (fun r476 _ H locs hwr476 hB hS9 => ?_)
          replace hwr476 := hwr476.symm
          subst hwr476
          have hW : pcS D vwCl A s.heap NL ad (ctO cA c v w (U_X5_freedByAll c v w (0 : Int32)) ad) H locs := ⟨hB, pcD_ct hD9, hS9⟩
          refine lv_i2l (v := (F_X5_freedByAll c v w (0 : Int32)).toInt64) hx hb dX5_digest_231 rfl ?_
          refine lv_ladd hx hb dX5_digest_232 ?_
          refine lv_lstore_n (lv' := [(1, .long (((((FL2_X5_digest c v w (c 3) 0 (FL_X5_digest c v w (c 0) 0 ((((((((((((((((((((((((((1801317 : Int64) + ((F_X5_many0 c v w).toInt64)) * (31 : Int64)) + ((F_X5_many1 c v w).toInt64)) * (31 : Int64)) + ((F_X5_many2 c v w).toInt64)) * (31 : Int64)) + ((F_X5_many3 c v w).toInt64)) * (31 : Int64)) + ((F_X5_many4 c v w).toInt64)) * (31 : Int64)) + ((F_X5_many5 c v w).toInt64)) * (31 : Int64)) + ((F_X5_many6 c v w).toInt64)) * (31 : Int64)) + ((F_X5_many7 c v w).toInt64)) * (31 : Int64)) + ((F_X5_many8 c v w).toInt64)) * (31 : Int64)) + ((F_X5_many9 c v w).toInt64)) * (31 : Int64)) + ((F_X5_many10 c v w).toInt64)) * (31 : Int64)) + ((F_X5_many11 c v w).toInt64)) * (31 : Int64)) + ((F_X5_many12 c v w).toInt64)))) * (31 : Int64)) + ((F_X5_owes c v w (0 : Int32)).toInt64)) * (31 : Int64)) + ((F_X5_freedByAll c v w (0 : Int32)).toInt64))), (3, .int 0), (0, .ref (ad 5 0))]) hx hb dX5_digest_233 rfl hl (by decide) rfl (fun ls hl => ?_)
          refine lv_iinc (v := 1) (lv' := [(3, .int 1), (1, .long (((((FL2_X5_digest c v w (c 3) 0 (FL_X5_digest c v w (c 0) 0 ((((((((((((((((((((((((((1801317 : Int64) + ((F_X5_many0 c v w).toInt64)) * (31 : Int64)) + ((F_X5_many1 c v w).toInt64)) * (31 : Int64)) + ((F_X5_many2 c v w).toInt64)) * (31 : Int64)) + ((F_X5_many3 c v w).toInt64)) * (31 : Int64)) + ((F_X5_many4 c v w).toInt64)) * (31 : Int64)) + ((F_X5_many5 c v w).toInt64)) * (31 : Int64)) + ((F_X5_many6 c v w).toInt64)) * (31 : Int64)) + ((F_X5_many7 c v w).toInt64)) * (31 : Int64)) + ((F_X5_many8 c v w).toInt64)) * (31 : Int64)) + ((F_X5_many9 c v w).toInt64)) * (31 : Int64)) + ((F_X5_many10 c v w).toInt64)) * (31 : Int64)) + ((F_X5_many11 c v w).toInt64)) * (31 : Int64)) + ((F_X5_many12 c v w).toInt64)))) * (31 : Int64)) + ((F_X5_owes c v w (0 : Int32)).toInt64)) * (31 : Int64)) + ((F_X5_freedByAll c v w (0 : Int32)).toInt64))), (0, .ref (ad 5 0))]) hx hb dX5_digest_234 hl (k := 1) rfl (by decide) (by decide) rfl (fun ls hl => ?_)
          refine lv_goto (tgt := 203) hx hb dX5_digest_237 (by decide) ?_
          refine lv_iload_n hx hb dX5_digest_203 rfl (lv_at hl 0 rfl) ?_
          refine lv_iconst (v := 4) hx hb dX5_digest_204 (by decide) ?_
          refine lv_icmp_ge (tgt := 240) hx hb dX5_digest_205 (by decide) (fun c477 => absurd c477 (by decide)) (fun _ => ?_)
          refine lv_lload_n hx hb dX5_digest_208 rfl (lv_at hl 1 rfl) ?_
          refine lv_ldc2 (v := 31) hx hb hown (hts (.constantLong RX5 336 31) (by decide +kernel)) dX5_digest_209 ?_
          refine lv_lmul hx hb dX5_digest_212 ?_
          refine lv_aload_n hx hb dX5_digest_213 rfl (lv_at hl 2 rfl) ?_
          refine lv_iload_n hx hb dX5_digest_214 rfl (lv_at hl 0 rfl) ?_
          refine pc_rcalli (va_runV (As := [.int 1]) (rest := [.long ((((((FL2_X5_digest c v w (c 3) 0 (FL_X5_digest c v w (c 0) 0 ((((((((((((((((((((((((((1801317 : Int64) + ((F_X5_many0 c v w).toInt64)) * (31 : Int64)) + ((F_X5_many1 c v w).toInt64)) * (31 : Int64)) + ((F_X5_many2 c v w).toInt64)) * (31 : Int64)) + ((F_X5_many3 c v w).toInt64)) * (31 : Int64)) + ((F_X5_many4 c v w).toInt64)) * (31 : Int64)) + ((F_X5_many5 c v w).toInt64)) * (31 : Int64)) + ((F_X5_many6 c v w).toInt64)) * (31 : Int64)) + ((F_X5_many7 c v w).toInt64)) * (31 : Int64)) + ((F_X5_many8 c v w).toInt64)) * (31 : Int64)) + ((F_X5_many9 c v w).toInt64)) * (31 : Int64)) + ((F_X5_many10 c v w).toInt64)) * (31 : Int64)) + ((F_X5_many11 c v w).toInt64)) * (31 : Int64)) + ((F_X5_many12 c v w).toInt64)))) * (31 : Int64)) + ((F_X5_owes c v w (0 : Int32)).toInt64)) * (31 : Int64)) + ((F_X5_freedByAll c v w (0 : Int32)).toInt64)) * (31 : Int64))]) ⟨hx, hb, hml, hown, hts⟩ (r_X5_owes l D cA NL c v w (U_X5_freedByAll c v w (0 : Int32)) ad (1 : Int32) hM hBd hF (by decide) (by decide)) (cwV 1 hts gX5_digest_X5_owes rfl rfl rfl (by decide +kernel) ⟨Nat.le_of_ble_eq_true rfl, Nat.le_of_ble_eq_true rfl⟩) (pc_preV pcN_ok hX hW.1 hM.1 rfl rfl hW.1) rfl rfl hl.1 rfl (lv_room (Nat.le_of_ble_eq_true rfl)) dX5_digest_215 ⟨Nat.le_of_ble_eq_true rfl, Nat.le_of_ble_eq_true rfl⟩) hW (fun r478 H locs hwr478 hW => ?_)
          replace hwr478 := hwr478.symm
          subst hwr478
          refine lv_i2l (v := (F_X5_owes c v w (1 : Int32)).toInt64) hx hb dX5_digest_218 rfl ?_
          refine lv_ladd hx hb dX5_digest_219 ?_
          refine lv_lstore_n (lv' := [(1, .long (((((((FL2_X5_digest c v w (c 3) 0 (FL_X5_digest c v w (c 0) 0 ((((((((((((((((((((((((((1801317 : Int64) + ((F_X5_many0 c v w).toInt64)) * (31 : Int64)) + ((F_X5_many1 c v w).toInt64)) * (31 : Int64)) + ((F_X5_many2 c v w).toInt64)) * (31 : Int64)) + ((F_X5_many3 c v w).toInt64)) * (31 : Int64)) + ((F_X5_many4 c v w).toInt64)) * (31 : Int64)) + ((F_X5_many5 c v w).toInt64)) * (31 : Int64)) + ((F_X5_many6 c v w).toInt64)) * (31 : Int64)) + ((F_X5_many7 c v w).toInt64)) * (31 : Int64)) + ((F_X5_many8 c v w).toInt64)) * (31 : Int64)) + ((F_X5_many9 c v w).toInt64)) * (31 : Int64)) + ((F_X5_many10 c v w).toInt64)) * (31 : Int64)) + ((F_X5_many11 c v w).toInt64)) * (31 : Int64)) + ((F_X5_many12 c v w).toInt64)))) * (31 : Int64)) + ((F_X5_owes c v w (0 : Int32)).toInt64)) * (31 : Int64)) + ((F_X5_freedByAll c v w (0 : Int32)).toInt64)) * (31 : Int64)) + ((F_X5_owes c v w (1 : Int32)).toInt64))), (3, .int 1), (0, .ref (ad 5 0))]) hx hb dX5_digest_220 rfl hl (by decide) rfl (fun ls hl => ?_)
          refine lv_lload_n hx hb dX5_digest_221 rfl (lv_at hl 0 rfl) ?_
          refine lv_ldc2 (v := 31) hx hb hown (hts (.constantLong RX5 336 31) (by decide +kernel)) dX5_digest_222 ?_
          refine lv_lmul hx hb dX5_digest_225 ?_
          refine lv_aload_n hx hb dX5_digest_226 rfl (lv_at hl 2 rfl) ?_
          refine lv_iload_n hx hb dX5_digest_227 rfl (lv_at hl 1 rfl) ?_
          have hD9 := hW.2.1
          refine pc_mcalli (va_runV (As := [.int 1]) (rest := [.long ((((((((FL2_X5_digest c v w (c 3) 0 (FL_X5_digest c v w (c 0) 0 ((((((((((((((((((((((((((1801317 : Int64) + ((F_X5_many0 c v w).toInt64)) * (31 : Int64)) + ((F_X5_many1 c v w).toInt64)) * (31 : Int64)) + ((F_X5_many2 c v w).toInt64)) * (31 : Int64)) + ((F_X5_many3 c v w).toInt64)) * (31 : Int64)) + ((F_X5_many4 c v w).toInt64)) * (31 : Int64)) + ((F_X5_many5 c v w).toInt64)) * (31 : Int64)) + ((F_X5_many6 c v w).toInt64)) * (31 : Int64)) + ((F_X5_many7 c v w).toInt64)) * (31 : Int64)) + ((F_X5_many8 c v w).toInt64)) * (31 : Int64)) + ((F_X5_many9 c v w).toInt64)) * (31 : Int64)) + ((F_X5_many10 c v w).toInt64)) * (31 : Int64)) + ((F_X5_many11 c v w).toInt64)) * (31 : Int64)) + ((F_X5_many12 c v w).toInt64)))) * (31 : Int64)) + ((F_X5_owes c v w (0 : Int32)).toInt64)) * (31 : Int64)) + ((F_X5_freedByAll c v w (0 : Int32)).toInt64)) * (31 : Int64)) + ((F_X5_owes c v w (1 : Int32)).toInt64)) * (31 : Int64))]) ⟨hx, hb, hml, hown, hts⟩ (m_X5_freedByAll l D cA NL c v w (U_X5_freedByAll c v w (0 : Int32)) ad A (1 : Int32) hM hBd hF (by decide) (by decide)) (cwV 1 hts gX5_digest_X5_freedByAll rfl rfl rfl (by decide +kernel) ⟨Nat.le_of_ble_eq_true rfl, Nat.le_of_ble_eq_true rfl⟩) (pc_preV pcN_ok hX hW.1 hM.1 rfl rfl ⟨hW.1, hW.2.1, fun q h => hA q (Nat.le_trans hW.2.2.1 h)⟩) rfl rfl hl.1 rfl (lv_room (Nat.le_of_ble_eq_true rfl)) dX5_digest_228 ⟨Nat.le_of_ble_eq_true rfl, Nat.le_of_ble_eq_true rfl⟩) hW.2.2 (fun r479 _ H locs hwr479 hB hS9 => ?_)
          replace hwr479 := hwr479.symm
          subst hwr479
          have hW : pcS D vwCl A s.heap NL ad (ctO cA c v w (U_X5_freedByAll c v w (1 : Int32)) ad) H locs := ⟨hB, pcD_ct hD9, hS9⟩
          refine lv_i2l (v := (F_X5_freedByAll c v w (1 : Int32)).toInt64) hx hb dX5_digest_231 rfl ?_
          refine lv_ladd hx hb dX5_digest_232 ?_
          refine lv_lstore_n (lv' := [(1, .long (((((((((FL2_X5_digest c v w (c 3) 0 (FL_X5_digest c v w (c 0) 0 ((((((((((((((((((((((((((1801317 : Int64) + ((F_X5_many0 c v w).toInt64)) * (31 : Int64)) + ((F_X5_many1 c v w).toInt64)) * (31 : Int64)) + ((F_X5_many2 c v w).toInt64)) * (31 : Int64)) + ((F_X5_many3 c v w).toInt64)) * (31 : Int64)) + ((F_X5_many4 c v w).toInt64)) * (31 : Int64)) + ((F_X5_many5 c v w).toInt64)) * (31 : Int64)) + ((F_X5_many6 c v w).toInt64)) * (31 : Int64)) + ((F_X5_many7 c v w).toInt64)) * (31 : Int64)) + ((F_X5_many8 c v w).toInt64)) * (31 : Int64)) + ((F_X5_many9 c v w).toInt64)) * (31 : Int64)) + ((F_X5_many10 c v w).toInt64)) * (31 : Int64)) + ((F_X5_many11 c v w).toInt64)) * (31 : Int64)) + ((F_X5_many12 c v w).toInt64)))) * (31 : Int64)) + ((F_X5_owes c v w (0 : Int32)).toInt64)) * (31 : Int64)) + ((F_X5_freedByAll c v w (0 : Int32)).toInt64)) * (31 : Int64)) + ((F_X5_owes c v w (1 : Int32)).toInt64)) * (31 : Int64)) + ((F_X5_freedByAll c v w (1 : Int32)).toInt64))), (3, .int 1), (0, .ref (ad 5 0))]) hx hb dX5_digest_233 rfl hl (by decide) rfl (fun ls hl => ?_)
          refine lv_iinc (v := 2) (lv' := [(3, .int 2), (1, .long (((((((((FL2_X5_digest c v w (c 3) 0 (FL_X5_digest c v w (c 0) 0 ((((((((((((((((((((((((((1801317 : Int64) + ((F_X5_many0 c v w).toInt64)) * (31 : Int64)) + ((F_X5_many1 c v w).toInt64)) * (31 : Int64)) + ((F_X5_many2 c v w).toInt64)) * (31 : Int64)) + ((F_X5_many3 c v w).toInt64)) * (31 : Int64)) + ((F_X5_many4 c v w).toInt64)) * (31 : Int64)) + ((F_X5_many5 c v w).toInt64)) * (31 : Int64)) + ((F_X5_many6 c v w).toInt64)) * (31 : Int64)) + ((F_X5_many7 c v w).toInt64)) * (31 : Int64)) + ((F_X5_many8 c v w).toInt64)) * (31 : Int64)) + ((F_X5_many9 c v w).toInt64)) * (31 : Int64)) + ((F_X5_many10 c v w).toInt64)) * (31 : Int64)) + ((F_X5_many11 c v w).toInt64)) * (31 : Int64)) + ((F_X5_many12 c v w).toInt64)))) * (31 : Int64)) + ((F_X5_owes c v w (0 : Int32)).toInt64)) * (31 : Int64)) + ((F_X5_freedByAll c v w (0 : Int32)).toInt64)) * (31 : Int64)) + ((F_X5_owes c v w (1 : Int32)).toInt64)) * (31 : Int64)) + ((F_X5_freedByAll c v w (1 : Int32)).toInt64))), (0, .ref (ad 5 0))]) hx hb dX5_digest_234 hl (k := 1) rfl (by decide) (by decide) rfl (fun ls hl => ?_)
          refine lv_goto (tgt := 203) hx hb dX5_digest_237 (by decide) ?_
          refine lv_iload_n hx hb dX5_digest_203 rfl (lv_at hl 0 rfl) ?_
          refine lv_iconst (v := 4) hx hb dX5_digest_204 (by decide) ?_
          refine lv_icmp_ge (tgt := 240) hx hb dX5_digest_205 (by decide) (fun c480 => absurd c480 (by decide)) (fun _ => ?_)
          refine lv_lload_n hx hb dX5_digest_208 rfl (lv_at hl 1 rfl) ?_
          refine lv_ldc2 (v := 31) hx hb hown (hts (.constantLong RX5 336 31) (by decide +kernel)) dX5_digest_209 ?_
          refine lv_lmul hx hb dX5_digest_212 ?_
          refine lv_aload_n hx hb dX5_digest_213 rfl (lv_at hl 2 rfl) ?_
          refine lv_iload_n hx hb dX5_digest_214 rfl (lv_at hl 0 rfl) ?_
          refine pc_rcalli (va_runV (As := [.int 2]) (rest := [.long ((((((((((FL2_X5_digest c v w (c 3) 0 (FL_X5_digest c v w (c 0) 0 ((((((((((((((((((((((((((1801317 : Int64) + ((F_X5_many0 c v w).toInt64)) * (31 : Int64)) + ((F_X5_many1 c v w).toInt64)) * (31 : Int64)) + ((F_X5_many2 c v w).toInt64)) * (31 : Int64)) + ((F_X5_many3 c v w).toInt64)) * (31 : Int64)) + ((F_X5_many4 c v w).toInt64)) * (31 : Int64)) + ((F_X5_many5 c v w).toInt64)) * (31 : Int64)) + ((F_X5_many6 c v w).toInt64)) * (31 : Int64)) + ((F_X5_many7 c v w).toInt64)) * (31 : Int64)) + ((F_X5_many8 c v w).toInt64)) * (31 : Int64)) + ((F_X5_many9 c v w).toInt64)) * (31 : Int64)) + ((F_X5_many10 c v w).toInt64)) * (31 : Int64)) + ((F_X5_many11 c v w).toInt64)) * (31 : Int64)) + ((F_X5_many12 c v w).toInt64)))) * (31 : Int64)) + ((F_X5_owes c v w (0 : Int32)).toInt64)) * (31 : Int64)) + ((F_X5_freedByAll c v w (0 : Int32)).toInt64)) * (31 : Int64)) + ((F_X5_owes c v w (1 : Int32)).toInt64)) * (31 : Int64)) + ((F_X5_freedByAll c v w (1 : Int32)).toInt64)) * (31 : Int64))]) ⟨hx, hb, hml, hown, hts⟩ (r_X5_owes l D cA NL c v w (U_X5_freedByAll c v w (1 : Int32)) ad (2 : Int32) hM hBd hF (by decide) (by decide)) (cwV 1 hts gX5_digest_X5_owes rfl rfl rfl (by decide +kernel) ⟨Nat.le_of_ble_eq_true rfl, Nat.le_of_ble_eq_true rfl⟩) (pc_preV pcN_ok hX hW.1 hM.1 rfl rfl hW.1) rfl rfl hl.1 rfl (lv_room (Nat.le_of_ble_eq_true rfl)) dX5_digest_215 ⟨Nat.le_of_ble_eq_true rfl, Nat.le_of_ble_eq_true rfl⟩) hW (fun r481 H locs hwr481 hW => ?_)
          replace hwr481 := hwr481.symm
          subst hwr481
          refine lv_i2l (v := (F_X5_owes c v w (2 : Int32)).toInt64) hx hb dX5_digest_218 rfl ?_
          refine lv_ladd hx hb dX5_digest_219 ?_
          refine lv_lstore_n (lv' := [(1, .long (((((((((((FL2_X5_digest c v w (c 3) 0 (FL_X5_digest c v w (c 0) 0 ((((((((((((((((((((((((((1801317 : Int64) + ((F_X5_many0 c v w).toInt64)) * (31 : Int64)) + ((F_X5_many1 c v w).toInt64)) * (31 : Int64)) + ((F_X5_many2 c v w).toInt64)) * (31 : Int64)) + ((F_X5_many3 c v w).toInt64)) * (31 : Int64)) + ((F_X5_many4 c v w).toInt64)) * (31 : Int64)) + ((F_X5_many5 c v w).toInt64)) * (31 : Int64)) + ((F_X5_many6 c v w).toInt64)) * (31 : Int64)) + ((F_X5_many7 c v w).toInt64)) * (31 : Int64)) + ((F_X5_many8 c v w).toInt64)) * (31 : Int64)) + ((F_X5_many9 c v w).toInt64)) * (31 : Int64)) + ((F_X5_many10 c v w).toInt64)) * (31 : Int64)) + ((F_X5_many11 c v w).toInt64)) * (31 : Int64)) + ((F_X5_many12 c v w).toInt64)))) * (31 : Int64)) + ((F_X5_owes c v w (0 : Int32)).toInt64)) * (31 : Int64)) + ((F_X5_freedByAll c v w (0 : Int32)).toInt64)) * (31 : Int64)) + ((F_X5_owes c v w (1 : Int32)).toInt64)) * (31 : Int64)) + ((F_X5_freedByAll c v w (1 : Int32)).toInt64)) * (31 : Int64)) + ((F_X5_owes c v w (2 : Int32)).toInt64))), (3, .int 2), (0, .ref (ad 5 0))]) hx hb dX5_digest_220 rfl hl (by decide) rfl (fun ls hl => ?_)
          refine lv_lload_n hx hb dX5_digest_221 rfl (lv_at hl 0 rfl) ?_
          refine lv_ldc2 (v := 31) hx hb hown (hts (.constantLong RX5 336 31) (by decide +kernel)) dX5_digest_222 ?_
          refine lv_lmul hx hb dX5_digest_225 ?_
          refine lv_aload_n hx hb dX5_digest_226 rfl (lv_at hl 2 rfl) ?_
          refine lv_iload_n hx hb dX5_digest_227 rfl (lv_at hl 1 rfl) ?_
          have hD9 := hW.2.1
          refine pc_mcalli (va_runV (As := [.int 2]) (rest := [.long ((((((((((((FL2_X5_digest c v w (c 3) 0 (FL_X5_digest c v w (c 0) 0 ((((((((((((((((((((((((((1801317 : Int64) + ((F_X5_many0 c v w).toInt64)) * (31 : Int64)) + ((F_X5_many1 c v w).toInt64)) * (31 : Int64)) + ((F_X5_many2 c v w).toInt64)) * (31 : Int64)) + ((F_X5_many3 c v w).toInt64)) * (31 : Int64)) + ((F_X5_many4 c v w).toInt64)) * (31 : Int64)) + ((F_X5_many5 c v w).toInt64)) * (31 : Int64)) + ((F_X5_many6 c v w).toInt64)) * (31 : Int64)) + ((F_X5_many7 c v w).toInt64)) * (31 : Int64)) + ((F_X5_many8 c v w).toInt64)) * (31 : Int64)) + ((F_X5_many9 c v w).toInt64)) * (31 : Int64)) + ((F_X5_many10 c v w).toInt64)) * (31 : Int64)) + ((F_X5_many11 c v w).toInt64)) * (31 : Int64)) + ((F_X5_many12 c v w).toInt64)))) * (31 : Int64)) + ((F_X5_owes c v w (0 : Int32)).toInt64)) * (31 : Int64)) + ((F_X5_freedByAll c v w (0 : Int32)).toInt64)) * (31 : Int64)) + ((F_X5_owes c v w (1 : Int32)).toInt64)) * (31 : Int64)) + ((F_X5_freedByAll c v w (1 : Int32)).toInt64)) * (31 : Int64)) + ((F_X5_owes c v w (2 : Int32)).toInt64)) * (31 : Int64))]) ⟨hx, hb, hml, hown, hts⟩ (m_X5_freedByAll l D cA NL c v w (U_X5_freedByAll c v w (1 : Int32)) ad A (2 : Int32) hM hBd hF (by decide) (by decide)) (cwV 1 hts gX5_digest_X5_freedByAll rfl rfl rfl (by decide +kernel) ⟨Nat.le_of_ble_eq_true rfl, Nat.le_of_ble_eq_true rfl⟩) (pc_preV pcN_ok hX hW.1 hM.1 rfl rfl ⟨hW.1, hW.2.1, fun q h => hA q (Nat.le_trans hW.2.2.1 h)⟩) rfl rfl hl.1 rfl (lv_room (Nat.le_of_ble_eq_true rfl)) dX5_digest_228 ⟨Nat.le_of_ble_eq_true rfl, Nat.le_of_ble_eq_true rfl⟩) hW.2.2 (fun r482 _ H locs hwr482 hB hS9 => ?_)
          replace hwr482 := hwr482.symm
          subst hwr482
          have hW : pcS D vwCl A s.heap NL ad (ctO cA c v w (U_X5_freedByAll c v w (2 : Int32)) ad) H locs := ⟨hB, pcD_ct hD9, hS9⟩
          refine lv_i2l (v := (F_X5_freedByAll c v w (2 : Int32)).toInt64) hx hb dX5_digest_231 rfl ?_
          refine lv_ladd hx hb dX5_digest_232 ?_
          refine lv_lstore_n (lv' := [(1, .long (((((((((((((FL2_X5_digest c v w (c 3) 0 (FL_X5_digest c v w (c 0) 0 ((((((((((((((((((((((((((1801317 : Int64) + ((F_X5_many0 c v w).toInt64)) * (31 : Int64)) + ((F_X5_many1 c v w).toInt64)) * (31 : Int64)) + ((F_X5_many2 c v w).toInt64)) * (31 : Int64)) + ((F_X5_many3 c v w).toInt64)) * (31 : Int64)) + ((F_X5_many4 c v w).toInt64)) * (31 : Int64)) + ((F_X5_many5 c v w).toInt64)) * (31 : Int64)) + ((F_X5_many6 c v w).toInt64)) * (31 : Int64)) + ((F_X5_many7 c v w).toInt64)) * (31 : Int64)) + ((F_X5_many8 c v w).toInt64)) * (31 : Int64)) + ((F_X5_many9 c v w).toInt64)) * (31 : Int64)) + ((F_X5_many10 c v w).toInt64)) * (31 : Int64)) + ((F_X5_many11 c v w).toInt64)) * (31 : Int64)) + ((F_X5_many12 c v w).toInt64)))) * (31 : Int64)) + ((F_X5_owes c v w (0 : Int32)).toInt64)) * (31 : Int64)) + ((F_X5_freedByAll c v w (0 : Int32)).toInt64)) * (31 : Int64)) + ((F_X5_owes c v w (1 : Int32)).toInt64)) * (31 : Int64)) + ((F_X5_freedByAll c v w (1 : Int32)).toInt64)) * (31 : Int64)) + ((F_X5_owes c v w (2 : Int32)).toInt64)) * (31 : Int64)) + ((F_X5_freedByAll c v w (2 : Int32)).toInt64))), (3, .int 2), (0, .ref (ad 5 0))]) hx hb dX5_digest_233 rfl hl (by decide) rfl (fun ls hl => ?_)
          refine lv_iinc (v := 3) (lv' := [(3, .int 3), (1, .long (((((((((((((FL2_X5_digest c v w (c 3) 0 (FL_X5_digest c v w (c 0) 0 ((((((((((((((((((((((((((1801317 : Int64) + ((F_X5_many0 c v w).toInt64)) * (31 : Int64)) + ((F_X5_many1 c v w).toInt64)) * (31 : Int64)) + ((F_X5_many2 c v w).toInt64)) * (31 : Int64)) + ((F_X5_many3 c v w).toInt64)) * (31 : Int64)) + ((F_X5_many4 c v w).toInt64)) * (31 : Int64)) + ((F_X5_many5 c v w).toInt64)) * (31 : Int64)) + ((F_X5_many6 c v w).toInt64)) * (31 : Int64)) + ((F_X5_many7 c v w).toInt64)) * (31 : Int64)) + ((F_X5_many8 c v w).toInt64)) * (31 : Int64)) + ((F_X5_many9 c v w).toInt64)) * (31 : Int64)) + ((F_X5_many10 c v w).toInt64)) * (31 : Int64)) + ((F_X5_many11 c v w).toInt64)) * (31 : Int64)) + ((F_X5_many12 c v w).toInt64)))) * (31 : Int64)) + ((F_X5_owes c v w (0 : Int32)).toInt64)) * (31 : Int64)) + ((F_X5_freedByAll c v w (0 : Int32)).toInt64)) * (31 : Int64)) + ((F_X5_owes c v w (1 : Int32)).toInt64)) * (31 : Int64)) + ((F_X5_freedByAll c v w (1 : Int32)).toInt64)) * (31 : Int64)) + ((F_X5_owes c v w (2 : Int32)).toInt64)) * (31 : Int64)) + ((F_X5_freedByAll c v w (2 : Int32)).toInt64))), (0, .ref (ad 5 0))]) hx hb dX5_digest_234 hl (k := 1) rfl (by decide) (by decide) rfl (fun ls hl => ?_)
          refine lv_goto (tgt := 203) hx hb dX5_digest_237 (by decide) ?_
          refine lv_iload_n hx hb dX5_digest_203 rfl (lv_at hl 0 rfl) ?_
          refine lv_iconst (v := 4) hx hb dX5_digest_204 (by decide) ?_
          refine lv_icmp_ge (tgt := 240) hx hb dX5_digest_205 (by decide) (fun c483 => absurd c483 (by decide)) (fun _ => ?_)
          refine lv_lload_n hx hb dX5_digest_208 rfl (lv_at hl 1 rfl) ?_
          refine lv_ldc2 (v := 31) hx hb hown (hts (.constantLong RX5 336 31) (by decide +kernel)) dX5_digest_209 ?_
          refine lv_lmul hx hb dX5_digest_212 ?_
          refine lv_aload_n hx hb dX5_digest_213 rfl (lv_at hl 2 rfl) ?_
          refine lv_iload_n hx hb dX5_digest_214 rfl (lv_at hl 0 rfl) ?_
          refine pc_rcalli (va_runV (As := [.int 3]) (rest := [.long ((((((((((((((FL2_X5_digest c v w (c 3) 0 (FL_X5_digest c v w (c 0) 0 ((((((((((((((((((((((((((1801317 : Int64) + ((F_X5_many0 c v w).toInt64)) * (31 : Int64)) + ((F_X5_many1 c v w).toInt64)) * (31 : Int64)) + ((F_X5_many2 c v w).toInt64)) * (31 : Int64)) + ((F_X5_many3 c v w).toInt64)) * (31 : Int64)) + ((F_X5_many4 c v w).toInt64)) * (31 : Int64)) + ((F_X5_many5 c v w).toInt64)) * (31 : Int64)) + ((F_X5_many6 c v w).toInt64)) * (31 : Int64)) + ((F_X5_many7 c v w).toInt64)) * (31 : Int64)) + ((F_X5_many8 c v w).toInt64)) * (31 : Int64)) + ((F_X5_many9 c v w).toInt64)) * (31 : Int64)) + ((F_X5_many10 c v w).toInt64)) * (31 : Int64)) + ((F_X5_many11 c v w).toInt64)) * (31 : Int64)) + ((F_X5_many12 c v w).toInt64)))) * (31 : Int64)) + ((F_X5_owes c v w (0 : Int32)).toInt64)) * (31 : Int64)) + ((F_X5_freedByAll c v w (0 : Int32)).toInt64)) * (31 : Int64)) + ((F_X5_owes c v w (1 : Int32)).toInt64)) * (31 : Int64)) + ((F_X5_freedByAll c v w (1 : Int32)).toInt64)) * (31 : Int64)) + ((F_X5_owes c v w (2 : Int32)).toInt64)) * (31 : Int64)) + ((F_X5_freedByAll c v w (2 : Int32)).toInt64)) * (31 : Int64))]) ⟨hx, hb, hml, hown, hts⟩ (r_X5_owes l D cA NL c v w (U_X5_freedByAll c v w (2 : Int32)) ad (3 : Int32) hM hBd hF (by decide) (by decide)) (cwV 1 hts gX5_digest_X5_owes rfl rfl rfl (by decide +kernel) ⟨Nat.le_of_ble_eq_true rfl, Nat.le_of_ble_eq_true rfl⟩) (pc_preV pcN_ok hX hW.1 hM.1 rfl rfl hW.1) rfl rfl hl.1 rfl (lv_room (Nat.le_of_ble_eq_true rfl)) dX5_digest_215 ⟨Nat.le_of_ble_eq_true rfl, Nat.le_of_ble_eq_true rfl⟩) hW (fun r484 H locs hwr484 hW => ?_)
          replace hwr484 := hwr484.symm
          subst hwr484
          refine lv_i2l (v := (F_X5_owes c v w (3 : Int32)).toInt64) hx hb dX5_digest_218 rfl ?_
          refine lv_ladd hx hb dX5_digest_219 ?_
          refine lv_lstore_n (lv' := [(1, .long (((((((((((((((FL2_X5_digest c v w (c 3) 0 (FL_X5_digest c v w (c 0) 0 ((((((((((((((((((((((((((1801317 : Int64) + ((F_X5_many0 c v w).toInt64)) * (31 : Int64)) + ((F_X5_many1 c v w).toInt64)) * (31 : Int64)) + ((F_X5_many2 c v w).toInt64)) * (31 : Int64)) + ((F_X5_many3 c v w).toInt64)) * (31 : Int64)) + ((F_X5_many4 c v w).toInt64)) * (31 : Int64)) + ((F_X5_many5 c v w).toInt64)) * (31 : Int64)) + ((F_X5_many6 c v w).toInt64)) * (31 : Int64)) + ((F_X5_many7 c v w).toInt64)) * (31 : Int64)) + ((F_X5_many8 c v w).toInt64)) * (31 : Int64)) + ((F_X5_many9 c v w).toInt64)) * (31 : Int64)) + ((F_X5_many10 c v w).toInt64)) * (31 : Int64)) + ((F_X5_many11 c v w).toInt64)) * (31 : Int64)) + ((F_X5_many12 c v w).toInt64)))) * (31 : Int64)) + ((F_X5_owes c v w (0 : Int32)).toInt64)) * (31 : Int64)) + ((F_X5_freedByAll c v w (0 : Int32)).toInt64)) * (31 : Int64)) + ((F_X5_owes c v w (1 : Int32)).toInt64)) * (31 : Int64)) + ((F_X5_freedByAll c v w (1 : Int32)).toInt64)) * (31 : Int64)) + ((F_X5_owes c v w (2 : Int32)).toInt64)) * (31 : Int64)) + ((F_X5_freedByAll c v w (2 : Int32)).toInt64)) * (31 : Int64)) + ((F_X5_owes c v w (3 : Int32)).toInt64))), (3, .int 3), (0, .ref (ad 5 0))]) hx hb dX5_digest_220 rfl hl (by decide) rfl (fun ls hl => ?_)
          refine lv_lload_n hx hb dX5_digest_221 rfl (lv_at hl 0 rfl) ?_
          refine lv_ldc2 (v := 31) hx hb hown (hts (.constantLong RX5 336 31) (by decide +kernel)) dX5_digest_222 ?_
          refine lv_lmul hx hb dX5_digest_225 ?_
          refine lv_aload_n hx hb dX5_digest_226 rfl (lv_at hl 2 rfl) ?_
          refine lv_iload_n hx hb dX5_digest_227 rfl (lv_at hl 1 rfl) ?_
          have hD9 := hW.2.1
          refine pc_mcalli (va_runV (As := [.int 3]) (rest := [.long ((((((((((((((((FL2_X5_digest c v w (c 3) 0 (FL_X5_digest c v w (c 0) 0 ((((((((((((((((((((((((((1801317 : Int64) + ((F_X5_many0 c v w).toInt64)) * (31 : Int64)) + ((F_X5_many1 c v w).toInt64)) * (31 : Int64)) + ((F_X5_many2 c v w).toInt64)) * (31 : Int64)) + ((F_X5_many3 c v w).toInt64)) * (31 : Int64)) + ((F_X5_many4 c v w).toInt64)) * (31 : Int64)) + ((F_X5_many5 c v w).toInt64)) * (31 : Int64)) + ((F_X5_many6 c v w).toInt64)) * (31 : Int64)) + ((F_X5_many7 c v w).toInt64)) * (31 : Int64)) + ((F_X5_many8 c v w).toInt64)) * (31 : Int64)) + ((F_X5_many9 c v w).toInt64)) * (31 : Int64)) + ((F_X5_many10 c v w).toInt64)) * (31 : Int64)) + ((F_X5_many11 c v w).toInt64)) * (31 : Int64)) + ((F_X5_many12 c v w).toInt64)))) * (31 : Int64)) + ((F_X5_owes c v w (0 : Int32)).toInt64)) * (31 : Int64)) + ((F_X5_freedByAll c v w (0 : Int32)).toInt64)) * (31 : Int64)) + ((F_X5_owes c v w (1 : Int32)).toInt64)) * (31 : Int64)) + ((F_X5_freedByAll c v w (1 : Int32)).toInt64)) * (31 : Int64)) + ((F_X5_owes c v w (2 : Int32)).toInt64)) * (31 : Int64)) + ((F_X5_freedByAll c v w (2 : Int32)).toInt64)) * (31 : Int64)) + ((F_X5_owes c v w (3 : Int32)).toInt64)) * (31 : Int64))]) ⟨hx, hb, hml, hown, hts⟩ (m_X5_freedByAll l D cA NL c v w (U_X5_freedByAll c v w (2 : Int32)) ad A (3 : Int32) hM hBd hF (by decide) (by decide)) (cwV 1 hts gX5_digest_X5_freedByAll rfl rfl rfl (by decide +kernel) ⟨Nat.le_of_ble_eq_true rfl, Nat.le_of_ble_eq_true rfl⟩) (pc_preV pcN_ok hX hW.1 hM.1 rfl rfl ⟨hW.1, hW.2.1, fun q h => hA q (Nat.le_trans hW.2.2.1 h)⟩) rfl rfl hl.1 rfl (lv_room (Nat.le_of_ble_eq_true rfl)) dX5_digest_228 ⟨Nat.le_of_ble_eq_true rfl, Nat.le_of_ble_eq_true rfl⟩) hW.2.2 (fun r485 _ H locs hwr485 hB hS9 => ?_)
          replace hwr485 := hwr485.symm
          subst hwr485
          have hW : pcS D vwCl A s.heap NL ad (ctO cA c v w (U_X5_freedByAll c v w (3 : Int32)) ad) H locs := ⟨hB, pcD_ct hD9, hS9⟩
          refine lv_i2l (v := (F_X5_freedByAll c v w (3 : Int32)).toInt64) hx hb dX5_digest_231 rfl ?_
          refine lv_ladd hx hb dX5_digest_232 ?_
          refine lv_lstore_n (lv' := [(1, .long (((((((((((((((((FL2_X5_digest c v w (c 3) 0 (FL_X5_digest c v w (c 0) 0 ((((((((((((((((((((((((((1801317 : Int64) + ((F_X5_many0 c v w).toInt64)) * (31 : Int64)) + ((F_X5_many1 c v w).toInt64)) * (31 : Int64)) + ((F_X5_many2 c v w).toInt64)) * (31 : Int64)) + ((F_X5_many3 c v w).toInt64)) * (31 : Int64)) + ((F_X5_many4 c v w).toInt64)) * (31 : Int64)) + ((F_X5_many5 c v w).toInt64)) * (31 : Int64)) + ((F_X5_many6 c v w).toInt64)) * (31 : Int64)) + ((F_X5_many7 c v w).toInt64)) * (31 : Int64)) + ((F_X5_many8 c v w).toInt64)) * (31 : Int64)) + ((F_X5_many9 c v w).toInt64)) * (31 : Int64)) + ((F_X5_many10 c v w).toInt64)) * (31 : Int64)) + ((F_X5_many11 c v w).toInt64)) * (31 : Int64)) + ((F_X5_many12 c v w).toInt64)))) * (31 : Int64)) + ((F_X5_owes c v w (0 : Int32)).toInt64)) * (31 : Int64)) + ((F_X5_freedByAll c v w (0 : Int32)).toInt64)) * (31 : Int64)) + ((F_X5_owes c v w (1 : Int32)).toInt64)) * (31 : Int64)) + ((F_X5_freedByAll c v w (1 : Int32)).toInt64)) * (31 : Int64)) + ((F_X5_owes c v w (2 : Int32)).toInt64)) * (31 : Int64)) + ((F_X5_freedByAll c v w (2 : Int32)).toInt64)) * (31 : Int64)) + ((F_X5_owes c v w (3 : Int32)).toInt64)) * (31 : Int64)) + ((F_X5_freedByAll c v w (3 : Int32)).toInt64))), (3, .int 3), (0, .ref (ad 5 0))]) hx hb dX5_digest_233 rfl hl (by decide) rfl (fun ls hl => ?_)
          refine lv_iinc (v := 4) (lv' := [(3, .int 4), (1, .long (((((((((((((((((FL2_X5_digest c v w (c 3) 0 (FL_X5_digest c v w (c 0) 0 ((((((((((((((((((((((((((1801317 : Int64) + ((F_X5_many0 c v w).toInt64)) * (31 : Int64)) + ((F_X5_many1 c v w).toInt64)) * (31 : Int64)) + ((F_X5_many2 c v w).toInt64)) * (31 : Int64)) + ((F_X5_many3 c v w).toInt64)) * (31 : Int64)) + ((F_X5_many4 c v w).toInt64)) * (31 : Int64)) + ((F_X5_many5 c v w).toInt64)) * (31 : Int64)) + ((F_X5_many6 c v w).toInt64)) * (31 : Int64)) + ((F_X5_many7 c v w).toInt64)) * (31 : Int64)) + ((F_X5_many8 c v w).toInt64)) * (31 : Int64)) + ((F_X5_many9 c v w).toInt64)) * (31 : Int64)) + ((F_X5_many10 c v w).toInt64)) * (31 : Int64)) + ((F_X5_many11 c v w).toInt64)) * (31 : Int64)) + ((F_X5_many12 c v w).toInt64)))) * (31 : Int64)) + ((F_X5_owes c v w (0 : Int32)).toInt64)) * (31 : Int64)) + ((F_X5_freedByAll c v w (0 : Int32)).toInt64)) * (31 : Int64)) + ((F_X5_owes c v w (1 : Int32)).toInt64)) * (31 : Int64)) + ((F_X5_freedByAll c v w (1 : Int32)).toInt64)) * (31 : Int64)) + ((F_X5_owes c v w (2 : Int32)).toInt64)) * (31 : Int64)) + ((F_X5_freedByAll c v w (2 : Int32)).toInt64)) * (31 : Int64)) + ((F_X5_owes c v w (3 : Int32)).toInt64)) * (31 : Int64)) + ((F_X5_freedByAll c v w (3 : Int32)).toInt64))), (0, .ref (ad 5 0))]) hx hb dX5_digest_234 hl (k := 1) rfl (by decide) (by decide) rfl (fun ls hl => ?_)
          refine lv_goto (tgt := 203) hx hb dX5_digest_237 (by decide) ?_
          refine lv_iload_n hx hb dX5_digest_203 rfl (lv_at hl 0 rfl) ?_
          refine lv_iconst (v := 4) hx hb dX5_digest_204 (by decide) ?_
          refine lv_icmp_ge (tgt := 240) hx hb dX5_digest_205 (by decide) (fun _ => ?_) (fun c486 => absurd (by decide) c486)
          refine lv_iconst (v := 0) hx hb dX5_digest_240 (by decide) ?_
          refine lv_istore_n (lv' := [(3, .int 0), (1, .long (((((((((((((((((FL2_X5_digest c v w (c 3) 0 (FL_X5_digest c v w (c 0) 0 ((((((((((((((((((((((((((1801317 : Int64) + ((F_X5_many0 c v w).toInt64)) * (31 : Int64)) + ((F_X5_many1 c v w).toInt64)) * (31 : Int64)) + ((F_X5_many2 c v w).toInt64)) * (31 : Int64)) + ((F_X5_many3 c v w).toInt64)) * (31 : Int64)) + ((F_X5_many4 c v w).toInt64)) * (31 : Int64)) + ((F_X5_many5 c v w).toInt64)) * (31 : Int64)) + ((F_X5_many6 c v w).toInt64)) * (31 : Int64)) + ((F_X5_many7 c v w).toInt64)) * (31 : Int64)) + ((F_X5_many8 c v w).toInt64)) * (31 : Int64)) + ((F_X5_many9 c v w).toInt64)) * (31 : Int64)) + ((F_X5_many10 c v w).toInt64)) * (31 : Int64)) + ((F_X5_many11 c v w).toInt64)) * (31 : Int64)) + ((F_X5_many12 c v w).toInt64)))) * (31 : Int64)) + ((F_X5_owes c v w (0 : Int32)).toInt64)) * (31 : Int64)) + ((F_X5_freedByAll c v w (0 : Int32)).toInt64)) * (31 : Int64)) + ((F_X5_owes c v w (1 : Int32)).toInt64)) * (31 : Int64)) + ((F_X5_freedByAll c v w (1 : Int32)).toInt64)) * (31 : Int64)) + ((F_X5_owes c v w (2 : Int32)).toInt64)) * (31 : Int64)) + ((F_X5_freedByAll c v w (2 : Int32)).toInt64)) * (31 : Int64)) + ((F_X5_owes c v w (3 : Int32)).toInt64)) * (31 : Int64)) + ((F_X5_freedByAll c v w (3 : Int32)).toInt64))), (0, .ref (ad 5 0))]) hx hb dX5_digest_241 rfl hl (by decide) rfl (fun ls hl => ?_)
          have K490 : ∀ (k488 i487 : Nat) (s489 : Int64) (H : Heap) (locs : List Loc) (ls : Array Slot), i487 + k488 = c 4 → (FL3_X5_digest c v w k488 i487 s489) = (FL3_X5_digest c v w (c 4) 0 (((((((((((((((((FL2_X5_digest c v w (c 3) 0 (FL_X5_digest c v w (c 0) 0 ((((((((((((((((((((((((((1801317 : Int64) + ((F_X5_many0 c v w).toInt64)) * (31 : Int64)) + ((F_X5_many1 c v w).toInt64)) * (31 : Int64)) + ((F_X5_many2 c v w).toInt64)) * (31 : Int64)) + ((F_X5_many3 c v w).toInt64)) * (31 : Int64)) + ((F_X5_many4 c v w).toInt64)) * (31 : Int64)) + ((F_X5_many5 c v w).toInt64)) * (31 : Int64)) + ((F_X5_many6 c v w).toInt64)) * (31 : Int64)) + ((F_X5_many7 c v w).toInt64)) * (31 : Int64)) + ((F_X5_many8 c v w).toInt64)) * (31 : Int64)) + ((F_X5_many9 c v w).toInt64)) * (31 : Int64)) + ((F_X5_many10 c v w).toInt64)) * (31 : Int64)) + ((F_X5_many11 c v w).toInt64)) * (31 : Int64)) + ((F_X5_many12 c v w).toInt64)))) * (31 : Int64)) + ((F_X5_owes c v w (0 : Int32)).toInt64)) * (31 : Int64)) + ((F_X5_freedByAll c v w (0 : Int32)).toInt64)) * (31 : Int64)) + ((F_X5_owes c v w (1 : Int32)).toInt64)) * (31 : Int64)) + ((F_X5_freedByAll c v w (1 : Int32)).toInt64)) * (31 : Int64)) + ((F_X5_owes c v w (2 : Int32)).toInt64)) * (31 : Int64)) + ((F_X5_freedByAll c v w (2 : Int32)).toInt64)) * (31 : Int64)) + ((F_X5_owes c v w (3 : Int32)).toInt64)) * (31 : Int64)) + ((F_X5_freedByAll c v w (3 : Int32)).toInt64))) → pcS D vwCl A s.heap NL ad (ctO cA c v w (U_X5_freedByAll c v w (3 : Int32)) ad) H locs → lv_has ls 5 [(3, .int (nI i487)), (1, .long s489), (0, .ref (ad 5 0))] → W p l e (headSpec wsX5_digest ({ frames := 7, cells := 0, slots := 0, locals := 166 })).room s m ([.ref (ad 5 0)] : List Value).toArray below meth c0 H locs 0 0 (MQ below (va_Ql (fun (r : Int64) (_ : Unit) => r = F_X5_digest c v w) (fun (_ : Unit) t => va_P D vwCl (pcW NL ad (ctO cA c v w (U_X5_digest c v w) ad)) t.heap) A) ([.ref (ad 5 0)] : List Value).toArray s 0 0 A) (F0 m 242 ls []) := by
            intro k488
            induction k488 with
            | zero =>
              intro i487 s489 H locs ls hk heF hW hl
              have ei : i487 = c 4 := by omega
              rw [ei] at hl
              obtain rfl : (FL3_X5_digest c v w (c 4) 0 (((((((((((((((((FL2_X5_digest c v w (c 3) 0 (FL_X5_digest c v w (c 0) 0 ((((((((((((((((((((((((((1801317 : Int64) + ((F_X5_many0 c v w).toInt64)) * (31 : Int64)) + ((F_X5_many1 c v w).toInt64)) * (31 : Int64)) + ((F_X5_many2 c v w).toInt64)) * (31 : Int64)) + ((F_X5_many3 c v w).toInt64)) * (31 : Int64)) + ((F_X5_many4 c v w).toInt64)) * (31 : Int64)) + ((F_X5_many5 c v w).toInt64)) * (31 : Int64)) + ((F_X5_many6 c v w).toInt64)) * (31 : Int64)) + ((F_X5_many7 c v w).toInt64)) * (31 : Int64)) + ((F_X5_many8 c v w).toInt64)) * (31 : Int64)) + ((F_X5_many9 c v w).toInt64)) * (31 : Int64)) + ((F_X5_many10 c v w).toInt64)) * (31 : Int64)) + ((F_X5_many11 c v w).toInt64)) * (31 : Int64)) + ((F_X5_many12 c v w).toInt64)))) * (31 : Int64)) + ((F_X5_owes c v w (0 : Int32)).toInt64)) * (31 : Int64)) + ((F_X5_freedByAll c v w (0 : Int32)).toInt64)) * (31 : Int64)) + ((F_X5_owes c v w (1 : Int32)).toInt64)) * (31 : Int64)) + ((F_X5_freedByAll c v w (1 : Int32)).toInt64)) * (31 : Int64)) + ((F_X5_owes c v w (2 : Int32)).toInt64)) * (31 : Int64)) + ((F_X5_freedByAll c v w (2 : Int32)).toInt64)) * (31 : Int64)) + ((F_X5_owes c v w (3 : Int32)).toInt64)) * (31 : Int64)) + ((F_X5_freedByAll c v w (3 : Int32)).toInt64))) = s489 := heF.symm
              clear heF
              refine lv_iload_n hx hb dX5_digest_242 rfl (lv_at hl 0 rfl) ?_
              refine lv_aload_n hx hb dX5_digest_243 rfl (lv_at hl 2 rfl) ?_
              refine pc_get (C := RX5) (T := TX5) (N := 13) (ci := 5) hx hb hts (by decide +kernel) hown hX.1 hW.1 5 0 hM.1 rfl rfl 11 (by decide) (hts (.fieldLink RX5 61 "DraftsmanOffice" "packageCount" "I") (by decide +kernel)) (fun _ h9 => h9) rfl dX5_digest_244 ?_
              refine lv_icmp_ge (tgt := 287) hx hb dX5_digest_247 (by decide) (fun _ => ?_) (fun c491 => absurd (Int32.le_refl _) c491)
              refine lv_lload_n hx hb dX5_digest_287 rfl (lv_at hl 1 rfl) ?_
              have e9u : U_X5_digest c v w = (U_X5_freedByAll c v w (3 : Int32)) := rfl
              exact W.lret (v := (FL3_X5_digest c v w (c 4) 0 (((((((((((((((((FL2_X5_digest c v w (c 3) 0 (FL_X5_digest c v w (c 0) 0 ((((((((((((((((((((((((((1801317 : Int64) + ((F_X5_many0 c v w).toInt64)) * (31 : Int64)) + ((F_X5_many1 c v w).toInt64)) * (31 : Int64)) + ((F_X5_many2 c v w).toInt64)) * (31 : Int64)) + ((F_X5_many3 c v w).toInt64)) * (31 : Int64)) + ((F_X5_many4 c v w).toInt64)) * (31 : Int64)) + ((F_X5_many5 c v w).toInt64)) * (31 : Int64)) + ((F_X5_many6 c v w).toInt64)) * (31 : Int64)) + ((F_X5_many7 c v w).toInt64)) * (31 : Int64)) + ((F_X5_many8 c v w).toInt64)) * (31 : Int64)) + ((F_X5_many9 c v w).toInt64)) * (31 : Int64)) + ((F_X5_many10 c v w).toInt64)) * (31 : Int64)) + ((F_X5_many11 c v w).toInt64)) * (31 : Int64)) + ((F_X5_many12 c v w).toInt64)))) * (31 : Int64)) + ((F_X5_owes c v w (0 : Int32)).toInt64)) * (31 : Int64)) + ((F_X5_freedByAll c v w (0 : Int32)).toInt64)) * (31 : Int64)) + ((F_X5_owes c v w (1 : Int32)).toInt64)) * (31 : Int64)) + ((F_X5_freedByAll c v w (1 : Int32)).toInt64)) * (31 : Int64)) + ((F_X5_owes c v w (2 : Int32)).toInt64)) * (31 : Int64)) + ((F_X5_freedByAll c v w (2 : Int32)).toInt64)) * (31 : Int64)) + ((F_X5_owes c v w (3 : Int32)).toInt64)) * (31 : Int64)) + ((F_X5_freedByAll c v w (3 : Int32)).toInt64)))) hx hb hr (fun t ht hW9 => ⟨⟨(FL3_X5_digest c v w (c 4) 0 (((((((((((((((((FL2_X5_digest c v w (c 3) 0 (FL_X5_digest c v w (c 0) 0 ((((((((((((((((((((((((((1801317 : Int64) + ((F_X5_many0 c v w).toInt64)) * (31 : Int64)) + ((F_X5_many1 c v w).toInt64)) * (31 : Int64)) + ((F_X5_many2 c v w).toInt64)) * (31 : Int64)) + ((F_X5_many3 c v w).toInt64)) * (31 : Int64)) + ((F_X5_many4 c v w).toInt64)) * (31 : Int64)) + ((F_X5_many5 c v w).toInt64)) * (31 : Int64)) + ((F_X5_many6 c v w).toInt64)) * (31 : Int64)) + ((F_X5_many7 c v w).toInt64)) * (31 : Int64)) + ((F_X5_many8 c v w).toInt64)) * (31 : Int64)) + ((F_X5_many9 c v w).toInt64)) * (31 : Int64)) + ((F_X5_many10 c v w).toInt64)) * (31 : Int64)) + ((F_X5_many11 c v w).toInt64)) * (31 : Int64)) + ((F_X5_many12 c v w).toInt64)))) * (31 : Int64)) + ((F_X5_owes c v w (0 : Int32)).toInt64)) * (31 : Int64)) + ((F_X5_freedByAll c v w (0 : Int32)).toInt64)) * (31 : Int64)) + ((F_X5_owes c v w (1 : Int32)).toInt64)) * (31 : Int64)) + ((F_X5_freedByAll c v w (1 : Int32)).toInt64)) * (31 : Int64)) + ((F_X5_owes c v w (2 : Int32)).toInt64)) * (31 : Int64)) + ((F_X5_freedByAll c v w (2 : Int32)).toInt64)) * (31 : Int64)) + ((F_X5_owes c v w (3 : Int32)).toInt64)) * (31 : Int64)) + ((F_X5_freedByAll c v w (3 : Int32)).toInt64))), (), rfl, rfl, (by show va_P D vwCl (pcW NL ad (ctO cA c v w (U_X5_digest c v w) ad)) t.heap; rw [e9u]; rw [ht]; exact hW.1)⟩, hW.2.2.F ht⟩) hW.2.2.2.2 dX5_digest_288
            | succ k488 ihk488 =>
              intro i487 s489 H locs ls hk heF hW hl
              have hlt : i487 < c 4 := by omega
              have hlt9i487 := hlt
              refine lv_iload_n hx hb dX5_digest_242 rfl (lv_at hl 0 rfl) ?_
              refine lv_aload_n hx hb dX5_digest_243 rfl (lv_at hl 2 rfl) ?_
              refine pc_get (C := RX5) (T := TX5) (N := 13) (ci := 5) hx hb hts (by decide +kernel) hown hX.1 hW.1 5 0 hM.1 rfl rfl 11 (by decide) (hts (.fieldLink RX5 61 "DraftsmanOffice" "packageCount" "I") (by decide +kernel)) (fun _ h9 => h9) rfl dX5_digest_244 ?_
              refine lv_icmp_ge (tgt := 287) hx hb dX5_digest_247 (by decide) (fun c492 => absurd c492 (nI_ge hlt (Nat.lt_of_le_of_lt hBd.2.2.2.2 (by decide)))) (fun _ => ?_)
              refine lv_iconst (v := 0) hx hb dX5_digest_250 (by decide) ?_
              refine lv_istore (lv' := [(4, .int 0), (3, .int (nI i487)), (1, .long s489), (0, .ref (ad 5 0))]) hx hb dX5_digest_251 hl (by decide) rfl (fun ls hl => ?_)
              refine lv_iload hx hb dX5_digest_253 (lv_at hl 0 rfl) ?_
              refine lv_bipush (v := 6) hx hb dX5_digest_255 (by decide) ?_
              refine lv_icmp_gt (tgt := 281) hx hb dX5_digest_257 (by decide) (fun c493 => absurd c493 (by decide)) (fun _ => ?_)
              refine lv_lload_n hx hb dX5_digest_260 rfl (lv_at hl 2 rfl) ?_
              refine lv_ldc2 (v := 31) hx hb hown (hts (.constantLong RX5 336 31) (by decide +kernel)) dX5_digest_261 ?_
              refine lv_lmul hx hb dX5_digest_264 ?_
              refine lv_aload_n hx hb dX5_digest_265 rfl (lv_at hl 3 rfl) ?_
              refine lv_iload_n hx hb dX5_digest_266 rfl (lv_at hl 1 rfl) ?_
              refine lv_iload hx hb dX5_digest_267 (lv_at hl 0 rfl) ?_
              refine pc_rcalli (va_runV (As := [.int (nI i487), .int 0]) (rest := [.long (s489 * (31 : Int64))]) ⟨hx, hb, hml, hown, hts⟩ (r_X5_ofPack0 l D cA NL c v w (U_X5_freedByAll c v w (3 : Int32)) ad (nI i487) hM hBd hF (nI_nn (Nat.lt_of_lt_of_le hlt9i487 (Nat.le_trans hBd.2.2.2.2 (by decide)))) (by rw [nI_clamp (Nat.lt_of_lt_of_le hlt9i487 (Nat.le_trans hBd.2.2.2.2 (by decide)))]; exact hlt9i487)) (cwV 2 hts gX5_digest_X5_ofPack rfl rfl rfl (by decide +kernel) ⟨Nat.le_of_ble_eq_true rfl, Nat.le_of_ble_eq_true rfl⟩) (pc_preV pcN_ok hX hW.1 hM.1 rfl rfl hW.1) rfl rfl hl.1 rfl (lv_room (Nat.le_of_ble_eq_true rfl)) dX5_digest_269 ⟨Nat.le_of_ble_eq_true rfl, Nat.le_of_ble_eq_true rfl⟩) hW (fun r494 H locs hwr494 hW => ?_)
              replace hwr494 := hwr494.symm
              subst hwr494
              refine lv_i2l (v := (F_X5_ofPack0 c v w (nI i487)).toInt64) hx hb dX5_digest_272 rfl ?_
              refine lv_ladd hx hb dX5_digest_273 ?_
              refine lv_lstore_n (lv' := [(1, .long ((s489 * (31 : Int64)) + ((F_X5_ofPack0 c v w (nI i487)).toInt64))), (4, .int 0), (3, .int (nI i487)), (0, .ref (ad 5 0))]) hx hb dX5_digest_274 rfl hl (by decide) rfl (fun ls hl => ?_)
              refine lv_iinc (v := 1) (lv' := [(4, .int 1), (1, .long ((s489 * (31 : Int64)) + ((F_X5_ofPack0 c v w (nI i487)).toInt64))), (3, .int (nI i487)), (0, .ref (ad 5 0))]) hx hb dX5_digest_275 hl (k := 1) rfl (by decide) (by decide) rfl (fun ls hl => ?_)
              refine lv_goto (tgt := 253) hx hb dX5_digest_278 (by decide) ?_
              refine lv_iload hx hb dX5_digest_253 (lv_at hl 0 rfl) ?_
              refine lv_bipush (v := 6) hx hb dX5_digest_255 (by decide) ?_
              refine lv_icmp_gt (tgt := 281) hx hb dX5_digest_257 (by decide) (fun c495 => absurd c495 (by decide)) (fun _ => ?_)
              refine lv_lload_n hx hb dX5_digest_260 rfl (lv_at hl 1 rfl) ?_
              refine lv_ldc2 (v := 31) hx hb hown (hts (.constantLong RX5 336 31) (by decide +kernel)) dX5_digest_261 ?_
              refine lv_lmul hx hb dX5_digest_264 ?_
              refine lv_aload_n hx hb dX5_digest_265 rfl (lv_at hl 3 rfl) ?_
              refine lv_iload_n hx hb dX5_digest_266 rfl (lv_at hl 2 rfl) ?_
              refine lv_iload hx hb dX5_digest_267 (lv_at hl 0 rfl) ?_
              refine pc_rcalli (va_runV (As := [.int (nI i487), .int 1]) (rest := [.long (((s489 * (31 : Int64)) + ((F_X5_ofPack0 c v w (nI i487)).toInt64)) * (31 : Int64))]) ⟨hx, hb, hml, hown, hts⟩ (r_X5_ofPack1 l D cA NL c v w (U_X5_freedByAll c v w (3 : Int32)) ad (nI i487) hM hBd hF (nI_nn (Nat.lt_of_lt_of_le hlt9i487 (Nat.le_trans hBd.2.2.2.2 (by decide)))) (by rw [nI_clamp (Nat.lt_of_lt_of_le hlt9i487 (Nat.le_trans hBd.2.2.2.2 (by decide)))]; exact hlt9i487)) (cwV 2 hts gX5_digest_X5_ofPack rfl rfl rfl (by decide +kernel) ⟨Nat.le_of_ble_eq_true rfl, Nat.le_of_ble_eq_true rfl⟩) (pc_preV pcN_ok hX hW.1 hM.1 rfl rfl hW.1) rfl rfl hl.1 rfl (lv_room (Nat.le_of_ble_eq_true rfl)) dX5_digest_269 ⟨Nat.le_of_ble_eq_true rfl, Nat.le_of_ble_eq_true rfl⟩) hW (fun r496 H locs hwr496 hW => ?_)
              replace hwr496 := hwr496.symm
              subst hwr496
              refine lv_i2l (v := (F_X5_ofPack1 c v w (nI i487)).toInt64) hx hb dX5_digest_272 rfl ?_
              refine lv_ladd hx hb dX5_digest_273 ?_
              refine lv_lstore_n (lv' := [(1, .long ((((s489 * (31 : Int64)) + ((F_X5_ofPack0 c v w (nI i487)).toInt64)) * (31 : Int64)) + ((F_X5_ofPack1 c v w (nI i487)).toInt64))), (4, .int 1), (3, .int (nI i487)), (0, .ref (ad 5 0))]) hx hb dX5_digest_274 rfl hl (by decide) rfl (fun ls hl => ?_)
              refine lv_iinc (v := 2) (lv' := [(4, .int 2), (1, .long ((((s489 * (31 : Int64)) + ((F_X5_ofPack0 c v w (nI i487)).toInt64)) * (31 : Int64)) + ((F_X5_ofPack1 c v w (nI i487)).toInt64))), (3, .int (nI i487)), (0, .ref (ad 5 0))]) hx hb dX5_digest_275 hl (k := 1) rfl (by decide) (by decide) rfl (fun ls hl => ?_)
              refine lv_goto (tgt := 253) hx hb dX5_digest_278 (by decide) ?_
              refine lv_iload hx hb dX5_digest_253 (lv_at hl 0 rfl) ?_
              refine lv_bipush (v := 6) hx hb dX5_digest_255 (by decide) ?_
              refine lv_icmp_gt (tgt := 281) hx hb dX5_digest_257 (by decide) (fun c497 => absurd c497 (by decide)) (fun _ => ?_)
              refine lv_lload_n hx hb dX5_digest_260 rfl (lv_at hl 1 rfl) ?_
              refine lv_ldc2 (v := 31) hx hb hown (hts (.constantLong RX5 336 31) (by decide +kernel)) dX5_digest_261 ?_
              refine lv_lmul hx hb dX5_digest_264 ?_
              refine lv_aload_n hx hb dX5_digest_265 rfl (lv_at hl 3 rfl) ?_
              refine lv_iload_n hx hb dX5_digest_266 rfl (lv_at hl 2 rfl) ?_
              refine lv_iload hx hb dX5_digest_267 (lv_at hl 0 rfl) ?_
              refine pc_rcalli (va_runV (As := [.int (nI i487), .int 2]) (rest := [.long (((((s489 * (31 : Int64)) + ((F_X5_ofPack0 c v w (nI i487)).toInt64)) * (31 : Int64)) + ((F_X5_ofPack1 c v w (nI i487)).toInt64)) * (31 : Int64))]) ⟨hx, hb, hml, hown, hts⟩ (r_X5_ofPack2 l D cA NL c v w (U_X5_freedByAll c v w (3 : Int32)) ad (nI i487) hM hBd hF (nI_nn (Nat.lt_of_lt_of_le hlt9i487 (Nat.le_trans hBd.2.2.2.2 (by decide)))) (by rw [nI_clamp (Nat.lt_of_lt_of_le hlt9i487 (Nat.le_trans hBd.2.2.2.2 (by decide)))]; exact hlt9i487)) (cwV 2 hts gX5_digest_X5_ofPack rfl rfl rfl (by decide +kernel) ⟨Nat.le_of_ble_eq_true rfl, Nat.le_of_ble_eq_true rfl⟩) (pc_preV pcN_ok hX hW.1 hM.1 rfl rfl hW.1) rfl rfl hl.1 rfl (lv_room (Nat.le_of_ble_eq_true rfl)) dX5_digest_269 ⟨Nat.le_of_ble_eq_true rfl, Nat.le_of_ble_eq_true rfl⟩) hW (fun r498 H locs hwr498 hW => ?_)
              replace hwr498 := hwr498.symm
              subst hwr498
              refine lv_i2l (v := (F_X5_ofPack2 c v w (nI i487)).toInt64) hx hb dX5_digest_272 rfl ?_
              refine lv_ladd hx hb dX5_digest_273 ?_
              refine lv_lstore_n (lv' := [(1, .long ((((((s489 * (31 : Int64)) + ((F_X5_ofPack0 c v w (nI i487)).toInt64)) * (31 : Int64)) + ((F_X5_ofPack1 c v w (nI i487)).toInt64)) * (31 : Int64)) + ((F_X5_ofPack2 c v w (nI i487)).toInt64))), (4, .int 2), (3, .int (nI i487)), (0, .ref (ad 5 0))]) hx hb dX5_digest_274 rfl hl (by decide) rfl (fun ls hl => ?_)
              refine lv_iinc (v := 3) (lv' := [(4, .int 3), (1, .long ((((((s489 * (31 : Int64)) + ((F_X5_ofPack0 c v w (nI i487)).toInt64)) * (31 : Int64)) + ((F_X5_ofPack1 c v w (nI i487)).toInt64)) * (31 : Int64)) + ((F_X5_ofPack2 c v w (nI i487)).toInt64))), (3, .int (nI i487)), (0, .ref (ad 5 0))]) hx hb dX5_digest_275 hl (k := 1) rfl (by decide) (by decide) rfl (fun ls hl => ?_)
              refine lv_goto (tgt := 253) hx hb dX5_digest_278 (by decide) ?_
              refine lv_iload hx hb dX5_digest_253 (lv_at hl 0 rfl) ?_
              refine lv_bipush (v := 6) hx hb dX5_digest_255 (by decide) ?_
              refine lv_icmp_gt (tgt := 281) hx hb dX5_digest_257 (by decide) (fun c499 => absurd c499 (by decide)) (fun _ => ?_)
              refine lv_lload_n hx hb dX5_digest_260 rfl (lv_at hl 1 rfl) ?_
              refine lv_ldc2 (v := 31) hx hb hown (hts (.constantLong RX5 336 31) (by decide +kernel)) dX5_digest_261 ?_
              refine lv_lmul hx hb dX5_digest_264 ?_
              refine lv_aload_n hx hb dX5_digest_265 rfl (lv_at hl 3 rfl) ?_
              refine lv_iload_n hx hb dX5_digest_266 rfl (lv_at hl 2 rfl) ?_
              refine lv_iload hx hb dX5_digest_267 (lv_at hl 0 rfl) ?_
              refine pc_rcalli (va_runV (As := [.int (nI i487), .int 3]) (rest := [.long (((((((s489 * (31 : Int64)) + ((F_X5_ofPack0 c v w (nI i487)).toInt64)) * (31 : Int64)) + ((F_X5_ofPack1 c v w (nI i487)).toInt64)) * (31 : Int64)) + ((F_X5_ofPack2 c v w (nI i487)).toInt64)) * (31 : Int64))]) ⟨hx, hb, hml, hown, hts⟩ (r_X5_ofPack3 l D cA NL c v w (U_X5_freedByAll c v w (3 : Int32)) ad (nI i487) hM hBd hF (nI_nn (Nat.lt_of_lt_of_le hlt9i487 (Nat.le_trans hBd.2.2.2.2 (by decide)))) (by rw [nI_clamp (Nat.lt_of_lt_of_le hlt9i487 (Nat.le_trans hBd.2.2.2.2 (by decide)))]; exact hlt9i487)) (cwV 2 hts gX5_digest_X5_ofPack rfl rfl rfl (by decide +kernel) ⟨Nat.le_of_ble_eq_true rfl, Nat.le_of_ble_eq_true rfl⟩) (pc_preV pcN_ok hX hW.1 hM.1 rfl rfl hW.1) rfl rfl hl.1 rfl (lv_room (Nat.le_of_ble_eq_true rfl)) dX5_digest_269 ⟨Nat.le_of_ble_eq_true rfl, Nat.le_of_ble_eq_true rfl⟩) hW (fun r500 H locs hwr500 hW => ?_)
              replace hwr500 := hwr500.symm
              subst hwr500
              refine lv_i2l (v := (F_X5_ofPack3 c v w (nI i487)).toInt64) hx hb dX5_digest_272 rfl ?_
              refine lv_ladd hx hb dX5_digest_273 ?_
              refine lv_lstore_n (lv' := [(1, .long ((((((((s489 * (31 : Int64)) + ((F_X5_ofPack0 c v w (nI i487)).toInt64)) * (31 : Int64)) + ((F_X5_ofPack1 c v w (nI i487)).toInt64)) * (31 : Int64)) + ((F_X5_ofPack2 c v w (nI i487)).toInt64)) * (31 : Int64)) + ((F_X5_ofPack3 c v w (nI i487)).toInt64))), (4, .int 3), (3, .int (nI i487)), (0, .ref (ad 5 0))]) hx hb dX5_digest_274 rfl hl (by decide) rfl (fun ls hl => ?_)
              refine lv_iinc (v := 4) (lv' := [(4, .int 4), (1, .long ((((((((s489 * (31 : Int64)) + ((F_X5_ofPack0 c v w (nI i487)).toInt64)) * (31 : Int64)) + ((F_X5_ofPack1 c v w (nI i487)).toInt64)) * (31 : Int64)) + ((F_X5_ofPack2 c v w (nI i487)).toInt64)) * (31 : Int64)) + ((F_X5_ofPack3 c v w (nI i487)).toInt64))), (3, .int (nI i487)), (0, .ref (ad 5 0))]) hx hb dX5_digest_275 hl (k := 1) rfl (by decide) (by decide) rfl (fun ls hl => ?_)
              refine lv_goto (tgt := 253) hx hb dX5_digest_278 (by decide) ?_
              refine lv_iload hx hb dX5_digest_253 (lv_at hl 0 rfl) ?_
              refine lv_bipush (v := 6) hx hb dX5_digest_255 (by decide) ?_
              refine lv_icmp_gt (tgt := 281) hx hb dX5_digest_257 (by decide) (fun c501 => absurd c501 (by decide)) (fun _ => ?_)
              refine lv_lload_n hx hb dX5_digest_260 rfl (lv_at hl 1 rfl) ?_
              refine lv_ldc2 (v := 31) hx hb hown (hts (.constantLong RX5 336 31) (by decide +kernel)) dX5_digest_261 ?_
              refine lv_lmul hx hb dX5_digest_264 ?_
              refine lv_aload_n hx hb dX5_digest_265 rfl (lv_at hl 3 rfl) ?_
              refine lv_iload_n hx hb dX5_digest_266 rfl (lv_at hl 2 rfl) ?_
              refine lv_iload hx hb dX5_digest_267 (lv_at hl 0 rfl) ?_
              refine pc_rcalli (va_runV (As := [.int (nI i487), .int 4]) (rest := [.long (((((((((s489 * (31 : Int64)) + ((F_X5_ofPack0 c v w (nI i487)).toInt64)) * (31 : Int64)) + ((F_X5_ofPack1 c v w (nI i487)).toInt64)) * (31 : Int64)) + ((F_X5_ofPack2 c v w (nI i487)).toInt64)) * (31 : Int64)) + ((F_X5_ofPack3 c v w (nI i487)).toInt64)) * (31 : Int64))]) ⟨hx, hb, hml, hown, hts⟩ (r_X5_ofPack4 l D cA NL c v w (U_X5_freedByAll c v w (3 : Int32)) ad (nI i487) hM hBd hF (nI_nn (Nat.lt_of_lt_of_le hlt9i487 (Nat.le_trans hBd.2.2.2.2 (by decide)))) (by rw [nI_clamp (Nat.lt_of_lt_of_le hlt9i487 (Nat.le_trans hBd.2.2.2.2 (by decide)))]; exact hlt9i487)) (cwV 2 hts gX5_digest_X5_ofPack rfl rfl rfl (by decide +kernel) ⟨Nat.le_of_ble_eq_true rfl, Nat.le_of_ble_eq_true rfl⟩) (pc_preV pcN_ok hX hW.1 hM.1 rfl rfl hW.1) rfl rfl hl.1 rfl (lv_room (Nat.le_of_ble_eq_true rfl)) dX5_digest_269 ⟨Nat.le_of_ble_eq_true rfl, Nat.le_of_ble_eq_true rfl⟩) hW (fun r502 H locs hwr502 hW => ?_)
              replace hwr502 := hwr502.symm
              subst hwr502
              refine lv_i2l (v := (F_X5_ofPack4 c v w (nI i487)).toInt64) hx hb dX5_digest_272 rfl ?_
              refine lv_ladd hx hb dX5_digest_273 ?_
              refine lv_lstore_n (lv' := [(1, .long ((((((((((s489 * (31 : Int64)) + ((F_X5_ofPack0 c v w (nI i487)).toInt64)) * (31 : Int64)) + ((F_X5_ofPack1 c v w (nI i487)).toInt64)) * (31 : Int64)) + ((F_X5_ofPack2 c v w (nI i487)).toInt64)) * (31 : Int64)) + ((F_X5_ofPack3 c v w (nI i487)).toInt64)) * (31 : Int64)) + ((F_X5_ofPack4 c v w (nI i487)).toInt64))), (4, .int 4), (3, .int (nI i487)), (0, .ref (ad 5 0))]) hx hb dX5_digest_274 rfl hl (by decide) rfl (fun ls hl => ?_)
              refine lv_iinc (v := 5) (lv' := [(4, .int 5), (1, .long ((((((((((s489 * (31 : Int64)) + ((F_X5_ofPack0 c v w (nI i487)).toInt64)) * (31 : Int64)) + ((F_X5_ofPack1 c v w (nI i487)).toInt64)) * (31 : Int64)) + ((F_X5_ofPack2 c v w (nI i487)).toInt64)) * (31 : Int64)) + ((F_X5_ofPack3 c v w (nI i487)).toInt64)) * (31 : Int64)) + ((F_X5_ofPack4 c v w (nI i487)).toInt64))), (3, .int (nI i487)), (0, .ref (ad 5 0))]) hx hb dX5_digest_275 hl (k := 1) rfl (by decide) (by decide) rfl (fun ls hl => ?_)
              refine lv_goto (tgt := 253) hx hb dX5_digest_278 (by decide) ?_
              refine lv_iload hx hb dX5_digest_253 (lv_at hl 0 rfl) ?_
              refine lv_bipush (v := 6) hx hb dX5_digest_255 (by decide) ?_
              refine lv_icmp_gt (tgt := 281) hx hb dX5_digest_257 (by decide) (fun c503 => absurd c503 (by decide)) (fun _ => ?_)
              refine lv_lload_n hx hb dX5_digest_260 rfl (lv_at hl 1 rfl) ?_
              refine lv_ldc2 (v := 31) hx hb hown (hts (.constantLong RX5 336 31) (by decide +kernel)) dX5_digest_261 ?_
              refine lv_lmul hx hb dX5_digest_264 ?_
              refine lv_aload_n hx hb dX5_digest_265 rfl (lv_at hl 3 rfl) ?_
              refine lv_iload_n hx hb dX5_digest_266 rfl (lv_at hl 2 rfl) ?_
              refine lv_iload hx hb dX5_digest_267 (lv_at hl 0 rfl) ?_
              refine pc_rcalli (va_runV (As := [.int (nI i487), .int 5]) (rest := [.long (((((((((((s489 * (31 : Int64)) + ((F_X5_ofPack0 c v w (nI i487)).toInt64)) * (31 : Int64)) + ((F_X5_ofPack1 c v w (nI i487)).toInt64)) * (31 : Int64)) + ((F_X5_ofPack2 c v w (nI i487)).toInt64)) * (31 : Int64)) + ((F_X5_ofPack3 c v w (nI i487)).toInt64)) * (31 : Int64)) + ((F_X5_ofPack4 c v w (nI i487)).toInt64)) * (31 : Int64))]) ⟨hx, hb, hml, hown, hts⟩ (r_X5_ofPack5 l D cA NL c v w (U_X5_freedByAll c v w (3 : Int32)) ad (nI i487) hM hBd hF (nI_nn (Nat.lt_of_lt_of_le hlt9i487 (Nat.le_trans hBd.2.2.2.2 (by decide)))) (by rw [nI_clamp (Nat.lt_of_lt_of_le hlt9i487 (Nat.le_trans hBd.2.2.2.2 (by decide)))]; exact hlt9i487)) (cwV 2 hts gX5_digest_X5_ofPack rfl rfl rfl (by decide +kernel) ⟨Nat.le_of_ble_eq_true rfl, Nat.le_of_ble_eq_true rfl⟩) (pc_preV pcN_ok hX hW.1 hM.1 rfl rfl hW.1) rfl rfl hl.1 rfl (lv_room (Nat.le_of_ble_eq_true rfl)) dX5_digest_269 ⟨Nat.le_of_ble_eq_true rfl, Nat.le_of_ble_eq_true rfl⟩) hW (fun r504 H locs hwr504 hW => ?_)
              replace hwr504 := hwr504.symm
              subst hwr504
              refine lv_i2l (v := (F_X5_ofPack5 c v w (nI i487)).toInt64) hx hb dX5_digest_272 rfl ?_
              refine lv_ladd hx hb dX5_digest_273 ?_
              refine lv_lstore_n (lv' := [(1, .long ((((((((((((s489 * (31 : Int64)) + ((F_X5_ofPack0 c v w (nI i487)).toInt64)) * (31 : Int64)) + ((F_X5_ofPack1 c v w (nI i487)).toInt64)) * (31 : Int64)) + ((F_X5_ofPack2 c v w (nI i487)).toInt64)) * (31 : Int64)) + ((F_X5_ofPack3 c v w (nI i487)).toInt64)) * (31 : Int64)) + ((F_X5_ofPack4 c v w (nI i487)).toInt64)) * (31 : Int64)) + ((F_X5_ofPack5 c v w (nI i487)).toInt64))), (4, .int 5), (3, .int (nI i487)), (0, .ref (ad 5 0))]) hx hb dX5_digest_274 rfl hl (by decide) rfl (fun ls hl => ?_)
              refine lv_iinc (v := 6) (lv' := [(4, .int 6), (1, .long ((((((((((((s489 * (31 : Int64)) + ((F_X5_ofPack0 c v w (nI i487)).toInt64)) * (31 : Int64)) + ((F_X5_ofPack1 c v w (nI i487)).toInt64)) * (31 : Int64)) + ((F_X5_ofPack2 c v w (nI i487)).toInt64)) * (31 : Int64)) + ((F_X5_ofPack3 c v w (nI i487)).toInt64)) * (31 : Int64)) + ((F_X5_ofPack4 c v w (nI i487)).toInt64)) * (31 : Int64)) + ((F_X5_ofPack5 c v w (nI i487)).toInt64))), (3, .int (nI i487)), (0, .ref (ad 5 0))]) hx hb dX5_digest_275 hl (k := 1) rfl (by decide) (by decide) rfl (fun ls hl => ?_)
              refine lv_goto (tgt := 253) hx hb dX5_digest_278 (by decide) ?_
              refine lv_iload hx hb dX5_digest_253 (lv_at hl 0 rfl) ?_
              refine lv_bipush (v := 6) hx hb dX5_digest_255 (by decide) ?_
              refine lv_icmp_gt (tgt := 281) hx hb dX5_digest_257 (by decide) (fun c505 => absurd c505 (by decide)) (fun _ => ?_)
              refine lv_lload_n hx hb dX5_digest_260 rfl (lv_at hl 1 rfl) ?_
              refine lv_ldc2 (v := 31) hx hb hown (hts (.constantLong RX5 336 31) (by decide +kernel)) dX5_digest_261 ?_
              refine lv_lmul hx hb dX5_digest_264 ?_
              refine lv_aload_n hx hb dX5_digest_265 rfl (lv_at hl 3 rfl) ?_
              refine lv_iload_n hx hb dX5_digest_266 rfl (lv_at hl 2 rfl) ?_
              refine lv_iload hx hb dX5_digest_267 (lv_at hl 0 rfl) ?_
              refine pc_rcalli (va_runV (As := [.int (nI i487), .int 6]) (rest := [.long (((((((((((((s489 * (31 : Int64)) + ((F_X5_ofPack0 c v w (nI i487)).toInt64)) * (31 : Int64)) + ((F_X5_ofPack1 c v w (nI i487)).toInt64)) * (31 : Int64)) + ((F_X5_ofPack2 c v w (nI i487)).toInt64)) * (31 : Int64)) + ((F_X5_ofPack3 c v w (nI i487)).toInt64)) * (31 : Int64)) + ((F_X5_ofPack4 c v w (nI i487)).toInt64)) * (31 : Int64)) + ((F_X5_ofPack5 c v w (nI i487)).toInt64)) * (31 : Int64))]) ⟨hx, hb, hml, hown, hts⟩ (r_X5_ofPack6 l D cA NL c v w (U_X5_freedByAll c v w (3 : Int32)) ad (nI i487) hM hBd hF (nI_nn (Nat.lt_of_lt_of_le hlt9i487 (Nat.le_trans hBd.2.2.2.2 (by decide)))) (by rw [nI_clamp (Nat.lt_of_lt_of_le hlt9i487 (Nat.le_trans hBd.2.2.2.2 (by decide)))]; exact hlt9i487)) (cwV 2 hts gX5_digest_X5_ofPack rfl rfl rfl (by decide +kernel) ⟨Nat.le_of_ble_eq_true rfl, Nat.le_of_ble_eq_true rfl⟩) (pc_preV pcN_ok hX hW.1 hM.1 rfl rfl hW.1) rfl rfl hl.1 rfl (lv_room (Nat.le_of_ble_eq_true rfl)) dX5_digest_269 ⟨Nat.le_of_ble_eq_true rfl, Nat.le_of_ble_eq_true rfl⟩) hW (fun r506 H locs hwr506 hW => ?_)
              replace hwr506 := hwr506.symm
              subst hwr506
              refine lv_i2l (v := (F_X5_ofPack6 c v w (nI i487)).toInt64) hx hb dX5_digest_272 rfl ?_
              refine lv_ladd hx hb dX5_digest_273 ?_
              refine lv_lstore_n (lv' := [(1, .long ((((((((((((((s489 * (31 : Int64)) + ((F_X5_ofPack0 c v w (nI i487)).toInt64)) * (31 : Int64)) + ((F_X5_ofPack1 c v w (nI i487)).toInt64)) * (31 : Int64)) + ((F_X5_ofPack2 c v w (nI i487)).toInt64)) * (31 : Int64)) + ((F_X5_ofPack3 c v w (nI i487)).toInt64)) * (31 : Int64)) + ((F_X5_ofPack4 c v w (nI i487)).toInt64)) * (31 : Int64)) + ((F_X5_ofPack5 c v w (nI i487)).toInt64)) * (31 : Int64)) + ((F_X5_ofPack6 c v w (nI i487)).toInt64))), (4, .int 6), (3, .int (nI i487)), (0, .ref (ad 5 0))]) hx hb dX5_digest_274 rfl hl (by decide) rfl (fun ls hl => ?_)
              refine lv_iinc (v := 7) (lv' := [(4, .int 7), (1, .long ((((((((((((((s489 * (31 : Int64)) + ((F_X5_ofPack0 c v w (nI i487)).toInt64)) * (31 : Int64)) + ((F_X5_ofPack1 c v w (nI i487)).toInt64)) * (31 : Int64)) + ((F_X5_ofPack2 c v w (nI i487)).toInt64)) * (31 : Int64)) + ((F_X5_ofPack3 c v w (nI i487)).toInt64)) * (31 : Int64)) + ((F_X5_ofPack4 c v w (nI i487)).toInt64)) * (31 : Int64)) + ((F_X5_ofPack5 c v w (nI i487)).toInt64)) * (31 : Int64)) + ((F_X5_ofPack6 c v w (nI i487)).toInt64))), (3, .int (nI i487)), (0, .ref (ad 5 0))]) hx hb dX5_digest_275 hl (k := 1) rfl (by decide) (by decide) rfl (fun ls hl => ?_)
              refine lv_goto (tgt := 253) hx hb dX5_digest_278 (by decide) ?_
              refine lv_iload hx hb dX5_digest_253 (lv_at hl 0 rfl) ?_
              refine lv_bipush (v := 6) hx hb dX5_digest_255 (by decide) ?_
              refine lv_icmp_gt (tgt := 281) hx hb dX5_digest_257 (by decide) (fun _ => ?_) (fun c507 => absurd (by decide) c507)
              refine lv_iinc (v := nI (i487 + 1)) (lv' := [(3, .int (nI (i487 + 1))), (4, .int 7), (1, .long ((((((((((((((s489 * (31 : Int64)) + ((F_X5_ofPack0 c v w (nI i487)).toInt64)) * (31 : Int64)) + ((F_X5_ofPack1 c v w (nI i487)).toInt64)) * (31 : Int64)) + ((F_X5_ofPack2 c v w (nI i487)).toInt64)) * (31 : Int64)) + ((F_X5_ofPack3 c v w (nI i487)).toInt64)) * (31 : Int64)) + ((F_X5_ofPack4 c v w (nI i487)).toInt64)) * (31 : Int64)) + ((F_X5_ofPack5 c v w (nI i487)).toInt64)) * (31 : Int64)) + ((F_X5_ofPack6 c v w (nI i487)).toInt64))), (0, .ref (ad 5 0))]) hx hb dX5_digest_281 hl (k := 2) rfl (nI_1 i487) (by decide) rfl (fun ls hl => ?_)
              refine lv_goto (tgt := 242) hx hb dX5_digest_284 (by decide) ?_
              have he9F : (FL3_X5_digest c v w k488 (i487 + 1) ((((((((((((((s489 * (31 : Int64)) + ((F_X5_ofPack0 c v w (nI i487)).toInt64)) * (31 : Int64)) + ((F_X5_ofPack1 c v w (nI i487)).toInt64)) * (31 : Int64)) + ((F_X5_ofPack2 c v w (nI i487)).toInt64)) * (31 : Int64)) + ((F_X5_ofPack3 c v w (nI i487)).toInt64)) * (31 : Int64)) + ((F_X5_ofPack4 c v w (nI i487)).toInt64)) * (31 : Int64)) + ((F_X5_ofPack5 c v w (nI i487)).toInt64)) * (31 : Int64)) + ((F_X5_ofPack6 c v w (nI i487)).toInt64))) = (FL3_X5_digest c v w (c 4) 0 (((((((((((((((((FL2_X5_digest c v w (c 3) 0 (FL_X5_digest c v w (c 0) 0 ((((((((((((((((((((((((((1801317 : Int64) + ((F_X5_many0 c v w).toInt64)) * (31 : Int64)) + ((F_X5_many1 c v w).toInt64)) * (31 : Int64)) + ((F_X5_many2 c v w).toInt64)) * (31 : Int64)) + ((F_X5_many3 c v w).toInt64)) * (31 : Int64)) + ((F_X5_many4 c v w).toInt64)) * (31 : Int64)) + ((F_X5_many5 c v w).toInt64)) * (31 : Int64)) + ((F_X5_many6 c v w).toInt64)) * (31 : Int64)) + ((F_X5_many7 c v w).toInt64)) * (31 : Int64)) + ((F_X5_many8 c v w).toInt64)) * (31 : Int64)) + ((F_X5_many9 c v w).toInt64)) * (31 : Int64)) + ((F_X5_many10 c v w).toInt64)) * (31 : Int64)) + ((F_X5_many11 c v w).toInt64)) * (31 : Int64)) + ((F_X5_many12 c v w).toInt64)))) * (31 : Int64)) + ((F_X5_owes c v w (0 : Int32)).toInt64)) * (31 : Int64)) + ((F_X5_freedByAll c v w (0 : Int32)).toInt64)) * (31 : Int64)) + ((F_X5_owes c v w (1 : Int32)).toInt64)) * (31 : Int64)) + ((F_X5_freedByAll c v w (1 : Int32)).toInt64)) * (31 : Int64)) + ((F_X5_owes c v w (2 : Int32)).toInt64)) * (31 : Int64)) + ((F_X5_freedByAll c v w (2 : Int32)).toInt64)) * (31 : Int64)) + ((F_X5_owes c v w (3 : Int32)).toInt64)) * (31 : Int64)) + ((F_X5_freedByAll c v w (3 : Int32)).toInt64))) := by rw [← heF]; show (FL3_X5_digest c v w k488 (i487 + 1) ((((((((((((((s489 * (31 : Int64)) + ((F_X5_ofPack0 c v w (nI i487)).toInt64)) * (31 : Int64)) + ((F_X5_ofPack1 c v w (nI i487)).toInt64)) * (31 : Int64)) + ((F_X5_ofPack2 c v w (nI i487)).toInt64)) * (31 : Int64)) + ((F_X5_ofPack3 c v w (nI i487)).toInt64)) * (31 : Int64)) + ((F_X5_ofPack4 c v w (nI i487)).toInt64)) * (31 : Int64)) + ((F_X5_ofPack5 c v w (nI i487)).toInt64)) * (31 : Int64)) + ((F_X5_ofPack6 c v w (nI i487)).toInt64))) = (FL3_X5_digest c v w (k488 + 1) i487 s489); rfl
              exact ihk488 (i487 + 1)  ((((((((((((((s489 * (31 : Int64)) + ((F_X5_ofPack0 c v w (nI i487)).toInt64)) * (31 : Int64)) + ((F_X5_ofPack1 c v w (nI i487)).toInt64)) * (31 : Int64)) + ((F_X5_ofPack2 c v w (nI i487)).toInt64)) * (31 : Int64)) + ((F_X5_ofPack3 c v w (nI i487)).toInt64)) * (31 : Int64)) + ((F_X5_ofPack4 c v w (nI i487)).toInt64)) * (31 : Int64)) + ((F_X5_ofPack5 c v w (nI i487)).toInt64)) * (31 : Int64)) + ((F_X5_ofPack6 c v w (nI i487)).toInt64)) H locs ls (by omega) he9F hW (lv_sub hl [0, 2, 3] rfl)
          exact K490 (c 4) 0  (((((((((((((((((FL2_X5_digest c v w (c 3) 0 (FL_X5_digest c v w (c 0) 0 ((((((((((((((((((((((((((1801317 : Int64) + ((F_X5_many0 c v w).toInt64)) * (31 : Int64)) + ((F_X5_many1 c v w).toInt64)) * (31 : Int64)) + ((F_X5_many2 c v w).toInt64)) * (31 : Int64)) + ((F_X5_many3 c v w).toInt64)) * (31 : Int64)) + ((F_X5_many4 c v w).toInt64)) * (31 : Int64)) + ((F_X5_many5 c v w).toInt64)) * (31 : Int64)) + ((F_X5_many6 c v w).toInt64)) * (31 : Int64)) + ((F_X5_many7 c v w).toInt64)) * (31 : Int64)) + ((F_X5_many8 c v w).toInt64)) * (31 : Int64)) + ((F_X5_many9 c v w).toInt64)) * (31 : Int64)) + ((F_X5_many10 c v w).toInt64)) * (31 : Int64)) + ((F_X5_many11 c v w).toInt64)) * (31 : Int64)) + ((F_X5_many12 c v w).toInt64)))) * (31 : Int64)) + ((F_X5_owes c v w (0 : Int32)).toInt64)) * (31 : Int64)) + ((F_X5_freedByAll c v w (0 : Int32)).toInt64)) * (31 : Int64)) + ((F_X5_owes c v w (1 : Int32)).toInt64)) * (31 : Int64)) + ((F_X5_freedByAll c v w (1 : Int32)).toInt64)) * (31 : Int64)) + ((F_X5_owes c v w (2 : Int32)).toInt64)) * (31 : Int64)) + ((F_X5_freedByAll c v w (2 : Int32)).toInt64)) * (31 : Int64)) + ((F_X5_owes c v w (3 : Int32)).toInt64)) * (31 : Int64)) + ((F_X5_freedByAll c v w (3 : Int32)).toInt64)) _ _ ls (by omega) rfl hW (lv_sub hl [0, 1, 2] rfl)
        | succ k470 ihk470 =>
          intro i469 s471 H locs ls hk heF hW hl
          have hlt : i469 < c 3 := by omega
          have hlt9i469 := hlt
          refine lv_iload_n hx hb dX5_digest_161 rfl (lv_at hl 0 rfl) ?_
          refine lv_aload_n hx hb dX5_digest_162 rfl (lv_at hl 2 rfl) ?_
          refine pc_get (C := RX5) (T := TX5) (N := 13) (ci := 5) hx hb hts (by decide +kernel) hown hX.1 hW.1 5 0 hM.1 rfl rfl 10 (by decide) (hts (.fieldLink RX5 58 "DraftsmanOffice" "queryCount" "I") (by decide +kernel)) (fun _ h9 => h9) rfl dX5_digest_163 ?_
          refine lv_icmp_ge (tgt := 201) hx hb dX5_digest_166 (by decide) (fun c508 => absurd c508 (nI_ge hlt (Nat.lt_of_le_of_lt hBd.2.2.2.1 (by decide)))) (fun _ => ?_)
          refine lv_lload_n hx hb dX5_digest_169 rfl (lv_at hl 1 rfl) ?_
          refine lv_ldc2 (v := 31) hx hb hown (hts (.constantLong RX5 336 31) (by decide +kernel)) dX5_digest_170 ?_
          refine lv_lmul hx hb dX5_digest_173 ?_
          refine lv_aload_n hx hb dX5_digest_174 rfl (lv_at hl 2 rfl) ?_
          refine lv_iload_n hx hb dX5_digest_175 rfl (lv_at hl 0 rfl) ?_
          refine pc_rcalli (va_runV (As := [.int (nI i469)]) (rest := [.long (s471 * (31 : Int64))]) ⟨hx, hb, hml, hown, hts⟩ (r_X5_ofQuery l D cA NL c v w u ad (nI i469) hM hBd hF (nI_nn (Nat.lt_of_lt_of_le hlt9i469 (Nat.le_trans hBd.2.2.2.1 (by decide)))) (by rw [nI_clamp (Nat.lt_of_lt_of_le hlt9i469 (Nat.le_trans hBd.2.2.2.1 (by decide)))]; exact hlt9i469)) (cwV 1 hts gX5_digest_X5_ofQuery rfl rfl rfl (by decide +kernel) ⟨Nat.le_of_ble_eq_true rfl, Nat.le_of_ble_eq_true rfl⟩) (pc_preV pcN_ok hX hW.1 hM.1 rfl rfl hW.1) rfl rfl hl.1 rfl (lv_room (Nat.le_of_ble_eq_true rfl)) dX5_digest_176 ⟨Nat.le_of_ble_eq_true rfl, Nat.le_of_ble_eq_true rfl⟩) hW (fun r509 H locs hwr509 hW => ?_)
          replace hwr509 := hwr509.symm
          subst hwr509
          refine lv_i2l (v := (F_X5_ofQuery c v w (nI i469)).toInt64) hx hb dX5_digest_179 rfl ?_
          refine lv_ladd hx hb dX5_digest_180 ?_
          refine lv_lstore_n (lv' := [(1, .long ((s471 * (31 : Int64)) + ((F_X5_ofQuery c v w (nI i469)).toInt64))), (3, .int (nI i469)), (0, .ref (ad 5 0))]) hx hb dX5_digest_181 rfl hl (by decide) rfl (fun ls hl => ?_)
          refine lv_lload_n hx hb dX5_digest_182 rfl (lv_at hl 0 rfl) ?_
          refine lv_ldc2 (v := 31) hx hb hown (hts (.constantLong RX5 336 31) (by decide +kernel)) dX5_digest_183 ?_
          refine lv_lmul hx hb dX5_digest_186 ?_
          refine lv_aload_n hx hb dX5_digest_187 rfl (lv_at hl 2 rfl) ?_
          refine lv_iload_n hx hb dX5_digest_188 rfl (lv_at hl 1 rfl) ?_
          have hD9 := hW.2.1
          refine pc_mcalli (va_runV (As := [.int (nI i469)]) (rest := [.long (((s471 * (31 : Int64)) + ((F_X5_ofQuery c v w (nI i469)).toInt64)) * (31 : Int64))]) ⟨hx, hb, hml, hown, hts⟩ (m_X5_freedBy l D cA NL c v w u ad A (nI i469) hM hBd hF (nI_nn (Nat.lt_of_lt_of_le hlt9i469 (Nat.le_trans hBd.2.2.2.1 (by decide)))) (by rw [nI_clamp (Nat.lt_of_lt_of_le hlt9i469 (Nat.le_trans hBd.2.2.2.1 (by decide)))]; exact hlt9i469)) (cwV 1 hts gX5_digest_X5_freedBy rfl rfl rfl (by decide +kernel) ⟨Nat.le_of_ble_eq_true rfl, Nat.le_of_ble_eq_true rfl⟩) (pc_preV pcN_ok hX hW.1 hM.1 rfl rfl ⟨hW.1, hW.2.1, fun q h => hA q (Nat.le_trans hW.2.2.1 h)⟩) rfl rfl hl.1 rfl (lv_room (Nat.le_of_ble_eq_true rfl)) dX5_digest_189 ⟨Nat.le_of_ble_eq_true rfl, Nat.le_of_ble_eq_true rfl⟩) hW.2.2 (fun r510 _ H locs hwr510 hB hS9 => ?_)
          replace hwr510 := hwr510.symm
          subst hwr510
          have hW : pcS D vwCl A s.heap NL ad (ctO cA c v w u ad) H locs := ⟨hB, pcD_ct hD9, hS9⟩
          refine lv_i2l (v := (F_X5_freedBy c v w (nI i469)).toInt64) hx hb dX5_digest_192 rfl ?_
          refine lv_ladd hx hb dX5_digest_193 ?_
          refine lv_lstore_n (lv' := [(1, .long ((((s471 * (31 : Int64)) + ((F_X5_ofQuery c v w (nI i469)).toInt64)) * (31 : Int64)) + ((F_X5_freedBy c v w (nI i469)).toInt64))), (3, .int (nI i469)), (0, .ref (ad 5 0))]) hx hb dX5_digest_194 rfl hl (by decide) rfl (fun ls hl => ?_)
          refine lv_iinc (v := nI (i469 + 1)) (lv' := [(3, .int (nI (i469 + 1))), (1, .long ((((s471 * (31 : Int64)) + ((F_X5_ofQuery c v w (nI i469)).toInt64)) * (31 : Int64)) + ((F_X5_freedBy c v w (nI i469)).toInt64))), (0, .ref (ad 5 0))]) hx hb dX5_digest_195 hl (k := 1) rfl (nI_1 i469) (by decide) rfl (fun ls hl => ?_)
          refine lv_goto (tgt := 161) hx hb dX5_digest_198 (by decide) ?_
          have he9F : (FL2_X5_digest c v w k470 (i469 + 1) ((((s471 * (31 : Int64)) + ((F_X5_ofQuery c v w (nI i469)).toInt64)) * (31 : Int64)) + ((F_X5_freedBy c v w (nI i469)).toInt64))) = (FL2_X5_digest c v w (c 3) 0 (FL_X5_digest c v w (c 0) 0 ((((((((((((((((((((((((((1801317 : Int64) + ((F_X5_many0 c v w).toInt64)) * (31 : Int64)) + ((F_X5_many1 c v w).toInt64)) * (31 : Int64)) + ((F_X5_many2 c v w).toInt64)) * (31 : Int64)) + ((F_X5_many3 c v w).toInt64)) * (31 : Int64)) + ((F_X5_many4 c v w).toInt64)) * (31 : Int64)) + ((F_X5_many5 c v w).toInt64)) * (31 : Int64)) + ((F_X5_many6 c v w).toInt64)) * (31 : Int64)) + ((F_X5_many7 c v w).toInt64)) * (31 : Int64)) + ((F_X5_many8 c v w).toInt64)) * (31 : Int64)) + ((F_X5_many9 c v w).toInt64)) * (31 : Int64)) + ((F_X5_many10 c v w).toInt64)) * (31 : Int64)) + ((F_X5_many11 c v w).toInt64)) * (31 : Int64)) + ((F_X5_many12 c v w).toInt64)))) := by rw [← heF]; show (FL2_X5_digest c v w k470 (i469 + 1) ((((s471 * (31 : Int64)) + ((F_X5_ofQuery c v w (nI i469)).toInt64)) * (31 : Int64)) + ((F_X5_freedBy c v w (nI i469)).toInt64))) = (FL2_X5_digest c v w (k470 + 1) i469 s471); rfl
          exact ihk470 (i469 + 1)  ((((s471 * (31 : Int64)) + ((F_X5_ofQuery c v w (nI i469)).toInt64)) * (31 : Int64)) + ((F_X5_freedBy c v w (nI i469)).toInt64)) H locs ls (by omega) he9F hW (lv_sub hl [0, 1, 2] rfl)
      exact K472 (c 3) 0  (FL_X5_digest c v w (c 0) 0 ((((((((((((((((((((((((((1801317 : Int64) + ((F_X5_many0 c v w).toInt64)) * (31 : Int64)) + ((F_X5_many1 c v w).toInt64)) * (31 : Int64)) + ((F_X5_many2 c v w).toInt64)) * (31 : Int64)) + ((F_X5_many3 c v w).toInt64)) * (31 : Int64)) + ((F_X5_many4 c v w).toInt64)) * (31 : Int64)) + ((F_X5_many5 c v w).toInt64)) * (31 : Int64)) + ((F_X5_many6 c v w).toInt64)) * (31 : Int64)) + ((F_X5_many7 c v w).toInt64)) * (31 : Int64)) + ((F_X5_many8 c v w).toInt64)) * (31 : Int64)) + ((F_X5_many9 c v w).toInt64)) * (31 : Int64)) + ((F_X5_many10 c v w).toInt64)) * (31 : Int64)) + ((F_X5_many11 c v w).toInt64)) * (31 : Int64)) + ((F_X5_many12 c v w).toInt64))) _ _ ls (by omega) rfl hW (lv_sub hl [0, 1, 2] rfl)
    | succ k465 ihk465 =>
      intro i464 s466 H locs ls hk heF hW hl
      have hlt : i464 < c 0 := by omega
      have hlt9i464 := hlt
      refine lv_iload_n hx hb dX5_digest_33 rfl (lv_at hl 0 rfl) ?_
      refine lv_aload_n hx hb dX5_digest_34 rfl (lv_at hl 2 rfl) ?_
      refine pc_get (C := RX5) (T := TX5) (N := 13) (ci := 5) hx hb hts (by decide +kernel) hown hX.1 hW.1 5 0 hM.1 rfl rfl 7 (by decide) (hts (.fieldLink RX5 48 "DraftsmanOffice" "sheetCount" "I") (by decide +kernel)) (fun _ h9 => h9) rfl dX5_digest_35 ?_
      refine lv_icmp_ge (tgt := 159) hx hb dX5_digest_38 (by decide) (fun c511 => absurd c511 (nI_ge hlt (Nat.lt_of_le_of_lt hBd.1 (by decide)))) (fun _ => ?_)
      refine lv_iconst (v := 0) hx hb dX5_digest_41 (by decide) ?_
      refine lv_istore (lv' := [(4, .int 0), (3, .int (nI i464)), (1, .long s466), (0, .ref (ad 5 0))]) hx hb dX5_digest_42 hl (by decide) rfl (fun ls hl => ?_)
      refine lv_iload hx hb dX5_digest_44 (lv_at hl 0 rfl) ?_
      refine lv_bipush (v := 9) hx hb dX5_digest_46 (by decide) ?_
      refine lv_icmp_gt (tgt := 72) hx hb dX5_digest_48 (by decide) (fun c512 => absurd c512 (by decide)) (fun _ => ?_)
      refine lv_lload_n hx hb dX5_digest_51 rfl (lv_at hl 2 rfl) ?_
      refine lv_ldc2 (v := 31) hx hb hown (hts (.constantLong RX5 336 31) (by decide +kernel)) dX5_digest_52 ?_
      refine lv_lmul hx hb dX5_digest_55 ?_
      refine lv_aload_n hx hb dX5_digest_56 rfl (lv_at hl 3 rfl) ?_
      refine lv_iload_n hx hb dX5_digest_57 rfl (lv_at hl 1 rfl) ?_
      refine lv_iload hx hb dX5_digest_58 (lv_at hl 0 rfl) ?_
      refine pc_rcalli (va_runV (As := [.int (nI i464), .int 0]) (rest := [.long (s466 * (31 : Int64))]) ⟨hx, hb, hml, hown, hts⟩ (r_X5_ofSheet0 l D cA NL c v w u ad (nI i464) hM hBd hF (nI_nn (Nat.lt_of_lt_of_le hlt9i464 (Nat.le_trans hBd.1 (by decide)))) (by rw [nI_clamp (Nat.lt_of_lt_of_le hlt9i464 (Nat.le_trans hBd.1 (by decide)))]; exact hlt9i464)) (cwV 2 hts gX5_digest_X5_ofSheet rfl rfl rfl (by decide +kernel) ⟨Nat.le_of_ble_eq_true rfl, Nat.le_of_ble_eq_true rfl⟩) (pc_preV pcN_ok hX hW.1 hM.1 rfl rfl hW.1) rfl rfl hl.1 rfl (lv_room (Nat.le_of_ble_eq_true rfl)) dX5_digest_60 ⟨Nat.le_of_ble_eq_true rfl, Nat.le_of_ble_eq_true rfl⟩) hW (fun r513 H locs hwr513 hW => ?_)
      replace hwr513 := hwr513.symm
      subst hwr513
      refine lv_i2l (v := (F_X5_ofSheet0 c v w (nI i464)).toInt64) hx hb dX5_digest_63 rfl ?_
      refine lv_ladd hx hb dX5_digest_64 ?_
      refine lv_lstore_n (lv' := [(1, .long ((s466 * (31 : Int64)) + ((F_X5_ofSheet0 c v w (nI i464)).toInt64))), (4, .int 0), (3, .int (nI i464)), (0, .ref (ad 5 0))]) hx hb dX5_digest_65 rfl hl (by decide) rfl (fun ls hl => ?_)
      refine lv_iinc (v := 1) (lv' := [(4, .int 1), (1, .long ((s466 * (31 : Int64)) + ((F_X5_ofSheet0 c v w (nI i464)).toInt64))), (3, .int (nI i464)), (0, .ref (ad 5 0))]) hx hb dX5_digest_66 hl (k := 1) rfl (by decide) (by decide) rfl (fun ls hl => ?_)
      refine lv_goto (tgt := 44) hx hb dX5_digest_69 (by decide) ?_
      refine lv_iload hx hb dX5_digest_44 (lv_at hl 0 rfl) ?_
      refine lv_bipush (v := 9) hx hb dX5_digest_46 (by decide) ?_
      refine lv_icmp_gt (tgt := 72) hx hb dX5_digest_48 (by decide) (fun c514 => absurd c514 (by decide)) (fun _ => ?_)
      refine lv_lload_n hx hb dX5_digest_51 rfl (lv_at hl 1 rfl) ?_
      refine lv_ldc2 (v := 31) hx hb hown (hts (.constantLong RX5 336 31) (by decide +kernel)) dX5_digest_52 ?_
      refine lv_lmul hx hb dX5_digest_55 ?_
      refine lv_aload_n hx hb dX5_digest_56 rfl (lv_at hl 3 rfl) ?_
      refine lv_iload_n hx hb dX5_digest_57 rfl (lv_at hl 2 rfl) ?_
      refine lv_iload hx hb dX5_digest_58 (lv_at hl 0 rfl) ?_
      refine pc_rcalli (va_runV (As := [.int (nI i464), .int 1]) (rest := [.long (((s466 * (31 : Int64)) + ((F_X5_ofSheet0 c v w (nI i464)).toInt64)) * (31 : Int64))]) ⟨hx, hb, hml, hown, hts⟩ (r_X5_ofSheet1 l D cA NL c v w u ad (nI i464) hM hBd hF (nI_nn (Nat.lt_of_lt_of_le hlt9i464 (Nat.le_trans hBd.1 (by decide)))) (by rw [nI_clamp (Nat.lt_of_lt_of_le hlt9i464 (Nat.le_trans hBd.1 (by decide)))]; exact hlt9i464)) (cwV 2 hts gX5_digest_X5_ofSheet rfl rfl rfl (by decide +kernel) ⟨Nat.le_of_ble_eq_true rfl, Nat.le_of_ble_eq_true rfl⟩) (pc_preV pcN_ok hX hW.1 hM.1 rfl rfl hW.1) rfl rfl hl.1 rfl (lv_room (Nat.le_of_ble_eq_true rfl)) dX5_digest_60 ⟨Nat.le_of_ble_eq_true rfl, Nat.le_of_ble_eq_true rfl⟩) hW (fun r515 H locs hwr515 hW => ?_)
      replace hwr515 := hwr515.symm
      subst hwr515
      refine lv_i2l (v := (F_X5_ofSheet1 c v w (nI i464)).toInt64) hx hb dX5_digest_63 rfl ?_
      refine lv_ladd hx hb dX5_digest_64 ?_
      refine lv_lstore_n (lv' := [(1, .long ((((s466 * (31 : Int64)) + ((F_X5_ofSheet0 c v w (nI i464)).toInt64)) * (31 : Int64)) + ((F_X5_ofSheet1 c v w (nI i464)).toInt64))), (4, .int 1), (3, .int (nI i464)), (0, .ref (ad 5 0))]) hx hb dX5_digest_65 rfl hl (by decide) rfl (fun ls hl => ?_)
      refine lv_iinc (v := 2) (lv' := [(4, .int 2), (1, .long ((((s466 * (31 : Int64)) + ((F_X5_ofSheet0 c v w (nI i464)).toInt64)) * (31 : Int64)) + ((F_X5_ofSheet1 c v w (nI i464)).toInt64))), (3, .int (nI i464)), (0, .ref (ad 5 0))]) hx hb dX5_digest_66 hl (k := 1) rfl (by decide) (by decide) rfl (fun ls hl => ?_)
      refine lv_goto (tgt := 44) hx hb dX5_digest_69 (by decide) ?_
      refine lv_iload hx hb dX5_digest_44 (lv_at hl 0 rfl) ?_
      refine lv_bipush (v := 9) hx hb dX5_digest_46 (by decide) ?_
      refine lv_icmp_gt (tgt := 72) hx hb dX5_digest_48 (by decide) (fun c516 => absurd c516 (by decide)) (fun _ => ?_)
      refine lv_lload_n hx hb dX5_digest_51 rfl (lv_at hl 1 rfl) ?_
      refine lv_ldc2 (v := 31) hx hb hown (hts (.constantLong RX5 336 31) (by decide +kernel)) dX5_digest_52 ?_
      refine lv_lmul hx hb dX5_digest_55 ?_
      refine lv_aload_n hx hb dX5_digest_56 rfl (lv_at hl 3 rfl) ?_
      refine lv_iload_n hx hb dX5_digest_57 rfl (lv_at hl 2 rfl) ?_
      refine lv_iload hx hb dX5_digest_58 (lv_at hl 0 rfl) ?_
      refine pc_rcalli (va_runV (As := [.int (nI i464), .int 2]) (rest := [.long (((((s466 * (31 : Int64)) + ((F_X5_ofSheet0 c v w (nI i464)).toInt64)) * (31 : Int64)) + ((F_X5_ofSheet1 c v w (nI i464)).toInt64)) * (31 : Int64))]) ⟨hx, hb, hml, hown, hts⟩ (r_X5_ofSheet2 l D cA NL c v w u ad (nI i464) hM hBd hF (nI_nn (Nat.lt_of_lt_of_le hlt9i464 (Nat.le_trans hBd.1 (by decide)))) (by rw [nI_clamp (Nat.lt_of_lt_of_le hlt9i464 (Nat.le_trans hBd.1 (by decide)))]; exact hlt9i464)) (cwV 2 hts gX5_digest_X5_ofSheet rfl rfl rfl (by decide +kernel) ⟨Nat.le_of_ble_eq_true rfl, Nat.le_of_ble_eq_true rfl⟩) (pc_preV pcN_ok hX hW.1 hM.1 rfl rfl hW.1) rfl rfl hl.1 rfl (lv_room (Nat.le_of_ble_eq_true rfl)) dX5_digest_60 ⟨Nat.le_of_ble_eq_true rfl, Nat.le_of_ble_eq_true rfl⟩) hW (fun r517 H locs hwr517 hW => ?_)
      replace hwr517 := hwr517.symm
      subst hwr517
      refine lv_i2l (v := (F_X5_ofSheet2 c v w (nI i464)).toInt64) hx hb dX5_digest_63 rfl ?_
      refine lv_ladd hx hb dX5_digest_64 ?_
      refine lv_lstore_n (lv' := [(1, .long ((((((s466 * (31 : Int64)) + ((F_X5_ofSheet0 c v w (nI i464)).toInt64)) * (31 : Int64)) + ((F_X5_ofSheet1 c v w (nI i464)).toInt64)) * (31 : Int64)) + ((F_X5_ofSheet2 c v w (nI i464)).toInt64))), (4, .int 2), (3, .int (nI i464)), (0, .ref (ad 5 0))]) hx hb dX5_digest_65 rfl hl (by decide) rfl (fun ls hl => ?_)
      refine lv_iinc (v := 3) (lv' := [(4, .int 3), (1, .long ((((((s466 * (31 : Int64)) + ((F_X5_ofSheet0 c v w (nI i464)).toInt64)) * (31 : Int64)) + ((F_X5_ofSheet1 c v w (nI i464)).toInt64)) * (31 : Int64)) + ((F_X5_ofSheet2 c v w (nI i464)).toInt64))), (3, .int (nI i464)), (0, .ref (ad 5 0))]) hx hb dX5_digest_66 hl (k := 1) rfl (by decide) (by decide) rfl (fun ls hl => ?_)
      refine lv_goto (tgt := 44) hx hb dX5_digest_69 (by decide) ?_
      refine lv_iload hx hb dX5_digest_44 (lv_at hl 0 rfl) ?_
      refine lv_bipush (v := 9) hx hb dX5_digest_46 (by decide) ?_
      refine lv_icmp_gt (tgt := 72) hx hb dX5_digest_48 (by decide) (fun c518 => absurd c518 (by decide)) (fun _ => ?_)
      refine lv_lload_n hx hb dX5_digest_51 rfl (lv_at hl 1 rfl) ?_
      refine lv_ldc2 (v := 31) hx hb hown (hts (.constantLong RX5 336 31) (by decide +kernel)) dX5_digest_52 ?_
      refine lv_lmul hx hb dX5_digest_55 ?_
      refine lv_aload_n hx hb dX5_digest_56 rfl (lv_at hl 3 rfl) ?_
      refine lv_iload_n hx hb dX5_digest_57 rfl (lv_at hl 2 rfl) ?_
      refine lv_iload hx hb dX5_digest_58 (lv_at hl 0 rfl) ?_
      refine pc_rcalli (va_runV (As := [.int (nI i464), .int 3]) (rest := [.long (((((((s466 * (31 : Int64)) + ((F_X5_ofSheet0 c v w (nI i464)).toInt64)) * (31 : Int64)) + ((F_X5_ofSheet1 c v w (nI i464)).toInt64)) * (31 : Int64)) + ((F_X5_ofSheet2 c v w (nI i464)).toInt64)) * (31 : Int64))]) ⟨hx, hb, hml, hown, hts⟩ (r_X5_ofSheet3 l D cA NL c v w u ad (nI i464) hM hBd hF (nI_nn (Nat.lt_of_lt_of_le hlt9i464 (Nat.le_trans hBd.1 (by decide)))) (by rw [nI_clamp (Nat.lt_of_lt_of_le hlt9i464 (Nat.le_trans hBd.1 (by decide)))]; exact hlt9i464)) (cwV 2 hts gX5_digest_X5_ofSheet rfl rfl rfl (by decide +kernel) ⟨Nat.le_of_ble_eq_true rfl, Nat.le_of_ble_eq_true rfl⟩) (pc_preV pcN_ok hX hW.1 hM.1 rfl rfl hW.1) rfl rfl hl.1 rfl (lv_room (Nat.le_of_ble_eq_true rfl)) dX5_digest_60 ⟨Nat.le_of_ble_eq_true rfl, Nat.le_of_ble_eq_true rfl⟩) hW (fun r519 H locs hwr519 hW => ?_)
      replace hwr519 := hwr519.symm
      subst hwr519
      refine lv_i2l (v := (F_X5_ofSheet3 c v w (nI i464)).toInt64) hx hb dX5_digest_63 rfl ?_
      refine lv_ladd hx hb dX5_digest_64 ?_
      refine lv_lstore_n (lv' := [(1, .long ((((((((s466 * (31 : Int64)) + ((F_X5_ofSheet0 c v w (nI i464)).toInt64)) * (31 : Int64)) + ((F_X5_ofSheet1 c v w (nI i464)).toInt64)) * (31 : Int64)) + ((F_X5_ofSheet2 c v w (nI i464)).toInt64)) * (31 : Int64)) + ((F_X5_ofSheet3 c v w (nI i464)).toInt64))), (4, .int 3), (3, .int (nI i464)), (0, .ref (ad 5 0))]) hx hb dX5_digest_65 rfl hl (by decide) rfl (fun ls hl => ?_)
      refine lv_iinc (v := 4) (lv' := [(4, .int 4), (1, .long ((((((((s466 * (31 : Int64)) + ((F_X5_ofSheet0 c v w (nI i464)).toInt64)) * (31 : Int64)) + ((F_X5_ofSheet1 c v w (nI i464)).toInt64)) * (31 : Int64)) + ((F_X5_ofSheet2 c v w (nI i464)).toInt64)) * (31 : Int64)) + ((F_X5_ofSheet3 c v w (nI i464)).toInt64))), (3, .int (nI i464)), (0, .ref (ad 5 0))]) hx hb dX5_digest_66 hl (k := 1) rfl (by decide) (by decide) rfl (fun ls hl => ?_)
      refine lv_goto (tgt := 44) hx hb dX5_digest_69 (by decide) ?_
      refine lv_iload hx hb dX5_digest_44 (lv_at hl 0 rfl) ?_
      refine lv_bipush (v := 9) hx hb dX5_digest_46 (by decide) ?_
      refine lv_icmp_gt (tgt := 72) hx hb dX5_digest_48 (by decide) (fun c520 => absurd c520 (by decide)) (fun _ => ?_)
      refine lv_lload_n hx hb dX5_digest_51 rfl (lv_at hl 1 rfl) ?_
      refine lv_ldc2 (v := 31) hx hb hown (hts (.constantLong RX5 336 31) (by decide +kernel)) dX5_digest_52 ?_
      refine lv_lmul hx hb dX5_digest_55 ?_
      refine lv_aload_n hx hb dX5_digest_56 rfl (lv_at hl 3 rfl) ?_
      refine lv_iload_n hx hb dX5_digest_57 rfl (lv_at hl 2 rfl) ?_
      refine lv_iload hx hb dX5_digest_58 (lv_at hl 0 rfl) ?_
      refine pc_rcalli (va_runV (As := [.int (nI i464), .int 4]) (rest := [.long (((((((((s466 * (31 : Int64)) + ((F_X5_ofSheet0 c v w (nI i464)).toInt64)) * (31 : Int64)) + ((F_X5_ofSheet1 c v w (nI i464)).toInt64)) * (31 : Int64)) + ((F_X5_ofSheet2 c v w (nI i464)).toInt64)) * (31 : Int64)) + ((F_X5_ofSheet3 c v w (nI i464)).toInt64)) * (31 : Int64))]) ⟨hx, hb, hml, hown, hts⟩ (r_X5_ofSheet4 l D cA NL c v w u ad (nI i464) hM hBd hF (nI_nn (Nat.lt_of_lt_of_le hlt9i464 (Nat.le_trans hBd.1 (by decide)))) (by rw [nI_clamp (Nat.lt_of_lt_of_le hlt9i464 (Nat.le_trans hBd.1 (by decide)))]; exact hlt9i464)) (cwV 2 hts gX5_digest_X5_ofSheet rfl rfl rfl (by decide +kernel) ⟨Nat.le_of_ble_eq_true rfl, Nat.le_of_ble_eq_true rfl⟩) (pc_preV pcN_ok hX hW.1 hM.1 rfl rfl hW.1) rfl rfl hl.1 rfl (lv_room (Nat.le_of_ble_eq_true rfl)) dX5_digest_60 ⟨Nat.le_of_ble_eq_true rfl, Nat.le_of_ble_eq_true rfl⟩) hW (fun r521 H locs hwr521 hW => ?_)
      replace hwr521 := hwr521.symm
      subst hwr521
      refine lv_i2l (v := (F_X5_ofSheet4 c v w (nI i464)).toInt64) hx hb dX5_digest_63 rfl ?_
      refine lv_ladd hx hb dX5_digest_64 ?_
      refine lv_lstore_n (lv' := [(1, .long ((((((((((s466 * (31 : Int64)) + ((F_X5_ofSheet0 c v w (nI i464)).toInt64)) * (31 : Int64)) + ((F_X5_ofSheet1 c v w (nI i464)).toInt64)) * (31 : Int64)) + ((F_X5_ofSheet2 c v w (nI i464)).toInt64)) * (31 : Int64)) + ((F_X5_ofSheet3 c v w (nI i464)).toInt64)) * (31 : Int64)) + ((F_X5_ofSheet4 c v w (nI i464)).toInt64))), (4, .int 4), (3, .int (nI i464)), (0, .ref (ad 5 0))]) hx hb dX5_digest_65 rfl hl (by decide) rfl (fun ls hl => ?_)
      refine lv_iinc (v := 5) (lv' := [(4, .int 5), (1, .long ((((((((((s466 * (31 : Int64)) + ((F_X5_ofSheet0 c v w (nI i464)).toInt64)) * (31 : Int64)) + ((F_X5_ofSheet1 c v w (nI i464)).toInt64)) * (31 : Int64)) + ((F_X5_ofSheet2 c v w (nI i464)).toInt64)) * (31 : Int64)) + ((F_X5_ofSheet3 c v w (nI i464)).toInt64)) * (31 : Int64)) + ((F_X5_ofSheet4 c v w (nI i464)).toInt64))), (3, .int (nI i464)), (0, .ref (ad 5 0))]) hx hb dX5_digest_66 hl (k := 1) rfl (by decide) (by decide) rfl (fun ls hl => ?_)
      refine lv_goto (tgt := 44) hx hb dX5_digest_69 (by decide) ?_
      refine lv_iload hx hb dX5_digest_44 (lv_at hl 0 rfl) ?_
      refine lv_bipush (v := 9) hx hb dX5_digest_46 (by decide) ?_
      refine lv_icmp_gt (tgt := 72) hx hb dX5_digest_48 (by decide) (fun c522 => absurd c522 (by decide)) (fun _ => ?_)
      refine lv_lload_n hx hb dX5_digest_51 rfl (lv_at hl 1 rfl) ?_
      refine lv_ldc2 (v := 31) hx hb hown (hts (.constantLong RX5 336 31) (by decide +kernel)) dX5_digest_52 ?_
      refine lv_lmul hx hb dX5_digest_55 ?_
      refine lv_aload_n hx hb dX5_digest_56 rfl (lv_at hl 3 rfl) ?_
      refine lv_iload_n hx hb dX5_digest_57 rfl (lv_at hl 2 rfl) ?_
      refine lv_iload hx hb dX5_digest_58 (lv_at hl 0 rfl) ?_
      refine pc_rcalli (va_runV (As := [.int (nI i464), .int 5]) (rest := [.long (((((((((((s466 * (31 : Int64)) + ((F_X5_ofSheet0 c v w (nI i464)).toInt64)) * (31 : Int64)) + ((F_X5_ofSheet1 c v w (nI i464)).toInt64)) * (31 : Int64)) + ((F_X5_ofSheet2 c v w (nI i464)).toInt64)) * (31 : Int64)) + ((F_X5_ofSheet3 c v w (nI i464)).toInt64)) * (31 : Int64)) + ((F_X5_ofSheet4 c v w (nI i464)).toInt64)) * (31 : Int64))]) ⟨hx, hb, hml, hown, hts⟩ (r_X5_ofSheet5 l D cA NL c v w u ad (nI i464) hM hBd hF (nI_nn (Nat.lt_of_lt_of_le hlt9i464 (Nat.le_trans hBd.1 (by decide)))) (by rw [nI_clamp (Nat.lt_of_lt_of_le hlt9i464 (Nat.le_trans hBd.1 (by decide)))]; exact hlt9i464)) (cwV 2 hts gX5_digest_X5_ofSheet rfl rfl rfl (by decide +kernel) ⟨Nat.le_of_ble_eq_true rfl, Nat.le_of_ble_eq_true rfl⟩) (pc_preV pcN_ok hX hW.1 hM.1 rfl rfl hW.1) rfl rfl hl.1 rfl (lv_room (Nat.le_of_ble_eq_true rfl)) dX5_digest_60 ⟨Nat.le_of_ble_eq_true rfl, Nat.le_of_ble_eq_true rfl⟩) hW (fun r523 H locs hwr523 hW => ?_)
      replace hwr523 := hwr523.symm
      subst hwr523
      refine lv_i2l (v := (F_X5_ofSheet5 c v w (nI i464)).toInt64) hx hb dX5_digest_63 rfl ?_
      refine lv_ladd hx hb dX5_digest_64 ?_
      refine lv_lstore_n (lv' := [(1, .long ((((((((((((s466 * (31 : Int64)) + ((F_X5_ofSheet0 c v w (nI i464)).toInt64)) * (31 : Int64)) + ((F_X5_ofSheet1 c v w (nI i464)).toInt64)) * (31 : Int64)) + ((F_X5_ofSheet2 c v w (nI i464)).toInt64)) * (31 : Int64)) + ((F_X5_ofSheet3 c v w (nI i464)).toInt64)) * (31 : Int64)) + ((F_X5_ofSheet4 c v w (nI i464)).toInt64)) * (31 : Int64)) + ((F_X5_ofSheet5 c v w (nI i464)).toInt64))), (4, .int 5), (3, .int (nI i464)), (0, .ref (ad 5 0))]) hx hb dX5_digest_65 rfl hl (by decide) rfl (fun ls hl => ?_)
      refine lv_iinc (v := 6) (lv' := [(4, .int 6), (1, .long ((((((((((((s466 * (31 : Int64)) + ((F_X5_ofSheet0 c v w (nI i464)).toInt64)) * (31 : Int64)) + ((F_X5_ofSheet1 c v w (nI i464)).toInt64)) * (31 : Int64)) + ((F_X5_ofSheet2 c v w (nI i464)).toInt64)) * (31 : Int64)) + ((F_X5_ofSheet3 c v w (nI i464)).toInt64)) * (31 : Int64)) + ((F_X5_ofSheet4 c v w (nI i464)).toInt64)) * (31 : Int64)) + ((F_X5_ofSheet5 c v w (nI i464)).toInt64))), (3, .int (nI i464)), (0, .ref (ad 5 0))]) hx hb dX5_digest_66 hl (k := 1) rfl (by decide) (by decide) rfl (fun ls hl => ?_)
      refine lv_goto (tgt := 44) hx hb dX5_digest_69 (by decide) ?_
      refine lv_iload hx hb dX5_digest_44 (lv_at hl 0 rfl) ?_
      refine lv_bipush (v := 9) hx hb dX5_digest_46 (by decide) ?_
      refine lv_icmp_gt (tgt := 72) hx hb dX5_digest_48 (by decide) (fun c524 => absurd c524 (by decide)) (fun _ => ?_)
      refine lv_lload_n hx hb dX5_digest_51 rfl (lv_at hl 1 rfl) ?_
      refine lv_ldc2 (v := 31) hx hb hown (hts (.constantLong RX5 336 31) (by decide +kernel)) dX5_digest_52 ?_
      refine lv_lmul hx hb dX5_digest_55 ?_
      refine lv_aload_n hx hb dX5_digest_56 rfl (lv_at hl 3 rfl) ?_
      refine lv_iload_n hx hb dX5_digest_57 rfl (lv_at hl 2 rfl) ?_
      refine lv_iload hx hb dX5_digest_58 (lv_at hl 0 rfl) ?_
      refine pc_rcalli (va_runV (As := [.int (nI i464), .int 6]) (rest := [.long (((((((((((((s466 * (31 : Int64)) + ((F_X5_ofSheet0 c v w (nI i464)).toInt64)) * (31 : Int64)) + ((F_X5_ofSheet1 c v w (nI i464)).toInt64)) * (31 : Int64)) + ((F_X5_ofSheet2 c v w (nI i464)).toInt64)) * (31 : Int64)) + ((F_X5_ofSheet3 c v w (nI i464)).toInt64)) * (31 : Int64)) + ((F_X5_ofSheet4 c v w (nI i464)).toInt64)) * (31 : Int64)) + ((F_X5_ofSheet5 c v w (nI i464)).toInt64)) * (31 : Int64))]) ⟨hx, hb, hml, hown, hts⟩ (r_X5_ofSheet6 l D cA NL c v w u ad (nI i464) hM hBd hF (nI_nn (Nat.lt_of_lt_of_le hlt9i464 (Nat.le_trans hBd.1 (by decide)))) (by rw [nI_clamp (Nat.lt_of_lt_of_le hlt9i464 (Nat.le_trans hBd.1 (by decide)))]; exact hlt9i464)) (cwV 2 hts gX5_digest_X5_ofSheet rfl rfl rfl (by decide +kernel) ⟨Nat.le_of_ble_eq_true rfl, Nat.le_of_ble_eq_true rfl⟩) (pc_preV pcN_ok hX hW.1 hM.1 rfl rfl hW.1) rfl rfl hl.1 rfl (lv_room (Nat.le_of_ble_eq_true rfl)) dX5_digest_60 ⟨Nat.le_of_ble_eq_true rfl, Nat.le_of_ble_eq_true rfl⟩) hW (fun r525 H locs hwr525 hW => ?_)
      replace hwr525 := hwr525.symm
      subst hwr525
      refine lv_i2l (v := (F_X5_ofSheet6 c v w (nI i464)).toInt64) hx hb dX5_digest_63 rfl ?_
      refine lv_ladd hx hb dX5_digest_64 ?_
      refine lv_lstore_n (lv' := [(1, .long ((((((((((((((s466 * (31 : Int64)) + ((F_X5_ofSheet0 c v w (nI i464)).toInt64)) * (31 : Int64)) + ((F_X5_ofSheet1 c v w (nI i464)).toInt64)) * (31 : Int64)) + ((F_X5_ofSheet2 c v w (nI i464)).toInt64)) * (31 : Int64)) + ((F_X5_ofSheet3 c v w (nI i464)).toInt64)) * (31 : Int64)) + ((F_X5_ofSheet4 c v w (nI i464)).toInt64)) * (31 : Int64)) + ((F_X5_ofSheet5 c v w (nI i464)).toInt64)) * (31 : Int64)) + ((F_X5_ofSheet6 c v w (nI i464)).toInt64))), (4, .int 6), (3, .int (nI i464)), (0, .ref (ad 5 0))]) hx hb dX5_digest_65 rfl hl (by decide) rfl (fun ls hl => ?_)
      refine lv_iinc (v := 7) (lv' := [(4, .int 7), (1, .long ((((((((((((((s466 * (31 : Int64)) + ((F_X5_ofSheet0 c v w (nI i464)).toInt64)) * (31 : Int64)) + ((F_X5_ofSheet1 c v w (nI i464)).toInt64)) * (31 : Int64)) + ((F_X5_ofSheet2 c v w (nI i464)).toInt64)) * (31 : Int64)) + ((F_X5_ofSheet3 c v w (nI i464)).toInt64)) * (31 : Int64)) + ((F_X5_ofSheet4 c v w (nI i464)).toInt64)) * (31 : Int64)) + ((F_X5_ofSheet5 c v w (nI i464)).toInt64)) * (31 : Int64)) + ((F_X5_ofSheet6 c v w (nI i464)).toInt64))), (3, .int (nI i464)), (0, .ref (ad 5 0))]) hx hb dX5_digest_66 hl (k := 1) rfl (by decide) (by decide) rfl (fun ls hl => ?_)
      refine lv_goto (tgt := 44) hx hb dX5_digest_69 (by decide) ?_
      refine lv_iload hx hb dX5_digest_44 (lv_at hl 0 rfl) ?_
      refine lv_bipush (v := 9) hx hb dX5_digest_46 (by decide) ?_
      refine lv_icmp_gt (tgt := 72) hx hb dX5_digest_48 (by decide) (fun c526 => absurd c526 (by decide)) (fun _ => ?_)
      refine lv_lload_n hx hb dX5_digest_51 rfl (lv_at hl 1 rfl) ?_
      refine lv_ldc2 (v := 31) hx hb hown (hts (.constantLong RX5 336 31) (by decide +kernel)) dX5_digest_52 ?_
      refine lv_lmul hx hb dX5_digest_55 ?_
      refine lv_aload_n hx hb dX5_digest_56 rfl (lv_at hl 3 rfl) ?_
      refine lv_iload_n hx hb dX5_digest_57 rfl (lv_at hl 2 rfl) ?_
      refine lv_iload hx hb dX5_digest_58 (lv_at hl 0 rfl) ?_
      refine pc_rcalli (va_runV (As := [.int (nI i464), .int 7]) (rest := [.long (((((((((((((((s466 * (31 : Int64)) + ((F_X5_ofSheet0 c v w (nI i464)).toInt64)) * (31 : Int64)) + ((F_X5_ofSheet1 c v w (nI i464)).toInt64)) * (31 : Int64)) + ((F_X5_ofSheet2 c v w (nI i464)).toInt64)) * (31 : Int64)) + ((F_X5_ofSheet3 c v w (nI i464)).toInt64)) * (31 : Int64)) + ((F_X5_ofSheet4 c v w (nI i464)).toInt64)) * (31 : Int64)) + ((F_X5_ofSheet5 c v w (nI i464)).toInt64)) * (31 : Int64)) + ((F_X5_ofSheet6 c v w (nI i464)).toInt64)) * (31 : Int64))]) ⟨hx, hb, hml, hown, hts⟩ (r_X5_ofSheet7 l D cA NL c v w u ad (nI i464) hM hBd hF (nI_nn (Nat.lt_of_lt_of_le hlt9i464 (Nat.le_trans hBd.1 (by decide)))) (by rw [nI_clamp (Nat.lt_of_lt_of_le hlt9i464 (Nat.le_trans hBd.1 (by decide)))]; exact hlt9i464)) (cwV 2 hts gX5_digest_X5_ofSheet rfl rfl rfl (by decide +kernel) ⟨Nat.le_of_ble_eq_true rfl, Nat.le_of_ble_eq_true rfl⟩) (pc_preV pcN_ok hX hW.1 hM.1 rfl rfl hW.1) rfl rfl hl.1 rfl (lv_room (Nat.le_of_ble_eq_true rfl)) dX5_digest_60 ⟨Nat.le_of_ble_eq_true rfl, Nat.le_of_ble_eq_true rfl⟩) hW (fun r527 H locs hwr527 hW => ?_)
      replace hwr527 := hwr527.symm
      subst hwr527
      refine lv_i2l (v := (F_X5_ofSheet7 c v w (nI i464)).toInt64) hx hb dX5_digest_63 rfl ?_
      refine lv_ladd hx hb dX5_digest_64 ?_
      refine lv_lstore_n (lv' := [(1, .long ((((((((((((((((s466 * (31 : Int64)) + ((F_X5_ofSheet0 c v w (nI i464)).toInt64)) * (31 : Int64)) + ((F_X5_ofSheet1 c v w (nI i464)).toInt64)) * (31 : Int64)) + ((F_X5_ofSheet2 c v w (nI i464)).toInt64)) * (31 : Int64)) + ((F_X5_ofSheet3 c v w (nI i464)).toInt64)) * (31 : Int64)) + ((F_X5_ofSheet4 c v w (nI i464)).toInt64)) * (31 : Int64)) + ((F_X5_ofSheet5 c v w (nI i464)).toInt64)) * (31 : Int64)) + ((F_X5_ofSheet6 c v w (nI i464)).toInt64)) * (31 : Int64)) + ((F_X5_ofSheet7 c v w (nI i464)).toInt64))), (4, .int 7), (3, .int (nI i464)), (0, .ref (ad 5 0))]) hx hb dX5_digest_65 rfl hl (by decide) rfl (fun ls hl => ?_)
      refine lv_iinc (v := 8) (lv' := [(4, .int 8), (1, .long ((((((((((((((((s466 * (31 : Int64)) + ((F_X5_ofSheet0 c v w (nI i464)).toInt64)) * (31 : Int64)) + ((F_X5_ofSheet1 c v w (nI i464)).toInt64)) * (31 : Int64)) + ((F_X5_ofSheet2 c v w (nI i464)).toInt64)) * (31 : Int64)) + ((F_X5_ofSheet3 c v w (nI i464)).toInt64)) * (31 : Int64)) + ((F_X5_ofSheet4 c v w (nI i464)).toInt64)) * (31 : Int64)) + ((F_X5_ofSheet5 c v w (nI i464)).toInt64)) * (31 : Int64)) + ((F_X5_ofSheet6 c v w (nI i464)).toInt64)) * (31 : Int64)) + ((F_X5_ofSheet7 c v w (nI i464)).toInt64))), (3, .int (nI i464)), (0, .ref (ad 5 0))]) hx hb dX5_digest_66 hl (k := 1) rfl (by decide) (by decide) rfl (fun ls hl => ?_)
      refine lv_goto (tgt := 44) hx hb dX5_digest_69 (by decide) ?_
      refine lv_iload hx hb dX5_digest_44 (lv_at hl 0 rfl) ?_
      refine lv_bipush (v := 9) hx hb dX5_digest_46 (by decide) ?_
      refine lv_icmp_gt (tgt := 72) hx hb dX5_digest_48 (by decide) (fun c528 => absurd c528 (by decide)) (fun _ => ?_)
      refine lv_lload_n hx hb dX5_digest_51 rfl (lv_at hl 1 rfl) ?_
      refine lv_ldc2 (v := 31) hx hb hown (hts (.constantLong RX5 336 31) (by decide +kernel)) dX5_digest_52 ?_
      refine lv_lmul hx hb dX5_digest_55 ?_
      refine lv_aload_n hx hb dX5_digest_56 rfl (lv_at hl 3 rfl) ?_
      refine lv_iload_n hx hb dX5_digest_57 rfl (lv_at hl 2 rfl) ?_
      refine lv_iload hx hb dX5_digest_58 (lv_at hl 0 rfl) ?_
      refine pc_rcalli (va_runV (As := [.int (nI i464), .int 8]) (rest := [.long (((((((((((((((((s466 * (31 : Int64)) + ((F_X5_ofSheet0 c v w (nI i464)).toInt64)) * (31 : Int64)) + ((F_X5_ofSheet1 c v w (nI i464)).toInt64)) * (31 : Int64)) + ((F_X5_ofSheet2 c v w (nI i464)).toInt64)) * (31 : Int64)) + ((F_X5_ofSheet3 c v w (nI i464)).toInt64)) * (31 : Int64)) + ((F_X5_ofSheet4 c v w (nI i464)).toInt64)) * (31 : Int64)) + ((F_X5_ofSheet5 c v w (nI i464)).toInt64)) * (31 : Int64)) + ((F_X5_ofSheet6 c v w (nI i464)).toInt64)) * (31 : Int64)) + ((F_X5_ofSheet7 c v w (nI i464)).toInt64)) * (31 : Int64))]) ⟨hx, hb, hml, hown, hts⟩ (r_X5_ofSheet8 l D cA NL c v w u ad (nI i464) hM hBd hF (nI_nn (Nat.lt_of_lt_of_le hlt9i464 (Nat.le_trans hBd.1 (by decide)))) (by rw [nI_clamp (Nat.lt_of_lt_of_le hlt9i464 (Nat.le_trans hBd.1 (by decide)))]; exact hlt9i464)) (cwV 2 hts gX5_digest_X5_ofSheet rfl rfl rfl (by decide +kernel) ⟨Nat.le_of_ble_eq_true rfl, Nat.le_of_ble_eq_true rfl⟩) (pc_preV pcN_ok hX hW.1 hM.1 rfl rfl hW.1) rfl rfl hl.1 rfl (lv_room (Nat.le_of_ble_eq_true rfl)) dX5_digest_60 ⟨Nat.le_of_ble_eq_true rfl, Nat.le_of_ble_eq_true rfl⟩) hW (fun r529 H locs hwr529 hW => ?_)
      replace hwr529 := hwr529.symm
      subst hwr529
      refine lv_i2l (v := (F_X5_ofSheet8 c v w (nI i464)).toInt64) hx hb dX5_digest_63 rfl ?_
      refine lv_ladd hx hb dX5_digest_64 ?_
      refine lv_lstore_n (lv' := [(1, .long ((((((((((((((((((s466 * (31 : Int64)) + ((F_X5_ofSheet0 c v w (nI i464)).toInt64)) * (31 : Int64)) + ((F_X5_ofSheet1 c v w (nI i464)).toInt64)) * (31 : Int64)) + ((F_X5_ofSheet2 c v w (nI i464)).toInt64)) * (31 : Int64)) + ((F_X5_ofSheet3 c v w (nI i464)).toInt64)) * (31 : Int64)) + ((F_X5_ofSheet4 c v w (nI i464)).toInt64)) * (31 : Int64)) + ((F_X5_ofSheet5 c v w (nI i464)).toInt64)) * (31 : Int64)) + ((F_X5_ofSheet6 c v w (nI i464)).toInt64)) * (31 : Int64)) + ((F_X5_ofSheet7 c v w (nI i464)).toInt64)) * (31 : Int64)) + ((F_X5_ofSheet8 c v w (nI i464)).toInt64))), (4, .int 8), (3, .int (nI i464)), (0, .ref (ad 5 0))]) hx hb dX5_digest_65 rfl hl (by decide) rfl (fun ls hl => ?_)
      refine lv_iinc (v := 9) (lv' := [(4, .int 9), (1, .long ((((((((((((((((((s466 * (31 : Int64)) + ((F_X5_ofSheet0 c v w (nI i464)).toInt64)) * (31 : Int64)) + ((F_X5_ofSheet1 c v w (nI i464)).toInt64)) * (31 : Int64)) + ((F_X5_ofSheet2 c v w (nI i464)).toInt64)) * (31 : Int64)) + ((F_X5_ofSheet3 c v w (nI i464)).toInt64)) * (31 : Int64)) + ((F_X5_ofSheet4 c v w (nI i464)).toInt64)) * (31 : Int64)) + ((F_X5_ofSheet5 c v w (nI i464)).toInt64)) * (31 : Int64)) + ((F_X5_ofSheet6 c v w (nI i464)).toInt64)) * (31 : Int64)) + ((F_X5_ofSheet7 c v w (nI i464)).toInt64)) * (31 : Int64)) + ((F_X5_ofSheet8 c v w (nI i464)).toInt64))), (3, .int (nI i464)), (0, .ref (ad 5 0))]) hx hb dX5_digest_66 hl (k := 1) rfl (by decide) (by decide) rfl (fun ls hl => ?_)
      refine lv_goto (tgt := 44) hx hb dX5_digest_69 (by decide) ?_
      refine lv_iload hx hb dX5_digest_44 (lv_at hl 0 rfl) ?_
      refine lv_bipush (v := 9) hx hb dX5_digest_46 (by decide) ?_
      refine lv_icmp_gt (tgt := 72) hx hb dX5_digest_48 (by decide) (fun c530 => absurd c530 (by decide)) (fun _ => ?_)
      refine lv_lload_n hx hb dX5_digest_51 rfl (lv_at hl 1 rfl) ?_
      refine lv_ldc2 (v := 31) hx hb hown (hts (.constantLong RX5 336 31) (by decide +kernel)) dX5_digest_52 ?_
      refine lv_lmul hx hb dX5_digest_55 ?_
      refine lv_aload_n hx hb dX5_digest_56 rfl (lv_at hl 3 rfl) ?_
      refine lv_iload_n hx hb dX5_digest_57 rfl (lv_at hl 2 rfl) ?_
      refine lv_iload hx hb dX5_digest_58 (lv_at hl 0 rfl) ?_
      refine pc_rcalli (va_runV (As := [.int (nI i464), .int 9]) (rest := [.long (((((((((((((((((((s466 * (31 : Int64)) + ((F_X5_ofSheet0 c v w (nI i464)).toInt64)) * (31 : Int64)) + ((F_X5_ofSheet1 c v w (nI i464)).toInt64)) * (31 : Int64)) + ((F_X5_ofSheet2 c v w (nI i464)).toInt64)) * (31 : Int64)) + ((F_X5_ofSheet3 c v w (nI i464)).toInt64)) * (31 : Int64)) + ((F_X5_ofSheet4 c v w (nI i464)).toInt64)) * (31 : Int64)) + ((F_X5_ofSheet5 c v w (nI i464)).toInt64)) * (31 : Int64)) + ((F_X5_ofSheet6 c v w (nI i464)).toInt64)) * (31 : Int64)) + ((F_X5_ofSheet7 c v w (nI i464)).toInt64)) * (31 : Int64)) + ((F_X5_ofSheet8 c v w (nI i464)).toInt64)) * (31 : Int64))]) ⟨hx, hb, hml, hown, hts⟩ (r_X5_ofSheet9 l D cA NL c v w u ad (nI i464) hM hBd hF (nI_nn (Nat.lt_of_lt_of_le hlt9i464 (Nat.le_trans hBd.1 (by decide)))) (by rw [nI_clamp (Nat.lt_of_lt_of_le hlt9i464 (Nat.le_trans hBd.1 (by decide)))]; exact hlt9i464)) (cwV 2 hts gX5_digest_X5_ofSheet rfl rfl rfl (by decide +kernel) ⟨Nat.le_of_ble_eq_true rfl, Nat.le_of_ble_eq_true rfl⟩) (pc_preV pcN_ok hX hW.1 hM.1 rfl rfl hW.1) rfl rfl hl.1 rfl (lv_room (Nat.le_of_ble_eq_true rfl)) dX5_digest_60 ⟨Nat.le_of_ble_eq_true rfl, Nat.le_of_ble_eq_true rfl⟩) hW (fun r531 H locs hwr531 hW => ?_)
      replace hwr531 := hwr531.symm
      subst hwr531
      refine lv_i2l (v := (F_X5_ofSheet9 c v w (nI i464)).toInt64) hx hb dX5_digest_63 rfl ?_
      refine lv_ladd hx hb dX5_digest_64 ?_
      refine lv_lstore_n (lv' := [(1, .long ((((((((((((((((((((s466 * (31 : Int64)) + ((F_X5_ofSheet0 c v w (nI i464)).toInt64)) * (31 : Int64)) + ((F_X5_ofSheet1 c v w (nI i464)).toInt64)) * (31 : Int64)) + ((F_X5_ofSheet2 c v w (nI i464)).toInt64)) * (31 : Int64)) + ((F_X5_ofSheet3 c v w (nI i464)).toInt64)) * (31 : Int64)) + ((F_X5_ofSheet4 c v w (nI i464)).toInt64)) * (31 : Int64)) + ((F_X5_ofSheet5 c v w (nI i464)).toInt64)) * (31 : Int64)) + ((F_X5_ofSheet6 c v w (nI i464)).toInt64)) * (31 : Int64)) + ((F_X5_ofSheet7 c v w (nI i464)).toInt64)) * (31 : Int64)) + ((F_X5_ofSheet8 c v w (nI i464)).toInt64)) * (31 : Int64)) + ((F_X5_ofSheet9 c v w (nI i464)).toInt64))), (4, .int 9), (3, .int (nI i464)), (0, .ref (ad 5 0))]) hx hb dX5_digest_65 rfl hl (by decide) rfl (fun ls hl => ?_)
      refine lv_iinc (v := 10) (lv' := [(4, .int 10), (1, .long ((((((((((((((((((((s466 * (31 : Int64)) + ((F_X5_ofSheet0 c v w (nI i464)).toInt64)) * (31 : Int64)) + ((F_X5_ofSheet1 c v w (nI i464)).toInt64)) * (31 : Int64)) + ((F_X5_ofSheet2 c v w (nI i464)).toInt64)) * (31 : Int64)) + ((F_X5_ofSheet3 c v w (nI i464)).toInt64)) * (31 : Int64)) + ((F_X5_ofSheet4 c v w (nI i464)).toInt64)) * (31 : Int64)) + ((F_X5_ofSheet5 c v w (nI i464)).toInt64)) * (31 : Int64)) + ((F_X5_ofSheet6 c v w (nI i464)).toInt64)) * (31 : Int64)) + ((F_X5_ofSheet7 c v w (nI i464)).toInt64)) * (31 : Int64)) + ((F_X5_ofSheet8 c v w (nI i464)).toInt64)) * (31 : Int64)) + ((F_X5_ofSheet9 c v w (nI i464)).toInt64))), (3, .int (nI i464)), (0, .ref (ad 5 0))]) hx hb dX5_digest_66 hl (k := 1) rfl (by decide) (by decide) rfl (fun ls hl => ?_)
      refine lv_goto (tgt := 44) hx hb dX5_digest_69 (by decide) ?_
      refine lv_iload hx hb dX5_digest_44 (lv_at hl 0 rfl) ?_
      refine lv_bipush (v := 9) hx hb dX5_digest_46 (by decide) ?_
      refine lv_icmp_gt (tgt := 72) hx hb dX5_digest_48 (by decide) (fun _ => ?_) (fun c532 => absurd (by decide) c532)
      refine lv_iconst (v := 0) hx hb dX5_digest_72 (by decide) ?_
      refine lv_istore (lv' := [(4, .int 0), (1, .long ((((((((((((((((((((s466 * (31 : Int64)) + ((F_X5_ofSheet0 c v w (nI i464)).toInt64)) * (31 : Int64)) + ((F_X5_ofSheet1 c v w (nI i464)).toInt64)) * (31 : Int64)) + ((F_X5_ofSheet2 c v w (nI i464)).toInt64)) * (31 : Int64)) + ((F_X5_ofSheet3 c v w (nI i464)).toInt64)) * (31 : Int64)) + ((F_X5_ofSheet4 c v w (nI i464)).toInt64)) * (31 : Int64)) + ((F_X5_ofSheet5 c v w (nI i464)).toInt64)) * (31 : Int64)) + ((F_X5_ofSheet6 c v w (nI i464)).toInt64)) * (31 : Int64)) + ((F_X5_ofSheet7 c v w (nI i464)).toInt64)) * (31 : Int64)) + ((F_X5_ofSheet8 c v w (nI i464)).toInt64)) * (31 : Int64)) + ((F_X5_ofSheet9 c v w (nI i464)).toInt64))), (3, .int (nI i464)), (0, .ref (ad 5 0))]) hx hb dX5_digest_73 hl (by decide) rfl (fun ls hl => ?_)
      have K536 : ∀ (k534 i533 : Nat) (s535 : Int64) (H : Heap) (locs : List Loc) (ls : Array Slot), i533 + k534 = ((v 1 i464 1).toNatClampNeg + 1) → (FL4_X5_digest c v w i464 k534 i533 s535) = (FL4_X5_digest c v w i464 (((v 1 i464 1).toNatClampNeg + 1)) 0 ((((((((((((((((((((s466 * (31 : Int64)) + ((F_X5_ofSheet0 c v w (nI i464)).toInt64)) * (31 : Int64)) + ((F_X5_ofSheet1 c v w (nI i464)).toInt64)) * (31 : Int64)) + ((F_X5_ofSheet2 c v w (nI i464)).toInt64)) * (31 : Int64)) + ((F_X5_ofSheet3 c v w (nI i464)).toInt64)) * (31 : Int64)) + ((F_X5_ofSheet4 c v w (nI i464)).toInt64)) * (31 : Int64)) + ((F_X5_ofSheet5 c v w (nI i464)).toInt64)) * (31 : Int64)) + ((F_X5_ofSheet6 c v w (nI i464)).toInt64)) * (31 : Int64)) + ((F_X5_ofSheet7 c v w (nI i464)).toInt64)) * (31 : Int64)) + ((F_X5_ofSheet8 c v w (nI i464)).toInt64)) * (31 : Int64)) + ((F_X5_ofSheet9 c v w (nI i464)).toInt64))) → pcS D vwCl A s.heap NL ad (ctO cA c v w u ad) H locs → lv_has ls 5 [(4, .int (nI i533)), (1, .long s535), (3, .int (nI i464)), (0, .ref (ad 5 0))] → W p l e (headSpec wsX5_digest ({ frames := 7, cells := 0, slots := 0, locals := 166 })).room s m ([.ref (ad 5 0)] : List Value).toArray below meth c0 H locs 0 0 (MQ below (va_Ql (fun (r : Int64) (_ : Unit) => r = F_X5_digest c v w) (fun (_ : Unit) t => va_P D vwCl (pcW NL ad (ctO cA c v w (U_X5_digest c v w) ad)) t.heap) A) ([.ref (ad 5 0)] : List Value).toArray s 0 0 A) (F0 m 75 ls []) := by
        intro k534
        induction k534 with
        | zero =>
          intro i533 s535 H locs ls hk heF hW hl
          have ei : i533 = ((v 1 i464 1).toNatClampNeg + 1) := by omega
          rw [ei] at hl
          obtain rfl : (FL4_X5_digest c v w i464 (((v 1 i464 1).toNatClampNeg + 1)) 0 ((((((((((((((((((((s466 * (31 : Int64)) + ((F_X5_ofSheet0 c v w (nI i464)).toInt64)) * (31 : Int64)) + ((F_X5_ofSheet1 c v w (nI i464)).toInt64)) * (31 : Int64)) + ((F_X5_ofSheet2 c v w (nI i464)).toInt64)) * (31 : Int64)) + ((F_X5_ofSheet3 c v w (nI i464)).toInt64)) * (31 : Int64)) + ((F_X5_ofSheet4 c v w (nI i464)).toInt64)) * (31 : Int64)) + ((F_X5_ofSheet5 c v w (nI i464)).toInt64)) * (31 : Int64)) + ((F_X5_ofSheet6 c v w (nI i464)).toInt64)) * (31 : Int64)) + ((F_X5_ofSheet7 c v w (nI i464)).toInt64)) * (31 : Int64)) + ((F_X5_ofSheet8 c v w (nI i464)).toInt64)) * (31 : Int64)) + ((F_X5_ofSheet9 c v w (nI i464)).toInt64))) = s535 := heF.symm
          clear heF
          refine lv_iload hx hb dX5_digest_75 (lv_at hl 0 rfl) ?_
          refine lv_aload_n hx hb dX5_digest_77 rfl (lv_at hl 3 rfl) ?_
          refine pc_get (C := RX5) (T := TX5) (N := 13) (ci := 5) hx hb hts (by decide +kernel) hown hX.1 hW.1 5 0 hM.1 rfl rfl 0 (by decide) (hts (.fieldLink RX5 11 "DraftsmanOffice" "sheets" "[LDraftsmanOffice$Sheet;") (by decide +kernel)) (fun _ h9 => h9) rfl dX5_digest_78 ?_
          refine lv_iload_n hx hb dX5_digest_81 rfl (lv_at hl 2 rfl) ?_
          refine pc_aald (r := .ref (ad 1 i464)) hx hb hX.1 hW.1 50 0 3 (hM.2.1 50 (by decide) (by decide)) rfl rfl rfl (vp_in_nI (Nat.lt_of_lt_of_le hlt9i464 hBd.1) (by decide)) (by rw [nI_clamp (Nat.lt_of_lt_of_le (Nat.lt_of_lt_of_le hlt9i464 hBd.1) (by decide)), sRf_in hlt9i464]; rfl) dX5_digest_82 ?_
          refine pc_getN (C := RX3) (T := TX3) (N := 10) (ci := 3) hx hb hts (by decide +kernel) hown hX.1 hW.1 1 i464 (hM.2.2.2.1 i464 hlt9i464).1 rfl rfl 3 (by decide) (hX.2.1 (.fieldLinkNest RX5 115 "DraftsmanOffice$Sheet" "last" "I" R_host) (by decide +kernel)) (fun _ h9 => h9) rfl dX5_digest_83 ?_
          refine lv_icmp_gt (tgt := 110) hx hb dX5_digest_86 (by decide) (fun _ => ?_) (fun c537 => absurd (last_exit (hF.2.2 i464 hlt9i464).1 (hF.2.2 i464 hlt9i464).2) c537)
          refine lv_iconst (v := 0) hx hb dX5_digest_110 (by decide) ?_
          refine lv_istore (lv' := [(4, .int 0), (1, .long (FL4_X5_digest c v w i464 (((v 1 i464 1).toNatClampNeg + 1)) 0 ((((((((((((((((((((s466 * (31 : Int64)) + ((F_X5_ofSheet0 c v w (nI i464)).toInt64)) * (31 : Int64)) + ((F_X5_ofSheet1 c v w (nI i464)).toInt64)) * (31 : Int64)) + ((F_X5_ofSheet2 c v w (nI i464)).toInt64)) * (31 : Int64)) + ((F_X5_ofSheet3 c v w (nI i464)).toInt64)) * (31 : Int64)) + ((F_X5_ofSheet4 c v w (nI i464)).toInt64)) * (31 : Int64)) + ((F_X5_ofSheet5 c v w (nI i464)).toInt64)) * (31 : Int64)) + ((F_X5_ofSheet6 c v w (nI i464)).toInt64)) * (31 : Int64)) + ((F_X5_ofSheet7 c v w (nI i464)).toInt64)) * (31 : Int64)) + ((F_X5_ofSheet8 c v w (nI i464)).toInt64)) * (31 : Int64)) + ((F_X5_ofSheet9 c v w (nI i464)).toInt64)))), (3, .int (nI i464)), (0, .ref (ad 5 0))]) hx hb dX5_digest_111 hl (by decide) rfl (fun ls hl => ?_)
          refine lv_iload hx hb dX5_digest_113 (lv_at hl 0 rfl) ?_
          refine lv_iconst (v := 4) hx hb dX5_digest_115 (by decide) ?_
          refine lv_icmp_ge (tgt := 140) hx hb dX5_digest_116 (by decide) (fun c538 => absurd c538 (by decide)) (fun _ => ?_)
          refine lv_lload_n hx hb dX5_digest_119 rfl (lv_at hl 1 rfl) ?_
          refine lv_ldc2 (v := 31) hx hb hown (hts (.constantLong RX5 336 31) (by decide +kernel)) dX5_digest_120 ?_
          refine lv_lmul hx hb dX5_digest_123 ?_
          refine lv_aload_n hx hb dX5_digest_124 rfl (lv_at hl 3 rfl) ?_
          refine lv_iload hx hb dX5_digest_125 (lv_at hl 0 rfl) ?_
          refine lv_iload_n hx hb dX5_digest_127 rfl (lv_at hl 2 rfl) ?_
          refine pc_rcalli (va_runV (As := [.int 0, .int (nI i464)]) (rest := [.long ((FL4_X5_digest c v w i464 (((v 1 i464 1).toNatClampNeg + 1)) 0 ((((((((((((((((((((s466 * (31 : Int64)) + ((F_X5_ofSheet0 c v w (nI i464)).toInt64)) * (31 : Int64)) + ((F_X5_ofSheet1 c v w (nI i464)).toInt64)) * (31 : Int64)) + ((F_X5_ofSheet2 c v w (nI i464)).toInt64)) * (31 : Int64)) + ((F_X5_ofSheet3 c v w (nI i464)).toInt64)) * (31 : Int64)) + ((F_X5_ofSheet4 c v w (nI i464)).toInt64)) * (31 : Int64)) + ((F_X5_ofSheet5 c v w (nI i464)).toInt64)) * (31 : Int64)) + ((F_X5_ofSheet6 c v w (nI i464)).toInt64)) * (31 : Int64)) + ((F_X5_ofSheet7 c v w (nI i464)).toInt64)) * (31 : Int64)) + ((F_X5_ofSheet8 c v w (nI i464)).toInt64)) * (31 : Int64)) + ((F_X5_ofSheet9 c v w (nI i464)).toInt64))) * (31 : Int64))]) ⟨hx, hb, hml, hown, hts⟩ (r_X5_has l D cA NL c v w u ad (0 : Int32) (nI i464) hM hBd hF (by decide) (by decide) (nI_nn (Nat.lt_of_lt_of_le hlt9i464 (Nat.le_trans hBd.1 (by decide)))) (by rw [nI_clamp (Nat.lt_of_lt_of_le hlt9i464 (Nat.le_trans hBd.1 (by decide)))]; exact hlt9i464)) (cwV 2 hts gX5_digest_X5_has rfl rfl rfl (by decide +kernel) ⟨Nat.le_of_ble_eq_true rfl, Nat.le_of_ble_eq_true rfl⟩) (pc_preV pcN_ok hX hW.1 hM.1 rfl rfl hW.1) rfl rfl hl.1 rfl (lv_room (Nat.le_of_ble_eq_true rfl)) dX5_digest_128 ⟨Nat.le_of_ble_eq_true rfl, Nat.le_of_ble_eq_true rfl⟩) hW (fun r539 H locs hwr539 hW => ?_)
          replace hwr539 := hwr539.symm
          subst hwr539
          refine lv_i2l (v := (F_X5_has c v w (0 : Int32) (nI i464)).toInt64) hx hb dX5_digest_131 rfl ?_
          refine lv_ladd hx hb dX5_digest_132 ?_
          refine lv_lstore_n (lv' := [(1, .long (((FL4_X5_digest c v w i464 (((v 1 i464 1).toNatClampNeg + 1)) 0 ((((((((((((((((((((s466 * (31 : Int64)) + ((F_X5_ofSheet0 c v w (nI i464)).toInt64)) * (31 : Int64)) + ((F_X5_ofSheet1 c v w (nI i464)).toInt64)) * (31 : Int64)) + ((F_X5_ofSheet2 c v w (nI i464)).toInt64)) * (31 : Int64)) + ((F_X5_ofSheet3 c v w (nI i464)).toInt64)) * (31 : Int64)) + ((F_X5_ofSheet4 c v w (nI i464)).toInt64)) * (31 : Int64)) + ((F_X5_ofSheet5 c v w (nI i464)).toInt64)) * (31 : Int64)) + ((F_X5_ofSheet6 c v w (nI i464)).toInt64)) * (31 : Int64)) + ((F_X5_ofSheet7 c v w (nI i464)).toInt64)) * (31 : Int64)) + ((F_X5_ofSheet8 c v w (nI i464)).toInt64)) * (31 : Int64)) + ((F_X5_ofSheet9 c v w (nI i464)).toInt64))) * (31 : Int64)) + ((F_X5_has c v w (0 : Int32) (nI i464)).toInt64))), (4, .int 0), (3, .int (nI i464)), (0, .ref (ad 5 0))]) hx hb dX5_digest_133 rfl hl (by decide) rfl (fun ls hl => ?_)
          refine lv_iinc (v := 1) (lv' := [(4, .int 1), (1, .long (((FL4_X5_digest c v w i464 (((v 1 i464 1).toNatClampNeg + 1)) 0 ((((((((((((((((((((s466 * (31 : Int64)) + ((F_X5_ofSheet0 c v w (nI i464)).toInt64)) * (31 : Int64)) + ((F_X5_ofSheet1 c v w (nI i464)).toInt64)) * (31 : Int64)) + ((F_X5_ofSheet2 c v w (nI i464)).toInt64)) * (31 : Int64)) + ((F_X5_ofSheet3 c v w (nI i464)).toInt64)) * (31 : Int64)) + ((F_X5_ofSheet4 c v w (nI i464)).toInt64)) * (31 : Int64)) + ((F_X5_ofSheet5 c v w (nI i464)).toInt64)) * (31 : Int64)) + ((F_X5_ofSheet6 c v w (nI i464)).toInt64)) * (31 : Int64)) + ((F_X5_ofSheet7 c v w (nI i464)).toInt64)) * (31 : Int64)) + ((F_X5_ofSheet8 c v w (nI i464)).toInt64)) * (31 : Int64)) + ((F_X5_ofSheet9 c v w (nI i464)).toInt64))) * (31 : Int64)) + ((F_X5_has c v w (0 : Int32) (nI i464)).toInt64))), (3, .int (nI i464)), (0, .ref (ad 5 0))]) hx hb dX5_digest_134 hl (k := 1) rfl (by decide) (by decide) rfl (fun ls hl => ?_)
          refine lv_goto (tgt := 113) hx hb dX5_digest_137 (by decide) ?_
          refine lv_iload hx hb dX5_digest_113 (lv_at hl 0 rfl) ?_
          refine lv_iconst (v := 4) hx hb dX5_digest_115 (by decide) ?_
          refine lv_icmp_ge (tgt := 140) hx hb dX5_digest_116 (by decide) (fun c540 => absurd c540 (by decide)) (fun _ => ?_)
          refine lv_lload_n hx hb dX5_digest_119 rfl (lv_at hl 1 rfl) ?_
          refine lv_ldc2 (v := 31) hx hb hown (hts (.constantLong RX5 336 31) (by decide +kernel)) dX5_digest_120 ?_
          refine lv_lmul hx hb dX5_digest_123 ?_
          refine lv_aload_n hx hb dX5_digest_124 rfl (lv_at hl 3 rfl) ?_
          refine lv_iload hx hb dX5_digest_125 (lv_at hl 0 rfl) ?_
          refine lv_iload_n hx hb dX5_digest_127 rfl (lv_at hl 2 rfl) ?_
          refine pc_rcalli (va_runV (As := [.int 1, .int (nI i464)]) (rest := [.long ((((FL4_X5_digest c v w i464 (((v 1 i464 1).toNatClampNeg + 1)) 0 ((((((((((((((((((((s466 * (31 : Int64)) + ((F_X5_ofSheet0 c v w (nI i464)).toInt64)) * (31 : Int64)) + ((F_X5_ofSheet1 c v w (nI i464)).toInt64)) * (31 : Int64)) + ((F_X5_ofSheet2 c v w (nI i464)).toInt64)) * (31 : Int64)) + ((F_X5_ofSheet3 c v w (nI i464)).toInt64)) * (31 : Int64)) + ((F_X5_ofSheet4 c v w (nI i464)).toInt64)) * (31 : Int64)) + ((F_X5_ofSheet5 c v w (nI i464)).toInt64)) * (31 : Int64)) + ((F_X5_ofSheet6 c v w (nI i464)).toInt64)) * (31 : Int64)) + ((F_X5_ofSheet7 c v w (nI i464)).toInt64)) * (31 : Int64)) + ((F_X5_ofSheet8 c v w (nI i464)).toInt64)) * (31 : Int64)) + ((F_X5_ofSheet9 c v w (nI i464)).toInt64))) * (31 : Int64)) + ((F_X5_has c v w (0 : Int32) (nI i464)).toInt64)) * (31 : Int64))]) ⟨hx, hb, hml, hown, hts⟩ (r_X5_has l D cA NL c v w u ad (1 : Int32) (nI i464) hM hBd hF (by decide) (by decide) (nI_nn (Nat.lt_of_lt_of_le hlt9i464 (Nat.le_trans hBd.1 (by decide)))) (by rw [nI_clamp (Nat.lt_of_lt_of_le hlt9i464 (Nat.le_trans hBd.1 (by decide)))]; exact hlt9i464)) (cwV 2 hts gX5_digest_X5_has rfl rfl rfl (by decide +kernel) ⟨Nat.le_of_ble_eq_true rfl, Nat.le_of_ble_eq_true rfl⟩) (pc_preV pcN_ok hX hW.1 hM.1 rfl rfl hW.1) rfl rfl hl.1 rfl (lv_room (Nat.le_of_ble_eq_true rfl)) dX5_digest_128 ⟨Nat.le_of_ble_eq_true rfl, Nat.le_of_ble_eq_true rfl⟩) hW (fun r541 H locs hwr541 hW => ?_)
          replace hwr541 := hwr541.symm
          subst hwr541
          refine lv_i2l (v := (F_X5_has c v w (1 : Int32) (nI i464)).toInt64) hx hb dX5_digest_131 rfl ?_
          refine lv_ladd hx hb dX5_digest_132 ?_
          refine lv_lstore_n (lv' := [(1, .long (((((FL4_X5_digest c v w i464 (((v 1 i464 1).toNatClampNeg + 1)) 0 ((((((((((((((((((((s466 * (31 : Int64)) + ((F_X5_ofSheet0 c v w (nI i464)).toInt64)) * (31 : Int64)) + ((F_X5_ofSheet1 c v w (nI i464)).toInt64)) * (31 : Int64)) + ((F_X5_ofSheet2 c v w (nI i464)).toInt64)) * (31 : Int64)) + ((F_X5_ofSheet3 c v w (nI i464)).toInt64)) * (31 : Int64)) + ((F_X5_ofSheet4 c v w (nI i464)).toInt64)) * (31 : Int64)) + ((F_X5_ofSheet5 c v w (nI i464)).toInt64)) * (31 : Int64)) + ((F_X5_ofSheet6 c v w (nI i464)).toInt64)) * (31 : Int64)) + ((F_X5_ofSheet7 c v w (nI i464)).toInt64)) * (31 : Int64)) + ((F_X5_ofSheet8 c v w (nI i464)).toInt64)) * (31 : Int64)) + ((F_X5_ofSheet9 c v w (nI i464)).toInt64))) * (31 : Int64)) + ((F_X5_has c v w (0 : Int32) (nI i464)).toInt64)) * (31 : Int64)) + ((F_X5_has c v w (1 : Int32) (nI i464)).toInt64))), (4, .int 1), (3, .int (nI i464)), (0, .ref (ad 5 0))]) hx hb dX5_digest_133 rfl hl (by decide) rfl (fun ls hl => ?_)
          refine lv_iinc (v := 2) (lv' := [(4, .int 2), (1, .long (((((FL4_X5_digest c v w i464 (((v 1 i464 1).toNatClampNeg + 1)) 0 ((((((((((((((((((((s466 * (31 : Int64)) + ((F_X5_ofSheet0 c v w (nI i464)).toInt64)) * (31 : Int64)) + ((F_X5_ofSheet1 c v w (nI i464)).toInt64)) * (31 : Int64)) + ((F_X5_ofSheet2 c v w (nI i464)).toInt64)) * (31 : Int64)) + ((F_X5_ofSheet3 c v w (nI i464)).toInt64)) * (31 : Int64)) + ((F_X5_ofSheet4 c v w (nI i464)).toInt64)) * (31 : Int64)) + ((F_X5_ofSheet5 c v w (nI i464)).toInt64)) * (31 : Int64)) + ((F_X5_ofSheet6 c v w (nI i464)).toInt64)) * (31 : Int64)) + ((F_X5_ofSheet7 c v w (nI i464)).toInt64)) * (31 : Int64)) + ((F_X5_ofSheet8 c v w (nI i464)).toInt64)) * (31 : Int64)) + ((F_X5_ofSheet9 c v w (nI i464)).toInt64))) * (31 : Int64)) + ((F_X5_has c v w (0 : Int32) (nI i464)).toInt64)) * (31 : Int64)) + ((F_X5_has c v w (1 : Int32) (nI i464)).toInt64))), (3, .int (nI i464)), (0, .ref (ad 5 0))]) hx hb dX5_digest_134 hl (k := 1) rfl (by decide) (by decide) rfl (fun ls hl => ?_)
          refine lv_goto (tgt := 113) hx hb dX5_digest_137 (by decide) ?_
          refine lv_iload hx hb dX5_digest_113 (lv_at hl 0 rfl) ?_
          refine lv_iconst (v := 4) hx hb dX5_digest_115 (by decide) ?_
          refine lv_icmp_ge (tgt := 140) hx hb dX5_digest_116 (by decide) (fun c542 => absurd c542 (by decide)) (fun _ => ?_)
          refine lv_lload_n hx hb dX5_digest_119 rfl (lv_at hl 1 rfl) ?_
          refine lv_ldc2 (v := 31) hx hb hown (hts (.constantLong RX5 336 31) (by decide +kernel)) dX5_digest_120 ?_
          refine lv_lmul hx hb dX5_digest_123 ?_
          refine lv_aload_n hx hb dX5_digest_124 rfl (lv_at hl 3 rfl) ?_
          refine lv_iload hx hb dX5_digest_125 (lv_at hl 0 rfl) ?_
          refine lv_iload_n hx hb dX5_digest_127 rfl (lv_at hl 2 rfl) ?_
          refine pc_rcalli (va_runV (As := [.int 2, .int (nI i464)]) (rest := [.long ((((((FL4_X5_digest c v w i464 (((v 1 i464 1).toNatClampNeg + 1)) 0 ((((((((((((((((((((s466 * (31 : Int64)) + ((F_X5_ofSheet0 c v w (nI i464)).toInt64)) * (31 : Int64)) + ((F_X5_ofSheet1 c v w (nI i464)).toInt64)) * (31 : Int64)) + ((F_X5_ofSheet2 c v w (nI i464)).toInt64)) * (31 : Int64)) + ((F_X5_ofSheet3 c v w (nI i464)).toInt64)) * (31 : Int64)) + ((F_X5_ofSheet4 c v w (nI i464)).toInt64)) * (31 : Int64)) + ((F_X5_ofSheet5 c v w (nI i464)).toInt64)) * (31 : Int64)) + ((F_X5_ofSheet6 c v w (nI i464)).toInt64)) * (31 : Int64)) + ((F_X5_ofSheet7 c v w (nI i464)).toInt64)) * (31 : Int64)) + ((F_X5_ofSheet8 c v w (nI i464)).toInt64)) * (31 : Int64)) + ((F_X5_ofSheet9 c v w (nI i464)).toInt64))) * (31 : Int64)) + ((F_X5_has c v w (0 : Int32) (nI i464)).toInt64)) * (31 : Int64)) + ((F_X5_has c v w (1 : Int32) (nI i464)).toInt64)) * (31 : Int64))]) ⟨hx, hb, hml, hown, hts⟩ (r_X5_has l D cA NL c v w u ad (2 : Int32) (nI i464) hM hBd hF (by decide) (by decide) (nI_nn (Nat.lt_of_lt_of_le hlt9i464 (Nat.le_trans hBd.1 (by decide)))) (by rw [nI_clamp (Nat.lt_of_lt_of_le hlt9i464 (Nat.le_trans hBd.1 (by decide)))]; exact hlt9i464)) (cwV 2 hts gX5_digest_X5_has rfl rfl rfl (by decide +kernel) ⟨Nat.le_of_ble_eq_true rfl, Nat.le_of_ble_eq_true rfl⟩) (pc_preV pcN_ok hX hW.1 hM.1 rfl rfl hW.1) rfl rfl hl.1 rfl (lv_room (Nat.le_of_ble_eq_true rfl)) dX5_digest_128 ⟨Nat.le_of_ble_eq_true rfl, Nat.le_of_ble_eq_true rfl⟩) hW (fun r543 H locs hwr543 hW => ?_)
          replace hwr543 := hwr543.symm
          subst hwr543
          refine lv_i2l (v := (F_X5_has c v w (2 : Int32) (nI i464)).toInt64) hx hb dX5_digest_131 rfl ?_
          refine lv_ladd hx hb dX5_digest_132 ?_
          refine lv_lstore_n (lv' := [(1, .long (((((((FL4_X5_digest c v w i464 (((v 1 i464 1).toNatClampNeg + 1)) 0 ((((((((((((((((((((s466 * (31 : Int64)) + ((F_X5_ofSheet0 c v w (nI i464)).toInt64)) * (31 : Int64)) + ((F_X5_ofSheet1 c v w (nI i464)).toInt64)) * (31 : Int64)) + ((F_X5_ofSheet2 c v w (nI i464)).toInt64)) * (31 : Int64)) + ((F_X5_ofSheet3 c v w (nI i464)).toInt64)) * (31 : Int64)) + ((F_X5_ofSheet4 c v w (nI i464)).toInt64)) * (31 : Int64)) + ((F_X5_ofSheet5 c v w (nI i464)).toInt64)) * (31 : Int64)) + ((F_X5_ofSheet6 c v w (nI i464)).toInt64)) * (31 : Int64)) + ((F_X5_ofSheet7 c v w (nI i464)).toInt64)) * (31 : Int64)) + ((F_X5_ofSheet8 c v w (nI i464)).toInt64)) * (31 : Int64)) + ((F_X5_ofSheet9 c v w (nI i464)).toInt64))) * (31 : Int64)) + ((F_X5_has c v w (0 : Int32) (nI i464)).toInt64)) * (31 : Int64)) + ((F_X5_has c v w (1 : Int32) (nI i464)).toInt64)) * (31 : Int64)) + ((F_X5_has c v w (2 : Int32) (nI i464)).toInt64))), (4, .int 2), (3, .int (nI i464)), (0, .ref (ad 5 0))]) hx hb dX5_digest_133 rfl hl (by decide) rfl (fun ls hl => ?_)
          refine lv_iinc (v := 3) (lv' := [(4, .int 3), (1, .long (((((((FL4_X5_digest c v w i464 (((v 1 i464 1).toNatClampNeg + 1)) 0 ((((((((((((((((((((s466 * (31 : Int64)) + ((F_X5_ofSheet0 c v w (nI i464)).toInt64)) * (31 : Int64)) + ((F_X5_ofSheet1 c v w (nI i464)).toInt64)) * (31 : Int64)) + ((F_X5_ofSheet2 c v w (nI i464)).toInt64)) * (31 : Int64)) + ((F_X5_ofSheet3 c v w (nI i464)).toInt64)) * (31 : Int64)) + ((F_X5_ofSheet4 c v w (nI i464)).toInt64)) * (31 : Int64)) + ((F_X5_ofSheet5 c v w (nI i464)).toInt64)) * (31 : Int64)) + ((F_X5_ofSheet6 c v w (nI i464)).toInt64)) * (31 : Int64)) + ((F_X5_ofSheet7 c v w (nI i464)).toInt64)) * (31 : Int64)) + ((F_X5_ofSheet8 c v w (nI i464)).toInt64)) * (31 : Int64)) + ((F_X5_ofSheet9 c v w (nI i464)).toInt64))) * (31 : Int64)) + ((F_X5_has c v w (0 : Int32) (nI i464)).toInt64)) * (31 : Int64)) + ((F_X5_has c v w (1 : Int32) (nI i464)).toInt64)) * (31 : Int64)) + ((F_X5_has c v w (2 : Int32) (nI i464)).toInt64))), (3, .int (nI i464)), (0, .ref (ad 5 0))]) hx hb dX5_digest_134 hl (k := 1) rfl (by decide) (by decide) rfl (fun ls hl => ?_)
          refine lv_goto (tgt := 113) hx hb dX5_digest_137 (by decide) ?_
          refine lv_iload hx hb dX5_digest_113 (lv_at hl 0 rfl) ?_
          refine lv_iconst (v := 4) hx hb dX5_digest_115 (by decide) ?_
          refine lv_icmp_ge (tgt := 140) hx hb dX5_digest_116 (by decide) (fun c544 => absurd c544 (by decide)) (fun _ => ?_)
          refine lv_lload_n hx hb dX5_digest_119 rfl (lv_at hl 1 rfl) ?_
          refine lv_ldc2 (v := 31) hx hb hown (hts (.constantLong RX5 336 31) (by decide +kernel)) dX5_digest_120 ?_
          refine lv_lmul hx hb dX5_digest_123 ?_
          refine lv_aload_n hx hb dX5_digest_124 rfl (lv_at hl 3 rfl) ?_
          refine lv_iload hx hb dX5_digest_125 (lv_at hl 0 rfl) ?_
          refine lv_iload_n hx hb dX5_digest_127 rfl (lv_at hl 2 rfl) ?_
          refine pc_rcalli (va_runV (As := [.int 3, .int (nI i464)]) (rest := [.long ((((((((FL4_X5_digest c v w i464 (((v 1 i464 1).toNatClampNeg + 1)) 0 ((((((((((((((((((((s466 * (31 : Int64)) + ((F_X5_ofSheet0 c v w (nI i464)).toInt64)) * (31 : Int64)) + ((F_X5_ofSheet1 c v w (nI i464)).toInt64)) * (31 : Int64)) + ((F_X5_ofSheet2 c v w (nI i464)).toInt64)) * (31 : Int64)) + ((F_X5_ofSheet3 c v w (nI i464)).toInt64)) * (31 : Int64)) + ((F_X5_ofSheet4 c v w (nI i464)).toInt64)) * (31 : Int64)) + ((F_X5_ofSheet5 c v w (nI i464)).toInt64)) * (31 : Int64)) + ((F_X5_ofSheet6 c v w (nI i464)).toInt64)) * (31 : Int64)) + ((F_X5_ofSheet7 c v w (nI i464)).toInt64)) * (31 : Int64)) + ((F_X5_ofSheet8 c v w (nI i464)).toInt64)) * (31 : Int64)) + ((F_X5_ofSheet9 c v w (nI i464)).toInt64))) * (31 : Int64)) + ((F_X5_has c v w (0 : Int32) (nI i464)).toInt64)) * (31 : Int64)) + ((F_X5_has c v w (1 : Int32) (nI i464)).toInt64)) * (31 : Int64)) + ((F_X5_has c v w (2 : Int32) (nI i464)).toInt64)) * (31 : Int64))]) ⟨hx, hb, hml, hown, hts⟩ (r_X5_has l D cA NL c v w u ad (3 : Int32) (nI i464) hM hBd hF (by decide) (by decide) (nI_nn (Nat.lt_of_lt_of_le hlt9i464 (Nat.le_trans hBd.1 (by decide)))) (by rw [nI_clamp (Nat.lt_of_lt_of_le hlt9i464 (Nat.le_trans hBd.1 (by decide)))]; exact hlt9i464)) (cwV 2 hts gX5_digest_X5_has rfl rfl rfl (by decide +kernel) ⟨Nat.le_of_ble_eq_true rfl, Nat.le_of_ble_eq_true rfl⟩) (pc_preV pcN_ok hX hW.1 hM.1 rfl rfl hW.1) rfl rfl hl.1 rfl (lv_room (Nat.le_of_ble_eq_true rfl)) dX5_digest_128 ⟨Nat.le_of_ble_eq_true rfl, Nat.le_of_ble_eq_true rfl⟩) hW (fun r545 H locs hwr545 hW => ?_)
          replace hwr545 := hwr545.symm
          subst hwr545
          refine lv_i2l (v := (F_X5_has c v w (3 : Int32) (nI i464)).toInt64) hx hb dX5_digest_131 rfl ?_
          refine lv_ladd hx hb dX5_digest_132 ?_
          refine lv_lstore_n (lv' := [(1, .long (((((((((FL4_X5_digest c v w i464 (((v 1 i464 1).toNatClampNeg + 1)) 0 ((((((((((((((((((((s466 * (31 : Int64)) + ((F_X5_ofSheet0 c v w (nI i464)).toInt64)) * (31 : Int64)) + ((F_X5_ofSheet1 c v w (nI i464)).toInt64)) * (31 : Int64)) + ((F_X5_ofSheet2 c v w (nI i464)).toInt64)) * (31 : Int64)) + ((F_X5_ofSheet3 c v w (nI i464)).toInt64)) * (31 : Int64)) + ((F_X5_ofSheet4 c v w (nI i464)).toInt64)) * (31 : Int64)) + ((F_X5_ofSheet5 c v w (nI i464)).toInt64)) * (31 : Int64)) + ((F_X5_ofSheet6 c v w (nI i464)).toInt64)) * (31 : Int64)) + ((F_X5_ofSheet7 c v w (nI i464)).toInt64)) * (31 : Int64)) + ((F_X5_ofSheet8 c v w (nI i464)).toInt64)) * (31 : Int64)) + ((F_X5_ofSheet9 c v w (nI i464)).toInt64))) * (31 : Int64)) + ((F_X5_has c v w (0 : Int32) (nI i464)).toInt64)) * (31 : Int64)) + ((F_X5_has c v w (1 : Int32) (nI i464)).toInt64)) * (31 : Int64)) + ((F_X5_has c v w (2 : Int32) (nI i464)).toInt64)) * (31 : Int64)) + ((F_X5_has c v w (3 : Int32) (nI i464)).toInt64))), (4, .int 3), (3, .int (nI i464)), (0, .ref (ad 5 0))]) hx hb dX5_digest_133 rfl hl (by decide) rfl (fun ls hl => ?_)
          refine lv_iinc (v := 4) (lv' := [(4, .int 4), (1, .long (((((((((FL4_X5_digest c v w i464 (((v 1 i464 1).toNatClampNeg + 1)) 0 ((((((((((((((((((((s466 * (31 : Int64)) + ((F_X5_ofSheet0 c v w (nI i464)).toInt64)) * (31 : Int64)) + ((F_X5_ofSheet1 c v w (nI i464)).toInt64)) * (31 : Int64)) + ((F_X5_ofSheet2 c v w (nI i464)).toInt64)) * (31 : Int64)) + ((F_X5_ofSheet3 c v w (nI i464)).toInt64)) * (31 : Int64)) + ((F_X5_ofSheet4 c v w (nI i464)).toInt64)) * (31 : Int64)) + ((F_X5_ofSheet5 c v w (nI i464)).toInt64)) * (31 : Int64)) + ((F_X5_ofSheet6 c v w (nI i464)).toInt64)) * (31 : Int64)) + ((F_X5_ofSheet7 c v w (nI i464)).toInt64)) * (31 : Int64)) + ((F_X5_ofSheet8 c v w (nI i464)).toInt64)) * (31 : Int64)) + ((F_X5_ofSheet9 c v w (nI i464)).toInt64))) * (31 : Int64)) + ((F_X5_has c v w (0 : Int32) (nI i464)).toInt64)) * (31 : Int64)) + ((F_X5_has c v w (1 : Int32) (nI i464)).toInt64)) * (31 : Int64)) + ((F_X5_has c v w (2 : Int32) (nI i464)).toInt64)) * (31 : Int64)) + ((F_X5_has c v w (3 : Int32) (nI i464)).toInt64))), (3, .int (nI i464)), (0, .ref (ad 5 0))]) hx hb dX5_digest_134 hl (k := 1) rfl (by decide) (by decide) rfl (fun ls hl => ?_)
          refine lv_goto (tgt := 113) hx hb dX5_digest_137 (by decide) ?_
          refine lv_iload hx hb dX5_digest_113 (lv_at hl 0 rfl) ?_
          refine lv_iconst (v := 4) hx hb dX5_digest_115 (by decide) ?_
          refine lv_icmp_ge (tgt := 140) hx hb dX5_digest_116 (by decide) (fun _ => ?_) (fun c546 => absurd (by decide) c546)
          refine lv_lload_n hx hb dX5_digest_140 rfl (lv_at hl 1 rfl) ?_
          refine lv_ldc2 (v := 31) hx hb hown (hts (.constantLong RX5 336 31) (by decide +kernel)) dX5_digest_141 ?_
          refine lv_lmul hx hb dX5_digest_144 ?_
          refine lv_aload_n hx hb dX5_digest_145 rfl (lv_at hl 3 rfl) ?_
          refine lv_iload_n hx hb dX5_digest_146 rfl (lv_at hl 2 rfl) ?_
          have hD9 := hW.2.1
          refine pc_mcalli (va_runV (As := [.int (nI i464)]) (rest := [.long ((((((((((FL4_X5_digest c v w i464 (((v 1 i464 1).toNatClampNeg + 1)) 0 ((((((((((((((((((((s466 * (31 : Int64)) + ((F_X5_ofSheet0 c v w (nI i464)).toInt64)) * (31 : Int64)) + ((F_X5_ofSheet1 c v w (nI i464)).toInt64)) * (31 : Int64)) + ((F_X5_ofSheet2 c v w (nI i464)).toInt64)) * (31 : Int64)) + ((F_X5_ofSheet3 c v w (nI i464)).toInt64)) * (31 : Int64)) + ((F_X5_ofSheet4 c v w (nI i464)).toInt64)) * (31 : Int64)) + ((F_X5_ofSheet5 c v w (nI i464)).toInt64)) * (31 : Int64)) + ((F_X5_ofSheet6 c v w (nI i464)).toInt64)) * (31 : Int64)) + ((F_X5_ofSheet7 c v w (nI i464)).toInt64)) * (31 : Int64)) + ((F_X5_ofSheet8 c v w (nI i464)).toInt64)) * (31 : Int64)) + ((F_X5_ofSheet9 c v w (nI i464)).toInt64))) * (31 : Int64)) + ((F_X5_has c v w (0 : Int32) (nI i464)).toInt64)) * (31 : Int64)) + ((F_X5_has c v w (1 : Int32) (nI i464)).toInt64)) * (31 : Int64)) + ((F_X5_has c v w (2 : Int32) (nI i464)).toInt64)) * (31 : Int64)) + ((F_X5_has c v w (3 : Int32) (nI i464)).toInt64)) * (31 : Int64))]) ⟨hx, hb, hml, hown, hts⟩ (m_X5_stoppedBy l D cA NL c v w u ad A (nI i464) hM hBd hF hRI (nI_nn (Nat.lt_of_lt_of_le hlt9i464 (Nat.le_trans hBd.1 (by decide)))) (by rw [nI_clamp (Nat.lt_of_lt_of_le hlt9i464 (Nat.le_trans hBd.1 (by decide)))]; exact hlt9i464)) (cwV 1 hts gX5_digest_X5_stoppedBy rfl rfl rfl (by decide +kernel) ⟨Nat.le_of_ble_eq_true rfl, Nat.le_of_ble_eq_true rfl⟩) (pc_preV pcN_ok hX hW.1 hM.1 rfl rfl ⟨hW.1, hW.2.1, fun q h => hA q (Nat.le_trans hW.2.2.1 h)⟩) rfl rfl hl.1 rfl (lv_room (Nat.le_of_ble_eq_true rfl)) dX5_digest_147 ⟨Nat.le_of_ble_eq_true rfl, Nat.le_of_ble_eq_true rfl⟩) hW.2.2 (fun r547 _ H locs hwr547 hB hS9 => ?_)
          replace hwr547 := hwr547.symm
          subst hwr547
          have hW : pcS D vwCl A s.heap NL ad (ctO cA c v w u ad) H locs := ⟨hB, pcD_ct hD9, hS9⟩
          refine lv_i2l (v := (F_X5_stoppedBy c v w (nI i464)).toInt64) hx hb dX5_digest_150 rfl ?_
          refine lv_ladd hx hb dX5_digest_151 ?_
          refine lv_lstore_n (lv' := [(1, .long (((((((((((FL4_X5_digest c v w i464 (((v 1 i464 1).toNatClampNeg + 1)) 0 ((((((((((((((((((((s466 * (31 : Int64)) + ((F_X5_ofSheet0 c v w (nI i464)).toInt64)) * (31 : Int64)) + ((F_X5_ofSheet1 c v w (nI i464)).toInt64)) * (31 : Int64)) + ((F_X5_ofSheet2 c v w (nI i464)).toInt64)) * (31 : Int64)) + ((F_X5_ofSheet3 c v w (nI i464)).toInt64)) * (31 : Int64)) + ((F_X5_ofSheet4 c v w (nI i464)).toInt64)) * (31 : Int64)) + ((F_X5_ofSheet5 c v w (nI i464)).toInt64)) * (31 : Int64)) + ((F_X5_ofSheet6 c v w (nI i464)).toInt64)) * (31 : Int64)) + ((F_X5_ofSheet7 c v w (nI i464)).toInt64)) * (31 : Int64)) + ((F_X5_ofSheet8 c v w (nI i464)).toInt64)) * (31 : Int64)) + ((F_X5_ofSheet9 c v w (nI i464)).toInt64))) * (31 : Int64)) + ((F_X5_has c v w (0 : Int32) (nI i464)).toInt64)) * (31 : Int64)) + ((F_X5_has c v w (1 : Int32) (nI i464)).toInt64)) * (31 : Int64)) + ((F_X5_has c v w (2 : Int32) (nI i464)).toInt64)) * (31 : Int64)) + ((F_X5_has c v w (3 : Int32) (nI i464)).toInt64)) * (31 : Int64)) + ((F_X5_stoppedBy c v w (nI i464)).toInt64))), (4, .int 4), (3, .int (nI i464)), (0, .ref (ad 5 0))]) hx hb dX5_digest_152 rfl hl (by decide) rfl (fun ls hl => ?_)
          refine lv_iinc (v := nI (i464 + 1)) (lv' := [(3, .int (nI (i464 + 1))), (1, .long (((((((((((FL4_X5_digest c v w i464 (((v 1 i464 1).toNatClampNeg + 1)) 0 ((((((((((((((((((((s466 * (31 : Int64)) + ((F_X5_ofSheet0 c v w (nI i464)).toInt64)) * (31 : Int64)) + ((F_X5_ofSheet1 c v w (nI i464)).toInt64)) * (31 : Int64)) + ((F_X5_ofSheet2 c v w (nI i464)).toInt64)) * (31 : Int64)) + ((F_X5_ofSheet3 c v w (nI i464)).toInt64)) * (31 : Int64)) + ((F_X5_ofSheet4 c v w (nI i464)).toInt64)) * (31 : Int64)) + ((F_X5_ofSheet5 c v w (nI i464)).toInt64)) * (31 : Int64)) + ((F_X5_ofSheet6 c v w (nI i464)).toInt64)) * (31 : Int64)) + ((F_X5_ofSheet7 c v w (nI i464)).toInt64)) * (31 : Int64)) + ((F_X5_ofSheet8 c v w (nI i464)).toInt64)) * (31 : Int64)) + ((F_X5_ofSheet9 c v w (nI i464)).toInt64))) * (31 : Int64)) + ((F_X5_has c v w (0 : Int32) (nI i464)).toInt64)) * (31 : Int64)) + ((F_X5_has c v w (1 : Int32) (nI i464)).toInt64)) * (31 : Int64)) + ((F_X5_has c v w (2 : Int32) (nI i464)).toInt64)) * (31 : Int64)) + ((F_X5_has c v w (3 : Int32) (nI i464)).toInt64)) * (31 : Int64)) + ((F_X5_stoppedBy c v w (nI i464)).toInt64))), (4, .int 4), (0, .ref (ad 5 0))]) hx hb dX5_digest_153 hl (k := 2) rfl (nI_1 i464) (by decide) rfl (fun ls hl => ?_)
          refine lv_goto (tgt := 33) hx hb dX5_digest_156 (by decide) ?_
          have he9F : (FL_X5_digest c v w k465 (i464 + 1) (((((((((((FL4_X5_digest c v w i464 (((v 1 i464 1).toNatClampNeg + 1)) 0 ((((((((((((((((((((s466 * (31 : Int64)) + ((F_X5_ofSheet0 c v w (nI i464)).toInt64)) * (31 : Int64)) + ((F_X5_ofSheet1 c v w (nI i464)).toInt64)) * (31 : Int64)) + ((F_X5_ofSheet2 c v w (nI i464)).toInt64)) * (31 : Int64)) + ((F_X5_ofSheet3 c v w (nI i464)).toInt64)) * (31 : Int64)) + ((F_X5_ofSheet4 c v w (nI i464)).toInt64)) * (31 : Int64)) + ((F_X5_ofSheet5 c v w (nI i464)).toInt64)) * (31 : Int64)) + ((F_X5_ofSheet6 c v w (nI i464)).toInt64)) * (31 : Int64)) + ((F_X5_ofSheet7 c v w (nI i464)).toInt64)) * (31 : Int64)) + ((F_X5_ofSheet8 c v w (nI i464)).toInt64)) * (31 : Int64)) + ((F_X5_ofSheet9 c v w (nI i464)).toInt64))) * (31 : Int64)) + ((F_X5_has c v w (0 : Int32) (nI i464)).toInt64)) * (31 : Int64)) + ((F_X5_has c v w (1 : Int32) (nI i464)).toInt64)) * (31 : Int64)) + ((F_X5_has c v w (2 : Int32) (nI i464)).toInt64)) * (31 : Int64)) + ((F_X5_has c v w (3 : Int32) (nI i464)).toInt64)) * (31 : Int64)) + ((F_X5_stoppedBy c v w (nI i464)).toInt64))) = (FL_X5_digest c v w (c 0) 0 ((((((((((((((((((((((((((1801317 : Int64) + ((F_X5_many0 c v w).toInt64)) * (31 : Int64)) + ((F_X5_many1 c v w).toInt64)) * (31 : Int64)) + ((F_X5_many2 c v w).toInt64)) * (31 : Int64)) + ((F_X5_many3 c v w).toInt64)) * (31 : Int64)) + ((F_X5_many4 c v w).toInt64)) * (31 : Int64)) + ((F_X5_many5 c v w).toInt64)) * (31 : Int64)) + ((F_X5_many6 c v w).toInt64)) * (31 : Int64)) + ((F_X5_many7 c v w).toInt64)) * (31 : Int64)) + ((F_X5_many8 c v w).toInt64)) * (31 : Int64)) + ((F_X5_many9 c v w).toInt64)) * (31 : Int64)) + ((F_X5_many10 c v w).toInt64)) * (31 : Int64)) + ((F_X5_many11 c v w).toInt64)) * (31 : Int64)) + ((F_X5_many12 c v w).toInt64))) := by rw [← heF]; show (FL_X5_digest c v w k465 (i464 + 1) (((((((((((FL4_X5_digest c v w i464 (((v 1 i464 1).toNatClampNeg + 1)) 0 ((((((((((((((((((((s466 * (31 : Int64)) + ((F_X5_ofSheet0 c v w (nI i464)).toInt64)) * (31 : Int64)) + ((F_X5_ofSheet1 c v w (nI i464)).toInt64)) * (31 : Int64)) + ((F_X5_ofSheet2 c v w (nI i464)).toInt64)) * (31 : Int64)) + ((F_X5_ofSheet3 c v w (nI i464)).toInt64)) * (31 : Int64)) + ((F_X5_ofSheet4 c v w (nI i464)).toInt64)) * (31 : Int64)) + ((F_X5_ofSheet5 c v w (nI i464)).toInt64)) * (31 : Int64)) + ((F_X5_ofSheet6 c v w (nI i464)).toInt64)) * (31 : Int64)) + ((F_X5_ofSheet7 c v w (nI i464)).toInt64)) * (31 : Int64)) + ((F_X5_ofSheet8 c v w (nI i464)).toInt64)) * (31 : Int64)) + ((F_X5_ofSheet9 c v w (nI i464)).toInt64))) * (31 : Int64)) + ((F_X5_has c v w (0 : Int32) (nI i464)).toInt64)) * (31 : Int64)) + ((F_X5_has c v w (1 : Int32) (nI i464)).toInt64)) * (31 : Int64)) + ((F_X5_has c v w (2 : Int32) (nI i464)).toInt64)) * (31 : Int64)) + ((F_X5_has c v w (3 : Int32) (nI i464)).toInt64)) * (31 : Int64)) + ((F_X5_stoppedBy c v w (nI i464)).toInt64))) = (FL_X5_digest c v w (k465 + 1) i464 s466); rfl
          exact ihk465 (i464 + 1)  (((((((((((FL4_X5_digest c v w i464 (((v 1 i464 1).toNatClampNeg + 1)) 0 ((((((((((((((((((((s466 * (31 : Int64)) + ((F_X5_ofSheet0 c v w (nI i464)).toInt64)) * (31 : Int64)) + ((F_X5_ofSheet1 c v w (nI i464)).toInt64)) * (31 : Int64)) + ((F_X5_ofSheet2 c v w (nI i464)).toInt64)) * (31 : Int64)) + ((F_X5_ofSheet3 c v w (nI i464)).toInt64)) * (31 : Int64)) + ((F_X5_ofSheet4 c v w (nI i464)).toInt64)) * (31 : Int64)) + ((F_X5_ofSheet5 c v w (nI i464)).toInt64)) * (31 : Int64)) + ((F_X5_ofSheet6 c v w (nI i464)).toInt64)) * (31 : Int64)) + ((F_X5_ofSheet7 c v w (nI i464)).toInt64)) * (31 : Int64)) + ((F_X5_ofSheet8 c v w (nI i464)).toInt64)) * (31 : Int64)) + ((F_X5_ofSheet9 c v w (nI i464)).toInt64))) * (31 : Int64)) + ((F_X5_has c v w (0 : Int32) (nI i464)).toInt64)) * (31 : Int64)) + ((F_X5_has c v w (1 : Int32) (nI i464)).toInt64)) * (31 : Int64)) + ((F_X5_has c v w (2 : Int32) (nI i464)).toInt64)) * (31 : Int64)) + ((F_X5_has c v w (3 : Int32) (nI i464)).toInt64)) * (31 : Int64)) + ((F_X5_stoppedBy c v w (nI i464)).toInt64)) H locs ls (by omega) he9F hW (lv_sub hl [0, 1, 3] rfl)
        | succ k534 ihk534 =>
          intro i533 s535 H locs ls hk heF hW hl
          have hlt : i533 < ((v 1 i464 1).toNatClampNeg + 1) := by omega
          have hlt9i533 := hlt
          refine lv_iload hx hb dX5_digest_75 (lv_at hl 0 rfl) ?_
          refine lv_aload_n hx hb dX5_digest_77 rfl (lv_at hl 3 rfl) ?_
          refine pc_get (C := RX5) (T := TX5) (N := 13) (ci := 5) hx hb hts (by decide +kernel) hown hX.1 hW.1 5 0 hM.1 rfl rfl 0 (by decide) (hts (.fieldLink RX5 11 "DraftsmanOffice" "sheets" "[LDraftsmanOffice$Sheet;") (by decide +kernel)) (fun _ h9 => h9) rfl dX5_digest_78 ?_
          refine lv_iload_n hx hb dX5_digest_81 rfl (lv_at hl 2 rfl) ?_
          refine pc_aald (r := .ref (ad 1 i464)) hx hb hX.1 hW.1 50 0 3 (hM.2.1 50 (by decide) (by decide)) rfl rfl rfl (vp_in_nI (Nat.lt_of_lt_of_le hlt9i464 hBd.1) (by decide)) (by rw [nI_clamp (Nat.lt_of_lt_of_le (Nat.lt_of_lt_of_le hlt9i464 hBd.1) (by decide)), sRf_in hlt9i464]; rfl) dX5_digest_82 ?_
          refine pc_getN (C := RX3) (T := TX3) (N := 10) (ci := 3) hx hb hts (by decide +kernel) hown hX.1 hW.1 1 i464 (hM.2.2.2.1 i464 hlt9i464).1 rfl rfl 3 (by decide) (hX.2.1 (.fieldLinkNest RX5 115 "DraftsmanOffice$Sheet" "last" "I" R_host) (by decide +kernel)) (fun _ h9 => h9) rfl dX5_digest_83 ?_
          refine lv_icmp_gt (tgt := 110) hx hb dX5_digest_86 (by decide) (fun c548 => absurd c548 (last_step (hF.2.2 i464 hlt9i464).1 (hF.2.2 i464 hlt9i464).2 hlt)) (fun _ => ?_)
          refine lv_lload_n hx hb dX5_digest_89 rfl (lv_at hl 1 rfl) ?_
          refine lv_ldc2 (v := 31) hx hb hown (hts (.constantLong RX5 336 31) (by decide +kernel)) dX5_digest_90 ?_
          refine lv_lmul hx hb dX5_digest_93 ?_
          refine lv_aload_n hx hb dX5_digest_94 rfl (lv_at hl 3 rfl) ?_
          refine lv_iload_n hx hb dX5_digest_95 rfl (lv_at hl 2 rfl) ?_
          refine lv_iload hx hb dX5_digest_96 (lv_at hl 0 rfl) ?_
          refine pc_rcalli (va_runV (As := [.int (nI i464), .int (nI i533)]) (rest := [.long (s535 * (31 : Int64))]) ⟨hx, hb, hml, hown, hts⟩ (r_X5_status l D cA NL c v w u ad (nI i464) (nI i533) hM hBd hF (nI_nn (Nat.lt_of_lt_of_le hlt9i464 (Nat.le_trans hBd.1 (by decide)))) (by rw [nI_clamp (Nat.lt_of_lt_of_le hlt9i464 (Nat.le_trans hBd.1 (by decide)))]; exact hlt9i464) (nI_nn (Nat.lt_of_lt_of_le hlt9i533 (by have h6 := (hF.2.2 i464 hlt9i464).2; omega))) (by rw [nI_clamp (Nat.lt_of_lt_of_le hlt9i464 (Nat.le_trans hBd.1 (by decide)))]; exact last_le (hF.2.2 i464 hlt9i464).1 (hF.2.2 i464 hlt9i464).2 hlt9i533)) (cwV 2 hts gX5_digest_X5_status rfl rfl rfl (by decide +kernel) ⟨Nat.le_of_ble_eq_true rfl, Nat.le_of_ble_eq_true rfl⟩) (pc_preV pcN_ok hX hW.1 hM.1 rfl rfl hW.1) rfl rfl hl.1 rfl (lv_room (Nat.le_of_ble_eq_true rfl)) dX5_digest_98 ⟨Nat.le_of_ble_eq_true rfl, Nat.le_of_ble_eq_true rfl⟩) hW (fun r549 H locs hwr549 hW => ?_)
          replace hwr549 := hwr549.symm
          subst hwr549
          refine lv_i2l (v := (F_X5_status c v w (nI i464) (nI i533)).toInt64) hx hb dX5_digest_101 rfl ?_
          refine lv_ladd hx hb dX5_digest_102 ?_
          refine lv_lstore_n (lv' := [(1, .long ((s535 * (31 : Int64)) + ((F_X5_status c v w (nI i464) (nI i533)).toInt64))), (4, .int (nI i533)), (3, .int (nI i464)), (0, .ref (ad 5 0))]) hx hb dX5_digest_103 rfl hl (by decide) rfl (fun ls hl => ?_)
          refine lv_iinc (v := nI (i533 + 1)) (lv' := [(4, .int (nI (i533 + 1))), (1, .long ((s535 * (31 : Int64)) + ((F_X5_status c v w (nI i464) (nI i533)).toInt64))), (3, .int (nI i464)), (0, .ref (ad 5 0))]) hx hb dX5_digest_104 hl (k := 1) rfl (nI_1 i533) (by decide) rfl (fun ls hl => ?_)
          refine lv_goto (tgt := 75) hx hb dX5_digest_107 (by decide) ?_
          have he9F : (FL4_X5_digest c v w i464 k534 (i533 + 1) ((s535 * (31 : Int64)) + ((F_X5_status c v w (nI i464) (nI i533)).toInt64))) = (FL4_X5_digest c v w i464 (((v 1 i464 1).toNatClampNeg + 1)) 0 ((((((((((((((((((((s466 * (31 : Int64)) + ((F_X5_ofSheet0 c v w (nI i464)).toInt64)) * (31 : Int64)) + ((F_X5_ofSheet1 c v w (nI i464)).toInt64)) * (31 : Int64)) + ((F_X5_ofSheet2 c v w (nI i464)).toInt64)) * (31 : Int64)) + ((F_X5_ofSheet3 c v w (nI i464)).toInt64)) * (31 : Int64)) + ((F_X5_ofSheet4 c v w (nI i464)).toInt64)) * (31 : Int64)) + ((F_X5_ofSheet5 c v w (nI i464)).toInt64)) * (31 : Int64)) + ((F_X5_ofSheet6 c v w (nI i464)).toInt64)) * (31 : Int64)) + ((F_X5_ofSheet7 c v w (nI i464)).toInt64)) * (31 : Int64)) + ((F_X5_ofSheet8 c v w (nI i464)).toInt64)) * (31 : Int64)) + ((F_X5_ofSheet9 c v w (nI i464)).toInt64))) := by rw [← heF]; show (FL4_X5_digest c v w i464 k534 (i533 + 1) ((s535 * (31 : Int64)) + ((F_X5_status c v w (nI i464) (nI i533)).toInt64))) = (FL4_X5_digest c v w i464 (k534 + 1) i533 s535); rfl
          exact ihk534 (i533 + 1)  ((s535 * (31 : Int64)) + ((F_X5_status c v w (nI i464) (nI i533)).toInt64)) H locs ls (by omega) he9F hW (lv_sub hl [0, 1, 2, 3] rfl)
      exact K536 (((v 1 i464 1).toNatClampNeg + 1)) 0  ((((((((((((((((((((s466 * (31 : Int64)) + ((F_X5_ofSheet0 c v w (nI i464)).toInt64)) * (31 : Int64)) + ((F_X5_ofSheet1 c v w (nI i464)).toInt64)) * (31 : Int64)) + ((F_X5_ofSheet2 c v w (nI i464)).toInt64)) * (31 : Int64)) + ((F_X5_ofSheet3 c v w (nI i464)).toInt64)) * (31 : Int64)) + ((F_X5_ofSheet4 c v w (nI i464)).toInt64)) * (31 : Int64)) + ((F_X5_ofSheet5 c v w (nI i464)).toInt64)) * (31 : Int64)) + ((F_X5_ofSheet6 c v w (nI i464)).toInt64)) * (31 : Int64)) + ((F_X5_ofSheet7 c v w (nI i464)).toInt64)) * (31 : Int64)) + ((F_X5_ofSheet8 c v w (nI i464)).toInt64)) * (31 : Int64)) + ((F_X5_ofSheet9 c v w (nI i464)).toInt64)) _ _ ls (by omega) rfl hW (lv_sub hl [0, 1, 2, 3] rfl)
  exact K467 (c 0) 0  ((((((((((((((((((((((((((1801317 : Int64) + ((F_X5_many0 c v w).toInt64)) * (31 : Int64)) + ((F_X5_many1 c v w).toInt64)) * (31 : Int64)) + ((F_X5_many2 c v w).toInt64)) * (31 : Int64)) + ((F_X5_many3 c v w).toInt64)) * (31 : Int64)) + ((F_X5_many4 c v w).toInt64)) * (31 : Int64)) + ((F_X5_many5 c v w).toInt64)) * (31 : Int64)) + ((F_X5_many6 c v w).toInt64)) * (31 : Int64)) + ((F_X5_many7 c v w).toInt64)) * (31 : Int64)) + ((F_X5_many8 c v w).toInt64)) * (31 : Int64)) + ((F_X5_many9 c v w).toInt64)) * (31 : Int64)) + ((F_X5_many10 c v w).toInt64)) * (31 : Int64)) + ((F_X5_many11 c v w).toInt64)) * (31 : Int64)) + ((F_X5_many12 c v w).toInt64)) _ _ ls (by omega) rfl hW (lv_sub hl [0, 1, 2] rfl)

