
set_option maxHeartbeats 4000000 in
set_option maxRecDepth 100000 in
theorem r_L_isFair (l : Launch) (D : va_G) (cA : Nat → ClassId) (NL : List (Nat × Nat)) (c : SC) (v : SV) (w : SW) (u : Nat → Int32) (ad : Nat → Nat → Nat)  (hM : MEM c NL) (hi : INV c v w) : Met l yL_isFair wsL_isFair ({ frames := 7, cells := 0, slots := 0, locals := 164 }) (pcPre D vwCl (tyL cA) [.ref (ad 5 0), .int (nI (c 0))] (fun H => va_P D vwCl (pcW NL ad (ctO cA c v w u ad)) H)) (va_Qi (fun (r : Int32) (_ : Unit) => r = 1) (fun _ _ => True) (fun _ => False)) 0 0 (fun _ => False) := by
  refine Met.ofW (cc := cL_isFair) (maxL := 8) (ret := (some .boolean)) (by decide) rfl ?_
  intro p e s m args below meth c0 s₁ B hml hv
  obtain ⟨rfl, hX, hP0⟩ := hv
  have hF := INV_wf hi
  have hBd := INV_bnd hi
  have hx := B.exec
  have hb := B.bytes
  have hr := B.returns
  have hts := atoms_spec (ws := wsL_isFair) B.pre
  have hown : s.vm.findClass RL = some m.cls := findClass_of_methodNamed B.named
  have hlocks := B.notSynchronized
  have hW : pcQ D vwCl (fun _ => False) s.heap NL ad (ctO cA c v w u ad) s.heap [] := ⟨hP0, va_S.rf⟩
  have hl := lv_entry ([.ref (ad 5 0), .int (nI (c 0))]) (n := 8) (Nat.le_of_ble_eq_true rfl)
  rw [lg_entry_eq]
  generalize (lg_sl ([.ref (ad 5 0), .int (nI (c 0))]) ++ List.replicate (8 - (lg_sl ([.ref (ad 5 0), .int (nI (c 0))])).length) Slot.unset).toArray = ls at hl ⊢
  have hl : lv_has ls 8 [(0, .ref (ad 5 0)), (1, .int (nI (c 0)))] := hl
  refine lv_iconst (v := 0) hx hb dL_isFair_0 (by decide) ?_
  refine lv_istore_n (lv' := [(2, .int 0), (0, .ref (ad 5 0)), (1, .int (nI (c 0)))]) hx hb dL_isFair_1 rfl hl (by decide) rfl (fun ls hl => ?_)
  refine lv_iconst (v := 0) hx hb dL_isFair_2 (by decide) ?_
  refine lv_istore_n (lv' := [(3, .int 0), (2, .int 0), (0, .ref (ad 5 0)), (1, .int (nI (c 0)))]) hx hb dL_isFair_3 rfl hl (by decide) rfl (fun ls hl => ?_)
  have K606 : ∀ (k605 i604 : Nat) (H : Heap) (locs : List Loc) (ls : Array Slot), i604 + k605 = (c 0) → pcQ D vwCl (fun _ => False) s.heap NL ad (ctO cA c v w u ad) H locs → lv_has ls 8 [(3, .int (nI i604)), (2, .int (nI (PR c v w i604))), (0, .ref (ad 5 0)), (1, .int (nI (c 0)))] → W p l e (headSpec wsL_isFair ({ frames := 7, cells := 0, slots := 0, locals := 164 })).room s m ([.ref (ad 5 0), .int (nI (c 0))] : List Value).toArray below meth c0 H locs 0 0 (MQ below (va_Qi (fun (r : Int32) (_ : Unit) => r = 1) (fun _ _ => True) (fun _ => False)) ([.ref (ad 5 0), .int (nI (c 0))] : List Value).toArray s 0 0 (fun _ => False)) (F0 m 4 ls []) := by
    intro k605
    induction k605 with
    | zero =>
      intro i604 H locs ls hk hW hl
      have ei : i604 = (c 0) := by omega
      rw [ei] at hl
      refine lv_iload_n hx hb dL_isFair_4 rfl (lv_at hl 0 rfl) ?_
      refine lv_iload_n hx hb dL_isFair_5 rfl (lv_at hl 3 rfl) ?_
      refine lv_icmp_ge (tgt := 197) hx hb dL_isFair_6 (by decide) (fun _ => ?_) (fun c607 => absurd (Int32.le_refl _) c607)
      refine lv_aload_n hx hb dL_isFair_197 rfl (lv_at hl 2 rfl) ?_
      refine lv_bipush (v := 7) hx hb dL_isFair_198 (by decide) ?_
      refine pc_qcalli (va_runV (As := [.int 7]) (rest := []) ⟨hx, hb, hml, hown, hts⟩ (r_X5_many7 l D cA NL c v w u ad  hM hBd hF ) (cwV 1 hts gL_isFair_X5_many rfl rfl rfl (by decide +kernel) ⟨Nat.le_of_ble_eq_true rfl, Nat.le_of_ble_eq_true rfl⟩) (pc_preV pcN_ok hX hW.1 hM.1 rfl rfl hW.1) rfl rfl hl.1 rfl (lv_room (Nat.le_of_ble_eq_true rfl)) dL_isFair_200 ⟨Nat.le_of_ble_eq_true rfl, Nat.le_of_ble_eq_true rfl⟩) hW (fun r608 H locs hwr608 hW => ?_)
      replace hwr608 := hwr608.symm
      subst hwr608
      refine lv_istore_n (lv' := [(3, .int (nI (c 4))), (2, .int (nI (PR c v w (c 0)))), (0, .ref (ad 5 0)), (1, .int (nI (c 0)))]) hx hb dL_isFair_203 rfl hl (by decide) rfl (fun ls hl => ?_)
      refine lv_iconst (v := 0) hx hb dL_isFair_204 (by decide) ?_
      refine lv_istore (lv' := [(4, .int 0), (3, .int (nI (c 4))), (2, .int (nI (PR c v w (c 0)))), (0, .ref (ad 5 0)), (1, .int (nI (c 0)))]) hx hb dL_isFair_205 hl (by decide) rfl (fun ls hl => ?_)
      have K611 : ∀ (k610 i609 : Nat) (H : Heap) (locs : List Loc) (ls : Array Slot), i609 + k610 = (c 4) → pcQ D vwCl (fun _ => False) s.heap NL ad (ctO cA c v w u ad) H locs → lv_has ls 8 [(4, .int (nI i609)), (3, .int (nI (c 4))), (2, .int (nI (PR c v w (c 0)))), (0, .ref (ad 5 0)), (1, .int (nI (c 0)))] → W p l e (headSpec wsL_isFair ({ frames := 7, cells := 0, slots := 0, locals := 164 })).room s m ([.ref (ad 5 0), .int (nI (c 0))] : List Value).toArray below meth c0 H locs 0 0 (MQ below (va_Qi (fun (r : Int32) (_ : Unit) => r = 1) (fun _ _ => True) (fun _ => False)) ([.ref (ad 5 0), .int (nI (c 0))] : List Value).toArray s 0 0 (fun _ => False)) (F0 m 207 ls []) := by
        intro k610
        induction k610 with
        | zero =>
          intro i609 H locs ls hk hW hl
          have ei : i609 = (c 4) := by omega
          rw [ei] at hl
          refine lv_iload hx hb dL_isFair_207 (lv_at hl 0 rfl) ?_
          refine lv_iload_n hx hb dL_isFair_209 rfl (lv_at hl 1 rfl) ?_
          refine lv_icmp_ge (tgt := 402) hx hb dL_isFair_210 (by decide) (fun _ => ?_) (fun c612 => absurd (Int32.le_refl _) c612)
          refine lv_aload_n hx hb dL_isFair_402 rfl (lv_at hl 3 rfl) ?_
          refine lv_bipush (v := 6) hx hb dL_isFair_403 (by decide) ?_
          refine pc_qcalli (va_runV (As := [.int 6]) (rest := []) ⟨hx, hb, hml, hown, hts⟩ (r_X5_many6 l D cA NL c v w u ad  hM hBd hF ) (cwV 1 hts gL_isFair_X5_many rfl rfl rfl (by decide +kernel) ⟨Nat.le_of_ble_eq_true rfl, Nat.le_of_ble_eq_true rfl⟩) (pc_preV pcN_ok hX hW.1 hM.1 rfl rfl hW.1) rfl rfl hl.1 rfl (lv_room (Nat.le_of_ble_eq_true rfl)) dL_isFair_405 ⟨Nat.le_of_ble_eq_true rfl, Nat.le_of_ble_eq_true rfl⟩) hW (fun r613 H locs hwr613 hW => ?_)
          replace hwr613 := hwr613.symm
          subst hwr613
          refine lv_iload_n hx hb dL_isFair_408 rfl (lv_at hl 2 rfl) ?_
          refine lv_icmp_ne (tgt := 447) hx hb dL_isFair_409 (by decide) (fun c614 => absurd c614 (fun q => q (fa_pairs hi))) (fun _ => ?_)
          refine lv_aload_n hx hb dL_isFair_412 rfl (lv_at hl 3 rfl) ?_
          refine lv_bipush (v := 8) hx hb dL_isFair_413 (by decide) ?_
          refine pc_qcalli (va_runV (As := [.int 8]) (rest := []) ⟨hx, hb, hml, hown, hts⟩ (r_X5_many8 l D cA NL c v w u ad  hM hBd hF ) (cwV 1 hts gL_isFair_X5_many rfl rfl rfl (by decide +kernel) ⟨Nat.le_of_ble_eq_true rfl, Nat.le_of_ble_eq_true rfl⟩) (pc_preV pcN_ok hX hW.1 hM.1 rfl rfl hW.1) rfl rfl hl.1 rfl (lv_room (Nat.le_of_ble_eq_true rfl)) dL_isFair_415 ⟨Nat.le_of_ble_eq_true rfl, Nat.le_of_ble_eq_true rfl⟩) hW (fun r615 H locs hwr615 hW => ?_)
          replace hwr615 := hwr615.symm
          subst hwr615
          refine lv_aload_n hx hb dL_isFair_418 rfl (lv_at hl 3 rfl) ?_
          refine lv_bipush (v := 9) hx hb dL_isFair_419 (by decide) ?_
          refine pc_qcalli (va_runV (As := [.int 9]) (rest := [.int (F_X5_many8 c v w)]) ⟨hx, hb, hml, hown, hts⟩ (r_X5_many9 l D cA NL c v w u ad  hM hBd hF ) (cwV 1 hts gL_isFair_X5_many rfl rfl rfl (by decide +kernel) ⟨Nat.le_of_ble_eq_true rfl, Nat.le_of_ble_eq_true rfl⟩) (pc_preV pcN_ok hX hW.1 hM.1 rfl rfl hW.1) rfl rfl hl.1 rfl (lv_room (Nat.le_of_ble_eq_true rfl)) dL_isFair_421 ⟨Nat.le_of_ble_eq_true rfl, Nat.le_of_ble_eq_true rfl⟩) hW (fun r616 H locs hwr616 hW => ?_)
          replace hwr616 := hwr616.symm
          subst hwr616
          refine lv_iadd hx hb dL_isFair_424 ?_
          refine lv_aload_n hx hb dL_isFair_425 rfl (lv_at hl 3 rfl) ?_
          refine lv_bipush (v := 10) hx hb dL_isFair_426 (by decide) ?_
          refine pc_qcalli (va_runV (As := [.int 10]) (rest := [.int ((F_X5_many8 c v w) + (F_X5_many9 c v w))]) ⟨hx, hb, hml, hown, hts⟩ (r_X5_many10 l D cA NL c v w u ad  hM hBd hF ) (cwV 1 hts gL_isFair_X5_many rfl rfl rfl (by decide +kernel) ⟨Nat.le_of_ble_eq_true rfl, Nat.le_of_ble_eq_true rfl⟩) (pc_preV pcN_ok hX hW.1 hM.1 rfl rfl hW.1) rfl rfl hl.1 rfl (lv_room (Nat.le_of_ble_eq_true rfl)) dL_isFair_428 ⟨Nat.le_of_ble_eq_true rfl, Nat.le_of_ble_eq_true rfl⟩) hW (fun r617 H locs hwr617 hW => ?_)
          replace hwr617 := hwr617.symm
          subst hwr617
          refine lv_iadd hx hb dL_isFair_431 ?_
          refine lv_aload_n hx hb dL_isFair_432 rfl (lv_at hl 3 rfl) ?_
          refine lv_bipush (v := 11) hx hb dL_isFair_433 (by decide) ?_
          refine pc_qcalli (va_runV (As := [.int 11]) (rest := [.int (((F_X5_many8 c v w) + (F_X5_many9 c v w)) + (F_X5_many10 c v w))]) ⟨hx, hb, hml, hown, hts⟩ (r_X5_many11 l D cA NL c v w u ad  hM hBd hF ) (cwV 1 hts gL_isFair_X5_many rfl rfl rfl (by decide +kernel) ⟨Nat.le_of_ble_eq_true rfl, Nat.le_of_ble_eq_true rfl⟩) (pc_preV pcN_ok hX hW.1 hM.1 rfl rfl hW.1) rfl rfl hl.1 rfl (lv_room (Nat.le_of_ble_eq_true rfl)) dL_isFair_435 ⟨Nat.le_of_ble_eq_true rfl, Nat.le_of_ble_eq_true rfl⟩) hW (fun r618 H locs hwr618 hW => ?_)
          replace hwr618 := hwr618.symm
          subst hwr618
          refine lv_iadd hx hb dL_isFair_438 ?_
          refine lv_iload_n hx hb dL_isFair_439 rfl (lv_at hl 1 rfl) ?_
          refine lv_icmp_ne (tgt := 447) hx hb dL_isFair_440 (by decide) (fun c619 => absurd c619 (fun q => q (states_all hi))) (fun _ => ?_)
          refine lv_iconst (v := 1) hx hb dL_isFair_443 (by decide) ?_
          refine lv_goto (tgt := 448) hx hb dL_isFair_444 (by decide) ?_
          exact W.zret (v := 1) hx hb hr rfl (fun t ht hW9 => ⟨⟨1, (), rfl, rfl, trivial⟩, hW.2.F ht⟩) hW.2.2.2 dL_isFair_448
        | succ k610 ihk610 =>
          intro i609 H locs ls hk hW hl
          have hlt : i609 < (c 4) := by omega
          have hlt9i609 := hlt
          refine lv_iload hx hb dL_isFair_207 (lv_at hl 0 rfl) ?_
          refine lv_iload_n hx hb dL_isFair_209 rfl (lv_at hl 1 rfl) ?_
          refine lv_icmp_ge (tgt := 402) hx hb dL_isFair_210 (by decide) (fun c620 => absurd c620 (nI_ge hlt (Nat.lt_of_le_of_lt hBd.2.2.2.2 (by decide)))) (fun _ => ?_)
          refine lv_aload_n hx hb dL_isFair_213 rfl (lv_at hl 3 rfl) ?_
          refine lv_iload hx hb dL_isFair_214 (lv_at hl 0 rfl) ?_
          refine lv_iconst (v := 5) hx hb dL_isFair_216 (by decide) ?_
          refine pc_qcalli (va_runV (As := [.int (nI i609), .int 5]) (rest := []) ⟨hx, hb, hml, hown, hts⟩ (r_X5_ofPack5 l D cA NL c v w u ad (nI i609) hM hBd hF (nI_nn (Nat.lt_of_lt_of_le hlt9i609 (Nat.le_trans hBd.2.2.2.2 (by decide)))) (by rw [nI_clamp (Nat.lt_of_lt_of_le hlt9i609 (Nat.le_trans hBd.2.2.2.2 (by decide)))]; exact hlt9i609)) (cwV 2 hts gL_isFair_X5_ofPack rfl rfl rfl (by decide +kernel) ⟨Nat.le_of_ble_eq_true rfl, Nat.le_of_ble_eq_true rfl⟩) (pc_preV pcN_ok hX hW.1 hM.1 rfl rfl hW.1) rfl rfl hl.1 rfl (lv_room (Nat.le_of_ble_eq_true rfl)) dL_isFair_217 ⟨Nat.le_of_ble_eq_true rfl, Nat.le_of_ble_eq_true rfl⟩) hW (fun r621 H locs hwr621 hW => ?_)
          replace hwr621 := hwr621.symm
          subst hwr621
          refine lv_istore (lv' := [(5, .int (F_X5_ofPack5 c v w (nI i609))), (4, .int (nI i609)), (3, .int (nI (c 4))), (2, .int (nI (PR c v w (c 0)))), (0, .ref (ad 5 0)), (1, .int (nI (c 0)))]) hx hb dL_isFair_220 hl (by decide) rfl (fun ls hl => ?_)
          refine lv_aload_n hx hb dL_isFair_222 rfl (lv_at hl 4 rfl) ?_
          refine lv_iload hx hb dL_isFair_223 (lv_at hl 1 rfl) ?_
          refine lv_iconst (v := 4) hx hb dL_isFair_225 (by decide) ?_
          refine pc_qcalli (va_runV (As := [.int (nI i609), .int 4]) (rest := []) ⟨hx, hb, hml, hown, hts⟩ (r_X5_ofPack4 l D cA NL c v w u ad (nI i609) hM hBd hF (nI_nn (Nat.lt_of_lt_of_le hlt9i609 (Nat.le_trans hBd.2.2.2.2 (by decide)))) (by rw [nI_clamp (Nat.lt_of_lt_of_le hlt9i609 (Nat.le_trans hBd.2.2.2.2 (by decide)))]; exact hlt9i609)) (cwV 2 hts gL_isFair_X5_ofPack rfl rfl rfl (by decide +kernel) ⟨Nat.le_of_ble_eq_true rfl, Nat.le_of_ble_eq_true rfl⟩) (pc_preV pcN_ok hX hW.1 hM.1 rfl rfl hW.1) rfl rfl hl.1 rfl (lv_room (Nat.le_of_ble_eq_true rfl)) dL_isFair_226 ⟨Nat.le_of_ble_eq_true rfl, Nat.le_of_ble_eq_true rfl⟩) hW (fun r622 H locs hwr622 hW => ?_)
          replace hwr622 := hwr622.symm
          subst hwr622
          refine lv_if_ge (tgt := 236) hx hb dL_isFair_229 (by decide) (fun (c623 : 0 ≤ (F_X5_ofPack4 c v w (nI i609))) => ?_) (fun (c623 : ¬ 0 ≤ (F_X5_ofPack4 c v w (nI i609))) => ?_)
          · refine lv_iconst (v := 0) hx hb dL_isFair_236 (by decide) ?_
            refine lv_iload hx hb dL_isFair_237 (lv_at hl 0 rfl) ?_
            refine lv_if_ne (tgt := 246) hx hb dL_isFair_239 (by decide) (fun _ => ?_) (fun c624 => absurd c624 ((fa_u hi hlt9i609).1 c623))
            refine lv_iconst (v := 0) hx hb dL_isFair_246 (by decide) ?_
            refine lv_icmp_ne (tgt := 300) hx hb dL_isFair_247 (by decide) (fun c625 => absurd c625 (by decide)) (fun _ => ?_)
            refine lv_aload_n hx hb dL_isFair_250 rfl (lv_at hl 4 rfl) ?_
            refine lv_iload hx hb dL_isFair_251 (lv_at hl 1 rfl) ?_
            refine lv_iconst (v := 2) hx hb dL_isFair_253 (by decide) ?_
            refine pc_qcalli (va_runV (As := [.int (nI i609), .int 2]) (rest := []) ⟨hx, hb, hml, hown, hts⟩ (r_X5_ofPack2 l D cA NL c v w u ad (nI i609) hM hBd hF (nI_nn (Nat.lt_of_lt_of_le hlt9i609 (Nat.le_trans hBd.2.2.2.2 (by decide)))) (by rw [nI_clamp (Nat.lt_of_lt_of_le hlt9i609 (Nat.le_trans hBd.2.2.2.2 (by decide)))]; exact hlt9i609)) (cwV 2 hts gL_isFair_X5_ofPack rfl rfl rfl (by decide +kernel) ⟨Nat.le_of_ble_eq_true rfl, Nat.le_of_ble_eq_true rfl⟩) (pc_preV pcN_ok hX hW.1 hM.1 rfl rfl hW.1) rfl rfl hl.1 rfl (lv_room (Nat.le_of_ble_eq_true rfl)) dL_isFair_254 ⟨Nat.le_of_ble_eq_true rfl, Nat.le_of_ble_eq_true rfl⟩) hW (fun r626 H locs hwr626 hW => ?_)
            replace hwr626 := hwr626.symm
            subst hwr626
            refine lv_iconst (v := 1) hx hb dL_isFair_257 (by decide) ?_
            refine lv_icmp_ne (tgt := 266) hx hb dL_isFair_258 (by decide) (fun (c627 : ¬ (F_X5_ofPack2 c v w (nI i609)) = (1 : Int32)) => ?_) (fun (c627 : (F_X5_ofPack2 c v w (nI i609)) = (1 : Int32)) => ?_)
            · refine lv_aload_n hx hb dL_isFair_266 rfl (lv_at hl 4 rfl) ?_
              refine lv_iload hx hb dL_isFair_267 (lv_at hl 1 rfl) ?_
              refine lv_iconst (v := 2) hx hb dL_isFair_269 (by decide) ?_
              refine pc_qcalli (va_runV (As := [.int (nI i609), .int 2]) (rest := []) ⟨hx, hb, hml, hown, hts⟩ (r_X5_ofPack2 l D cA NL c v w u ad (nI i609) hM hBd hF (nI_nn (Nat.lt_of_lt_of_le hlt9i609 (Nat.le_trans hBd.2.2.2.2 (by decide)))) (by rw [nI_clamp (Nat.lt_of_lt_of_le hlt9i609 (Nat.le_trans hBd.2.2.2.2 (by decide)))]; exact hlt9i609)) (cwV 2 hts gL_isFair_X5_ofPack rfl rfl rfl (by decide +kernel) ⟨Nat.le_of_ble_eq_true rfl, Nat.le_of_ble_eq_true rfl⟩) (pc_preV pcN_ok hX hW.1 hM.1 rfl rfl hW.1) rfl rfl hl.1 rfl (lv_room (Nat.le_of_ble_eq_true rfl)) dL_isFair_270 ⟨Nat.le_of_ble_eq_true rfl, Nat.le_of_ble_eq_true rfl⟩) hW (fun r628 H locs hwr628 hW => ?_)
              replace hwr628 := hwr628.symm
              subst hwr628
              refine lv_iconst (v := 3) hx hb dL_isFair_273 (by decide) ?_
              refine lv_icmp_ne (tgt := 281) hx hb dL_isFair_274 (by decide) (fun (c629 : ¬ (F_X5_ofPack2 c v w (nI i609)) = (3 : Int32)) => ?_) (fun (c629 : (F_X5_ofPack2 c v w (nI i609)) = (3 : Int32)) => ?_)
              · refine lv_iconst (v := 0) hx hb dL_isFair_281 (by decide) ?_
                refine lv_aload_n hx hb dL_isFair_282 rfl (lv_at hl 4 rfl) ?_
                refine lv_iload hx hb dL_isFair_283 (lv_at hl 1 rfl) ?_
                refine lv_iconst (v := 3) hx hb dL_isFair_285 (by decide) ?_
                refine pc_qcalli (va_runV (As := [.int (nI i609), .int 3]) (rest := [.int 0]) ⟨hx, hb, hml, hown, hts⟩ (r_X5_ofPack3 l D cA NL c v w u ad (nI i609) hM hBd hF (nI_nn (Nat.lt_of_lt_of_le hlt9i609 (Nat.le_trans hBd.2.2.2.2 (by decide)))) (by rw [nI_clamp (Nat.lt_of_lt_of_le hlt9i609 (Nat.le_trans hBd.2.2.2.2 (by decide)))]; exact hlt9i609)) (cwV 2 hts gL_isFair_X5_ofPack rfl rfl rfl (by decide +kernel) ⟨Nat.le_of_ble_eq_true rfl, Nat.le_of_ble_eq_true rfl⟩) (pc_preV pcN_ok hX hW.1 hM.1 rfl rfl hW.1) rfl rfl hl.1 rfl (lv_room (Nat.le_of_ble_eq_true rfl)) dL_isFair_286 ⟨Nat.le_of_ble_eq_true rfl, Nat.le_of_ble_eq_true rfl⟩) hW (fun r630 H locs hwr630 hW => ?_)
                replace hwr630 := hwr630.symm
                subst hwr630
                refine lv_if_ne (tgt := 296) hx hb dL_isFair_289 (by decide) (fun _ => ?_) (fun c631 => absurd c631 (fun q => c629 ((fa_done hi hlt9i609).mpr q)))
                refine lv_iconst (v := 0) hx hb dL_isFair_296 (by decide) ?_
                refine lv_icmp_eq (tgt := 302) hx hb dL_isFair_297 (by decide) (fun _ => ?_) (fun c632 => absurd (by decide) c632)
                refine lv_aload_n hx hb dL_isFair_302 rfl (lv_at hl 4 rfl) ?_
                refine lv_iload hx hb dL_isFair_303 (lv_at hl 1 rfl) ?_
                refine lv_iconst (v := 0) hx hb dL_isFair_305 (by decide) ?_
                refine pc_qcalli (va_runV (As := [.int (nI i609), .int 0]) (rest := []) ⟨hx, hb, hml, hown, hts⟩ (r_X5_ofPack0 l D cA NL c v w u ad (nI i609) hM hBd hF (nI_nn (Nat.lt_of_lt_of_le hlt9i609 (Nat.le_trans hBd.2.2.2.2 (by decide)))) (by rw [nI_clamp (Nat.lt_of_lt_of_le hlt9i609 (Nat.le_trans hBd.2.2.2.2 (by decide)))]; exact hlt9i609)) (cwV 2 hts gL_isFair_X5_ofPack rfl rfl rfl (by decide +kernel) ⟨Nat.le_of_ble_eq_true rfl, Nat.le_of_ble_eq_true rfl⟩) (pc_preV pcN_ok hX hW.1 hM.1 rfl rfl hW.1) rfl rfl hl.1 rfl (lv_room (Nat.le_of_ble_eq_true rfl)) dL_isFair_306 ⟨Nat.le_of_ble_eq_true rfl, Nat.le_of_ble_eq_true rfl⟩) hW (fun r633 H locs hwr633 hW => ?_)
                replace hwr633 := hwr633.symm
                subst hwr633
                refine lv_istore (lv' := [(6, .int (F_X5_ofPack0 c v w (nI i609))), (5, .int (F_X5_ofPack5 c v w (nI i609))), (4, .int (nI i609)), (3, .int (nI (c 4))), (2, .int (nI (PR c v w (c 0)))), (0, .ref (ad 5 0)), (1, .int (nI (c 0)))]) hx hb dL_isFair_309 hl (by decide) rfl (fun ls hl => ?_)
                refine lv_iconst (v := 0) hx hb dL_isFair_311 (by decide) ?_
                refine lv_istore (lv' := [(7, .int 0), (6, .int (F_X5_ofPack0 c v w (nI i609))), (5, .int (F_X5_ofPack5 c v w (nI i609))), (4, .int (nI i609)), (3, .int (nI (c 4))), (2, .int (nI (PR c v w (c 0)))), (0, .ref (ad 5 0)), (1, .int (nI (c 0)))]) hx hb dL_isFair_312 hl (by decide) rfl (fun ls hl => ?_)
                have K636 : ∀ (k635 i634 : Nat) (H : Heap) (locs : List Loc) (ls : Array Slot), i634 + k635 = (c 0) → pcQ D vwCl (fun _ => False) s.heap NL ad (ctO cA c v w u ad) H locs → lv_has ls 8 [(7, .int (nI i634)), (6, .int (F_X5_ofPack0 c v w (nI i609))), (5, .int (F_X5_ofPack5 c v w (nI i609))), (4, .int (nI i609)), (3, .int (nI (c 4))), (2, .int (nI (PR c v w (c 0)))), (0, .ref (ad 5 0)), (1, .int (nI (c 0)))] → W p l e (headSpec wsL_isFair ({ frames := 7, cells := 0, slots := 0, locals := 164 })).room s m ([.ref (ad 5 0), .int (nI (c 0))] : List Value).toArray below meth c0 H locs 0 0 (MQ below (va_Qi (fun (r : Int32) (_ : Unit) => r = 1) (fun _ _ => True) (fun _ => False)) ([.ref (ad 5 0), .int (nI (c 0))] : List Value).toArray s 0 0 (fun _ => False)) (F0 m 314 ls []) := by
                  intro k635
                  induction k635 with
                  | zero =>
                    intro i634 H locs ls hk hW hl
                    have ei : i634 = (c 0) := by omega
                    rw [ei] at hl
                    refine lv_aload_n hx hb dL_isFair_314 rfl (lv_at hl 6 rfl) ?_
                    refine lv_iload hx hb dL_isFair_315 (lv_at hl 3 rfl) ?_
                    refine lv_iconst (v := 2) hx hb dL_isFair_317 (by decide) ?_
                    refine pc_qcalli (va_runV (As := [.int (nI i609), .int 2]) (rest := []) ⟨hx, hb, hml, hown, hts⟩ (r_X5_ofPack2 l D cA NL c v w u ad (nI i609) hM hBd hF (nI_nn (Nat.lt_of_lt_of_le hlt9i609 (Nat.le_trans hBd.2.2.2.2 (by decide)))) (by rw [nI_clamp (Nat.lt_of_lt_of_le hlt9i609 (Nat.le_trans hBd.2.2.2.2 (by decide)))]; exact hlt9i609)) (cwV 2 hts gL_isFair_X5_ofPack rfl rfl rfl (by decide +kernel) ⟨Nat.le_of_ble_eq_true rfl, Nat.le_of_ble_eq_true rfl⟩) (pc_preV pcN_ok hX hW.1 hM.1 rfl rfl hW.1) rfl rfl hl.1 rfl (lv_room (Nat.le_of_ble_eq_true rfl)) dL_isFair_318 ⟨Nat.le_of_ble_eq_true rfl, Nat.le_of_ble_eq_true rfl⟩) hW (fun r637 H locs hwr637 hW => ?_)
                    replace hwr637 := hwr637.symm
                    subst hwr637
                    refine lv_iconst (v := 1) hx hb dL_isFair_321 (by decide) ?_
                    refine lv_icmp_ne (tgt := 396) hx hb dL_isFair_322 (by decide) (fun _ => ?_) (fun c638 => absurd c638 c627)
                    refine lv_iinc (v := nI (i609 + 1)) (lv' := [(4, .int (nI (i609 + 1))), (7, .int (nI (c 0))), (6, .int (F_X5_ofPack0 c v w (nI i609))), (5, .int (F_X5_ofPack5 c v w (nI i609))), (3, .int (nI (c 4))), (2, .int (nI (PR c v w (c 0)))), (0, .ref (ad 5 0)), (1, .int (nI (c 0)))]) hx hb dL_isFair_396 hl (k := 3) rfl (nI_1 i609) (by decide) rfl (fun ls hl => ?_)
                    refine lv_goto (tgt := 207) hx hb dL_isFair_399 (by decide) ?_
                    exact ihk610 (i609 + 1) H locs ls (by omega) hW (lv_sub hl [0, 4, 5, 6, 7] rfl)
                  | succ k635 ihk635 =>
                    intro i634 H locs ls hk hW hl
                    have hlt : i634 < (c 0) := by omega
                    have hlt9i634 := hlt
                    refine lv_aload_n hx hb dL_isFair_314 rfl (lv_at hl 6 rfl) ?_
                    refine lv_iload hx hb dL_isFair_315 (lv_at hl 3 rfl) ?_
                    refine lv_iconst (v := 2) hx hb dL_isFair_317 (by decide) ?_
                    refine pc_qcalli (va_runV (As := [.int (nI i609), .int 2]) (rest := []) ⟨hx, hb, hml, hown, hts⟩ (r_X5_ofPack2 l D cA NL c v w u ad (nI i609) hM hBd hF (nI_nn (Nat.lt_of_lt_of_le hlt9i609 (Nat.le_trans hBd.2.2.2.2 (by decide)))) (by rw [nI_clamp (Nat.lt_of_lt_of_le hlt9i609 (Nat.le_trans hBd.2.2.2.2 (by decide)))]; exact hlt9i609)) (cwV 2 hts gL_isFair_X5_ofPack rfl rfl rfl (by decide +kernel) ⟨Nat.le_of_ble_eq_true rfl, Nat.le_of_ble_eq_true rfl⟩) (pc_preV pcN_ok hX hW.1 hM.1 rfl rfl hW.1) rfl rfl hl.1 rfl (lv_room (Nat.le_of_ble_eq_true rfl)) dL_isFair_318 ⟨Nat.le_of_ble_eq_true rfl, Nat.le_of_ble_eq_true rfl⟩) hW (fun r639 H locs hwr639 hW => ?_)
                    replace hwr639 := hwr639.symm
                    subst hwr639
                    refine lv_iconst (v := 1) hx hb dL_isFair_321 (by decide) ?_
                    refine lv_icmp_ne (tgt := 396) hx hb dL_isFair_322 (by decide) (fun _ => ?_) (fun c640 => absurd c640 c627)
                    refine lv_iinc (v := nI (i609 + 1)) (lv' := [(4, .int (nI (i609 + 1))), (7, .int (nI i634)), (6, .int (F_X5_ofPack0 c v w (nI i609))), (5, .int (F_X5_ofPack5 c v w (nI i609))), (3, .int (nI (c 4))), (2, .int (nI (PR c v w (c 0)))), (0, .ref (ad 5 0)), (1, .int (nI (c 0)))]) hx hb dL_isFair_396 hl (k := 3) rfl (nI_1 i609) (by decide) rfl (fun ls hl => ?_)
                    refine lv_goto (tgt := 207) hx hb dL_isFair_399 (by decide) ?_
                    exact ihk610 (i609 + 1) H locs ls (by omega) hW (lv_sub hl [0, 4, 5, 6, 7] rfl)
                exact K636 (c 0) 0 _ _ ls (by omega) hW (lv_sub hl [0, 1, 2, 3, 4, 5, 6, 7] rfl)
              · refine lv_iconst (v := 1) hx hb dL_isFair_277 (by decide) ?_
                refine lv_goto (tgt := 282) hx hb dL_isFair_278 (by decide) ?_
                refine lv_aload_n hx hb dL_isFair_282 rfl (lv_at hl 4 rfl) ?_
                refine lv_iload hx hb dL_isFair_283 (lv_at hl 1 rfl) ?_
                refine lv_iconst (v := 3) hx hb dL_isFair_285 (by decide) ?_
                refine pc_qcalli (va_runV (As := [.int (nI i609), .int 3]) (rest := [.int 1]) ⟨hx, hb, hml, hown, hts⟩ (r_X5_ofPack3 l D cA NL c v w u ad (nI i609) hM hBd hF (nI_nn (Nat.lt_of_lt_of_le hlt9i609 (Nat.le_trans hBd.2.2.2.2 (by decide)))) (by rw [nI_clamp (Nat.lt_of_lt_of_le hlt9i609 (Nat.le_trans hBd.2.2.2.2 (by decide)))]; exact hlt9i609)) (cwV 2 hts gL_isFair_X5_ofPack rfl rfl rfl (by decide +kernel) ⟨Nat.le_of_ble_eq_true rfl, Nat.le_of_ble_eq_true rfl⟩) (pc_preV pcN_ok hX hW.1 hM.1 rfl rfl hW.1) rfl rfl hl.1 rfl (lv_room (Nat.le_of_ble_eq_true rfl)) dL_isFair_286 ⟨Nat.le_of_ble_eq_true rfl, Nat.le_of_ble_eq_true rfl⟩) hW (fun r641 H locs hwr641 hW => ?_)
                replace hwr641 := hwr641.symm
                subst hwr641
                refine lv_if_ne (tgt := 296) hx hb dL_isFair_289 (by decide) (fun c642 => absurd c642 (fun q => q ((fa_done hi hlt9i609).mp c629))) (fun _ => ?_)
                refine lv_iconst (v := 1) hx hb dL_isFair_292 (by decide) ?_
                refine lv_goto (tgt := 297) hx hb dL_isFair_293 (by decide) ?_
                refine lv_icmp_eq (tgt := 302) hx hb dL_isFair_297 (by decide) (fun _ => ?_) (fun c643 => absurd (by decide) c643)
                refine lv_aload_n hx hb dL_isFair_302 rfl (lv_at hl 4 rfl) ?_
                refine lv_iload hx hb dL_isFair_303 (lv_at hl 1 rfl) ?_
                refine lv_iconst (v := 0) hx hb dL_isFair_305 (by decide) ?_
                refine pc_qcalli (va_runV (As := [.int (nI i609), .int 0]) (rest := []) ⟨hx, hb, hml, hown, hts⟩ (r_X5_ofPack0 l D cA NL c v w u ad (nI i609) hM hBd hF (nI_nn (Nat.lt_of_lt_of_le hlt9i609 (Nat.le_trans hBd.2.2.2.2 (by decide)))) (by rw [nI_clamp (Nat.lt_of_lt_of_le hlt9i609 (Nat.le_trans hBd.2.2.2.2 (by decide)))]; exact hlt9i609)) (cwV 2 hts gL_isFair_X5_ofPack rfl rfl rfl (by decide +kernel) ⟨Nat.le_of_ble_eq_true rfl, Nat.le_of_ble_eq_true rfl⟩) (pc_preV pcN_ok hX hW.1 hM.1 rfl rfl hW.1) rfl rfl hl.1 rfl (lv_room (Nat.le_of_ble_eq_true rfl)) dL_isFair_306 ⟨Nat.le_of_ble_eq_true rfl, Nat.le_of_ble_eq_true rfl⟩) hW (fun r644 H locs hwr644 hW => ?_)
                replace hwr644 := hwr644.symm
                subst hwr644
                refine lv_istore (lv' := [(6, .int (F_X5_ofPack0 c v w (nI i609))), (5, .int (F_X5_ofPack5 c v w (nI i609))), (4, .int (nI i609)), (3, .int (nI (c 4))), (2, .int (nI (PR c v w (c 0)))), (0, .ref (ad 5 0)), (1, .int (nI (c 0)))]) hx hb dL_isFair_309 hl (by decide) rfl (fun ls hl => ?_)
                refine lv_iconst (v := 0) hx hb dL_isFair_311 (by decide) ?_
                refine lv_istore (lv' := [(7, .int 0), (6, .int (F_X5_ofPack0 c v w (nI i609))), (5, .int (F_X5_ofPack5 c v w (nI i609))), (4, .int (nI i609)), (3, .int (nI (c 4))), (2, .int (nI (PR c v w (c 0)))), (0, .ref (ad 5 0)), (1, .int (nI (c 0)))]) hx hb dL_isFair_312 hl (by decide) rfl (fun ls hl => ?_)
                have K647 : ∀ (k646 i645 : Nat) (H : Heap) (locs : List Loc) (ls : Array Slot), i645 + k646 = (c 0) → pcQ D vwCl (fun _ => False) s.heap NL ad (ctO cA c v w u ad) H locs → lv_has ls 8 [(7, .int (nI i645)), (6, .int (F_X5_ofPack0 c v w (nI i609))), (5, .int (F_X5_ofPack5 c v w (nI i609))), (4, .int (nI i609)), (3, .int (nI (c 4))), (2, .int (nI (PR c v w (c 0)))), (0, .ref (ad 5 0)), (1, .int (nI (c 0)))] → W p l e (headSpec wsL_isFair ({ frames := 7, cells := 0, slots := 0, locals := 164 })).room s m ([.ref (ad 5 0), .int (nI (c 0))] : List Value).toArray below meth c0 H locs 0 0 (MQ below (va_Qi (fun (r : Int32) (_ : Unit) => r = 1) (fun _ _ => True) (fun _ => False)) ([.ref (ad 5 0), .int (nI (c 0))] : List Value).toArray s 0 0 (fun _ => False)) (F0 m 314 ls []) := by
                  intro k646
                  induction k646 with
                  | zero =>
                    intro i645 H locs ls hk hW hl
                    have ei : i645 = (c 0) := by omega
                    rw [ei] at hl
                    refine lv_aload_n hx hb dL_isFair_314 rfl (lv_at hl 6 rfl) ?_
                    refine lv_iload hx hb dL_isFair_315 (lv_at hl 3 rfl) ?_
                    refine lv_iconst (v := 2) hx hb dL_isFair_317 (by decide) ?_
                    refine pc_qcalli (va_runV (As := [.int (nI i609), .int 2]) (rest := []) ⟨hx, hb, hml, hown, hts⟩ (r_X5_ofPack2 l D cA NL c v w u ad (nI i609) hM hBd hF (nI_nn (Nat.lt_of_lt_of_le hlt9i609 (Nat.le_trans hBd.2.2.2.2 (by decide)))) (by rw [nI_clamp (Nat.lt_of_lt_of_le hlt9i609 (Nat.le_trans hBd.2.2.2.2 (by decide)))]; exact hlt9i609)) (cwV 2 hts gL_isFair_X5_ofPack rfl rfl rfl (by decide +kernel) ⟨Nat.le_of_ble_eq_true rfl, Nat.le_of_ble_eq_true rfl⟩) (pc_preV pcN_ok hX hW.1 hM.1 rfl rfl hW.1) rfl rfl hl.1 rfl (lv_room (Nat.le_of_ble_eq_true rfl)) dL_isFair_318 ⟨Nat.le_of_ble_eq_true rfl, Nat.le_of_ble_eq_true rfl⟩) hW (fun r648 H locs hwr648 hW => ?_)
                    replace hwr648 := hwr648.symm
                    subst hwr648
                    refine lv_iconst (v := 1) hx hb dL_isFair_321 (by decide) ?_
                    refine lv_icmp_ne (tgt := 396) hx hb dL_isFair_322 (by decide) (fun _ => ?_) (fun c649 => absurd c649 c627)
                    refine lv_iinc (v := nI (i609 + 1)) (lv' := [(4, .int (nI (i609 + 1))), (7, .int (nI (c 0))), (6, .int (F_X5_ofPack0 c v w (nI i609))), (5, .int (F_X5_ofPack5 c v w (nI i609))), (3, .int (nI (c 4))), (2, .int (nI (PR c v w (c 0)))), (0, .ref (ad 5 0)), (1, .int (nI (c 0)))]) hx hb dL_isFair_396 hl (k := 3) rfl (nI_1 i609) (by decide) rfl (fun ls hl => ?_)
                    refine lv_goto (tgt := 207) hx hb dL_isFair_399 (by decide) ?_
                    exact ihk610 (i609 + 1) H locs ls (by omega) hW (lv_sub hl [0, 4, 5, 6, 7] rfl)
                  | succ k646 ihk646 =>
                    intro i645 H locs ls hk hW hl
                    have hlt : i645 < (c 0) := by omega
                    have hlt9i645 := hlt
                    refine lv_aload_n hx hb dL_isFair_314 rfl (lv_at hl 6 rfl) ?_
                    refine lv_iload hx hb dL_isFair_315 (lv_at hl 3 rfl) ?_
                    refine lv_iconst (v := 2) hx hb dL_isFair_317 (by decide) ?_
                    refine pc_qcalli (va_runV (As := [.int (nI i609), .int 2]) (rest := []) ⟨hx, hb, hml, hown, hts⟩ (r_X5_ofPack2 l D cA NL c v w u ad (nI i609) hM hBd hF (nI_nn (Nat.lt_of_lt_of_le hlt9i609 (Nat.le_trans hBd.2.2.2.2 (by decide)))) (by rw [nI_clamp (Nat.lt_of_lt_of_le hlt9i609 (Nat.le_trans hBd.2.2.2.2 (by decide)))]; exact hlt9i609)) (cwV 2 hts gL_isFair_X5_ofPack rfl rfl rfl (by decide +kernel) ⟨Nat.le_of_ble_eq_true rfl, Nat.le_of_ble_eq_true rfl⟩) (pc_preV pcN_ok hX hW.1 hM.1 rfl rfl hW.1) rfl rfl hl.1 rfl (lv_room (Nat.le_of_ble_eq_true rfl)) dL_isFair_318 ⟨Nat.le_of_ble_eq_true rfl, Nat.le_of_ble_eq_true rfl⟩) hW (fun r650 H locs hwr650 hW => ?_)
                    replace hwr650 := hwr650.symm
                    subst hwr650
                    refine lv_iconst (v := 1) hx hb dL_isFair_321 (by decide) ?_
                    refine lv_icmp_ne (tgt := 396) hx hb dL_isFair_322 (by decide) (fun _ => ?_) (fun c651 => absurd c651 c627)
                    refine lv_iinc (v := nI (i609 + 1)) (lv' := [(4, .int (nI (i609 + 1))), (7, .int (nI i645)), (6, .int (F_X5_ofPack0 c v w (nI i609))), (5, .int (F_X5_ofPack5 c v w (nI i609))), (3, .int (nI (c 4))), (2, .int (nI (PR c v w (c 0)))), (0, .ref (ad 5 0)), (1, .int (nI (c 0)))]) hx hb dL_isFair_396 hl (k := 3) rfl (nI_1 i609) (by decide) rfl (fun ls hl => ?_)
                    refine lv_goto (tgt := 207) hx hb dL_isFair_399 (by decide) ?_
                    exact ihk610 (i609 + 1) H locs ls (by omega) hW (lv_sub hl [0, 4, 5, 6, 7] rfl)
                exact K647 (c 0) 0 _ _ ls (by omega) hW (lv_sub hl [0, 1, 2, 3, 4, 5, 6, 7] rfl)
            · refine lv_iload hx hb dL_isFair_261 (lv_at hl 0 rfl) ?_
              refine lv_if_gt (tgt := 300) hx hb dL_isFair_263 (by decide) (fun c652 => absurd c652 (fa_run hi hlt9i609 c627).2) (fun _ => ?_)
              refine lv_aload_n hx hb dL_isFair_266 rfl (lv_at hl 4 rfl) ?_
              refine lv_iload hx hb dL_isFair_267 (lv_at hl 1 rfl) ?_
              refine lv_iconst (v := 2) hx hb dL_isFair_269 (by decide) ?_
              refine pc_qcalli (va_runV (As := [.int (nI i609), .int 2]) (rest := []) ⟨hx, hb, hml, hown, hts⟩ (r_X5_ofPack2 l D cA NL c v w u ad (nI i609) hM hBd hF (nI_nn (Nat.lt_of_lt_of_le hlt9i609 (Nat.le_trans hBd.2.2.2.2 (by decide)))) (by rw [nI_clamp (Nat.lt_of_lt_of_le hlt9i609 (Nat.le_trans hBd.2.2.2.2 (by decide)))]; exact hlt9i609)) (cwV 2 hts gL_isFair_X5_ofPack rfl rfl rfl (by decide +kernel) ⟨Nat.le_of_ble_eq_true rfl, Nat.le_of_ble_eq_true rfl⟩) (pc_preV pcN_ok hX hW.1 hM.1 rfl rfl hW.1) rfl rfl hl.1 rfl (lv_room (Nat.le_of_ble_eq_true rfl)) dL_isFair_270 ⟨Nat.le_of_ble_eq_true rfl, Nat.le_of_ble_eq_true rfl⟩) hW (fun r653 H locs hwr653 hW => ?_)
              replace hwr653 := hwr653.symm
              subst hwr653
              refine lv_iconst (v := 3) hx hb dL_isFair_273 (by decide) ?_
              refine lv_icmp_ne (tgt := 281) hx hb dL_isFair_274 (by decide) (fun (c654 : ¬ (F_X5_ofPack2 c v w (nI i609)) = (3 : Int32)) => ?_) (fun (c654 : (F_X5_ofPack2 c v w (nI i609)) = (3 : Int32)) => ?_)
              · refine lv_iconst (v := 0) hx hb dL_isFair_281 (by decide) ?_
                refine lv_aload_n hx hb dL_isFair_282 rfl (lv_at hl 4 rfl) ?_
                refine lv_iload hx hb dL_isFair_283 (lv_at hl 1 rfl) ?_
                refine lv_iconst (v := 3) hx hb dL_isFair_285 (by decide) ?_
                refine pc_qcalli (va_runV (As := [.int (nI i609), .int 3]) (rest := [.int 0]) ⟨hx, hb, hml, hown, hts⟩ (r_X5_ofPack3 l D cA NL c v w u ad (nI i609) hM hBd hF (nI_nn (Nat.lt_of_lt_of_le hlt9i609 (Nat.le_trans hBd.2.2.2.2 (by decide)))) (by rw [nI_clamp (Nat.lt_of_lt_of_le hlt9i609 (Nat.le_trans hBd.2.2.2.2 (by decide)))]; exact hlt9i609)) (cwV 2 hts gL_isFair_X5_ofPack rfl rfl rfl (by decide +kernel) ⟨Nat.le_of_ble_eq_true rfl, Nat.le_of_ble_eq_true rfl⟩) (pc_preV pcN_ok hX hW.1 hM.1 rfl rfl hW.1) rfl rfl hl.1 rfl (lv_room (Nat.le_of_ble_eq_true rfl)) dL_isFair_286 ⟨Nat.le_of_ble_eq_true rfl, Nat.le_of_ble_eq_true rfl⟩) hW (fun r655 H locs hwr655 hW => ?_)
                replace hwr655 := hwr655.symm
                subst hwr655
                refine lv_if_ne (tgt := 296) hx hb dL_isFair_289 (by decide) (fun _ => ?_) (fun c656 => absurd c656 (fun q => c654 ((fa_done hi hlt9i609).mpr q)))
                refine lv_iconst (v := 0) hx hb dL_isFair_296 (by decide) ?_
                refine lv_icmp_eq (tgt := 302) hx hb dL_isFair_297 (by decide) (fun _ => ?_) (fun c657 => absurd (by decide) c657)
                refine lv_aload_n hx hb dL_isFair_302 rfl (lv_at hl 4 rfl) ?_
                refine lv_iload hx hb dL_isFair_303 (lv_at hl 1 rfl) ?_
                refine lv_iconst (v := 0) hx hb dL_isFair_305 (by decide) ?_
                refine pc_qcalli (va_runV (As := [.int (nI i609), .int 0]) (rest := []) ⟨hx, hb, hml, hown, hts⟩ (r_X5_ofPack0 l D cA NL c v w u ad (nI i609) hM hBd hF (nI_nn (Nat.lt_of_lt_of_le hlt9i609 (Nat.le_trans hBd.2.2.2.2 (by decide)))) (by rw [nI_clamp (Nat.lt_of_lt_of_le hlt9i609 (Nat.le_trans hBd.2.2.2.2 (by decide)))]; exact hlt9i609)) (cwV 2 hts gL_isFair_X5_ofPack rfl rfl rfl (by decide +kernel) ⟨Nat.le_of_ble_eq_true rfl, Nat.le_of_ble_eq_true rfl⟩) (pc_preV pcN_ok hX hW.1 hM.1 rfl rfl hW.1) rfl rfl hl.1 rfl (lv_room (Nat.le_of_ble_eq_true rfl)) dL_isFair_306 ⟨Nat.le_of_ble_eq_true rfl, Nat.le_of_ble_eq_true rfl⟩) hW (fun r658 H locs hwr658 hW => ?_)
                replace hwr658 := hwr658.symm
                subst hwr658
                refine lv_istore (lv' := [(6, .int (F_X5_ofPack0 c v w (nI i609))), (5, .int (F_X5_ofPack5 c v w (nI i609))), (4, .int (nI i609)), (3, .int (nI (c 4))), (2, .int (nI (PR c v w (c 0)))), (0, .ref (ad 5 0)), (1, .int (nI (c 0)))]) hx hb dL_isFair_309 hl (by decide) rfl (fun ls hl => ?_)
                refine lv_iconst (v := 0) hx hb dL_isFair_311 (by decide) ?_
                refine lv_istore (lv' := [(7, .int 0), (6, .int (F_X5_ofPack0 c v w (nI i609))), (5, .int (F_X5_ofPack5 c v w (nI i609))), (4, .int (nI i609)), (3, .int (nI (c 4))), (2, .int (nI (PR c v w (c 0)))), (0, .ref (ad 5 0)), (1, .int (nI (c 0)))]) hx hb dL_isFair_312 hl (by decide) rfl (fun ls hl => ?_)
                have K661 : ∀ (k660 i659 : Nat) (H : Heap) (locs : List Loc) (ls : Array Slot), i659 + k660 = (c 0) → pcQ D vwCl (fun _ => False) s.heap NL ad (ctO cA c v w u ad) H locs → lv_has ls 8 [(7, .int (nI i659)), (6, .int (F_X5_ofPack0 c v w (nI i609))), (5, .int (F_X5_ofPack5 c v w (nI i609))), (4, .int (nI i609)), (3, .int (nI (c 4))), (2, .int (nI (PR c v w (c 0)))), (0, .ref (ad 5 0)), (1, .int (nI (c 0)))] → W p l e (headSpec wsL_isFair ({ frames := 7, cells := 0, slots := 0, locals := 164 })).room s m ([.ref (ad 5 0), .int (nI (c 0))] : List Value).toArray below meth c0 H locs 0 0 (MQ below (va_Qi (fun (r : Int32) (_ : Unit) => r = 1) (fun _ _ => True) (fun _ => False)) ([.ref (ad 5 0), .int (nI (c 0))] : List Value).toArray s 0 0 (fun _ => False)) (F0 m 314 ls []) := by
                  intro k660
                  induction k660 with
                  | zero =>
                    intro i659 H locs ls hk hW hl
                    have ei : i659 = (c 0) := by omega
                    rw [ei] at hl
                    refine lv_aload_n hx hb dL_isFair_314 rfl (lv_at hl 6 rfl) ?_
                    refine lv_iload hx hb dL_isFair_315 (lv_at hl 3 rfl) ?_
                    refine lv_iconst (v := 2) hx hb dL_isFair_317 (by decide) ?_
                    refine pc_qcalli (va_runV (As := [.int (nI i609), .int 2]) (rest := []) ⟨hx, hb, hml, hown, hts⟩ (r_X5_ofPack2 l D cA NL c v w u ad (nI i609) hM hBd hF (nI_nn (Nat.lt_of_lt_of_le hlt9i609 (Nat.le_trans hBd.2.2.2.2 (by decide)))) (by rw [nI_clamp (Nat.lt_of_lt_of_le hlt9i609 (Nat.le_trans hBd.2.2.2.2 (by decide)))]; exact hlt9i609)) (cwV 2 hts gL_isFair_X5_ofPack rfl rfl rfl (by decide +kernel) ⟨Nat.le_of_ble_eq_true rfl, Nat.le_of_ble_eq_true rfl⟩) (pc_preV pcN_ok hX hW.1 hM.1 rfl rfl hW.1) rfl rfl hl.1 rfl (lv_room (Nat.le_of_ble_eq_true rfl)) dL_isFair_318 ⟨Nat.le_of_ble_eq_true rfl, Nat.le_of_ble_eq_true rfl⟩) hW (fun r662 H locs hwr662 hW => ?_)
                    replace hwr662 := hwr662.symm
                    subst hwr662
                    refine lv_iconst (v := 1) hx hb dL_isFair_321 (by decide) ?_
                    refine lv_icmp_ne (tgt := 396) hx hb dL_isFair_322 (by decide) (fun c663 => absurd c663 (fun q => q c627)) (fun _ => ?_)
                    refine lv_iload hx hb dL_isFair_325 (lv_at hl 0 rfl) ?_
                    refine lv_iload_n hx hb dL_isFair_327 rfl (lv_at hl 7 rfl) ?_
                    refine lv_icmp_ge (tgt := 396) hx hb dL_isFair_328 (by decide) (fun _ => ?_) (fun c664 => absurd (Int32.le_refl _) c664)
                    refine lv_iinc (v := nI (i609 + 1)) (lv' := [(4, .int (nI (i609 + 1))), (7, .int (nI (c 0))), (6, .int (F_X5_ofPack0 c v w (nI i609))), (5, .int (F_X5_ofPack5 c v w (nI i609))), (3, .int (nI (c 4))), (2, .int (nI (PR c v w (c 0)))), (0, .ref (ad 5 0)), (1, .int (nI (c 0)))]) hx hb dL_isFair_396 hl (k := 3) rfl (nI_1 i609) (by decide) rfl (fun ls hl => ?_)
                    refine lv_goto (tgt := 207) hx hb dL_isFair_399 (by decide) ?_
                    exact ihk610 (i609 + 1) H locs ls (by omega) hW (lv_sub hl [0, 4, 5, 6, 7] rfl)
                  | succ k660 ihk660 =>
                    intro i659 H locs ls hk hW hl
                    have hlt : i659 < (c 0) := by omega
                    have hlt9i659 := hlt
                    refine lv_aload_n hx hb dL_isFair_314 rfl (lv_at hl 6 rfl) ?_
                    refine lv_iload hx hb dL_isFair_315 (lv_at hl 3 rfl) ?_
                    refine lv_iconst (v := 2) hx hb dL_isFair_317 (by decide) ?_
                    refine pc_qcalli (va_runV (As := [.int (nI i609), .int 2]) (rest := []) ⟨hx, hb, hml, hown, hts⟩ (r_X5_ofPack2 l D cA NL c v w u ad (nI i609) hM hBd hF (nI_nn (Nat.lt_of_lt_of_le hlt9i609 (Nat.le_trans hBd.2.2.2.2 (by decide)))) (by rw [nI_clamp (Nat.lt_of_lt_of_le hlt9i609 (Nat.le_trans hBd.2.2.2.2 (by decide)))]; exact hlt9i609)) (cwV 2 hts gL_isFair_X5_ofPack rfl rfl rfl (by decide +kernel) ⟨Nat.le_of_ble_eq_true rfl, Nat.le_of_ble_eq_true rfl⟩) (pc_preV pcN_ok hX hW.1 hM.1 rfl rfl hW.1) rfl rfl hl.1 rfl (lv_room (Nat.le_of_ble_eq_true rfl)) dL_isFair_318 ⟨Nat.le_of_ble_eq_true rfl, Nat.le_of_ble_eq_true rfl⟩) hW (fun r665 H locs hwr665 hW => ?_)
                    replace hwr665 := hwr665.symm
                    subst hwr665
                    refine lv_iconst (v := 1) hx hb dL_isFair_321 (by decide) ?_
                    refine lv_icmp_ne (tgt := 396) hx hb dL_isFair_322 (by decide) (fun c666 => absurd c666 (fun q => q c627)) (fun _ => ?_)
                    refine lv_iload hx hb dL_isFair_325 (lv_at hl 0 rfl) ?_
                    refine lv_iload_n hx hb dL_isFair_327 rfl (lv_at hl 7 rfl) ?_
                    refine lv_icmp_ge (tgt := 396) hx hb dL_isFair_328 (by decide) (fun c667 => absurd c667 (nI_ge hlt (Nat.lt_of_le_of_lt hBd.1 (by decide)))) (fun _ => ?_)
                    refine lv_aload_n hx hb dL_isFair_331 rfl (lv_at hl 6 rfl) ?_
                    refine lv_iload hx hb dL_isFair_332 (lv_at hl 3 rfl) ?_
                    refine lv_iconst (v := 1) hx hb dL_isFair_334 (by decide) ?_
                    refine pc_qcalli (va_runV (As := [.int (nI i609), .int 1]) (rest := []) ⟨hx, hb, hml, hown, hts⟩ (r_X5_ofPack1 l D cA NL c v w u ad (nI i609) hM hBd hF (nI_nn (Nat.lt_of_lt_of_le hlt9i609 (Nat.le_trans hBd.2.2.2.2 (by decide)))) (by rw [nI_clamp (Nat.lt_of_lt_of_le hlt9i609 (Nat.le_trans hBd.2.2.2.2 (by decide)))]; exact hlt9i609)) (cwV 2 hts gL_isFair_X5_ofPack rfl rfl rfl (by decide +kernel) ⟨Nat.le_of_ble_eq_true rfl, Nat.le_of_ble_eq_true rfl⟩) (pc_preV pcN_ok hX hW.1 hM.1 rfl rfl hW.1) rfl rfl hl.1 rfl (lv_room (Nat.le_of_ble_eq_true rfl)) dL_isFair_335 ⟨Nat.le_of_ble_eq_true rfl, Nat.le_of_ble_eq_true rfl⟩) hW (fun r668 H locs hwr668 hW => ?_)
                    replace hwr668 := hwr668.symm
                    subst hwr668
                    refine lv_iload hx hb dL_isFair_338 (lv_at hl 0 rfl) ?_
                    refine lv_ishr hx hb dL_isFair_340 ?_
                    refine lv_iconst (v := 1) hx hb dL_isFair_341 (by decide) ?_
                    refine lv_iand hx hb dL_isFair_342 ?_
                    refine lv_iconst (v := 1) hx hb dL_isFair_343 (by decide) ?_
                    refine lv_icmp_ne (tgt := 390) hx hb dL_isFair_344 (by decide) (fun (c669 : ¬ (((F_X5_ofPack1 c v w (nI i609)) >>> ((nI i659) &&& 31)) &&& (1 : Int32)) = (1 : Int32)) => ?_) (fun (c669 : (((F_X5_ofPack1 c v w (nI i609)) >>> ((nI i659) &&& 31)) &&& (1 : Int32)) = (1 : Int32)) => ?_)
                    · refine lv_iinc (v := nI (i659 + 1)) (lv' := [(7, .int (nI (i659 + 1))), (6, .int (F_X5_ofPack0 c v w (nI i609))), (5, .int (F_X5_ofPack5 c v w (nI i609))), (4, .int (nI i609)), (3, .int (nI (c 4))), (2, .int (nI (PR c v w (c 0)))), (0, .ref (ad 5 0)), (1, .int (nI (c 0)))]) hx hb dL_isFair_390 hl (k := 0) rfl (nI_1 i659) (by decide) rfl (fun ls hl => ?_)
                      refine lv_goto (tgt := 314) hx hb dL_isFair_393 (by decide) ?_
                      exact ihk660 (i659 + 1) H locs ls (by omega) hW (lv_sub hl [0, 1, 2, 3, 4, 5, 6, 7] rfl)
                    · refine lv_aload_n hx hb dL_isFair_347 rfl (lv_at hl 6 rfl) ?_
                      refine lv_iload hx hb dL_isFair_348 (lv_at hl 1 rfl) ?_
                      refine lv_iload hx hb dL_isFair_350 (lv_at hl 0 rfl) ?_
                      refine pc_qcalli (va_runV (As := [.int (F_X5_ofPack0 c v w (nI i609)), .int (nI i659)]) (rest := []) ⟨hx, hb, hml, hown, hts⟩ (r_X5_has l D cA NL c v w u ad (F_X5_ofPack0 c v w (nI i609)) (nI i659) hM hBd hF (fa_crew hi hlt9i609).1 (fa_crew hi hlt9i609).2 (nI_nn (Nat.lt_of_lt_of_le hlt9i659 (Nat.le_trans hBd.1 (by decide)))) (by rw [nI_clamp (Nat.lt_of_lt_of_le hlt9i659 (Nat.le_trans hBd.1 (by decide)))]; exact hlt9i659)) (cwV 2 hts gL_isFair_X5_has rfl rfl rfl (by decide +kernel) ⟨Nat.le_of_ble_eq_true rfl, Nat.le_of_ble_eq_true rfl⟩) (pc_preV pcN_ok hX hW.1 hM.1 rfl rfl hW.1) rfl rfl hl.1 rfl (lv_room (Nat.le_of_ble_eq_true rfl)) dL_isFair_352 ⟨Nat.le_of_ble_eq_true rfl, Nat.le_of_ble_eq_true rfl⟩) hW (fun r670 H locs hwr670 hW => ?_)
                      replace hwr670 := hwr670.symm
                      subst hwr670
                      refine lv_aload_n hx hb dL_isFair_355 rfl (lv_at hl 6 rfl) ?_
                      refine lv_iload hx hb dL_isFair_356 (lv_at hl 0 rfl) ?_
                      refine lv_iconst (v := 2) hx hb dL_isFair_358 (by decide) ?_
                      refine pc_qcalli (va_runV (As := [.int (nI i659), .int 2]) (rest := [.int (F_X5_has c v w (F_X5_ofPack0 c v w (nI i609)) (nI i659))]) ⟨hx, hb, hml, hown, hts⟩ (r_X5_ofSheet2 l D cA NL c v w u ad (nI i659) hM hBd hF (nI_nn (Nat.lt_of_lt_of_le hlt9i659 (Nat.le_trans hBd.1 (by decide)))) (by rw [nI_clamp (Nat.lt_of_lt_of_le hlt9i659 (Nat.le_trans hBd.1 (by decide)))]; exact hlt9i659)) (cwV 2 hts gL_isFair_X5_ofSheet rfl rfl rfl (by decide +kernel) ⟨Nat.le_of_ble_eq_true rfl, Nat.le_of_ble_eq_true rfl⟩) (pc_preV pcN_ok hX hW.1 hM.1 rfl rfl hW.1) rfl rfl hl.1 rfl (lv_room (Nat.le_of_ble_eq_true rfl)) dL_isFair_359 ⟨Nat.le_of_ble_eq_true rfl, Nat.le_of_ble_eq_true rfl⟩) hW (fun r671 H locs hwr671 hW => ?_)
                      replace hwr671 := hwr671.symm
                      subst hwr671
                      refine lv_icmp_ne (tgt := 388) hx hb dL_isFair_362 (by decide) (fun c672 => absurd c672 (fun q => q (fa_sheet hi hlt9i609 hlt9i659 c627 c669).1)) (fun _ => ?_)
                      refine lv_aload_n hx hb dL_isFair_365 rfl (lv_at hl 6 rfl) ?_
                      refine lv_iload hx hb dL_isFair_366 (lv_at hl 0 rfl) ?_
                      refine lv_bipush (v := 7) hx hb dL_isFair_368 (by decide) ?_
                      refine pc_qcalli (va_runV (As := [.int (nI i659), .int 7]) (rest := []) ⟨hx, hb, hml, hown, hts⟩ (r_X5_ofSheet7 l D cA NL c v w u ad (nI i659) hM hBd hF (nI_nn (Nat.lt_of_lt_of_le hlt9i659 (Nat.le_trans hBd.1 (by decide)))) (by rw [nI_clamp (Nat.lt_of_lt_of_le hlt9i659 (Nat.le_trans hBd.1 (by decide)))]; exact hlt9i659)) (cwV 2 hts gL_isFair_X5_ofSheet rfl rfl rfl (by decide +kernel) ⟨Nat.le_of_ble_eq_true rfl, Nat.le_of_ble_eq_true rfl⟩) (pc_preV pcN_ok hX hW.1 hM.1 rfl rfl hW.1) rfl rfl hl.1 rfl (lv_room (Nat.le_of_ble_eq_true rfl)) dL_isFair_370 ⟨Nat.le_of_ble_eq_true rfl, Nat.le_of_ble_eq_true rfl⟩) hW (fun r673 H locs hwr673 hW => ?_)
                      replace hwr673 := hwr673.symm
                      subst hwr673
                      refine lv_if_gt (tgt := 388) hx hb dL_isFair_373 (by decide) (fun c674 => absurd c674 (fa_sheet hi hlt9i609 hlt9i659 c627 c669).2.1) (fun _ => ?_)
                      refine lv_aload_n hx hb dL_isFair_376 rfl (lv_at hl 6 rfl) ?_
                      refine lv_iload hx hb dL_isFair_377 (lv_at hl 0 rfl) ?_
                      refine lv_bipush (v := 6) hx hb dL_isFair_379 (by decide) ?_
                      refine pc_qcalli (va_runV (As := [.int (nI i659), .int 6]) (rest := []) ⟨hx, hb, hml, hown, hts⟩ (r_X5_ofSheet6 l D cA NL c v w u ad (nI i659) hM hBd hF (nI_nn (Nat.lt_of_lt_of_le hlt9i659 (Nat.le_trans hBd.1 (by decide)))) (by rw [nI_clamp (Nat.lt_of_lt_of_le hlt9i659 (Nat.le_trans hBd.1 (by decide)))]; exact hlt9i659)) (cwV 2 hts gL_isFair_X5_ofSheet rfl rfl rfl (by decide +kernel) ⟨Nat.le_of_ble_eq_true rfl, Nat.le_of_ble_eq_true rfl⟩) (pc_preV pcN_ok hX hW.1 hM.1 rfl rfl hW.1) rfl rfl hl.1 rfl (lv_room (Nat.le_of_ble_eq_true rfl)) dL_isFair_381 ⟨Nat.le_of_ble_eq_true rfl, Nat.le_of_ble_eq_true rfl⟩) hW (fun r675 H locs hwr675 hW => ?_)
                      replace hwr675 := hwr675.symm
                      subst hwr675
                      refine lv_iconst (v := 2) hx hb dL_isFair_384 (by decide) ?_
                      refine lv_icmp_le (tgt := 390) hx hb dL_isFair_385 (by decide) (fun _ => ?_) (fun c676 => absurd (fa_sheet hi hlt9i609 hlt9i659 c627 c669).2.2 c676)
                      refine lv_iinc (v := nI (i659 + 1)) (lv' := [(7, .int (nI (i659 + 1))), (6, .int (F_X5_ofPack0 c v w (nI i609))), (5, .int (F_X5_ofPack5 c v w (nI i609))), (4, .int (nI i609)), (3, .int (nI (c 4))), (2, .int (nI (PR c v w (c 0)))), (0, .ref (ad 5 0)), (1, .int (nI (c 0)))]) hx hb dL_isFair_390 hl (k := 0) rfl (nI_1 i659) (by decide) rfl (fun ls hl => ?_)
                      refine lv_goto (tgt := 314) hx hb dL_isFair_393 (by decide) ?_
                      exact ihk660 (i659 + 1) H locs ls (by omega) hW (lv_sub hl [0, 1, 2, 3, 4, 5, 6, 7] rfl)
                exact K661 (c 0) 0 _ _ ls (by omega) hW (lv_sub hl [0, 1, 2, 3, 4, 5, 6, 7] rfl)
              · refine lv_iconst (v := 1) hx hb dL_isFair_277 (by decide) ?_
                refine lv_goto (tgt := 282) hx hb dL_isFair_278 (by decide) ?_
                refine lv_aload_n hx hb dL_isFair_282 rfl (lv_at hl 4 rfl) ?_
                refine lv_iload hx hb dL_isFair_283 (lv_at hl 1 rfl) ?_
                refine lv_iconst (v := 3) hx hb dL_isFair_285 (by decide) ?_
                refine pc_qcalli (va_runV (As := [.int (nI i609), .int 3]) (rest := [.int 1]) ⟨hx, hb, hml, hown, hts⟩ (r_X5_ofPack3 l D cA NL c v w u ad (nI i609) hM hBd hF (nI_nn (Nat.lt_of_lt_of_le hlt9i609 (Nat.le_trans hBd.2.2.2.2 (by decide)))) (by rw [nI_clamp (Nat.lt_of_lt_of_le hlt9i609 (Nat.le_trans hBd.2.2.2.2 (by decide)))]; exact hlt9i609)) (cwV 2 hts gL_isFair_X5_ofPack rfl rfl rfl (by decide +kernel) ⟨Nat.le_of_ble_eq_true rfl, Nat.le_of_ble_eq_true rfl⟩) (pc_preV pcN_ok hX hW.1 hM.1 rfl rfl hW.1) rfl rfl hl.1 rfl (lv_room (Nat.le_of_ble_eq_true rfl)) dL_isFair_286 ⟨Nat.le_of_ble_eq_true rfl, Nat.le_of_ble_eq_true rfl⟩) hW (fun r677 H locs hwr677 hW => ?_)
                replace hwr677 := hwr677.symm
                subst hwr677
                refine lv_if_ne (tgt := 296) hx hb dL_isFair_289 (by decide) (fun c678 => absurd c678 (fun q => q ((fa_done hi hlt9i609).mp c654))) (fun _ => ?_)
                refine lv_iconst (v := 1) hx hb dL_isFair_292 (by decide) ?_
                refine lv_goto (tgt := 297) hx hb dL_isFair_293 (by decide) ?_
                refine lv_icmp_eq (tgt := 302) hx hb dL_isFair_297 (by decide) (fun _ => ?_) (fun c679 => absurd (by decide) c679)
                refine lv_aload_n hx hb dL_isFair_302 rfl (lv_at hl 4 rfl) ?_
                refine lv_iload hx hb dL_isFair_303 (lv_at hl 1 rfl) ?_
                refine lv_iconst (v := 0) hx hb dL_isFair_305 (by decide) ?_
                refine pc_qcalli (va_runV (As := [.int (nI i609), .int 0]) (rest := []) ⟨hx, hb, hml, hown, hts⟩ (r_X5_ofPack0 l D cA NL c v w u ad (nI i609) hM hBd hF (nI_nn (Nat.lt_of_lt_of_le hlt9i609 (Nat.le_trans hBd.2.2.2.2 (by decide)))) (by rw [nI_clamp (Nat.lt_of_lt_of_le hlt9i609 (Nat.le_trans hBd.2.2.2.2 (by decide)))]; exact hlt9i609)) (cwV 2 hts gL_isFair_X5_ofPack rfl rfl rfl (by decide +kernel) ⟨Nat.le_of_ble_eq_true rfl, Nat.le_of_ble_eq_true rfl⟩) (pc_preV pcN_ok hX hW.1 hM.1 rfl rfl hW.1) rfl rfl hl.1 rfl (lv_room (Nat.le_of_ble_eq_true rfl)) dL_isFair_306 ⟨Nat.le_of_ble_eq_true rfl, Nat.le_of_ble_eq_true rfl⟩) hW (fun r680 H locs hwr680 hW => ?_)
                replace hwr680 := hwr680.symm
                subst hwr680
                refine lv_istore (lv' := [(6, .int (F_X5_ofPack0 c v w (nI i609))), (5, .int (F_X5_ofPack5 c v w (nI i609))), (4, .int (nI i609)), (3, .int (nI (c 4))), (2, .int (nI (PR c v w (c 0)))), (0, .ref (ad 5 0)), (1, .int (nI (c 0)))]) hx hb dL_isFair_309 hl (by decide) rfl (fun ls hl => ?_)
                refine lv_iconst (v := 0) hx hb dL_isFair_311 (by decide) ?_
                refine lv_istore (lv' := [(7, .int 0), (6, .int (F_X5_ofPack0 c v w (nI i609))), (5, .int (F_X5_ofPack5 c v w (nI i609))), (4, .int (nI i609)), (3, .int (nI (c 4))), (2, .int (nI (PR c v w (c 0)))), (0, .ref (ad 5 0)), (1, .int (nI (c 0)))]) hx hb dL_isFair_312 hl (by decide) rfl (fun ls hl => ?_)
                have K683 : ∀ (k682 i681 : Nat) (H : Heap) (locs : List Loc) (ls : Array Slot), i681 + k682 = (c 0) → pcQ D vwCl (fun _ => False) s.heap NL ad (ctO cA c v w u ad) H locs → lv_has ls 8 [(7, .int (nI i681)), (6, .int (F_X5_ofPack0 c v w (nI i609))), (5, .int (F_X5_ofPack5 c v w (nI i609))), (4, .int (nI i609)), (3, .int (nI (c 4))), (2, .int (nI (PR c v w (c 0)))), (0, .ref (ad 5 0)), (1, .int (nI (c 0)))] → W p l e (headSpec wsL_isFair ({ frames := 7, cells := 0, slots := 0, locals := 164 })).room s m ([.ref (ad 5 0), .int (nI (c 0))] : List Value).toArray below meth c0 H locs 0 0 (MQ below (va_Qi (fun (r : Int32) (_ : Unit) => r = 1) (fun _ _ => True) (fun _ => False)) ([.ref (ad 5 0), .int (nI (c 0))] : List Value).toArray s 0 0 (fun _ => False)) (F0 m 314 ls []) := by
                  intro k682
                  induction k682 with
                  | zero =>
                    intro i681 H locs ls hk hW hl
                    have ei : i681 = (c 0) := by omega
                    rw [ei] at hl
                    refine lv_aload_n hx hb dL_isFair_314 rfl (lv_at hl 6 rfl) ?_
                    refine lv_iload hx hb dL_isFair_315 (lv_at hl 3 rfl) ?_
                    refine lv_iconst (v := 2) hx hb dL_isFair_317 (by decide) ?_
                    refine pc_qcalli (va_runV (As := [.int (nI i609), .int 2]) (rest := []) ⟨hx, hb, hml, hown, hts⟩ (r_X5_ofPack2 l D cA NL c v w u ad (nI i609) hM hBd hF (nI_nn (Nat.lt_of_lt_of_le hlt9i609 (Nat.le_trans hBd.2.2.2.2 (by decide)))) (by rw [nI_clamp (Nat.lt_of_lt_of_le hlt9i609 (Nat.le_trans hBd.2.2.2.2 (by decide)))]; exact hlt9i609)) (cwV 2 hts gL_isFair_X5_ofPack rfl rfl rfl (by decide +kernel) ⟨Nat.le_of_ble_eq_true rfl, Nat.le_of_ble_eq_true rfl⟩) (pc_preV pcN_ok hX hW.1 hM.1 rfl rfl hW.1) rfl rfl hl.1 rfl (lv_room (Nat.le_of_ble_eq_true rfl)) dL_isFair_318 ⟨Nat.le_of_ble_eq_true rfl, Nat.le_of_ble_eq_true rfl⟩) hW (fun r684 H locs hwr684 hW => ?_)
                    replace hwr684 := hwr684.symm
                    subst hwr684
                    refine lv_iconst (v := 1) hx hb dL_isFair_321 (by decide) ?_
                    refine lv_icmp_ne (tgt := 396) hx hb dL_isFair_322 (by decide) (fun c685 => absurd c685 (fun q => q c627)) (fun _ => ?_)
                    refine lv_iload hx hb dL_isFair_325 (lv_at hl 0 rfl) ?_
                    refine lv_iload_n hx hb dL_isFair_327 rfl (lv_at hl 7 rfl) ?_
                    refine lv_icmp_ge (tgt := 396) hx hb dL_isFair_328 (by decide) (fun _ => ?_) (fun c686 => absurd (Int32.le_refl _) c686)
                    refine lv_iinc (v := nI (i609 + 1)) (lv' := [(4, .int (nI (i609 + 1))), (7, .int (nI (c 0))), (6, .int (F_X5_ofPack0 c v w (nI i609))), (5, .int (F_X5_ofPack5 c v w (nI i609))), (3, .int (nI (c 4))), (2, .int (nI (PR c v w (c 0)))), (0, .ref (ad 5 0)), (1, .int (nI (c 0)))]) hx hb dL_isFair_396 hl (k := 3) rfl (nI_1 i609) (by decide) rfl (fun ls hl => ?_)
                    refine lv_goto (tgt := 207) hx hb dL_isFair_399 (by decide) ?_
                    exact ihk610 (i609 + 1) H locs ls (by omega) hW (lv_sub hl [0, 4, 5, 6, 7] rfl)
                  | succ k682 ihk682 =>
                    intro i681 H locs ls hk hW hl
                    have hlt : i681 < (c 0) := by omega
                    have hlt9i681 := hlt
                    refine lv_aload_n hx hb dL_isFair_314 rfl (lv_at hl 6 rfl) ?_
                    refine lv_iload hx hb dL_isFair_315 (lv_at hl 3 rfl) ?_
                    refine lv_iconst (v := 2) hx hb dL_isFair_317 (by decide) ?_
                    refine pc_qcalli (va_runV (As := [.int (nI i609), .int 2]) (rest := []) ⟨hx, hb, hml, hown, hts⟩ (r_X5_ofPack2 l D cA NL c v w u ad (nI i609) hM hBd hF (nI_nn (Nat.lt_of_lt_of_le hlt9i609 (Nat.le_trans hBd.2.2.2.2 (by decide)))) (by rw [nI_clamp (Nat.lt_of_lt_of_le hlt9i609 (Nat.le_trans hBd.2.2.2.2 (by decide)))]; exact hlt9i609)) (cwV 2 hts gL_isFair_X5_ofPack rfl rfl rfl (by decide +kernel) ⟨Nat.le_of_ble_eq_true rfl, Nat.le_of_ble_eq_true rfl⟩) (pc_preV pcN_ok hX hW.1 hM.1 rfl rfl hW.1) rfl rfl hl.1 rfl (lv_room (Nat.le_of_ble_eq_true rfl)) dL_isFair_318 ⟨Nat.le_of_ble_eq_true rfl, Nat.le_of_ble_eq_true rfl⟩) hW (fun r687 H locs hwr687 hW => ?_)
                    replace hwr687 := hwr687.symm
                    subst hwr687
                    refine lv_iconst (v := 1) hx hb dL_isFair_321 (by decide) ?_
                    refine lv_icmp_ne (tgt := 396) hx hb dL_isFair_322 (by decide) (fun c688 => absurd c688 (fun q => q c627)) (fun _ => ?_)
                    refine lv_iload hx hb dL_isFair_325 (lv_at hl 0 rfl) ?_
                    refine lv_iload_n hx hb dL_isFair_327 rfl (lv_at hl 7 rfl) ?_
                    refine lv_icmp_ge (tgt := 396) hx hb dL_isFair_328 (by decide) (fun c689 => absurd c689 (nI_ge hlt (Nat.lt_of_le_of_lt hBd.1 (by decide)))) (fun _ => ?_)
                    refine lv_aload_n hx hb dL_isFair_331 rfl (lv_at hl 6 rfl) ?_
                    refine lv_iload hx hb dL_isFair_332 (lv_at hl 3 rfl) ?_
                    refine lv_iconst (v := 1) hx hb dL_isFair_334 (by decide) ?_
                    refine pc_qcalli (va_runV (As := [.int (nI i609), .int 1]) (rest := []) ⟨hx, hb, hml, hown, hts⟩ (r_X5_ofPack1 l D cA NL c v w u ad (nI i609) hM hBd hF (nI_nn (Nat.lt_of_lt_of_le hlt9i609 (Nat.le_trans hBd.2.2.2.2 (by decide)))) (by rw [nI_clamp (Nat.lt_of_lt_of_le hlt9i609 (Nat.le_trans hBd.2.2.2.2 (by decide)))]; exact hlt9i609)) (cwV 2 hts gL_isFair_X5_ofPack rfl rfl rfl (by decide +kernel) ⟨Nat.le_of_ble_eq_true rfl, Nat.le_of_ble_eq_true rfl⟩) (pc_preV pcN_ok hX hW.1 hM.1 rfl rfl hW.1) rfl rfl hl.1 rfl (lv_room (Nat.le_of_ble_eq_true rfl)) dL_isFair_335 ⟨Nat.le_of_ble_eq_true rfl, Nat.le_of_ble_eq_true rfl⟩) hW (fun r690 H locs hwr690 hW => ?_)
                    replace hwr690 := hwr690.symm
                    subst hwr690
                    refine lv_iload hx hb dL_isFair_338 (lv_at hl 0 rfl) ?_
                    refine lv_ishr hx hb dL_isFair_340 ?_
                    refine lv_iconst (v := 1) hx hb dL_isFair_341 (by decide) ?_
                    refine lv_iand hx hb dL_isFair_342 ?_
                    refine lv_iconst (v := 1) hx hb dL_isFair_343 (by decide) ?_
                    refine lv_icmp_ne (tgt := 390) hx hb dL_isFair_344 (by decide) (fun (c691 : ¬ (((F_X5_ofPack1 c v w (nI i609)) >>> ((nI i681) &&& 31)) &&& (1 : Int32)) = (1 : Int32)) => ?_) (fun (c691 : (((F_X5_ofPack1 c v w (nI i609)) >>> ((nI i681) &&& 31)) &&& (1 : Int32)) = (1 : Int32)) => ?_)
                    · refine lv_iinc (v := nI (i681 + 1)) (lv' := [(7, .int (nI (i681 + 1))), (6, .int (F_X5_ofPack0 c v w (nI i609))), (5, .int (F_X5_ofPack5 c v w (nI i609))), (4, .int (nI i609)), (3, .int (nI (c 4))), (2, .int (nI (PR c v w (c 0)))), (0, .ref (ad 5 0)), (1, .int (nI (c 0)))]) hx hb dL_isFair_390 hl (k := 0) rfl (nI_1 i681) (by decide) rfl (fun ls hl => ?_)
                      refine lv_goto (tgt := 314) hx hb dL_isFair_393 (by decide) ?_
                      exact ihk682 (i681 + 1) H locs ls (by omega) hW (lv_sub hl [0, 1, 2, 3, 4, 5, 6, 7] rfl)
                    · refine lv_aload_n hx hb dL_isFair_347 rfl (lv_at hl 6 rfl) ?_
                      refine lv_iload hx hb dL_isFair_348 (lv_at hl 1 rfl) ?_
                      refine lv_iload hx hb dL_isFair_350 (lv_at hl 0 rfl) ?_
                      refine pc_qcalli (va_runV (As := [.int (F_X5_ofPack0 c v w (nI i609)), .int (nI i681)]) (rest := []) ⟨hx, hb, hml, hown, hts⟩ (r_X5_has l D cA NL c v w u ad (F_X5_ofPack0 c v w (nI i609)) (nI i681) hM hBd hF (fa_crew hi hlt9i609).1 (fa_crew hi hlt9i609).2 (nI_nn (Nat.lt_of_lt_of_le hlt9i681 (Nat.le_trans hBd.1 (by decide)))) (by rw [nI_clamp (Nat.lt_of_lt_of_le hlt9i681 (Nat.le_trans hBd.1 (by decide)))]; exact hlt9i681)) (cwV 2 hts gL_isFair_X5_has rfl rfl rfl (by decide +kernel) ⟨Nat.le_of_ble_eq_true rfl, Nat.le_of_ble_eq_true rfl⟩) (pc_preV pcN_ok hX hW.1 hM.1 rfl rfl hW.1) rfl rfl hl.1 rfl (lv_room (Nat.le_of_ble_eq_true rfl)) dL_isFair_352 ⟨Nat.le_of_ble_eq_true rfl, Nat.le_of_ble_eq_true rfl⟩) hW (fun r692 H locs hwr692 hW => ?_)
                      replace hwr692 := hwr692.symm
                      subst hwr692
                      refine lv_aload_n hx hb dL_isFair_355 rfl (lv_at hl 6 rfl) ?_
                      refine lv_iload hx hb dL_isFair_356 (lv_at hl 0 rfl) ?_
                      refine lv_iconst (v := 2) hx hb dL_isFair_358 (by decide) ?_
                      refine pc_qcalli (va_runV (As := [.int (nI i681), .int 2]) (rest := [.int (F_X5_has c v w (F_X5_ofPack0 c v w (nI i609)) (nI i681))]) ⟨hx, hb, hml, hown, hts⟩ (r_X5_ofSheet2 l D cA NL c v w u ad (nI i681) hM hBd hF (nI_nn (Nat.lt_of_lt_of_le hlt9i681 (Nat.le_trans hBd.1 (by decide)))) (by rw [nI_clamp (Nat.lt_of_lt_of_le hlt9i681 (Nat.le_trans hBd.1 (by decide)))]; exact hlt9i681)) (cwV 2 hts gL_isFair_X5_ofSheet rfl rfl rfl (by decide +kernel) ⟨Nat.le_of_ble_eq_true rfl, Nat.le_of_ble_eq_true rfl⟩) (pc_preV pcN_ok hX hW.1 hM.1 rfl rfl hW.1) rfl rfl hl.1 rfl (lv_room (Nat.le_of_ble_eq_true rfl)) dL_isFair_359 ⟨Nat.le_of_ble_eq_true rfl, Nat.le_of_ble_eq_true rfl⟩) hW (fun r693 H locs hwr693 hW => ?_)
                      replace hwr693 := hwr693.symm
                      subst hwr693
                      refine lv_icmp_ne (tgt := 388) hx hb dL_isFair_362 (by decide) (fun c694 => absurd c694 (fun q => q (fa_sheet hi hlt9i609 hlt9i681 c627 c691).1)) (fun _ => ?_)
                      refine lv_aload_n hx hb dL_isFair_365 rfl (lv_at hl 6 rfl) ?_
                      refine lv_iload hx hb dL_isFair_366 (lv_at hl 0 rfl) ?_
                      refine lv_bipush (v := 7) hx hb dL_isFair_368 (by decide) ?_
                      refine pc_qcalli (va_runV (As := [.int (nI i681), .int 7]) (rest := []) ⟨hx, hb, hml, hown, hts⟩ (r_X5_ofSheet7 l D cA NL c v w u ad (nI i681) hM hBd hF (nI_nn (Nat.lt_of_lt_of_le hlt9i681 (Nat.le_trans hBd.1 (by decide)))) (by rw [nI_clamp (Nat.lt_of_lt_of_le hlt9i681 (Nat.le_trans hBd.1 (by decide)))]; exact hlt9i681)) (cwV 2 hts gL_isFair_X5_ofSheet rfl rfl rfl (by decide +kernel) ⟨Nat.le_of_ble_eq_true rfl, Nat.le_of_ble_eq_true rfl⟩) (pc_preV pcN_ok hX hW.1 hM.1 rfl rfl hW.1) rfl rfl hl.1 rfl (lv_room (Nat.le_of_ble_eq_true rfl)) dL_isFair_370 ⟨Nat.le_of_ble_eq_true rfl, Nat.le_of_ble_eq_true rfl⟩) hW (fun r695 H locs hwr695 hW => ?_)
                      replace hwr695 := hwr695.symm
                      subst hwr695
                      refine lv_if_gt (tgt := 388) hx hb dL_isFair_373 (by decide) (fun c696 => absurd c696 (fa_sheet hi hlt9i609 hlt9i681 c627 c691).2.1) (fun _ => ?_)
                      refine lv_aload_n hx hb dL_isFair_376 rfl (lv_at hl 6 rfl) ?_
                      refine lv_iload hx hb dL_isFair_377 (lv_at hl 0 rfl) ?_
                      refine lv_bipush (v := 6) hx hb dL_isFair_379 (by decide) ?_
                      refine pc_qcalli (va_runV (As := [.int (nI i681), .int 6]) (rest := []) ⟨hx, hb, hml, hown, hts⟩ (r_X5_ofSheet6 l D cA NL c v w u ad (nI i681) hM hBd hF (nI_nn (Nat.lt_of_lt_of_le hlt9i681 (Nat.le_trans hBd.1 (by decide)))) (by rw [nI_clamp (Nat.lt_of_lt_of_le hlt9i681 (Nat.le_trans hBd.1 (by decide)))]; exact hlt9i681)) (cwV 2 hts gL_isFair_X5_ofSheet rfl rfl rfl (by decide +kernel) ⟨Nat.le_of_ble_eq_true rfl, Nat.le_of_ble_eq_true rfl⟩) (pc_preV pcN_ok hX hW.1 hM.1 rfl rfl hW.1) rfl rfl hl.1 rfl (lv_room (Nat.le_of_ble_eq_true rfl)) dL_isFair_381 ⟨Nat.le_of_ble_eq_true rfl, Nat.le_of_ble_eq_true rfl⟩) hW (fun r697 H locs hwr697 hW => ?_)
                      replace hwr697 := hwr697.symm
                      subst hwr697
                      refine lv_iconst (v := 2) hx hb dL_isFair_384 (by decide) ?_
                      refine lv_icmp_le (tgt := 390) hx hb dL_isFair_385 (by decide) (fun _ => ?_) (fun c698 => absurd (fa_sheet hi hlt9i609 hlt9i681 c627 c691).2.2 c698)
                      refine lv_iinc (v := nI (i681 + 1)) (lv' := [(7, .int (nI (i681 + 1))), (6, .int (F_X5_ofPack0 c v w (nI i609))), (5, .int (F_X5_ofPack5 c v w (nI i609))), (4, .int (nI i609)), (3, .int (nI (c 4))), (2, .int (nI (PR c v w (c 0)))), (0, .ref (ad 5 0)), (1, .int (nI (c 0)))]) hx hb dL_isFair_390 hl (k := 0) rfl (nI_1 i681) (by decide) rfl (fun ls hl => ?_)
                      refine lv_goto (tgt := 314) hx hb dL_isFair_393 (by decide) ?_
                      exact ihk682 (i681 + 1) H locs ls (by omega) hW (lv_sub hl [0, 1, 2, 3, 4, 5, 6, 7] rfl)
                exact K683 (c 0) 0 _ _ ls (by omega) hW (lv_sub hl [0, 1, 2, 3, 4, 5, 6, 7] rfl)
          · refine lv_iconst (v := 1) hx hb dL_isFair_232 (by decide) ?_
            refine lv_goto (tgt := 237) hx hb dL_isFair_233 (by decide) ?_
            refine lv_iload hx hb dL_isFair_237 (lv_at hl 0 rfl) ?_
            refine lv_if_ne (tgt := 246) hx hb dL_isFair_239 (by decide) (fun c699 => absurd c699 (fun q => q ((fa_u hi hlt9i609).2 c623))) (fun _ => ?_)
            refine lv_iconst (v := 1) hx hb dL_isFair_242 (by decide) ?_
            refine lv_goto (tgt := 247) hx hb dL_isFair_243 (by decide) ?_
            refine lv_icmp_ne (tgt := 300) hx hb dL_isFair_247 (by decide) (fun c700 => absurd c700 (by decide)) (fun _ => ?_)
            refine lv_aload_n hx hb dL_isFair_250 rfl (lv_at hl 4 rfl) ?_
            refine lv_iload hx hb dL_isFair_251 (lv_at hl 1 rfl) ?_
            refine lv_iconst (v := 2) hx hb dL_isFair_253 (by decide) ?_
            refine pc_qcalli (va_runV (As := [.int (nI i609), .int 2]) (rest := []) ⟨hx, hb, hml, hown, hts⟩ (r_X5_ofPack2 l D cA NL c v w u ad (nI i609) hM hBd hF (nI_nn (Nat.lt_of_lt_of_le hlt9i609 (Nat.le_trans hBd.2.2.2.2 (by decide)))) (by rw [nI_clamp (Nat.lt_of_lt_of_le hlt9i609 (Nat.le_trans hBd.2.2.2.2 (by decide)))]; exact hlt9i609)) (cwV 2 hts gL_isFair_X5_ofPack rfl rfl rfl (by decide +kernel) ⟨Nat.le_of_ble_eq_true rfl, Nat.le_of_ble_eq_true rfl⟩) (pc_preV pcN_ok hX hW.1 hM.1 rfl rfl hW.1) rfl rfl hl.1 rfl (lv_room (Nat.le_of_ble_eq_true rfl)) dL_isFair_254 ⟨Nat.le_of_ble_eq_true rfl, Nat.le_of_ble_eq_true rfl⟩) hW (fun r701 H locs hwr701 hW => ?_)
            replace hwr701 := hwr701.symm
            subst hwr701
            refine lv_iconst (v := 1) hx hb dL_isFair_257 (by decide) ?_
            refine lv_icmp_ne (tgt := 266) hx hb dL_isFair_258 (by decide) (fun (c702 : ¬ (F_X5_ofPack2 c v w (nI i609)) = (1 : Int32)) => ?_) (fun (c702 : (F_X5_ofPack2 c v w (nI i609)) = (1 : Int32)) => ?_)
            · refine lv_aload_n hx hb dL_isFair_266 rfl (lv_at hl 4 rfl) ?_
              refine lv_iload hx hb dL_isFair_267 (lv_at hl 1 rfl) ?_
              refine lv_iconst (v := 2) hx hb dL_isFair_269 (by decide) ?_
              refine pc_qcalli (va_runV (As := [.int (nI i609), .int 2]) (rest := []) ⟨hx, hb, hml, hown, hts⟩ (r_X5_ofPack2 l D cA NL c v w u ad (nI i609) hM hBd hF (nI_nn (Nat.lt_of_lt_of_le hlt9i609 (Nat.le_trans hBd.2.2.2.2 (by decide)))) (by rw [nI_clamp (Nat.lt_of_lt_of_le hlt9i609 (Nat.le_trans hBd.2.2.2.2 (by decide)))]; exact hlt9i609)) (cwV 2 hts gL_isFair_X5_ofPack rfl rfl rfl (by decide +kernel) ⟨Nat.le_of_ble_eq_true rfl, Nat.le_of_ble_eq_true rfl⟩) (pc_preV pcN_ok hX hW.1 hM.1 rfl rfl hW.1) rfl rfl hl.1 rfl (lv_room (Nat.le_of_ble_eq_true rfl)) dL_isFair_270 ⟨Nat.le_of_ble_eq_true rfl, Nat.le_of_ble_eq_true rfl⟩) hW (fun r703 H locs hwr703 hW => ?_)
              replace hwr703 := hwr703.symm
              subst hwr703
              refine lv_iconst (v := 3) hx hb dL_isFair_273 (by decide) ?_
              refine lv_icmp_ne (tgt := 281) hx hb dL_isFair_274 (by decide) (fun (c704 : ¬ (F_X5_ofPack2 c v w (nI i609)) = (3 : Int32)) => ?_) (fun (c704 : (F_X5_ofPack2 c v w (nI i609)) = (3 : Int32)) => ?_)
              · refine lv_iconst (v := 0) hx hb dL_isFair_281 (by decide) ?_
                refine lv_aload_n hx hb dL_isFair_282 rfl (lv_at hl 4 rfl) ?_
                refine lv_iload hx hb dL_isFair_283 (lv_at hl 1 rfl) ?_
                refine lv_iconst (v := 3) hx hb dL_isFair_285 (by decide) ?_
                refine pc_qcalli (va_runV (As := [.int (nI i609), .int 3]) (rest := [.int 0]) ⟨hx, hb, hml, hown, hts⟩ (r_X5_ofPack3 l D cA NL c v w u ad (nI i609) hM hBd hF (nI_nn (Nat.lt_of_lt_of_le hlt9i609 (Nat.le_trans hBd.2.2.2.2 (by decide)))) (by rw [nI_clamp (Nat.lt_of_lt_of_le hlt9i609 (Nat.le_trans hBd.2.2.2.2 (by decide)))]; exact hlt9i609)) (cwV 2 hts gL_isFair_X5_ofPack rfl rfl rfl (by decide +kernel) ⟨Nat.le_of_ble_eq_true rfl, Nat.le_of_ble_eq_true rfl⟩) (pc_preV pcN_ok hX hW.1 hM.1 rfl rfl hW.1) rfl rfl hl.1 rfl (lv_room (Nat.le_of_ble_eq_true rfl)) dL_isFair_286 ⟨Nat.le_of_ble_eq_true rfl, Nat.le_of_ble_eq_true rfl⟩) hW (fun r705 H locs hwr705 hW => ?_)
                replace hwr705 := hwr705.symm
                subst hwr705
                refine lv_if_ne (tgt := 296) hx hb dL_isFair_289 (by decide) (fun _ => ?_) (fun c706 => absurd c706 (fun q => c704 ((fa_done hi hlt9i609).mpr q)))
                refine lv_iconst (v := 0) hx hb dL_isFair_296 (by decide) ?_
                refine lv_icmp_eq (tgt := 302) hx hb dL_isFair_297 (by decide) (fun _ => ?_) (fun c707 => absurd (by decide) c707)
                refine lv_aload_n hx hb dL_isFair_302 rfl (lv_at hl 4 rfl) ?_
                refine lv_iload hx hb dL_isFair_303 (lv_at hl 1 rfl) ?_
                refine lv_iconst (v := 0) hx hb dL_isFair_305 (by decide) ?_
                refine pc_qcalli (va_runV (As := [.int (nI i609), .int 0]) (rest := []) ⟨hx, hb, hml, hown, hts⟩ (r_X5_ofPack0 l D cA NL c v w u ad (nI i609) hM hBd hF (nI_nn (Nat.lt_of_lt_of_le hlt9i609 (Nat.le_trans hBd.2.2.2.2 (by decide)))) (by rw [nI_clamp (Nat.lt_of_lt_of_le hlt9i609 (Nat.le_trans hBd.2.2.2.2 (by decide)))]; exact hlt9i609)) (cwV 2 hts gL_isFair_X5_ofPack rfl rfl rfl (by decide +kernel) ⟨Nat.le_of_ble_eq_true rfl, Nat.le_of_ble_eq_true rfl⟩) (pc_preV pcN_ok hX hW.1 hM.1 rfl rfl hW.1) rfl rfl hl.1 rfl (lv_room (Nat.le_of_ble_eq_true rfl)) dL_isFair_306 ⟨Nat.le_of_ble_eq_true rfl, Nat.le_of_ble_eq_true rfl⟩) hW (fun r708 H locs hwr708 hW => ?_)
                replace hwr708 := hwr708.symm
                subst hwr708
                refine lv_istore (lv' := [(6, .int (F_X5_ofPack0 c v w (nI i609))), (5, .int (F_X5_ofPack5 c v w (nI i609))), (4, .int (nI i609)), (3, .int (nI (c 4))), (2, .int (nI (PR c v w (c 0)))), (0, .ref (ad 5 0)), (1, .int (nI (c 0)))]) hx hb dL_isFair_309 hl (by decide) rfl (fun ls hl => ?_)
                refine lv_iconst (v := 0) hx hb dL_isFair_311 (by decide) ?_
                refine lv_istore (lv' := [(7, .int 0), (6, .int (F_X5_ofPack0 c v w (nI i609))), (5, .int (F_X5_ofPack5 c v w (nI i609))), (4, .int (nI i609)), (3, .int (nI (c 4))), (2, .int (nI (PR c v w (c 0)))), (0, .ref (ad 5 0)), (1, .int (nI (c 0)))]) hx hb dL_isFair_312 hl (by decide) rfl (fun ls hl => ?_)
                have K711 : ∀ (k710 i709 : Nat) (H : Heap) (locs : List Loc) (ls : Array Slot), i709 + k710 = (c 0) → pcQ D vwCl (fun _ => False) s.heap NL ad (ctO cA c v w u ad) H locs → lv_has ls 8 [(7, .int (nI i709)), (6, .int (F_X5_ofPack0 c v w (nI i609))), (5, .int (F_X5_ofPack5 c v w (nI i609))), (4, .int (nI i609)), (3, .int (nI (c 4))), (2, .int (nI (PR c v w (c 0)))), (0, .ref (ad 5 0)), (1, .int (nI (c 0)))] → W p l e (headSpec wsL_isFair ({ frames := 7, cells := 0, slots := 0, locals := 164 })).room s m ([.ref (ad 5 0), .int (nI (c 0))] : List Value).toArray below meth c0 H locs 0 0 (MQ below (va_Qi (fun (r : Int32) (_ : Unit) => r = 1) (fun _ _ => True) (fun _ => False)) ([.ref (ad 5 0), .int (nI (c 0))] : List Value).toArray s 0 0 (fun _ => False)) (F0 m 314 ls []) := by
                  intro k710
                  induction k710 with
                  | zero =>
                    intro i709 H locs ls hk hW hl
                    have ei : i709 = (c 0) := by omega
                    rw [ei] at hl
                    refine lv_aload_n hx hb dL_isFair_314 rfl (lv_at hl 6 rfl) ?_
                    refine lv_iload hx hb dL_isFair_315 (lv_at hl 3 rfl) ?_
                    refine lv_iconst (v := 2) hx hb dL_isFair_317 (by decide) ?_
                    refine pc_qcalli (va_runV (As := [.int (nI i609), .int 2]) (rest := []) ⟨hx, hb, hml, hown, hts⟩ (r_X5_ofPack2 l D cA NL c v w u ad (nI i609) hM hBd hF (nI_nn (Nat.lt_of_lt_of_le hlt9i609 (Nat.le_trans hBd.2.2.2.2 (by decide)))) (by rw [nI_clamp (Nat.lt_of_lt_of_le hlt9i609 (Nat.le_trans hBd.2.2.2.2 (by decide)))]; exact hlt9i609)) (cwV 2 hts gL_isFair_X5_ofPack rfl rfl rfl (by decide +kernel) ⟨Nat.le_of_ble_eq_true rfl, Nat.le_of_ble_eq_true rfl⟩) (pc_preV pcN_ok hX hW.1 hM.1 rfl rfl hW.1) rfl rfl hl.1 rfl (lv_room (Nat.le_of_ble_eq_true rfl)) dL_isFair_318 ⟨Nat.le_of_ble_eq_true rfl, Nat.le_of_ble_eq_true rfl⟩) hW (fun r712 H locs hwr712 hW => ?_)
                    replace hwr712 := hwr712.symm
                    subst hwr712
                    refine lv_iconst (v := 1) hx hb dL_isFair_321 (by decide) ?_
                    refine lv_icmp_ne (tgt := 396) hx hb dL_isFair_322 (by decide) (fun _ => ?_) (fun c713 => absurd c713 c702)
                    refine lv_iinc (v := nI (i609 + 1)) (lv' := [(4, .int (nI (i609 + 1))), (7, .int (nI (c 0))), (6, .int (F_X5_ofPack0 c v w (nI i609))), (5, .int (F_X5_ofPack5 c v w (nI i609))), (3, .int (nI (c 4))), (2, .int (nI (PR c v w (c 0)))), (0, .ref (ad 5 0)), (1, .int (nI (c 0)))]) hx hb dL_isFair_396 hl (k := 3) rfl (nI_1 i609) (by decide) rfl (fun ls hl => ?_)
                    refine lv_goto (tgt := 207) hx hb dL_isFair_399 (by decide) ?_
                    exact ihk610 (i609 + 1) H locs ls (by omega) hW (lv_sub hl [0, 4, 5, 6, 7] rfl)
                  | succ k710 ihk710 =>
                    intro i709 H locs ls hk hW hl
                    have hlt : i709 < (c 0) := by omega
                    have hlt9i709 := hlt
                    refine lv_aload_n hx hb dL_isFair_314 rfl (lv_at hl 6 rfl) ?_
                    refine lv_iload hx hb dL_isFair_315 (lv_at hl 3 rfl) ?_
                    refine lv_iconst (v := 2) hx hb dL_isFair_317 (by decide) ?_
                    refine pc_qcalli (va_runV (As := [.int (nI i609), .int 2]) (rest := []) ⟨hx, hb, hml, hown, hts⟩ (r_X5_ofPack2 l D cA NL c v w u ad (nI i609) hM hBd hF (nI_nn (Nat.lt_of_lt_of_le hlt9i609 (Nat.le_trans hBd.2.2.2.2 (by decide)))) (by rw [nI_clamp (Nat.lt_of_lt_of_le hlt9i609 (Nat.le_trans hBd.2.2.2.2 (by decide)))]; exact hlt9i609)) (cwV 2 hts gL_isFair_X5_ofPack rfl rfl rfl (by decide +kernel) ⟨Nat.le_of_ble_eq_true rfl, Nat.le_of_ble_eq_true rfl⟩) (pc_preV pcN_ok hX hW.1 hM.1 rfl rfl hW.1) rfl rfl hl.1 rfl (lv_room (Nat.le_of_ble_eq_true rfl)) dL_isFair_318 ⟨Nat.le_of_ble_eq_true rfl, Nat.le_of_ble_eq_true rfl⟩) hW (fun r714 H locs hwr714 hW => ?_)
                    replace hwr714 := hwr714.symm
                    subst hwr714
                    refine lv_iconst (v := 1) hx hb dL_isFair_321 (by decide) ?_
                    refine lv_icmp_ne (tgt := 396) hx hb dL_isFair_322 (by decide) (fun _ => ?_) (fun c715 => absurd c715 c702)
                    refine lv_iinc (v := nI (i609 + 1)) (lv' := [(4, .int (nI (i609 + 1))), (7, .int (nI i709)), (6, .int (F_X5_ofPack0 c v w (nI i609))), (5, .int (F_X5_ofPack5 c v w (nI i609))), (3, .int (nI (c 4))), (2, .int (nI (PR c v w (c 0)))), (0, .ref (ad 5 0)), (1, .int (nI (c 0)))]) hx hb dL_isFair_396 hl (k := 3) rfl (nI_1 i609) (by decide) rfl (fun ls hl => ?_)
                    refine lv_goto (tgt := 207) hx hb dL_isFair_399 (by decide) ?_
                    exact ihk610 (i609 + 1) H locs ls (by omega) hW (lv_sub hl [0, 4, 5, 6, 7] rfl)
                exact K711 (c 0) 0 _ _ ls (by omega) hW (lv_sub hl [0, 1, 2, 3, 4, 5, 6, 7] rfl)
              · refine lv_iconst (v := 1) hx hb dL_isFair_277 (by decide) ?_
                refine lv_goto (tgt := 282) hx hb dL_isFair_278 (by decide) ?_
                refine lv_aload_n hx hb dL_isFair_282 rfl (lv_at hl 4 rfl) ?_
                refine lv_iload hx hb dL_isFair_283 (lv_at hl 1 rfl) ?_
                refine lv_iconst (v := 3) hx hb dL_isFair_285 (by decide) ?_
                refine pc_qcalli (va_runV (As := [.int (nI i609), .int 3]) (rest := [.int 1]) ⟨hx, hb, hml, hown, hts⟩ (r_X5_ofPack3 l D cA NL c v w u ad (nI i609) hM hBd hF (nI_nn (Nat.lt_of_lt_of_le hlt9i609 (Nat.le_trans hBd.2.2.2.2 (by decide)))) (by rw [nI_clamp (Nat.lt_of_lt_of_le hlt9i609 (Nat.le_trans hBd.2.2.2.2 (by decide)))]; exact hlt9i609)) (cwV 2 hts gL_isFair_X5_ofPack rfl rfl rfl (by decide +kernel) ⟨Nat.le_of_ble_eq_true rfl, Nat.le_of_ble_eq_true rfl⟩) (pc_preV pcN_ok hX hW.1 hM.1 rfl rfl hW.1) rfl rfl hl.1 rfl (lv_room (Nat.le_of_ble_eq_true rfl)) dL_isFair_286 ⟨Nat.le_of_ble_eq_true rfl, Nat.le_of_ble_eq_true rfl⟩) hW (fun r716 H locs hwr716 hW => ?_)
                replace hwr716 := hwr716.symm
                subst hwr716
                refine lv_if_ne (tgt := 296) hx hb dL_isFair_289 (by decide) (fun c717 => absurd c717 (fun q => q ((fa_done hi hlt9i609).mp c704))) (fun _ => ?_)
                refine lv_iconst (v := 1) hx hb dL_isFair_292 (by decide) ?_
                refine lv_goto (tgt := 297) hx hb dL_isFair_293 (by decide) ?_
                refine lv_icmp_eq (tgt := 302) hx hb dL_isFair_297 (by decide) (fun _ => ?_) (fun c718 => absurd (by decide) c718)
                refine lv_aload_n hx hb dL_isFair_302 rfl (lv_at hl 4 rfl) ?_
                refine lv_iload hx hb dL_isFair_303 (lv_at hl 1 rfl) ?_
                refine lv_iconst (v := 0) hx hb dL_isFair_305 (by decide) ?_
                refine pc_qcalli (va_runV (As := [.int (nI i609), .int 0]) (rest := []) ⟨hx, hb, hml, hown, hts⟩ (r_X5_ofPack0 l D cA NL c v w u ad (nI i609) hM hBd hF (nI_nn (Nat.lt_of_lt_of_le hlt9i609 (Nat.le_trans hBd.2.2.2.2 (by decide)))) (by rw [nI_clamp (Nat.lt_of_lt_of_le hlt9i609 (Nat.le_trans hBd.2.2.2.2 (by decide)))]; exact hlt9i609)) (cwV 2 hts gL_isFair_X5_ofPack rfl rfl rfl (by decide +kernel) ⟨Nat.le_of_ble_eq_true rfl, Nat.le_of_ble_eq_true rfl⟩) (pc_preV pcN_ok hX hW.1 hM.1 rfl rfl hW.1) rfl rfl hl.1 rfl (lv_room (Nat.le_of_ble_eq_true rfl)) dL_isFair_306 ⟨Nat.le_of_ble_eq_true rfl, Nat.le_of_ble_eq_true rfl⟩) hW (fun r719 H locs hwr719 hW => ?_)
                replace hwr719 := hwr719.symm
                subst hwr719
                refine lv_istore (lv' := [(6, .int (F_X5_ofPack0 c v w (nI i609))), (5, .int (F_X5_ofPack5 c v w (nI i609))), (4, .int (nI i609)), (3, .int (nI (c 4))), (2, .int (nI (PR c v w (c 0)))), (0, .ref (ad 5 0)), (1, .int (nI (c 0)))]) hx hb dL_isFair_309 hl (by decide) rfl (fun ls hl => ?_)
                refine lv_iconst (v := 0) hx hb dL_isFair_311 (by decide) ?_
                refine lv_istore (lv' := [(7, .int 0), (6, .int (F_X5_ofPack0 c v w (nI i609))), (5, .int (F_X5_ofPack5 c v w (nI i609))), (4, .int (nI i609)), (3, .int (nI (c 4))), (2, .int (nI (PR c v w (c 0)))), (0, .ref (ad 5 0)), (1, .int (nI (c 0)))]) hx hb dL_isFair_312 hl (by decide) rfl (fun ls hl => ?_)
                have K722 : ∀ (k721 i720 : Nat) (H : Heap) (locs : List Loc) (ls : Array Slot), i720 + k721 = (c 0) → pcQ D vwCl (fun _ => False) s.heap NL ad (ctO cA c v w u ad) H locs → lv_has ls 8 [(7, .int (nI i720)), (6, .int (F_X5_ofPack0 c v w (nI i609))), (5, .int (F_X5_ofPack5 c v w (nI i609))), (4, .int (nI i609)), (3, .int (nI (c 4))), (2, .int (nI (PR c v w (c 0)))), (0, .ref (ad 5 0)), (1, .int (nI (c 0)))] → W p l e (headSpec wsL_isFair ({ frames := 7, cells := 0, slots := 0, locals := 164 })).room s m ([.ref (ad 5 0), .int (nI (c 0))] : List Value).toArray below meth c0 H locs 0 0 (MQ below (va_Qi (fun (r : Int32) (_ : Unit) => r = 1) (fun _ _ => True) (fun _ => False)) ([.ref (ad 5 0), .int (nI (c 0))] : List Value).toArray s 0 0 (fun _ => False)) (F0 m 314 ls []) := by
                  intro k721
                  induction k721 with
                  | zero =>
                    intro i720 H locs ls hk hW hl
                    have ei : i720 = (c 0) := by omega
                    rw [ei] at hl
                    refine lv_aload_n hx hb dL_isFair_314 rfl (lv_at hl 6 rfl) ?_
                    refine lv_iload hx hb dL_isFair_315 (lv_at hl 3 rfl) ?_
                    refine lv_iconst (v := 2) hx hb dL_isFair_317 (by decide) ?_
                    refine pc_qcalli (va_runV (As := [.int (nI i609), .int 2]) (rest := []) ⟨hx, hb, hml, hown, hts⟩ (r_X5_ofPack2 l D cA NL c v w u ad (nI i609) hM hBd hF (nI_nn (Nat.lt_of_lt_of_le hlt9i609 (Nat.le_trans hBd.2.2.2.2 (by decide)))) (by rw [nI_clamp (Nat.lt_of_lt_of_le hlt9i609 (Nat.le_trans hBd.2.2.2.2 (by decide)))]; exact hlt9i609)) (cwV 2 hts gL_isFair_X5_ofPack rfl rfl rfl (by decide +kernel) ⟨Nat.le_of_ble_eq_true rfl, Nat.le_of_ble_eq_true rfl⟩) (pc_preV pcN_ok hX hW.1 hM.1 rfl rfl hW.1) rfl rfl hl.1 rfl (lv_room (Nat.le_of_ble_eq_true rfl)) dL_isFair_318 ⟨Nat.le_of_ble_eq_true rfl, Nat.le_of_ble_eq_true rfl⟩) hW (fun r723 H locs hwr723 hW => ?_)
                    replace hwr723 := hwr723.symm
                    subst hwr723
                    refine lv_iconst (v := 1) hx hb dL_isFair_321 (by decide) ?_
                    refine lv_icmp_ne (tgt := 396) hx hb dL_isFair_322 (by decide) (fun _ => ?_) (fun c724 => absurd c724 c702)
                    refine lv_iinc (v := nI (i609 + 1)) (lv' := [(4, .int (nI (i609 + 1))), (7, .int (nI (c 0))), (6, .int (F_X5_ofPack0 c v w (nI i609))), (5, .int (F_X5_ofPack5 c v w (nI i609))), (3, .int (nI (c 4))), (2, .int (nI (PR c v w (c 0)))), (0, .ref (ad 5 0)), (1, .int (nI (c 0)))]) hx hb dL_isFair_396 hl (k := 3) rfl (nI_1 i609) (by decide) rfl (fun ls hl => ?_)
                    refine lv_goto (tgt := 207) hx hb dL_isFair_399 (by decide) ?_
                    exact ihk610 (i609 + 1) H locs ls (by omega) hW (lv_sub hl [0, 4, 5, 6, 7] rfl)
                  | succ k721 ihk721 =>
                    intro i720 H locs ls hk hW hl
                    have hlt : i720 < (c 0) := by omega
                    have hlt9i720 := hlt
                    refine lv_aload_n hx hb dL_isFair_314 rfl (lv_at hl 6 rfl) ?_
                    refine lv_iload hx hb dL_isFair_315 (lv_at hl 3 rfl) ?_
                    refine lv_iconst (v := 2) hx hb dL_isFair_317 (by decide) ?_
                    refine pc_qcalli (va_runV (As := [.int (nI i609), .int 2]) (rest := []) ⟨hx, hb, hml, hown, hts⟩ (r_X5_ofPack2 l D cA NL c v w u ad (nI i609) hM hBd hF (nI_nn (Nat.lt_of_lt_of_le hlt9i609 (Nat.le_trans hBd.2.2.2.2 (by decide)))) (by rw [nI_clamp (Nat.lt_of_lt_of_le hlt9i609 (Nat.le_trans hBd.2.2.2.2 (by decide)))]; exact hlt9i609)) (cwV 2 hts gL_isFair_X5_ofPack rfl rfl rfl (by decide +kernel) ⟨Nat.le_of_ble_eq_true rfl, Nat.le_of_ble_eq_true rfl⟩) (pc_preV pcN_ok hX hW.1 hM.1 rfl rfl hW.1) rfl rfl hl.1 rfl (lv_room (Nat.le_of_ble_eq_true rfl)) dL_isFair_318 ⟨Nat.le_of_ble_eq_true rfl, Nat.le_of_ble_eq_true rfl⟩) hW (fun r725 H locs hwr725 hW => ?_)
                    replace hwr725 := hwr725.symm
                    subst hwr725
                    refine lv_iconst (v := 1) hx hb dL_isFair_321 (by decide) ?_
                    refine lv_icmp_ne (tgt := 396) hx hb dL_isFair_322 (by decide) (fun _ => ?_) (fun c726 => absurd c726 c702)
                    refine lv_iinc (v := nI (i609 + 1)) (lv' := [(4, .int (nI (i609 + 1))), (7, .int (nI i720)), (6, .int (F_X5_ofPack0 c v w (nI i609))), (5, .int (F_X5_ofPack5 c v w (nI i609))), (3, .int (nI (c 4))), (2, .int (nI (PR c v w (c 0)))), (0, .ref (ad 5 0)), (1, .int (nI (c 0)))]) hx hb dL_isFair_396 hl (k := 3) rfl (nI_1 i609) (by decide) rfl (fun ls hl => ?_)
                    refine lv_goto (tgt := 207) hx hb dL_isFair_399 (by decide) ?_
                    exact ihk610 (i609 + 1) H locs ls (by omega) hW (lv_sub hl [0, 4, 5, 6, 7] rfl)
                exact K722 (c 0) 0 _ _ ls (by omega) hW (lv_sub hl [0, 1, 2, 3, 4, 5, 6, 7] rfl)
            · refine lv_iload hx hb dL_isFair_261 (lv_at hl 0 rfl) ?_
              refine lv_if_gt (tgt := 300) hx hb dL_isFair_263 (by decide) (fun c727 => absurd c727 (fa_run hi hlt9i609 c702).2) (fun _ => ?_)
              refine lv_aload_n hx hb dL_isFair_266 rfl (lv_at hl 4 rfl) ?_
              refine lv_iload hx hb dL_isFair_267 (lv_at hl 1 rfl) ?_
              refine lv_iconst (v := 2) hx hb dL_isFair_269 (by decide) ?_
              refine pc_qcalli (va_runV (As := [.int (nI i609), .int 2]) (rest := []) ⟨hx, hb, hml, hown, hts⟩ (r_X5_ofPack2 l D cA NL c v w u ad (nI i609) hM hBd hF (nI_nn (Nat.lt_of_lt_of_le hlt9i609 (Nat.le_trans hBd.2.2.2.2 (by decide)))) (by rw [nI_clamp (Nat.lt_of_lt_of_le hlt9i609 (Nat.le_trans hBd.2.2.2.2 (by decide)))]; exact hlt9i609)) (cwV 2 hts gL_isFair_X5_ofPack rfl rfl rfl (by decide +kernel) ⟨Nat.le_of_ble_eq_true rfl, Nat.le_of_ble_eq_true rfl⟩) (pc_preV pcN_ok hX hW.1 hM.1 rfl rfl hW.1) rfl rfl hl.1 rfl (lv_room (Nat.le_of_ble_eq_true rfl)) dL_isFair_270 ⟨Nat.le_of_ble_eq_true rfl, Nat.le_of_ble_eq_true rfl⟩) hW (fun r728 H locs hwr728 hW => ?_)
              replace hwr728 := hwr728.symm
              subst hwr728
              refine lv_iconst (v := 3) hx hb dL_isFair_273 (by decide) ?_
              refine lv_icmp_ne (tgt := 281) hx hb dL_isFair_274 (by decide) (fun (c729 : ¬ (F_X5_ofPack2 c v w (nI i609)) = (3 : Int32)) => ?_) (fun (c729 : (F_X5_ofPack2 c v w (nI i609)) = (3 : Int32)) => ?_)
              · refine lv_iconst (v := 0) hx hb dL_isFair_281 (by decide) ?_
                refine lv_aload_n hx hb dL_isFair_282 rfl (lv_at hl 4 rfl) ?_
                refine lv_iload hx hb dL_isFair_283 (lv_at hl 1 rfl) ?_
                refine lv_iconst (v := 3) hx hb dL_isFair_285 (by decide) ?_
                refine pc_qcalli (va_runV (As := [.int (nI i609), .int 3]) (rest := [.int 0]) ⟨hx, hb, hml, hown, hts⟩ (r_X5_ofPack3 l D cA NL c v w u ad (nI i609) hM hBd hF (nI_nn (Nat.lt_of_lt_of_le hlt9i609 (Nat.le_trans hBd.2.2.2.2 (by decide)))) (by rw [nI_clamp (Nat.lt_of_lt_of_le hlt9i609 (Nat.le_trans hBd.2.2.2.2 (by decide)))]; exact hlt9i609)) (cwV 2 hts gL_isFair_X5_ofPack rfl rfl rfl (by decide +kernel) ⟨Nat.le_of_ble_eq_true rfl, Nat.le_of_ble_eq_true rfl⟩) (pc_preV pcN_ok hX hW.1 hM.1 rfl rfl hW.1) rfl rfl hl.1 rfl (lv_room (Nat.le_of_ble_eq_true rfl)) dL_isFair_286 ⟨Nat.le_of_ble_eq_true rfl, Nat.le_of_ble_eq_true rfl⟩) hW (fun r730 H locs hwr730 hW => ?_)
                replace hwr730 := hwr730.symm
                subst hwr730
                refine lv_if_ne (tgt := 296) hx hb dL_isFair_289 (by decide) (fun _ => ?_) (fun c731 => absurd c731 (fun q => c729 ((fa_done hi hlt9i609).mpr q)))
                refine lv_iconst (v := 0) hx hb dL_isFair_296 (by decide) ?_
                refine lv_icmp_eq (tgt := 302) hx hb dL_isFair_297 (by decide) (fun _ => ?_) (fun c732 => absurd (by decide) c732)
                refine lv_aload_n hx hb dL_isFair_302 rfl (lv_at hl 4 rfl) ?_
                refine lv_iload hx hb dL_isFair_303 (lv_at hl 1 rfl) ?_
                refine lv_iconst (v := 0) hx hb dL_isFair_305 (by decide) ?_
                refine pc_qcalli (va_runV (As := [.int (nI i609), .int 0]) (rest := []) ⟨hx, hb, hml, hown, hts⟩ (r_X5_ofPack0 l D cA NL c v w u ad (nI i609) hM hBd hF (nI_nn (Nat.lt_of_lt_of_le hlt9i609 (Nat.le_trans hBd.2.2.2.2 (by decide)))) (by rw [nI_clamp (Nat.lt_of_lt_of_le hlt9i609 (Nat.le_trans hBd.2.2.2.2 (by decide)))]; exact hlt9i609)) (cwV 2 hts gL_isFair_X5_ofPack rfl rfl rfl (by decide +kernel) ⟨Nat.le_of_ble_eq_true rfl, Nat.le_of_ble_eq_true rfl⟩) (pc_preV pcN_ok hX hW.1 hM.1 rfl rfl hW.1) rfl rfl hl.1 rfl (lv_room (Nat.le_of_ble_eq_true rfl)) dL_isFair_306 ⟨Nat.le_of_ble_eq_true rfl, Nat.le_of_ble_eq_true rfl⟩) hW (fun r733 H locs hwr733 hW => ?_)
                replace hwr733 := hwr733.symm
                subst hwr733
                refine lv_istore (lv' := [(6, .int (F_X5_ofPack0 c v w (nI i609))), (5, .int (F_X5_ofPack5 c v w (nI i609))), (4, .int (nI i609)), (3, .int (nI (c 4))), (2, .int (nI (PR c v w (c 0)))), (0, .ref (ad 5 0)), (1, .int (nI (c 0)))]) hx hb dL_isFair_309 hl (by decide) rfl (fun ls hl => ?_)
                refine lv_iconst (v := 0) hx hb dL_isFair_311 (by decide) ?_
                refine lv_istore (lv' := [(7, .int 0), (6, .int (F_X5_ofPack0 c v w (nI i609))), (5, .int (F_X5_ofPack5 c v w (nI i609))), (4, .int (nI i609)), (3, .int (nI (c 4))), (2, .int (nI (PR c v w (c 0)))), (0, .ref (ad 5 0)), (1, .int (nI (c 0)))]) hx hb dL_isFair_312 hl (by decide) rfl (fun ls hl => ?_)
                have K736 : ∀ (k735 i734 : Nat) (H : Heap) (locs : List Loc) (ls : Array Slot), i734 + k735 = (c 0) → pcQ D vwCl (fun _ => False) s.heap NL ad (ctO cA c v w u ad) H locs → lv_has ls 8 [(7, .int (nI i734)), (6, .int (F_X5_ofPack0 c v w (nI i609))), (5, .int (F_X5_ofPack5 c v w (nI i609))), (4, .int (nI i609)), (3, .int (nI (c 4))), (2, .int (nI (PR c v w (c 0)))), (0, .ref (ad 5 0)), (1, .int (nI (c 0)))] → W p l e (headSpec wsL_isFair ({ frames := 7, cells := 0, slots := 0, locals := 164 })).room s m ([.ref (ad 5 0), .int (nI (c 0))] : List Value).toArray below meth c0 H locs 0 0 (MQ below (va_Qi (fun (r : Int32) (_ : Unit) => r = 1) (fun _ _ => True) (fun _ => False)) ([.ref (ad 5 0), .int (nI (c 0))] : List Value).toArray s 0 0 (fun _ => False)) (F0 m 314 ls []) := by
                  intro k735
                  induction k735 with
                  | zero =>
                    intro i734 H locs ls hk hW hl
                    have ei : i734 = (c 0) := by omega
                    rw [ei] at hl
                    refine lv_aload_n hx hb dL_isFair_314 rfl (lv_at hl 6 rfl) ?_
                    refine lv_iload hx hb dL_isFair_315 (lv_at hl 3 rfl) ?_
                    refine lv_iconst (v := 2) hx hb dL_isFair_317 (by decide) ?_
                    refine pc_qcalli (va_runV (As := [.int (nI i609), .int 2]) (rest := []) ⟨hx, hb, hml, hown, hts⟩ (r_X5_ofPack2 l D cA NL c v w u ad (nI i609) hM hBd hF (nI_nn (Nat.lt_of_lt_of_le hlt9i609 (Nat.le_trans hBd.2.2.2.2 (by decide)))) (by rw [nI_clamp (Nat.lt_of_lt_of_le hlt9i609 (Nat.le_trans hBd.2.2.2.2 (by decide)))]; exact hlt9i609)) (cwV 2 hts gL_isFair_X5_ofPack rfl rfl rfl (by decide +kernel) ⟨Nat.le_of_ble_eq_true rfl, Nat.le_of_ble_eq_true rfl⟩) (pc_preV pcN_ok hX hW.1 hM.1 rfl rfl hW.1) rfl rfl hl.1 rfl (lv_room (Nat.le_of_ble_eq_true rfl)) dL_isFair_318 ⟨Nat.le_of_ble_eq_true rfl, Nat.le_of_ble_eq_true rfl⟩) hW (fun r737 H locs hwr737 hW => ?_)
                    replace hwr737 := hwr737.symm
                    subst hwr737
                    refine lv_iconst (v := 1) hx hb dL_isFair_321 (by decide) ?_
                    refine lv_icmp_ne (tgt := 396) hx hb dL_isFair_322 (by decide) (fun c738 => absurd c738 (fun q => q c702)) (fun _ => ?_)
                    refine lv_iload hx hb dL_isFair_325 (lv_at hl 0 rfl) ?_
                    refine lv_iload_n hx hb dL_isFair_327 rfl (lv_at hl 7 rfl) ?_
                    refine lv_icmp_ge (tgt := 396) hx hb dL_isFair_328 (by decide) (fun _ => ?_) (fun c739 => absurd (Int32.le_refl _) c739)
                    refine lv_iinc (v := nI (i609 + 1)) (lv' := [(4, .int (nI (i609 + 1))), (7, .int (nI (c 0))), (6, .int (F_X5_ofPack0 c v w (nI i609))), (5, .int (F_X5_ofPack5 c v w (nI i609))), (3, .int (nI (c 4))), (2, .int (nI (PR c v w (c 0)))), (0, .ref (ad 5 0)), (1, .int (nI (c 0)))]) hx hb dL_isFair_396 hl (k := 3) rfl (nI_1 i609) (by decide) rfl (fun ls hl => ?_)
                    refine lv_goto (tgt := 207) hx hb dL_isFair_399 (by decide) ?_
                    exact ihk610 (i609 + 1) H locs ls (by omega) hW (lv_sub hl [0, 4, 5, 6, 7] rfl)
                  | succ k735 ihk735 =>
                    intro i734 H locs ls hk hW hl
                    have hlt : i734 < (c 0) := by omega
                    have hlt9i734 := hlt
                    refine lv_aload_n hx hb dL_isFair_314 rfl (lv_at hl 6 rfl) ?_
                    refine lv_iload hx hb dL_isFair_315 (lv_at hl 3 rfl) ?_
                    refine lv_iconst (v := 2) hx hb dL_isFair_317 (by decide) ?_
                    refine pc_qcalli (va_runV (As := [.int (nI i609), .int 2]) (rest := []) ⟨hx, hb, hml, hown, hts⟩ (r_X5_ofPack2 l D cA NL c v w u ad (nI i609) hM hBd hF (nI_nn (Nat.lt_of_lt_of_le hlt9i609 (Nat.le_trans hBd.2.2.2.2 (by decide)))) (by rw [nI_clamp (Nat.lt_of_lt_of_le hlt9i609 (Nat.le_trans hBd.2.2.2.2 (by decide)))]; exact hlt9i609)) (cwV 2 hts gL_isFair_X5_ofPack rfl rfl rfl (by decide +kernel) ⟨Nat.le_of_ble_eq_true rfl, Nat.le_of_ble_eq_true rfl⟩) (pc_preV pcN_ok hX hW.1 hM.1 rfl rfl hW.1) rfl rfl hl.1 rfl (lv_room (Nat.le_of_ble_eq_true rfl)) dL_isFair_318 ⟨Nat.le_of_ble_eq_true rfl, Nat.le_of_ble_eq_true rfl⟩) hW (fun r740 H locs hwr740 hW => ?_)
                    replace hwr740 := hwr740.symm
                    subst hwr740
                    refine lv_iconst (v := 1) hx hb dL_isFair_321 (by decide) ?_
                    refine lv_icmp_ne (tgt := 396) hx hb dL_isFair_322 (by decide) (fun c741 => absurd c741 (fun q => q c702)) (fun _ => ?_)
                    refine lv_iload hx hb dL_isFair_325 (lv_at hl 0 rfl) ?_
                    refine lv_iload_n hx hb dL_isFair_327 rfl (lv_at hl 7 rfl) ?_
                    refine lv_icmp_ge (tgt := 396) hx hb dL_isFair_328 (by decide) (fun c742 => absurd c742 (nI_ge hlt (Nat.lt_of_le_of_lt hBd.1 (by decide)))) (fun _ => ?_)
                    refine lv_aload_n hx hb dL_isFair_331 rfl (lv_at hl 6 rfl) ?_
                    refine lv_iload hx hb dL_isFair_332 (lv_at hl 3 rfl) ?_
                    refine lv_iconst (v := 1) hx hb dL_isFair_334 (by decide) ?_
                    refine pc_qcalli (va_runV (As := [.int (nI i609), .int 1]) (rest := []) ⟨hx, hb, hml, hown, hts⟩ (r_X5_ofPack1 l D cA NL c v w u ad (nI i609) hM hBd hF (nI_nn (Nat.lt_of_lt_of_le hlt9i609 (Nat.le_trans hBd.2.2.2.2 (by decide)))) (by rw [nI_clamp (Nat.lt_of_lt_of_le hlt9i609 (Nat.le_trans hBd.2.2.2.2 (by decide)))]; exact hlt9i609)) (cwV 2 hts gL_isFair_X5_ofPack rfl rfl rfl (by decide +kernel) ⟨Nat.le_of_ble_eq_true rfl, Nat.le_of_ble_eq_true rfl⟩) (pc_preV pcN_ok hX hW.1 hM.1 rfl rfl hW.1) rfl rfl hl.1 rfl (lv_room (Nat.le_of_ble_eq_true rfl)) dL_isFair_335 ⟨Nat.le_of_ble_eq_true rfl, Nat.le_of_ble_eq_true rfl⟩) hW (fun r743 H locs hwr743 hW => ?_)
                    replace hwr743 := hwr743.symm
                    subst hwr743
                    refine lv_iload hx hb dL_isFair_338 (lv_at hl 0 rfl) ?_
                    refine lv_ishr hx hb dL_isFair_340 ?_
                    refine lv_iconst (v := 1) hx hb dL_isFair_341 (by decide) ?_
                    refine lv_iand hx hb dL_isFair_342 ?_
                    refine lv_iconst (v := 1) hx hb dL_isFair_343 (by decide) ?_
                    refine lv_icmp_ne (tgt := 390) hx hb dL_isFair_344 (by decide) (fun (c744 : ¬ (((F_X5_ofPack1 c v w (nI i609)) >>> ((nI i734) &&& 31)) &&& (1 : Int32)) = (1 : Int32)) => ?_) (fun (c744 : (((F_X5_ofPack1 c v w (nI i609)) >>> ((nI i734) &&& 31)) &&& (1 : Int32)) = (1 : Int32)) => ?_)
                    · refine lv_iinc (v := nI (i734 + 1)) (lv' := [(7, .int (nI (i734 + 1))), (6, .int (F_X5_ofPack0 c v w (nI i609))), (5, .int (F_X5_ofPack5 c v w (nI i609))), (4, .int (nI i609)), (3, .int (nI (c 4))), (2, .int (nI (PR c v w (c 0)))), (0, .ref (ad 5 0)), (1, .int (nI (c 0)))]) hx hb dL_isFair_390 hl (k := 0) rfl (nI_1 i734) (by decide) rfl (fun ls hl => ?_)
                      refine lv_goto (tgt := 314) hx hb dL_isFair_393 (by decide) ?_
                      exact ihk735 (i734 + 1) H locs ls (by omega) hW (lv_sub hl [0, 1, 2, 3, 4, 5, 6, 7] rfl)
                    · refine lv_aload_n hx hb dL_isFair_347 rfl (lv_at hl 6 rfl) ?_
                      refine lv_iload hx hb dL_isFair_348 (lv_at hl 1 rfl) ?_
                      refine lv_iload hx hb dL_isFair_350 (lv_at hl 0 rfl) ?_
                      refine pc_qcalli (va_runV (As := [.int (F_X5_ofPack0 c v w (nI i609)), .int (nI i734)]) (rest := []) ⟨hx, hb, hml, hown, hts⟩ (r_X5_has l D cA NL c v w u ad (F_X5_ofPack0 c v w (nI i609)) (nI i734) hM hBd hF (fa_crew hi hlt9i609).1 (fa_crew hi hlt9i609).2 (nI_nn (Nat.lt_of_lt_of_le hlt9i734 (Nat.le_trans hBd.1 (by decide)))) (by rw [nI_clamp (Nat.lt_of_lt_of_le hlt9i734 (Nat.le_trans hBd.1 (by decide)))]; exact hlt9i734)) (cwV 2 hts gL_isFair_X5_has rfl rfl rfl (by decide +kernel) ⟨Nat.le_of_ble_eq_true rfl, Nat.le_of_ble_eq_true rfl⟩) (pc_preV pcN_ok hX hW.1 hM.1 rfl rfl hW.1) rfl rfl hl.1 rfl (lv_room (Nat.le_of_ble_eq_true rfl)) dL_isFair_352 ⟨Nat.le_of_ble_eq_true rfl, Nat.le_of_ble_eq_true rfl⟩) hW (fun r745 H locs hwr745 hW => ?_)
                      replace hwr745 := hwr745.symm
                      subst hwr745
                      refine lv_aload_n hx hb dL_isFair_355 rfl (lv_at hl 6 rfl) ?_
                      refine lv_iload hx hb dL_isFair_356 (lv_at hl 0 rfl) ?_
                      refine lv_iconst (v := 2) hx hb dL_isFair_358 (by decide) ?_
                      refine pc_qcalli (va_runV (As := [.int (nI i734), .int 2]) (rest := [.int (F_X5_has c v w (F_X5_ofPack0 c v w (nI i609)) (nI i734))]) ⟨hx, hb, hml, hown, hts⟩ (r_X5_ofSheet2 l D cA NL c v w u ad (nI i734) hM hBd hF (nI_nn (Nat.lt_of_lt_of_le hlt9i734 (Nat.le_trans hBd.1 (by decide)))) (by rw [nI_clamp (Nat.lt_of_lt_of_le hlt9i734 (Nat.le_trans hBd.1 (by decide)))]; exact hlt9i734)) (cwV 2 hts gL_isFair_X5_ofSheet rfl rfl rfl (by decide +kernel) ⟨Nat.le_of_ble_eq_true rfl, Nat.le_of_ble_eq_true rfl⟩) (pc_preV pcN_ok hX hW.1 hM.1 rfl rfl hW.1) rfl rfl hl.1 rfl (lv_room (Nat.le_of_ble_eq_true rfl)) dL_isFair_359 ⟨Nat.le_of_ble_eq_true rfl, Nat.le_of_ble_eq_true rfl⟩) hW (fun r746 H locs hwr746 hW => ?_)
                      replace hwr746 := hwr746.symm
                      subst hwr746
                      refine lv_icmp_ne (tgt := 388) hx hb dL_isFair_362 (by decide) (fun c747 => absurd c747 (fun q => q (fa_sheet hi hlt9i609 hlt9i734 c702 c744).1)) (fun _ => ?_)
                      refine lv_aload_n hx hb dL_isFair_365 rfl (lv_at hl 6 rfl) ?_
                      refine lv_iload hx hb dL_isFair_366 (lv_at hl 0 rfl) ?_
                      refine lv_bipush (v := 7) hx hb dL_isFair_368 (by decide) ?_
                      refine pc_qcalli (va_runV (As := [.int (nI i734), .int 7]) (rest := []) ⟨hx, hb, hml, hown, hts⟩ (r_X5_ofSheet7 l D cA NL c v w u ad (nI i734) hM hBd hF (nI_nn (Nat.lt_of_lt_of_le hlt9i734 (Nat.le_trans hBd.1 (by decide)))) (by rw [nI_clamp (Nat.lt_of_lt_of_le hlt9i734 (Nat.le_trans hBd.1 (by decide)))]; exact hlt9i734)) (cwV 2 hts gL_isFair_X5_ofSheet rfl rfl rfl (by decide +kernel) ⟨Nat.le_of_ble_eq_true rfl, Nat.le_of_ble_eq_true rfl⟩) (pc_preV pcN_ok hX hW.1 hM.1 rfl rfl hW.1) rfl rfl hl.1 rfl (lv_room (Nat.le_of_ble_eq_true rfl)) dL_isFair_370 ⟨Nat.le_of_ble_eq_true rfl, Nat.le_of_ble_eq_true rfl⟩) hW (fun r748 H locs hwr748 hW => ?_)
                      replace hwr748 := hwr748.symm
                      subst hwr748
                      refine lv_if_gt (tgt := 388) hx hb dL_isFair_373 (by decide) (fun c749 => absurd c749 (fa_sheet hi hlt9i609 hlt9i734 c702 c744).2.1) (fun _ => ?_)
                      refine lv_aload_n hx hb dL_isFair_376 rfl (lv_at hl 6 rfl) ?_
                      refine lv_iload hx hb dL_isFair_377 (lv_at hl 0 rfl) ?_
                      refine lv_bipush (v := 6) hx hb dL_isFair_379 (by decide) ?_
                      refine pc_qcalli (va_runV (As := [.int (nI i734), .int 6]) (rest := []) ⟨hx, hb, hml, hown, hts⟩ (r_X5_ofSheet6 l D cA NL c v w u ad (nI i734) hM hBd hF (nI_nn (Nat.lt_of_lt_of_le hlt9i734 (Nat.le_trans hBd.1 (by decide)))) (by rw [nI_clamp (Nat.lt_of_lt_of_le hlt9i734 (Nat.le_trans hBd.1 (by decide)))]; exact hlt9i734)) (cwV 2 hts gL_isFair_X5_ofSheet rfl rfl rfl (by decide +kernel) ⟨Nat.le_of_ble_eq_true rfl, Nat.le_of_ble_eq_true rfl⟩) (pc_preV pcN_ok hX hW.1 hM.1 rfl rfl hW.1) rfl rfl hl.1 rfl (lv_room (Nat.le_of_ble_eq_true rfl)) dL_isFair_381 ⟨Nat.le_of_ble_eq_true rfl, Nat.le_of_ble_eq_true rfl⟩) hW (fun r750 H locs hwr750 hW => ?_)
                      replace hwr750 := hwr750.symm
                      subst hwr750
                      refine lv_iconst (v := 2) hx hb dL_isFair_384 (by decide) ?_
                      refine lv_icmp_le (tgt := 390) hx hb dL_isFair_385 (by decide) (fun _ => ?_) (fun c751 => absurd (fa_sheet hi hlt9i609 hlt9i734 c702 c744).2.2 c751)
                      refine lv_iinc (v := nI (i734 + 1)) (lv' := [(7, .int (nI (i734 + 1))), (6, .int (F_X5_ofPack0 c v w (nI i609))), (5, .int (F_X5_ofPack5 c v w (nI i609))), (4, .int (nI i609)), (3, .int (nI (c 4))), (2, .int (nI (PR c v w (c 0)))), (0, .ref (ad 5 0)), (1, .int (nI (c 0)))]) hx hb dL_isFair_390 hl (k := 0) rfl (nI_1 i734) (by decide) rfl (fun ls hl => ?_)
                      refine lv_goto (tgt := 314) hx hb dL_isFair_393 (by decide) ?_
                      exact ihk735 (i734 + 1) H locs ls (by omega) hW (lv_sub hl [0, 1, 2, 3, 4, 5, 6, 7] rfl)
                exact K736 (c 0) 0 _ _ ls (by omega) hW (lv_sub hl [0, 1, 2, 3, 4, 5, 6, 7] rfl)
              · refine lv_iconst (v := 1) hx hb dL_isFair_277 (by decide) ?_
                refine lv_goto (tgt := 282) hx hb dL_isFair_278 (by decide) ?_
                refine lv_aload_n hx hb dL_isFair_282 rfl (lv_at hl 4 rfl) ?_
                refine lv_iload hx hb dL_isFair_283 (lv_at hl 1 rfl) ?_
                refine lv_iconst (v := 3) hx hb dL_isFair_285 (by decide) ?_
                refine pc_qcalli (va_runV (As := [.int (nI i609), .int 3]) (rest := [.int 1]) ⟨hx, hb, hml, hown, hts⟩ (r_X5_ofPack3 l D cA NL c v w u ad (nI i609) hM hBd hF (nI_nn (Nat.lt_of_lt_of_le hlt9i609 (Nat.le_trans hBd.2.2.2.2 (by decide)))) (by rw [nI_clamp (Nat.lt_of_lt_of_le hlt9i609 (Nat.le_trans hBd.2.2.2.2 (by decide)))]; exact hlt9i609)) (cwV 2 hts gL_isFair_X5_ofPack rfl rfl rfl (by decide +kernel) ⟨Nat.le_of_ble_eq_true rfl, Nat.le_of_ble_eq_true rfl⟩) (pc_preV pcN_ok hX hW.1 hM.1 rfl rfl hW.1) rfl rfl hl.1 rfl (lv_room (Nat.le_of_ble_eq_true rfl)) dL_isFair_286 ⟨Nat.le_of_ble_eq_true rfl, Nat.le_of_ble_eq_true rfl⟩) hW (fun r752 H locs hwr752 hW => ?_)
                replace hwr752 := hwr752.symm
                subst hwr752
                refine lv_if_ne (tgt := 296) hx hb dL_isFair_289 (by decide) (fun c753 => absurd c753 (fun q => q ((fa_done hi hlt9i609).mp c729))) (fun _ => ?_)
                refine lv_iconst (v := 1) hx hb dL_isFair_292 (by decide) ?_
                refine lv_goto (tgt := 297) hx hb dL_isFair_293 (by decide) ?_
                refine lv_icmp_eq (tgt := 302) hx hb dL_isFair_297 (by decide) (fun _ => ?_) (fun c754 => absurd (by decide) c754)
                refine lv_aload_n hx hb dL_isFair_302 rfl (lv_at hl 4 rfl) ?_
                refine lv_iload hx hb dL_isFair_303 (lv_at hl 1 rfl) ?_
                refine lv_iconst (v := 0) hx hb dL_isFair_305 (by decide) ?_
                refine pc_qcalli (va_runV (As := [.int (nI i609), .int 0]) (rest := []) ⟨hx, hb, hml, hown, hts⟩ (r_X5_ofPack0 l D cA NL c v w u ad (nI i609) hM hBd hF (nI_nn (Nat.lt_of_lt_of_le hlt9i609 (Nat.le_trans hBd.2.2.2.2 (by decide)))) (by rw [nI_clamp (Nat.lt_of_lt_of_le hlt9i609 (Nat.le_trans hBd.2.2.2.2 (by decide)))]; exact hlt9i609)) (cwV 2 hts gL_isFair_X5_ofPack rfl rfl rfl (by decide +kernel) ⟨Nat.le_of_ble_eq_true rfl, Nat.le_of_ble_eq_true rfl⟩) (pc_preV pcN_ok hX hW.1 hM.1 rfl rfl hW.1) rfl rfl hl.1 rfl (lv_room (Nat.le_of_ble_eq_true rfl)) dL_isFair_306 ⟨Nat.le_of_ble_eq_true rfl, Nat.le_of_ble_eq_true rfl⟩) hW (fun r755 H locs hwr755 hW => ?_)
                replace hwr755 := hwr755.symm
                subst hwr755
                refine lv_istore (lv' := [(6, .int (F_X5_ofPack0 c v w (nI i609))), (5, .int (F_X5_ofPack5 c v w (nI i609))), (4, .int (nI i609)), (3, .int (nI (c 4))), (2, .int (nI (PR c v w (c 0)))), (0, .ref (ad 5 0)), (1, .int (nI (c 0)))]) hx hb dL_isFair_309 hl (by decide) rfl (fun ls hl => ?_)
                refine lv_iconst (v := 0) hx hb dL_isFair_311 (by decide) ?_
                refine lv_istore (lv' := [(7, .int 0), (6, .int (F_X5_ofPack0 c v w (nI i609))), (5, .int (F_X5_ofPack5 c v w (nI i609))), (4, .int (nI i609)), (3, .int (nI (c 4))), (2, .int (nI (PR c v w (c 0)))), (0, .ref (ad 5 0)), (1, .int (nI (c 0)))]) hx hb dL_isFair_312 hl (by decide) rfl (fun ls hl => ?_)
                have K758 : ∀ (k757 i756 : Nat) (H : Heap) (locs : List Loc) (ls : Array Slot), i756 + k757 = (c 0) → pcQ D vwCl (fun _ => False) s.heap NL ad (ctO cA c v w u ad) H locs → lv_has ls 8 [(7, .int (nI i756)), (6, .int (F_X5_ofPack0 c v w (nI i609))), (5, .int (F_X5_ofPack5 c v w (nI i609))), (4, .int (nI i609)), (3, .int (nI (c 4))), (2, .int (nI (PR c v w (c 0)))), (0, .ref (ad 5 0)), (1, .int (nI (c 0)))] → W p l e (headSpec wsL_isFair ({ frames := 7, cells := 0, slots := 0, locals := 164 })).room s m ([.ref (ad 5 0), .int (nI (c 0))] : List Value).toArray below meth c0 H locs 0 0 (MQ below (va_Qi (fun (r : Int32) (_ : Unit) => r = 1) (fun _ _ => True) (fun _ => False)) ([.ref (ad 5 0), .int (nI (c 0))] : List Value).toArray s 0 0 (fun _ => False)) (F0 m 314 ls []) := by
                  intro k757
                  induction k757 with
                  | zero =>
                    intro i756 H locs ls hk hW hl
                    have ei : i756 = (c 0) := by omega
                    rw [ei] at hl
                    refine lv_aload_n hx hb dL_isFair_314 rfl (lv_at hl 6 rfl) ?_
                    refine lv_iload hx hb dL_isFair_315 (lv_at hl 3 rfl) ?_
                    refine lv_iconst (v := 2) hx hb dL_isFair_317 (by decide) ?_
                    refine pc_qcalli (va_runV (As := [.int (nI i609), .int 2]) (rest := []) ⟨hx, hb, hml, hown, hts⟩ (r_X5_ofPack2 l D cA NL c v w u ad (nI i609) hM hBd hF (nI_nn (Nat.lt_of_lt_of_le hlt9i609 (Nat.le_trans hBd.2.2.2.2 (by decide)))) (by rw [nI_clamp (Nat.lt_of_lt_of_le hlt9i609 (Nat.le_trans hBd.2.2.2.2 (by decide)))]; exact hlt9i609)) (cwV 2 hts gL_isFair_X5_ofPack rfl rfl rfl (by decide +kernel) ⟨Nat.le_of_ble_eq_true rfl, Nat.le_of_ble_eq_true rfl⟩) (pc_preV pcN_ok hX hW.1 hM.1 rfl rfl hW.1) rfl rfl hl.1 rfl (lv_room (Nat.le_of_ble_eq_true rfl)) dL_isFair_318 ⟨Nat.le_of_ble_eq_true rfl, Nat.le_of_ble_eq_true rfl⟩) hW (fun r759 H locs hwr759 hW => ?_)
                    replace hwr759 := hwr759.symm
                    subst hwr759
                    refine lv_iconst (v := 1) hx hb dL_isFair_321 (by decide) ?_
                    refine lv_icmp_ne (tgt := 396) hx hb dL_isFair_322 (by decide) (fun c760 => absurd c760 (fun q => q c702)) (fun _ => ?_)
                    refine lv_iload hx hb dL_isFair_325 (lv_at hl 0 rfl) ?_
                    refine lv_iload_n hx hb dL_isFair_327 rfl (lv_at hl 7 rfl) ?_
                    refine lv_icmp_ge (tgt := 396) hx hb dL_isFair_328 (by decide) (fun _ => ?_) (fun c761 => absurd (Int32.le_refl _) c761)
                    refine lv_iinc (v := nI (i609 + 1)) (lv' := [(4, .int (nI (i609 + 1))), (7, .int (nI (c 0))), (6, .int (F_X5_ofPack0 c v w (nI i609))), (5, .int (F_X5_ofPack5 c v w (nI i609))), (3, .int (nI (c 4))), (2, .int (nI (PR c v w (c 0)))), (0, .ref (ad 5 0)), (1, .int (nI (c 0)))]) hx hb dL_isFair_396 hl (k := 3) rfl (nI_1 i609) (by decide) rfl (fun ls hl => ?_)
                    refine lv_goto (tgt := 207) hx hb dL_isFair_399 (by decide) ?_
                    exact ihk610 (i609 + 1) H locs ls (by omega) hW (lv_sub hl [0, 4, 5, 6, 7] rfl)
                  | succ k757 ihk757 =>
                    intro i756 H locs ls hk hW hl
                    have hlt : i756 < (c 0) := by omega
                    have hlt9i756 := hlt
                    refine lv_aload_n hx hb dL_isFair_314 rfl (lv_at hl 6 rfl) ?_
                    refine lv_iload hx hb dL_isFair_315 (lv_at hl 3 rfl) ?_
                    refine lv_iconst (v := 2) hx hb dL_isFair_317 (by decide) ?_
                    refine pc_qcalli (va_runV (As := [.int (nI i609), .int 2]) (rest := []) ⟨hx, hb, hml, hown, hts⟩ (r_X5_ofPack2 l D cA NL c v w u ad (nI i609) hM hBd hF (nI_nn (Nat.lt_of_lt_of_le hlt9i609 (Nat.le_trans hBd.2.2.2.2 (by decide)))) (by rw [nI_clamp (Nat.lt_of_lt_of_le hlt9i609 (Nat.le_trans hBd.2.2.2.2 (by decide)))]; exact hlt9i609)) (cwV 2 hts gL_isFair_X5_ofPack rfl rfl rfl (by decide +kernel) ⟨Nat.le_of_ble_eq_true rfl, Nat.le_of_ble_eq_true rfl⟩) (pc_preV pcN_ok hX hW.1 hM.1 rfl rfl hW.1) rfl rfl hl.1 rfl (lv_room (Nat.le_of_ble_eq_true rfl)) dL_isFair_318 ⟨Nat.le_of_ble_eq_true rfl, Nat.le_of_ble_eq_true rfl⟩) hW (fun r762 H locs hwr762 hW => ?_)
                    replace hwr762 := hwr762.symm
                    subst hwr762
                    refine lv_iconst (v := 1) hx hb dL_isFair_321 (by decide) ?_
                    refine lv_icmp_ne (tgt := 396) hx hb dL_isFair_322 (by decide) (fun c763 => absurd c763 (fun q => q c702)) (fun _ => ?_)
                    refine lv_iload hx hb dL_isFair_325 (lv_at hl 0 rfl) ?_
                    refine lv_iload_n hx hb dL_isFair_327 rfl (lv_at hl 7 rfl) ?_
                    refine lv_icmp_ge (tgt := 396) hx hb dL_isFair_328 (by decide) (fun c764 => absurd c764 (nI_ge hlt (Nat.lt_of_le_of_lt hBd.1 (by decide)))) (fun _ => ?_)
                    refine lv_aload_n hx hb dL_isFair_331 rfl (lv_at hl 6 rfl) ?_
                    refine lv_iload hx hb dL_isFair_332 (lv_at hl 3 rfl) ?_
                    refine lv_iconst (v := 1) hx hb dL_isFair_334 (by decide) ?_
                    refine pc_qcalli (va_runV (As := [.int (nI i609), .int 1]) (rest := []) ⟨hx, hb, hml, hown, hts⟩ (r_X5_ofPack1 l D cA NL c v w u ad (nI i609) hM hBd hF (nI_nn (Nat.lt_of_lt_of_le hlt9i609 (Nat.le_trans hBd.2.2.2.2 (by decide)))) (by rw [nI_clamp (Nat.lt_of_lt_of_le hlt9i609 (Nat.le_trans hBd.2.2.2.2 (by decide)))]; exact hlt9i609)) (cwV 2 hts gL_isFair_X5_ofPack rfl rfl rfl (by decide +kernel) ⟨Nat.le_of_ble_eq_true rfl, Nat.le_of_ble_eq_true rfl⟩) (pc_preV pcN_ok hX hW.1 hM.1 rfl rfl hW.1) rfl rfl hl.1 rfl (lv_room (Nat.le_of_ble_eq_true rfl)) dL_isFair_335 ⟨Nat.le_of_ble_eq_true rfl, Nat.le_of_ble_eq_true rfl⟩) hW (fun r765 H locs hwr765 hW => ?_)
                    replace hwr765 := hwr765.symm
                    subst hwr765
                    refine lv_iload hx hb dL_isFair_338 (lv_at hl 0 rfl) ?_
                    refine lv_ishr hx hb dL_isFair_340 ?_
                    refine lv_iconst (v := 1) hx hb dL_isFair_341 (by decide) ?_
                    refine lv_iand hx hb dL_isFair_342 ?_
                    refine lv_iconst (v := 1) hx hb dL_isFair_343 (by decide) ?_
                    refine lv_icmp_ne (tgt := 390) hx hb dL_isFair_344 (by decide) (fun (c766 : ¬ (((F_X5_ofPack1 c v w (nI i609)) >>> ((nI i756) &&& 31)) &&& (1 : Int32)) = (1 : Int32)) => ?_) (fun (c766 : (((F_X5_ofPack1 c v w (nI i609)) >>> ((nI i756) &&& 31)) &&& (1 : Int32)) = (1 : Int32)) => ?_)
                    · refine lv_iinc (v := nI (i756 + 1)) (lv' := [(7, .int (nI (i756 + 1))), (6, .int (F_X5_ofPack0 c v w (nI i609))), (5, .int (F_X5_ofPack5 c v w (nI i609))), (4, .int (nI i609)), (3, .int (nI (c 4))), (2, .int (nI (PR c v w (c 0)))), (0, .ref (ad 5 0)), (1, .int (nI (c 0)))]) hx hb dL_isFair_390 hl (k := 0) rfl (nI_1 i756) (by decide) rfl (fun ls hl => ?_)
                      refine lv_goto (tgt := 314) hx hb dL_isFair_393 (by decide) ?_
                      exact ihk757 (i756 + 1) H locs ls (by omega) hW (lv_sub hl [0, 1, 2, 3, 4, 5, 6, 7] rfl)
                    · refine lv_aload_n hx hb dL_isFair_347 rfl (lv_at hl 6 rfl) ?_
                      refine lv_iload hx hb dL_isFair_348 (lv_at hl 1 rfl) ?_
                      refine lv_iload hx hb dL_isFair_350 (lv_at hl 0 rfl) ?_
                      refine pc_qcalli (va_runV (As := [.int (F_X5_ofPack0 c v w (nI i609)), .int (nI i756)]) (rest := []) ⟨hx, hb, hml, hown, hts⟩ (r_X5_has l D cA NL c v w u ad (F_X5_ofPack0 c v w (nI i609)) (nI i756) hM hBd hF (fa_crew hi hlt9i609).1 (fa_crew hi hlt9i609).2 (nI_nn (Nat.lt_of_lt_of_le hlt9i756 (Nat.le_trans hBd.1 (by decide)))) (by rw [nI_clamp (Nat.lt_of_lt_of_le hlt9i756 (Nat.le_trans hBd.1 (by decide)))]; exact hlt9i756)) (cwV 2 hts gL_isFair_X5_has rfl rfl rfl (by decide +kernel) ⟨Nat.le_of_ble_eq_true rfl, Nat.le_of_ble_eq_true rfl⟩) (pc_preV pcN_ok hX hW.1 hM.1 rfl rfl hW.1) rfl rfl hl.1 rfl (lv_room (Nat.le_of_ble_eq_true rfl)) dL_isFair_352 ⟨Nat.le_of_ble_eq_true rfl, Nat.le_of_ble_eq_true rfl⟩) hW (fun r767 H locs hwr767 hW => ?_)
                      replace hwr767 := hwr767.symm
                      subst hwr767
                      refine lv_aload_n hx hb dL_isFair_355 rfl (lv_at hl 6 rfl) ?_
                      refine lv_iload hx hb dL_isFair_356 (lv_at hl 0 rfl) ?_
                      refine lv_iconst (v := 2) hx hb dL_isFair_358 (by decide) ?_
                      refine pc_qcalli (va_runV (As := [.int (nI i756), .int 2]) (rest := [.int (F_X5_has c v w (F_X5_ofPack0 c v w (nI i609)) (nI i756))]) ⟨hx, hb, hml, hown, hts⟩ (r_X5_ofSheet2 l D cA NL c v w u ad (nI i756) hM hBd hF (nI_nn (Nat.lt_of_lt_of_le hlt9i756 (Nat.le_trans hBd.1 (by decide)))) (by rw [nI_clamp (Nat.lt_of_lt_of_le hlt9i756 (Nat.le_trans hBd.1 (by decide)))]; exact hlt9i756)) (cwV 2 hts gL_isFair_X5_ofSheet rfl rfl rfl (by decide +kernel) ⟨Nat.le_of_ble_eq_true rfl, Nat.le_of_ble_eq_true rfl⟩) (pc_preV pcN_ok hX hW.1 hM.1 rfl rfl hW.1) rfl rfl hl.1 rfl (lv_room (Nat.le_of_ble_eq_true rfl)) dL_isFair_359 ⟨Nat.le_of_ble_eq_true rfl, Nat.le_of_ble_eq_true rfl⟩) hW (fun r768 H locs hwr768 hW => ?_)
                      replace hwr768 := hwr768.symm
                      subst hwr768
                      refine lv_icmp_ne (tgt := 388) hx hb dL_isFair_362 (by decide) (fun c769 => absurd c769 (fun q => q (fa_sheet hi hlt9i609 hlt9i756 c702 c766).1)) (fun _ => ?_)
                      refine lv_aload_n hx hb dL_isFair_365 rfl (lv_at hl 6 rfl) ?_
                      refine lv_iload hx hb dL_isFair_366 (lv_at hl 0 rfl) ?_
                      refine lv_bipush (v := 7) hx hb dL_isFair_368 (by decide) ?_
                      refine pc_qcalli (va_runV (As := [.int (nI i756), .int 7]) (rest := []) ⟨hx, hb, hml, hown, hts⟩ (r_X5_ofSheet7 l D cA NL c v w u ad (nI i756) hM hBd hF (nI_nn (Nat.lt_of_lt_of_le hlt9i756 (Nat.le_trans hBd.1 (by decide)))) (by rw [nI_clamp (Nat.lt_of_lt_of_le hlt9i756 (Nat.le_trans hBd.1 (by decide)))]; exact hlt9i756)) (cwV 2 hts gL_isFair_X5_ofSheet rfl rfl rfl (by decide +kernel) ⟨Nat.le_of_ble_eq_true rfl, Nat.le_of_ble_eq_true rfl⟩) (pc_preV pcN_ok hX hW.1 hM.1 rfl rfl hW.1) rfl rfl hl.1 rfl (lv_room (Nat.le_of_ble_eq_true rfl)) dL_isFair_370 ⟨Nat.le_of_ble_eq_true rfl, Nat.le_of_ble_eq_true rfl⟩) hW (fun r770 H locs hwr770 hW => ?_)
                      replace hwr770 := hwr770.symm
                      subst hwr770
                      refine lv_if_gt (tgt := 388) hx hb dL_isFair_373 (by decide) (fun c771 => absurd c771 (fa_sheet hi hlt9i609 hlt9i756 c702 c766).2.1) (fun _ => ?_)
                      refine lv_aload_n hx hb dL_isFair_376 rfl (lv_at hl 6 rfl) ?_
                      refine lv_iload hx hb dL_isFair_377 (lv_at hl 0 rfl) ?_
                      refine lv_bipush (v := 6) hx hb dL_isFair_379 (by decide) ?_
                      refine pc_qcalli (va_runV (As := [.int (nI i756), .int 6]) (rest := []) ⟨hx, hb, hml, hown, hts⟩ (r_X5_ofSheet6 l D cA NL c v w u ad (nI i756) hM hBd hF (nI_nn (Nat.lt_of_lt_of_le hlt9i756 (Nat.le_trans hBd.1 (by decide)))) (by rw [nI_clamp (Nat.lt_of_lt_of_le hlt9i756 (Nat.le_trans hBd.1 (by decide)))]; exact hlt9i756)) (cwV 2 hts gL_isFair_X5_ofSheet rfl rfl rfl (by decide +kernel) ⟨Nat.le_of_ble_eq_true rfl, Nat.le_of_ble_eq_true rfl⟩) (pc_preV pcN_ok hX hW.1 hM.1 rfl rfl hW.1) rfl rfl hl.1 rfl (lv_room (Nat.le_of_ble_eq_true rfl)) dL_isFair_381 ⟨Nat.le_of_ble_eq_true rfl, Nat.le_of_ble_eq_true rfl⟩) hW (fun r772 H locs hwr772 hW => ?_)
                      replace hwr772 := hwr772.symm
                      subst hwr772
                      refine lv_iconst (v := 2) hx hb dL_isFair_384 (by decide) ?_
                      refine lv_icmp_le (tgt := 390) hx hb dL_isFair_385 (by decide) (fun _ => ?_) (fun c773 => absurd (fa_sheet hi hlt9i609 hlt9i756 c702 c766).2.2 c773)
                      refine lv_iinc (v := nI (i756 + 1)) (lv' := [(7, .int (nI (i756 + 1))), (6, .int (F_X5_ofPack0 c v w (nI i609))), (5, .int (F_X5_ofPack5 c v w (nI i609))), (4, .int (nI i609)), (3, .int (nI (c 4))), (2, .int (nI (PR c v w (c 0)))), (0, .ref (ad 5 0)), (1, .int (nI (c 0)))]) hx hb dL_isFair_390 hl (k := 0) rfl (nI_1 i756) (by decide) rfl (fun ls hl => ?_)
                      refine lv_goto (tgt := 314) hx hb dL_isFair_393 (by decide) ?_
                      exact ihk757 (i756 + 1) H locs ls (by omega) hW (lv_sub hl [0, 1, 2, 3, 4, 5, 6, 7] rfl)
                exact K758 (c 0) 0 _ _ ls (by omega) hW (lv_sub hl [0, 1, 2, 3, 4, 5, 6, 7] rfl)
      exact K611 (c 4) 0 _ _ ls (by omega) hW (lv_sub hl [0, 1, 2, 3, 4] rfl)
    | succ k605 ihk605 =>
      intro i604 H locs ls hk hW hl
      have hlt : i604 < (c 0) := by omega
      have hlt9i604 := hlt
      refine lv_iload_n hx hb dL_isFair_4 rfl (lv_at hl 0 rfl) ?_
      refine lv_iload_n hx hb dL_isFair_5 rfl (lv_at hl 3 rfl) ?_
      refine lv_icmp_ge (tgt := 197) hx hb dL_isFair_6 (by decide) (fun c774 => absurd c774 (nI_ge hlt (Nat.lt_of_le_of_lt hBd.1 (by decide)))) (fun _ => ?_)
      refine lv_aload_n hx hb dL_isFair_9 rfl (lv_at hl 2 rfl) ?_
      refine lv_iload_n hx hb dL_isFair_10 rfl (lv_at hl 0 rfl) ?_
      refine lv_iconst (v := 1) hx hb dL_isFair_11 (by decide) ?_
      refine pc_qcalli (va_runV (As := [.int (nI i604), .int 1]) (rest := []) ⟨hx, hb, hml, hown, hts⟩ (r_X5_ofSheet1 l D cA NL c v w u ad (nI i604) hM hBd hF (nI_nn (Nat.lt_of_lt_of_le hlt9i604 (Nat.le_trans hBd.1 (by decide)))) (by rw [nI_clamp (Nat.lt_of_lt_of_le hlt9i604 (Nat.le_trans hBd.1 (by decide)))]; exact hlt9i604)) (cwV 2 hts gL_isFair_X5_ofSheet rfl rfl rfl (by decide +kernel) ⟨Nat.le_of_ble_eq_true rfl, Nat.le_of_ble_eq_true rfl⟩) (pc_preV pcN_ok hX hW.1 hM.1 rfl rfl hW.1) rfl rfl hl.1 rfl (lv_room (Nat.le_of_ble_eq_true rfl)) dL_isFair_12 ⟨Nat.le_of_ble_eq_true rfl, Nat.le_of_ble_eq_true rfl⟩) hW (fun r775 H locs hwr775 hW => ?_)
      replace hwr775 := hwr775.symm
      subst hwr775
      refine lv_iconst (v := 1) hx hb dL_isFair_15 (by decide) ?_
      refine lv_isub hx hb dL_isFair_16 ?_
      rw [fa_last (by have := hi.1; omega)]
      refine lv_istore (lv' := [(4, .int (v 1 i604 1)), (3, .int (nI i604)), (2, .int (nI (PR c v w i604))), (0, .ref (ad 5 0)), (1, .int (nI (c 0)))]) hx hb dL_isFair_17 hl (by decide) rfl (fun ls hl => ?_)
      refine lv_iconst (v := 0) hx hb dL_isFair_19 (by decide) ?_
      refine lv_istore (lv' := [(5, .int 0), (4, .int (v 1 i604 1)), (3, .int (nI i604)), (2, .int (nI (PR c v w i604))), (0, .ref (ad 5 0)), (1, .int (nI (c 0)))]) hx hb dL_isFair_20 hl (by decide) rfl (fun ls hl => ?_)
      refine lv_iconst (v := 0) hx hb dL_isFair_22 (by decide) ?_
      refine lv_istore (lv' := [(6, .int 0), (5, .int 0), (4, .int (v 1 i604 1)), (3, .int (nI i604)), (2, .int (nI (PR c v w i604))), (0, .ref (ad 5 0)), (1, .int (nI (c 0)))]) hx hb dL_isFair_23 hl (by decide) rfl (fun ls hl => ?_)
      have K778 : ∀ (k777 i776 : Nat) (H : Heap) (locs : List Loc) (ls : Array Slot), i776 + k777 = ((v 1 i604 1).toNatClampNeg + 1) → pcQ D vwCl (fun _ => False) s.heap NL ad (ctO cA c v w u ad) H locs → lv_has ls 8 [(6, .int (nI i776)), (5, .int (isu v i604 i776)), (4, .int (v 1 i604 1)), (3, .int (nI i604)), (2, .int (nI (PR c v w i604))), (0, .ref (ad 5 0)), (1, .int (nI (c 0)))] → W p l e (headSpec wsL_isFair ({ frames := 7, cells := 0, slots := 0, locals := 164 })).room s m ([.ref (ad 5 0), .int (nI (c 0))] : List Value).toArray below meth c0 H locs 0 0 (MQ below (va_Qi (fun (r : Int32) (_ : Unit) => r = 1) (fun _ _ => True) (fun _ => False)) ([.ref (ad 5 0), .int (nI (c 0))] : List Value).toArray s 0 0 (fun _ => False)) (F0 m 25 ls []) := by
        intro k777
        induction k777 with
        | zero =>
          intro i776 H locs ls hk hW hl
          have ei : i776 = ((v 1 i604 1).toNatClampNeg + 1) := by omega
          rw [ei] at hl
          refine lv_iload hx hb dL_isFair_25 (lv_at hl 0 rfl) ?_
          refine lv_iload hx hb dL_isFair_27 (lv_at hl 2 rfl) ?_
          refine lv_icmp_gt (tgt := 95) hx hb dL_isFair_29 (by decide) (fun _ => ?_) (fun c779 => absurd (last_exit (hF.2.2 i604 hlt9i604).1 (hF.2.2 i604 hlt9i604).2) c779)
          refine lv_iload hx hb dL_isFair_95 (lv_at hl 1 rfl) ?_
          refine lv_iconst (v := 1) hx hb dL_isFair_97 (by decide) ?_
          refine lv_icmp_ne (tgt := 117) hx hb dL_isFair_98 (by decide) (fun c780 => absurd c780 (fun q => q (isu_end hi hlt9i604))) (fun _ => ?_)
          refine lv_aload_n hx hb dL_isFair_101 rfl (lv_at hl 5 rfl) ?_
          refine lv_iload_n hx hb dL_isFair_102 rfl (lv_at hl 3 rfl) ?_
          refine lv_iconst (v := 3) hx hb dL_isFair_103 (by decide) ?_
          refine pc_qcalli (va_runV (As := [.int (nI i604), .int 3]) (rest := []) ⟨hx, hb, hml, hown, hts⟩ (r_X5_ofSheet3 l D cA NL c v w u ad (nI i604) hM hBd hF (nI_nn (Nat.lt_of_lt_of_le hlt9i604 (Nat.le_trans hBd.1 (by decide)))) (by rw [nI_clamp (Nat.lt_of_lt_of_le hlt9i604 (Nat.le_trans hBd.1 (by decide)))]; exact hlt9i604)) (cwV 2 hts gL_isFair_X5_ofSheet rfl rfl rfl (by decide +kernel) ⟨Nat.le_of_ble_eq_true rfl, Nat.le_of_ble_eq_true rfl⟩) (pc_preV pcN_ok hX hW.1 hM.1 rfl rfl hW.1) rfl rfl hl.1 rfl (lv_room (Nat.le_of_ble_eq_true rfl)) dL_isFair_104 ⟨Nat.le_of_ble_eq_true rfl, Nat.le_of_ble_eq_true rfl⟩) hW (fun r781 H locs hwr781 hW => ?_)
          replace hwr781 := hwr781.symm
          subst hwr781
          refine lv_aload_n hx hb dL_isFair_107 rfl (lv_at hl 5 rfl) ?_
          refine lv_iload_n hx hb dL_isFair_108 rfl (lv_at hl 3 rfl) ?_
          refine lv_iload hx hb dL_isFair_109 (lv_at hl 2 rfl) ?_
          refine pc_qcalli (va_runV (As := [.int (nI i604), .int (v 1 i604 1)]) (rest := [.int (F_X5_ofSheet3 c v w (nI i604))]) ⟨hx, hb, hml, hown, hts⟩ (r_X5_status l D cA NL c v w u ad (nI i604) (v 1 i604 1) hM hBd hF (nI_nn (Nat.lt_of_lt_of_le hlt9i604 (Nat.le_trans hBd.1 (by decide)))) (by rw [nI_clamp (Nat.lt_of_lt_of_le hlt9i604 (Nat.le_trans hBd.1 (by decide)))]; exact hlt9i604) (hF.2.2 i604 hlt9i604).1 (by rw [nI_clamp (Nat.lt_of_lt_of_le hlt9i604 (Nat.le_trans hBd.1 (by decide)))]; exact Int32.le_refl _)) (cwV 2 hts gL_isFair_X5_status rfl rfl rfl (by decide +kernel) ⟨Nat.le_of_ble_eq_true rfl, Nat.le_of_ble_eq_true rfl⟩) (pc_preV pcN_ok hX hW.1 hM.1 rfl rfl hW.1) rfl rfl hl.1 rfl (lv_room (Nat.le_of_ble_eq_true rfl)) dL_isFair_111 ⟨Nat.le_of_ble_eq_true rfl, Nat.le_of_ble_eq_true rfl⟩) hW (fun r782 H locs hwr782 hW => ?_)
          replace hwr782 := hwr782.symm
          subst hwr782
          refine lv_icmp_eq (tgt := 119) hx hb dL_isFair_114 (by decide) (fun _ => ?_) (fun c783 => absurd (fa_3 (by have := hi.1; omega)) c783)
          refine lv_iconst (v := 0) hx hb dL_isFair_119 (by decide) ?_
          refine lv_istore (lv' := [(6, .int 0), (5, .int (isu v i604 ((v 1 i604 1).toNatClampNeg + 1))), (4, .int (v 1 i604 1)), (3, .int (nI i604)), (2, .int (nI (PR c v w i604))), (0, .ref (ad 5 0)), (1, .int (nI (c 0)))]) hx hb dL_isFair_120 hl (by decide) rfl (fun ls hl => ?_)
          have K786 : ∀ (k785 i784 : Nat) (H : Heap) (locs : List Loc) (ls : Array Slot), i784 + k785 = i604 → pcQ D vwCl (fun _ => False) s.heap NL ad (ctO cA c v w u ad) H locs → lv_has ls 8 [(6, .int (nI i784)), (5, .int (isu v i604 ((v 1 i604 1).toNatClampNeg + 1))), (4, .int (v 1 i604 1)), (3, .int (nI i604)), (2, .int (nI (PR c v w i604 + PQ c v w i604 i784))), (0, .ref (ad 5 0)), (1, .int (nI (c 0)))] → W p l e (headSpec wsL_isFair ({ frames := 7, cells := 0, slots := 0, locals := 164 })).room s m ([.ref (ad 5 0), .int (nI (c 0))] : List Value).toArray below meth c0 H locs 0 0 (MQ below (va_Qi (fun (r : Int32) (_ : Unit) => r = 1) (fun _ _ => True) (fun _ => False)) ([.ref (ad 5 0), .int (nI (c 0))] : List Value).toArray s 0 0 (fun _ => False)) (F0 m 122 ls []) := by
            intro k785
            induction k785 with
            | zero =>
              intro i784 H locs ls hk hW hl
              have ei : i784 = i604 := by omega
              rw [ei] at hl
              refine lv_iload hx hb dL_isFair_122 (lv_at hl 0 rfl) ?_
              refine lv_iload_n hx hb dL_isFair_124 rfl (lv_at hl 3 rfl) ?_
              refine lv_icmp_ge (tgt := 191) hx hb dL_isFair_125 (by decide) (fun _ => ?_) (fun c787 => absurd (Int32.le_refl _) c787)
              refine lv_iinc (v := nI (i604 + 1)) (lv' := [(3, .int (nI (i604 + 1))), (6, .int (nI i604)), (5, .int (isu v i604 ((v 1 i604 1).toNatClampNeg + 1))), (4, .int (v 1 i604 1)), (2, .int (nI (PR c v w i604 + PQ c v w i604 i604))), (0, .ref (ad 5 0)), (1, .int (nI (c 0)))]) hx hb dL_isFair_191 hl (k := 3) rfl (nI_1 i604) (by decide) rfl (fun ls hl => ?_)
              refine lv_goto (tgt := 4) hx hb dL_isFair_194 (by decide) ?_
              have e92 : (nI (PR c v w i604 + PQ c v w i604 i604)) = (nI (PR c v w (i604 + 1))) := rfl
              have hl : lv_has ls 8 [(3, .int (nI (i604 + 1))), (6, .int (nI i604)), (5, .int (isu v i604 ((v 1 i604 1).toNatClampNeg + 1))), (4, .int (v 1 i604 1)), (2, .int (nI (PR c v w (i604 + 1)))), (0, .ref (ad 5 0)), (1, .int (nI (c 0)))] := by rw [← e92]; exact hl
              exact ihk605 (i604 + 1) H locs ls (by omega) hW (lv_sub hl [0, 4, 5, 6] rfl)
            | succ k785 ihk785 =>
              intro i784 H locs ls hk hW hl
              have hlt : i784 < i604 := by omega
              have hlt9i784 := hlt
              refine lv_iload hx hb dL_isFair_122 (lv_at hl 0 rfl) ?_
              refine lv_iload_n hx hb dL_isFair_124 rfl (lv_at hl 3 rfl) ?_
              refine lv_icmp_ge (tgt := 191) hx hb dL_isFair_125 (by decide) (fun c788 => absurd c788 (nI_ge hlt (by have := hi.1; omega))) (fun _ => ?_)
              refine lv_aload_n hx hb dL_isFair_128 rfl (lv_at hl 5 rfl) ?_
              refine lv_iload_n hx hb dL_isFair_129 rfl (lv_at hl 3 rfl) ?_
              refine lv_iload hx hb dL_isFair_130 (lv_at hl 0 rfl) ?_
              refine pc_qcalli (va_runV (As := [.int (nI i604), .int (nI i784)]) (rest := []) ⟨hx, hb, hml, hown, hts⟩ (r_X5_clash l D cA NL c v w u ad (nI i604) (nI i784) hM hBd hF (nI_nn (Nat.lt_of_lt_of_le hlt9i604 (Nat.le_trans hBd.1 (by decide)))) (by rw [nI_clamp (Nat.lt_of_lt_of_le hlt9i604 (Nat.le_trans hBd.1 (by decide)))]; exact hlt9i604) (nI_nn (Nat.lt_of_lt_of_le (Nat.lt_trans hlt9i784 hlt9i604) (Nat.le_trans hBd.1 (by decide)))) (by rw [nI_clamp (Nat.lt_of_lt_of_le (Nat.lt_trans hlt9i784 hlt9i604) (Nat.le_trans hBd.1 (by decide)))]; exact (Nat.lt_trans hlt9i784 hlt9i604)) (fun q => absurd ((nI_eq (by have := hi.1; omega) (by have := hi.1; omega)).mp q) (by omega))) (cwV 2 hts gL_isFair_X5_clash rfl rfl rfl (by decide +kernel) ⟨Nat.le_of_ble_eq_true rfl, Nat.le_of_ble_eq_true rfl⟩) (pc_preV pcN_ok hX hW.1 hM.1 rfl rfl hW.1) rfl rfl hl.1 rfl (lv_room (Nat.le_of_ble_eq_true rfl)) dL_isFair_132 ⟨Nat.le_of_ble_eq_true rfl, Nat.le_of_ble_eq_true rfl⟩) hW (fun r789 H locs hwr789 hW => ?_)
              replace hwr789 := hwr789.symm
              subst hwr789
              refine lv_istore (lv' := [(7, .int (F_X5_clash c v w (nI i604) (nI i784))), (6, .int (nI i784)), (5, .int (isu v i604 ((v 1 i604 1).toNatClampNeg + 1))), (4, .int (v 1 i604 1)), (3, .int (nI i604)), (2, .int (nI (PR c v w i604 + PQ c v w i604 i784))), (0, .ref (ad 5 0)), (1, .int (nI (c 0)))]) hx hb dL_isFair_135 hl (by decide) rfl (fun ls hl => ?_)
              refine lv_iload hx hb dL_isFair_137 (lv_at hl 0 rfl) ?_
              refine lv_aload_n hx hb dL_isFair_139 rfl (lv_at hl 6 rfl) ?_
              refine lv_iload hx hb dL_isFair_140 (lv_at hl 1 rfl) ?_
              refine lv_iload_n hx hb dL_isFair_142 rfl (lv_at hl 4 rfl) ?_
              refine pc_qcalli (va_runV (As := [.int (nI i784), .int (nI i604)]) (rest := [.int (F_X5_clash c v w (nI i604) (nI i784))]) ⟨hx, hb, hml, hown, hts⟩ (r_X5_clash l D cA NL c v w u ad (nI i784) (nI i604) hM hBd hF (nI_nn (Nat.lt_of_lt_of_le (Nat.lt_trans hlt9i784 hlt9i604) (Nat.le_trans hBd.1 (by decide)))) (by rw [nI_clamp (Nat.lt_of_lt_of_le (Nat.lt_trans hlt9i784 hlt9i604) (Nat.le_trans hBd.1 (by decide)))]; exact (Nat.lt_trans hlt9i784 hlt9i604)) (nI_nn (Nat.lt_of_lt_of_le hlt9i604 (Nat.le_trans hBd.1 (by decide)))) (by rw [nI_clamp (Nat.lt_of_lt_of_le hlt9i604 (Nat.le_trans hBd.1 (by decide)))]; exact hlt9i604) (fun q => absurd ((nI_eq (by have := hi.1; omega) (by have := hi.1; omega)).mp q) (by omega))) (cwV 2 hts gL_isFair_X5_clash rfl rfl rfl (by decide +kernel) ⟨Nat.le_of_ble_eq_true rfl, Nat.le_of_ble_eq_true rfl⟩) (pc_preV pcN_ok hX hW.1 hM.1 rfl rfl hW.1) rfl rfl hl.1 rfl (lv_room (Nat.le_of_ble_eq_true rfl)) dL_isFair_143 ⟨Nat.le_of_ble_eq_true rfl, Nat.le_of_ble_eq_true rfl⟩) hW (fun r790 H locs hwr790 hW => ?_)
              replace hwr790 := hwr790.symm
              subst hwr790
              refine lv_icmp_ne (tgt := 170) hx hb dL_isFair_146 (by decide) (fun c791 => absurd c791 (fun q => q (fa_clash hi hlt9i604 (Nat.lt_trans hlt9i784 hlt9i604)))) (fun _ => ?_)
              refine lv_iload hx hb dL_isFair_149 (lv_at hl 0 rfl) ?_
              refine lv_if_le (tgt := 172) hx hb dL_isFair_151 (by decide) (fun (c792 : (F_X5_clash c v w (nI i604) (nI i784)) ≤ 0) => ?_) (fun (c792 : ¬ (F_X5_clash c v w (nI i604) (nI i784)) ≤ 0) => ?_)
              · refine lv_iload_n hx hb dL_isFair_172 rfl (lv_at hl 5 rfl) ?_
                refine lv_iload hx hb dL_isFair_173 (lv_at hl 0 rfl) ?_
                refine lv_if_le (tgt := 182) hx hb dL_isFair_175 (by decide) (fun _ => ?_) (fun c793 => absurd c792 c793)
                refine lv_iconst (v := 0) hx hb dL_isFair_182 (by decide) ?_
                refine lv_iadd hx hb dL_isFair_183 ?_
                refine lv_istore_n (lv' := [(2, .int ((nI (PR c v w i604 + PQ c v w i604 i784)) + (0 : Int32))), (7, .int (F_X5_clash c v w (nI i604) (nI i784))), (6, .int (nI i784)), (5, .int (isu v i604 ((v 1 i604 1).toNatClampNeg + 1))), (4, .int (v 1 i604 1)), (3, .int (nI i604)), (0, .ref (ad 5 0)), (1, .int (nI (c 0)))]) hx hb dL_isFair_184 rfl hl (by decide) rfl (fun ls hl => ?_)
                refine lv_iinc (v := nI (i784 + 1)) (lv' := [(6, .int (nI (i784 + 1))), (2, .int ((nI (PR c v w i604 + PQ c v w i604 i784)) + (0 : Int32))), (7, .int (F_X5_clash c v w (nI i604) (nI i784))), (5, .int (isu v i604 ((v 1 i604 1).toNatClampNeg + 1))), (4, .int (v 1 i604 1)), (3, .int (nI i604)), (0, .ref (ad 5 0)), (1, .int (nI (c 0)))]) hx hb dL_isFair_185 hl (k := 2) rfl (nI_1 i784) (by decide) rfl (fun ls hl => ?_)
                refine lv_goto (tgt := 122) hx hb dL_isFair_188 (by decide) ?_
                have e92 : ((nI (PR c v w i604 + PQ c v w i604 i784)) + (0 : Int32)) = (nI (PR c v w i604 + PQ c v w i604 (i784 + 1))) := pq_no hi hlt9i604 (Nat.lt_trans hlt9i784 hlt9i604) c792
                have hl : lv_has ls 8 [(6, .int (nI (i784 + 1))), (2, .int (nI (PR c v w i604 + PQ c v w i604 (i784 + 1)))), (7, .int (F_X5_clash c v w (nI i604) (nI i784))), (5, .int (isu v i604 ((v 1 i604 1).toNatClampNeg + 1))), (4, .int (v 1 i604 1)), (3, .int (nI i604)), (0, .ref (ad 5 0)), (1, .int (nI (c 0)))] := by rw [← e92]; exact hl
                exact ihk785 (i784 + 1) H locs ls (by omega) hW (lv_sub hl [0, 3, 4, 5, 1, 6, 7] rfl)
              · refine lv_aload_n hx hb dL_isFair_154 rfl (lv_at hl 6 rfl) ?_
                refine lv_iload_n hx hb dL_isFair_155 rfl (lv_at hl 4 rfl) ?_
                refine lv_iconst (v := 0) hx hb dL_isFair_156 (by decide) ?_
                refine pc_qcalli (va_runV (As := [.int (nI i604), .int 0]) (rest := []) ⟨hx, hb, hml, hown, hts⟩ (r_X5_ofSheet0 l D cA NL c v w u ad (nI i604) hM hBd hF (nI_nn (Nat.lt_of_lt_of_le hlt9i604 (Nat.le_trans hBd.1 (by decide)))) (by rw [nI_clamp (Nat.lt_of_lt_of_le hlt9i604 (Nat.le_trans hBd.1 (by decide)))]; exact hlt9i604)) (cwV 2 hts gL_isFair_X5_ofSheet rfl rfl rfl (by decide +kernel) ⟨Nat.le_of_ble_eq_true rfl, Nat.le_of_ble_eq_true rfl⟩) (pc_preV pcN_ok hX hW.1 hM.1 rfl rfl hW.1) rfl rfl hl.1 rfl (lv_room (Nat.le_of_ble_eq_true rfl)) dL_isFair_157 ⟨Nat.le_of_ble_eq_true rfl, Nat.le_of_ble_eq_true rfl⟩) hW (fun r794 H locs hwr794 hW => ?_)
                replace hwr794 := hwr794.symm
                subst hwr794
                refine lv_aload_n hx hb dL_isFair_160 rfl (lv_at hl 6 rfl) ?_
                refine lv_iload hx hb dL_isFair_161 (lv_at hl 1 rfl) ?_
                refine lv_iconst (v := 0) hx hb dL_isFair_163 (by decide) ?_
                refine pc_qcalli (va_runV (As := [.int (nI i784), .int 0]) (rest := [.int (F_X5_ofSheet0 c v w (nI i604))]) ⟨hx, hb, hml, hown, hts⟩ (r_X5_ofSheet0 l D cA NL c v w u ad (nI i784) hM hBd hF (nI_nn (Nat.lt_of_lt_of_le (Nat.lt_trans hlt9i784 hlt9i604) (Nat.le_trans hBd.1 (by decide)))) (by rw [nI_clamp (Nat.lt_of_lt_of_le (Nat.lt_trans hlt9i784 hlt9i604) (Nat.le_trans hBd.1 (by decide)))]; exact (Nat.lt_trans hlt9i784 hlt9i604))) (cwV 2 hts gL_isFair_X5_ofSheet rfl rfl rfl (by decide +kernel) ⟨Nat.le_of_ble_eq_true rfl, Nat.le_of_ble_eq_true rfl⟩) (pc_preV pcN_ok hX hW.1 hM.1 rfl rfl hW.1) rfl rfl hl.1 rfl (lv_room (Nat.le_of_ble_eq_true rfl)) dL_isFair_164 ⟨Nat.le_of_ble_eq_true rfl, Nat.le_of_ble_eq_true rfl⟩) hW (fun r795 H locs hwr795 hW => ?_)
                replace hwr795 := hwr795.symm
                subst hwr795
                refine lv_icmp_ne (tgt := 172) hx hb dL_isFair_167 (by decide) (fun _ => ?_) (fun c796 => absurd c796 (fa_trade hi hlt9i604 (Nat.lt_trans hlt9i784 hlt9i604) c792))
                refine lv_iload_n hx hb dL_isFair_172 rfl (lv_at hl 5 rfl) ?_
                refine lv_iload hx hb dL_isFair_173 (lv_at hl 0 rfl) ?_
                refine lv_if_le (tgt := 182) hx hb dL_isFair_175 (by decide) (fun c797 => absurd c797 c792) (fun _ => ?_)
                refine lv_iconst (v := 1) hx hb dL_isFair_178 (by decide) ?_
                refine lv_goto (tgt := 183) hx hb dL_isFair_179 (by decide) ?_
                refine lv_iadd hx hb dL_isFair_183 ?_
                rw [nI_1]
                refine lv_istore_n (lv' := [(2, .int (nI ((PR c v w i604 + PQ c v w i604 i784) + 1))), (7, .int (F_X5_clash c v w (nI i604) (nI i784))), (6, .int (nI i784)), (5, .int (isu v i604 ((v 1 i604 1).toNatClampNeg + 1))), (4, .int (v 1 i604 1)), (3, .int (nI i604)), (0, .ref (ad 5 0)), (1, .int (nI (c 0)))]) hx hb dL_isFair_184 rfl hl (by decide) rfl (fun ls hl => ?_)
                refine lv_iinc (v := nI (i784 + 1)) (lv' := [(6, .int (nI (i784 + 1))), (2, .int (nI ((PR c v w i604 + PQ c v w i604 i784) + 1))), (7, .int (F_X5_clash c v w (nI i604) (nI i784))), (5, .int (isu v i604 ((v 1 i604 1).toNatClampNeg + 1))), (4, .int (v 1 i604 1)), (3, .int (nI i604)), (0, .ref (ad 5 0)), (1, .int (nI (c 0)))]) hx hb dL_isFair_185 hl (k := 2) rfl (nI_1 i784) (by decide) rfl (fun ls hl => ?_)
                refine lv_goto (tgt := 122) hx hb dL_isFair_188 (by decide) ?_
                have e92 : (nI ((PR c v w i604 + PQ c v w i604 i784) + 1)) = (nI (PR c v w i604 + PQ c v w i604 (i784 + 1))) := (nI_1 _).symm.trans (pq_yes hi hlt9i604 (Nat.lt_trans hlt9i784 hlt9i604) c792)
                have hl : lv_has ls 8 [(6, .int (nI (i784 + 1))), (2, .int (nI (PR c v w i604 + PQ c v w i604 (i784 + 1)))), (7, .int (F_X5_clash c v w (nI i604) (nI i784))), (5, .int (isu v i604 ((v 1 i604 1).toNatClampNeg + 1))), (4, .int (v 1 i604 1)), (3, .int (nI i604)), (0, .ref (ad 5 0)), (1, .int (nI (c 0)))] := by rw [← e92]; exact hl
                exact ihk785 (i784 + 1) H locs ls (by omega) hW (lv_sub hl [0, 3, 4, 5, 1, 6, 7] rfl)
          have hl : lv_has ls 8 [(6, .int 0), (5, .int (isu v i604 ((v 1 i604 1).toNatClampNeg + 1))), (4, .int (v 1 i604 1)), (3, .int (nI i604)), (2, .int (nI (PR c v w i604 + PQ c v w i604 0))), (0, .ref (ad 5 0)), (1, .int (nI (c 0)))] := by exact hl
          exact K786 i604 0 _ _ ls (by omega) hW (lv_sub hl [0, 1, 2, 3, 4, 5, 6] rfl)
        | succ k777 ihk777 =>
          intro i776 H locs ls hk hW hl
          have hlt : i776 < ((v 1 i604 1).toNatClampNeg + 1) := by omega
          have hlt9i776 := hlt
          refine lv_iload hx hb dL_isFair_25 (lv_at hl 0 rfl) ?_
          refine lv_iload hx hb dL_isFair_27 (lv_at hl 2 rfl) ?_
          refine lv_icmp_gt (tgt := 95) hx hb dL_isFair_29 (by decide) (fun c798 => absurd c798 (last_step (hF.2.2 i604 hlt9i604).1 (hF.2.2 i604 hlt9i604).2 hlt)) (fun _ => ?_)
          refine lv_aload_n hx hb dL_isFair_32 rfl (lv_at hl 5 rfl) ?_
          refine lv_iload_n hx hb dL_isFair_33 rfl (lv_at hl 3 rfl) ?_
          refine lv_iload hx hb dL_isFair_34 (lv_at hl 0 rfl) ?_
          refine pc_qcalli (va_runV (As := [.int (nI i604), .int (nI i776)]) (rest := []) ⟨hx, hb, hml, hown, hts⟩ (r_X5_status l D cA NL c v w u ad (nI i604) (nI i776) hM hBd hF (nI_nn (Nat.lt_of_lt_of_le hlt9i604 (Nat.le_trans hBd.1 (by decide)))) (by rw [nI_clamp (Nat.lt_of_lt_of_le hlt9i604 (Nat.le_trans hBd.1 (by decide)))]; exact hlt9i604) (nI_nn (Nat.lt_of_lt_of_le hlt9i776 (by have h6 := (hF.2.2 i604 hlt9i604).2; omega))) (by rw [nI_clamp (Nat.lt_of_lt_of_le hlt9i604 (Nat.le_trans hBd.1 (by decide)))]; exact last_le (hF.2.2 i604 hlt9i604).1 (hF.2.2 i604 hlt9i604).2 hlt9i776)) (cwV 2 hts gL_isFair_X5_status rfl rfl rfl (by decide +kernel) ⟨Nat.le_of_ble_eq_true rfl, Nat.le_of_ble_eq_true rfl⟩) (pc_preV pcN_ok hX hW.1 hM.1 rfl rfl hW.1) rfl rfl hl.1 rfl (lv_room (Nat.le_of_ble_eq_true rfl)) dL_isFair_36 ⟨Nat.le_of_ble_eq_true rfl, Nat.le_of_ble_eq_true rfl⟩) hW (fun r799 H locs hwr799 hW => ?_)
          replace hwr799 := hwr799.symm
          subst hwr799
          refine lv_istore (lv' := [(7, .int (F_X5_status c v w (nI i604) (nI i776))), (6, .int (nI i776)), (5, .int (isu v i604 i776)), (4, .int (v 1 i604 1)), (3, .int (nI i604)), (2, .int (nI (PR c v w i604))), (0, .ref (ad 5 0)), (1, .int (nI (c 0)))]) hx hb dL_isFair_39 hl (by decide) rfl (fun ls hl => ?_)
          refine lv_iload hx hb dL_isFair_41 (lv_at hl 2 rfl) ?_
          refine lv_iload hx hb dL_isFair_43 (lv_at hl 0 rfl) ?_
          refine lv_iconst (v := 2) hx hb dL_isFair_45 (by decide) ?_
          refine lv_icmp_ne (tgt := 53) hx hb dL_isFair_46 (by decide) (fun (c800 : ¬ (F_X5_status c v w (nI i604) (nI i776)) = (2 : Int32)) => ?_) (fun (c800 : (F_X5_status c v w (nI i604) (nI i776)) = (2 : Int32)) => ?_)
          · refine lv_iconst (v := 0) hx hb dL_isFair_53 (by decide) ?_
            refine lv_iadd hx hb dL_isFair_54 ?_
            refine lv_istore (lv' := [(5, .int ((isu v i604 i776) + (0 : Int32))), (7, .int (F_X5_status c v w (nI i604) (nI i776))), (6, .int (nI i776)), (4, .int (v 1 i604 1)), (3, .int (nI i604)), (2, .int (nI (PR c v w i604))), (0, .ref (ad 5 0)), (1, .int (nI (c 0)))]) hx hb dL_isFair_55 hl (by decide) rfl (fun ls hl => ?_)
            refine lv_iload hx hb dL_isFair_57 (lv_at hl 1 rfl) ?_
            refine lv_iconst (v := 2) hx hb dL_isFair_59 (by decide) ?_
            refine lv_icmp_ge (tgt := 70) hx hb dL_isFair_60 (by decide) (fun (c801 : (2 : Int32) ≤ (F_X5_status c v w (nI i604) (nI i776))) => ?_) (fun (c801 : ¬ (2 : Int32) ≤ (F_X5_status c v w (nI i604) (nI i776))) => ?_)
            · refine lv_iload hx hb dL_isFair_70 (lv_at hl 1 rfl) ?_
              refine lv_iconst (v := 2) hx hb dL_isFair_72 (by decide) ?_
              refine lv_icmp_ne (tgt := 89) hx hb dL_isFair_73 (by decide) (fun _ => ?_) (fun c802 => absurd c802 c800)
              refine lv_iinc (v := nI (i776 + 1)) (lv' := [(6, .int (nI (i776 + 1))), (5, .int ((isu v i604 i776) + (0 : Int32))), (7, .int (F_X5_status c v w (nI i604) (nI i776))), (4, .int (v 1 i604 1)), (3, .int (nI i604)), (2, .int (nI (PR c v w i604))), (0, .ref (ad 5 0)), (1, .int (nI (c 0)))]) hx hb dL_isFair_89 hl (k := 2) rfl (nI_1 i776) (by decide) rfl (fun ls hl => ?_)
              refine lv_goto (tgt := 25) hx hb dL_isFair_92 (by decide) ?_
              have e95 : ((isu v i604 i776) + (0 : Int32)) = (isu v i604 (i776 + 1)) := isu_no hi hlt9i604 (by have := (hF.2.2 i604 hlt9i604).2; omega) c800
              have hl : lv_has ls 8 [(6, .int (nI (i776 + 1))), (5, .int (isu v i604 (i776 + 1))), (7, .int (F_X5_status c v w (nI i604) (nI i776))), (4, .int (v 1 i604 1)), (3, .int (nI i604)), (2, .int (nI (PR c v w i604))), (0, .ref (ad 5 0)), (1, .int (nI (c 0)))] := by rw [← e95]; exact hl
              exact ihk777 (i776 + 1) H locs ls (by omega) hW (lv_sub hl [0, 1, 3, 4, 5, 6, 7] rfl)
            · refine lv_iload hx hb dL_isFair_63 (lv_at hl 2 rfl) ?_
              refine lv_iload hx hb dL_isFair_65 (lv_at hl 3 rfl) ?_
              refine lv_icmp_lt (tgt := 87) hx hb dL_isFair_67 (by decide) (fun c803 => absurd c803 (fa_draft hi hlt9i604 (Int32.not_le.mp c801) hlt9i776)) (fun _ => ?_)
              refine lv_iload hx hb dL_isFair_70 (lv_at hl 1 rfl) ?_
              refine lv_iconst (v := 2) hx hb dL_isFair_72 (by decide) ?_
              refine lv_icmp_ne (tgt := 89) hx hb dL_isFair_73 (by decide) (fun _ => ?_) (fun c804 => absurd c804 c800)
              refine lv_iinc (v := nI (i776 + 1)) (lv' := [(6, .int (nI (i776 + 1))), (5, .int ((isu v i604 i776) + (0 : Int32))), (7, .int (F_X5_status c v w (nI i604) (nI i776))), (4, .int (v 1 i604 1)), (3, .int (nI i604)), (2, .int (nI (PR c v w i604))), (0, .ref (ad 5 0)), (1, .int (nI (c 0)))]) hx hb dL_isFair_89 hl (k := 2) rfl (nI_1 i776) (by decide) rfl (fun ls hl => ?_)
              refine lv_goto (tgt := 25) hx hb dL_isFair_92 (by decide) ?_
              have e95 : ((isu v i604 i776) + (0 : Int32)) = (isu v i604 (i776 + 1)) := isu_no hi hlt9i604 (by have := (hF.2.2 i604 hlt9i604).2; omega) c800
              have hl : lv_has ls 8 [(6, .int (nI (i776 + 1))), (5, .int (isu v i604 (i776 + 1))), (7, .int (F_X5_status c v w (nI i604) (nI i776))), (4, .int (v 1 i604 1)), (3, .int (nI i604)), (2, .int (nI (PR c v w i604))), (0, .ref (ad 5 0)), (1, .int (nI (c 0)))] := by rw [← e95]; exact hl
              exact ihk777 (i776 + 1) H locs ls (by omega) hW (lv_sub hl [0, 1, 3, 4, 5, 6, 7] rfl)
          · refine lv_iconst (v := 1) hx hb dL_isFair_49 (by decide) ?_
            refine lv_goto (tgt := 54) hx hb dL_isFair_50 (by decide) ?_
            refine lv_iadd hx hb dL_isFair_54 ?_
            refine lv_istore (lv' := [(5, .int ((isu v i604 i776) + (1 : Int32))), (7, .int (F_X5_status c v w (nI i604) (nI i776))), (6, .int (nI i776)), (4, .int (v 1 i604 1)), (3, .int (nI i604)), (2, .int (nI (PR c v w i604))), (0, .ref (ad 5 0)), (1, .int (nI (c 0)))]) hx hb dL_isFair_55 hl (by decide) rfl (fun ls hl => ?_)
            refine lv_iload hx hb dL_isFair_57 (lv_at hl 1 rfl) ?_
            refine lv_iconst (v := 2) hx hb dL_isFair_59 (by decide) ?_
            refine lv_icmp_ge (tgt := 70) hx hb dL_isFair_60 (by decide) (fun _ => ?_) (fun c805 => absurd (by rw [c800]; decide) c805)
            refine lv_iload hx hb dL_isFair_70 (lv_at hl 1 rfl) ?_
            refine lv_iconst (v := 2) hx hb dL_isFair_72 (by decide) ?_
            refine lv_icmp_ne (tgt := 89) hx hb dL_isFair_73 (by decide) (fun c806 => absurd c806 (fun q => q c800)) (fun _ => ?_)
            refine lv_aload_n hx hb dL_isFair_76 rfl (lv_at hl 6 rfl) ?_
            refine lv_iload_n hx hb dL_isFair_77 rfl (lv_at hl 4 rfl) ?_
            refine lv_iconst (v := 2) hx hb dL_isFair_78 (by decide) ?_
            refine pc_qcalli (va_runV (As := [.int (nI i604), .int 2]) (rest := []) ⟨hx, hb, hml, hown, hts⟩ (r_X5_ofSheet2 l D cA NL c v w u ad (nI i604) hM hBd hF (nI_nn (Nat.lt_of_lt_of_le hlt9i604 (Nat.le_trans hBd.1 (by decide)))) (by rw [nI_clamp (Nat.lt_of_lt_of_le hlt9i604 (Nat.le_trans hBd.1 (by decide)))]; exact hlt9i604)) (cwV 2 hts gL_isFair_X5_ofSheet rfl rfl rfl (by decide +kernel) ⟨Nat.le_of_ble_eq_true rfl, Nat.le_of_ble_eq_true rfl⟩) (pc_preV pcN_ok hX hW.1 hM.1 rfl rfl hW.1) rfl rfl hl.1 rfl (lv_room (Nat.le_of_ble_eq_true rfl)) dL_isFair_79 ⟨Nat.le_of_ble_eq_true rfl, Nat.le_of_ble_eq_true rfl⟩) hW (fun r807 H locs hwr807 hW => ?_)
            replace hwr807 := hwr807.symm
            subst hwr807
            refine lv_iload hx hb dL_isFair_82 (lv_at hl 2 rfl) ?_
            refine lv_icmp_eq (tgt := 89) hx hb dL_isFair_84 (by decide) (fun _ => ?_) (fun c808 => absurd (fa_2 (by have := hi.1; omega) c800) c808)
            refine lv_iinc (v := nI (i776 + 1)) (lv' := [(6, .int (nI (i776 + 1))), (5, .int ((isu v i604 i776) + (1 : Int32))), (7, .int (F_X5_status c v w (nI i604) (nI i776))), (4, .int (v 1 i604 1)), (3, .int (nI i604)), (2, .int (nI (PR c v w i604))), (0, .ref (ad 5 0)), (1, .int (nI (c 0)))]) hx hb dL_isFair_89 hl (k := 2) rfl (nI_1 i776) (by decide) rfl (fun ls hl => ?_)
            refine lv_goto (tgt := 25) hx hb dL_isFair_92 (by decide) ?_
            have e95 : ((isu v i604 i776) + (1 : Int32)) = (isu v i604 (i776 + 1)) := isu_yes (by have := hi.1; omega) (by have := (hF.2.2 i604 hlt9i604).2; omega) c800
            have hl : lv_has ls 8 [(6, .int (nI (i776 + 1))), (5, .int (isu v i604 (i776 + 1))), (7, .int (F_X5_status c v w (nI i604) (nI i776))), (4, .int (v 1 i604 1)), (3, .int (nI i604)), (2, .int (nI (PR c v w i604))), (0, .ref (ad 5 0)), (1, .int (nI (c 0)))] := by rw [← e95]; exact hl
            exact ihk777 (i776 + 1) H locs ls (by omega) hW (lv_sub hl [0, 1, 3, 4, 5, 6, 7] rfl)
      have hl : lv_has ls 8 [(6, .int 0), (5, .int (isu v i604 0)), (4, .int (v 1 i604 1)), (3, .int (nI i604)), (2, .int (nI (PR c v w i604))), (0, .ref (ad 5 0)), (1, .int (nI (c 0)))] := by rw [isu_0]; exact hl
      exact K778 ((v 1 i604 1).toNatClampNeg + 1) 0 _ _ ls (by omega) hW (lv_sub hl [0, 1, 2, 3, 4, 5, 6] rfl)
  have hl : lv_has ls 8 [(3, .int 0), (2, .int (nI (PR c v w 0))), (0, .ref (ad 5 0)), (1, .int (nI (c 0)))] := by exact hl
  exact K606 (c 0) 0 _ _ ls (by omega) hW (lv_sub hl [0, 1, 2, 3] rfl)

