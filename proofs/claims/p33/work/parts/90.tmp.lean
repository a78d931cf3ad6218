
set_option maxHeartbeats 4000000 in
set_option maxRecDepth 100000 in
theorem r_L_isFair (l : Launch) (D : va_G) (cA : Nat → ClassId) (NL : List (Nat × Nat)) (c : SC) (v : SV) (w : SW) (u : Nat → Int32) (ad : Nat → Nat → Nat)  (hM : MEM c NL) (hi : INV c v w) : Met l yL_isFair wsL_isFair ({ frames := 7, cells := 0, slots := 0, locals := 164 }) (pcPre D vwCl (tyL cA) [.ref (ad 5 0), .int (nI (c 0))] (fun H => va_P D vwCl (pcW NL ad (ctO cA c v w u ad)) H)) (va_Qi (fun (r : Int32) (_ : Unit) => r = 1) (fun _ _ => True) (fun _ => False)) 0 0 (fun _ => False) := by
  refine Met.ofW (cc := cL_isFair) (maxL := 8) (ret := (some .boolean)) (by decide) rfl ?_
  intro p e s m args below meth c0 s₁ B hml hv
  obtain ⟨rfl, hX, hP0⟩ := hv
  have hF := INV_wf hi
  have hBd := INV_bnd hi
  have hx := B.exec
  have hb := B.bytes
  have hr := B.returns
  have hts := atoms_spec (ws := wsL_isFair) B.pre
  have hown : s.vm.findClass RL = some m.cls := findClass_of_methodNamed B.named
  have hlocks := B.notSynchronized
  have hW : pcQ D vwCl (fun _ => False) s.heap NL ad (ctO cA c v w u ad) s.heap [] := ⟨hP0, va_S.rf⟩
  have hl := lv_entry ([.ref (ad 5 0), .int (nI (c 0))]) (n := 8) (Nat.le_of_ble_eq_true rfl)
  rw [lg_entry_eq]
  generalize (lg_sl ([.ref (ad 5 0), .int (nI (c 0))]) ++ List.replicate (8 - (lg_sl ([.ref (ad 5 0), .int (nI (c 0))])).length) Slot.unset).toArray = ls at hl ⊢
  have hl : lv_has ls 8 [(0, .ref (ad 5 0)), (1, .int (nI (c 0)))] := hl
  refine lv_iconst (v := 0) hx hb dL_isFair_0 (by decide) ?_
  refine lv_istore_n (lv' := [(2, .int 0), (0, .ref (ad 5 0)), (1, .int (nI (c 0)))]) hx hb dL_isFair_1 rfl hl (by decide) rfl (fun ls hl => ?_)
  refine lv_iconst (v := 0) hx hb dL_isFair_2 (by decide) ?_
  refine lv_istore_n (lv' := [(3, .int 0), (2, .int 0), (0, .ref (ad 5 0)), (1, .int (nI (c 0)))]) hx hb dL_isFair_3 rfl hl (by decide) rfl (fun ls hl => ?_)
  have K606 : ∀ (k605 i604 : Nat) (H : Heap) (locs : List Loc) (ls : Array Slot), i604 + k605 = (c 0) → pcQ D vwCl (fun _ => False) s.heap NL ad (ctO cA c v w u ad) H locs → lv_has ls 8 [(3, .int (nI i604)), (2, .int (nI (PR c v w i604))), (0, .ref (ad 5 0)), (1, .int (nI (c 0)))] → W p l e (headSpec wsL_isFair ({ frames := 7, cells := 0, slots := 0, locals := 164 })).room s m ([.ref (ad 5 0), .int (nI (c 0))] : List Value).toArray below meth c0 H locs 0 0 (MQ below (va_Qi (fun (r : Int32) (_ : Unit) => r = 1) (fun _ _ => True) (fun _ => False)) ([.ref (ad 5 0), .int (nI (c 0))] : List Value).toArray s 0 0 (fun _ => False)) (F0 m 4 ls []) := by
    intro k605
    induction k605 with
    | zero =>
      intro i604 H locs ls hk hW hl
      have ei : i604 = (c 0) := by omega
      rw [ei] at hl
      refine lv_iload_n hx hb dL_isFair_4 rfl (lv_at hl 0 rfl) ?_
      refine lv_iload_n hx hb dL_isFair_5 rfl (lv_at hl 3 rfl) ?_
      refine lv_icmp_ge (tgt := 197) hx hb dL_isFair_6 (by decide) (fun _ => ?_) (fun c607 => absurd (Int32.le_refl _) c607)
      refine lv_aload_n hx hb dL_isFair_197 rfl (lv_at hl 2 rfl) ?_
      refine lv_bipush (v := 7) hx hb dL_isFair_198 (by decide) ?_
      refine pc_qcalli (va_runV (As := [.int 7]) (rest := []) ⟨hx, hb, hml, hown, hts⟩ (r_X5_many7 l D cA NL c v w u ad  hM hBd hF ) (cwV 1 hts gL_isFair_X5_many rfl rfl rfl (by decide +kernel) ⟨Nat.le_of_ble_eq_true rfl, Nat.le_of_ble_eq_true rfl⟩) (pc_preV pcN_ok hX hW.1 hM.1 rfl rfl hW.1) rfl rfl hl.1 rfl (lv_room (Nat.le_of_ble_eq_true rfl)) dL_isFair_200 ⟨Nat.le_of_ble_eq_true rfl, Nat.le_of_ble_eq_true rfl⟩) hW (fun r608 H locs hwr608 hW => ?_)
      replace hwr608 := hwr608.symm
      subst hwr608
      refine lv_istore_n (lv' := [(3, .int (nI (c 4))), (2, .int (nI (PR c v w (c 0)))), (0, .ref (ad 5 0)), (1, .int (nI (c 0)))]) hx hb dL_isFair_203 rfl hl (by decide) rfl (fun ls hl => ?_)
      refine lv_iconst (v := 0) hx hb dL_isFair_204 (by decide) ?_
      refine lv_istore (lv' := [(4, .int 0), (3, .int (nI (c 4))), (2, .int (nI (PR c v w (c 0)))), (0, .ref (ad 5 0)), (1, .int (nI (c 0)))]) hx hb dL_isFair_205 hl (by decide) rfl (fun ls hl => ?_)
      have K611 : ∀ (k610 i609 : Nat) (H : Heap) (locs : List Loc) (ls : Array Slot), i609 + k610 = (c 4) → pcQ D vwCl (fun _ => False) s.heap NL ad (ctO cA c v w u ad) H locs → lv_has ls 8 [(4, .int (nI i609)), (3, .int (nI (c 4))), (2, .int (nI (PR c v w (c 0)))), (0, .ref (ad 5 0)), (1, .int (nI (c 0)))] → W p l e (headSpec wsL_isFair ({ frames := 7, cells := 0, slots := 0, locals := 164 })).room s m ([.ref (ad 5 0), .int (nI (c 0))] : List Value).toArray below meth c0 H locs 0 0 (MQ below (va_Qi (fun (r : Int32) (_ : Unit) => r = 1) (fun _ _ => True) (fun _ => False)) ([.ref (ad 5 0), .int (nI (c 0))] : List Value).toArray s 0 0 (fun _ => False)) (F0 m 207 ls []) := by
        intro k610
        induction k610 with
        | zero =>
          intro i609 H locs ls hk hW hl
          have ei : i609 = (c 4) := by omega
          rw [ei] at hl
          refine lv_iload hx hb dL_isFair_207 (lv_at hl 0 rfl) ?_
          refine lv_iload_n hx hb dL_isFair_209 rfl (lv_at hl 1 rfl) ?_
          refine lv_icmp_ge (tgt := 402) hx hb dL_isFair_210 (by decide) (fun _ => ?_) (fun c612 => absurd (Int32.le_refl _) c612)
          refine lv_aload_n hx hb dL_isFair_402 rfl (lv_at hl 3 rfl) ?_
          refine lv_bipush (v := 6) hx hb dL_isFair_403 (by decide) ?_
          refine pc_qcalli (va_runV (As := [.int 6]) (rest := []) ⟨hx, hb, hml, hown, hts⟩ (r_X5_many6 l D cA NL c v w u ad  hM hBd hF ) (cwV 1 hts gL_isFair_X5_many rfl rfl rfl (by decide +kernel) ⟨Nat.le_of_ble_eq_true rfl, Nat.le_of_ble_eq_true rfl⟩) (pc_preV pcN_ok hX hW.1 hM.1 rfl rfl hW.1) rfl rfl hl.1 rfl (lv_room (Nat.le_of_ble_eq_true rfl)) dL_isFair_405 ⟨Nat.le_of_ble_eq_true rfl, Nat.le_of_ble_eq_true rfl⟩) hW (fun r613 H locs hwr613 hW => ?_)
          replace hwr613 := hwr613.symm
          subst hwr613
          refine lv_iload_n hx hb dL_isFair_408 rfl (lv_at hl 2 rfl) ?_
          refine lv_icmp_ne (tgt := 447) hx hb dL_isFair_409 (by decide) (fun c614 => absurd c614 (fun q => q (fa_pairs hi))) (fun _ => ?_)
          refine lv_aload_n hx hb dL_isFair_412 rfl (lv_at hl 3 rfl) ?_
          refine lv_bipush (v := 8) hx hb dL_isFair_413 (by decide) ?_
          refine pc_qcalli (va_runV (As := [.int 8]) (rest := []) ⟨hx, hb, hml, hown, hts⟩ (r_X5_many8 l D cA NL c v w u ad  hM hBd hF ) (cwV 1 hts gL_isFair_X5_many rfl rfl rfl (by decide +kernel) ⟨Nat.le_of_ble_eq_true rfl, Nat.le_of_ble_eq_true rfl⟩) (pc_preV pcN_ok hX hW.1 hM.1 rfl rfl hW.1) rfl rfl hl.1 rfl (lv_room (Nat.le_of_ble_eq_true rfl)) dL_isFair_415 ⟨Nat.le_of_ble_eq_true rfl, Nat.le_of_ble_eq_true rfl⟩) hW (fun r615 H locs hwr615 hW => ?_)
          replace hwr615 := hwr615.symm
          subst hwr615
          refine lv_aload_n hx hb dL_isFair_418 rfl (lv_at hl 3 rfl) ?_
          refine lv_bipush (v := 9) hx hb dL_isFair_419 (by decide) ?_
          refine pc_qcalli (va_runV (As := [.int 9]) (rest := [.int (F_X5_many8 c v w)]) ⟨hx, hb, hml, hown, hts⟩ (r_X5_many9 l D cA NL c v w u ad  hM hBd hF ) (cwV 1 hts gL_isFair_X5_many rfl rfl rfl (by decide +kernel) ⟨Nat.le_of_ble_eq_true rfl, Nat.le_of_ble_eq_true rfl⟩) (pc_preV pcN_ok hX hW.1 hM.1 rfl rfl hW.1) rfl rfl hl.1 rfl (lv_room (Nat.le_of_ble_eq_true rfl)) dL_isFair_421 ⟨Nat.le_of_ble_eq_true rfl, Nat.le_of_ble_eq_true rfl⟩) hW (fun r616 H locs hwr616 hW => ?_)
          replace hwr616 := hwr616.symm
          subst hwr616
          refine lv_iadd hx hb dL_isFair_424 ?_
          refine lv_aload_n hx hb dL_isFair_425 rfl (lv_at hl 3 rfl) ?_
          refine lv_bipush (v := 10) hx hb dL_isFair_426 (by decide) ?_
          refine pc_qcalli (va_runV (As := [.int 10]) (rest := [.int ((F_X5_many8 c v w) + (F_X5_many9 c v w))]) ⟨hx, hb, hml, hown, hts⟩ (r_X5_many10 l D cA NL c v w u ad  hM hBd hF ) (cwV 1 hts gL_isFair_X5_many rfl rfl rfl (by decide +kernel) ⟨Nat.le_of_ble_eq_true rfl, Nat.le_of_ble_eq_true rfl⟩) (pc_preV pcN_ok hX hW.1 hM.1 rfl rfl hW.1) rfl rfl hl.1 rfl (lv_room (Nat.le_of_ble_eq_true rfl)) dL_isFair_428 ⟨Nat.le_of_ble_eq_true rfl, Nat.le_of_ble_eq_true rfl⟩) hW (fun r617 H locs hwr617 hW => ?_)
          replace hwr617 := hwr617.symm
          subst hwr617
          refine lv_iadd hx hb dL_isFair_431 ?_
          refine lv_aload_n hx hb dL_isFair_432 rfl (lv_at hl 3 rfl) ?_
          refine lv_bipush (v := 11) hx hb dL_isFair_433 (by decide) ?_
          refine pc_qcalli (va_runV (As := [.int 11]) (rest := [.int (((F_X5_many8 c v w) + (F_X5_many9 c v w)) + (F_X5_many10 c v w))]) ⟨hx, hb, hml, hown, hts⟩ (r_X5_many11 l D cA NL c v w u ad  hM hBd hF ) (cwV 1 hts gL_isFair_X5_many rfl rfl rfl (by decide +kernel) ⟨Nat.le_of_ble_eq_true rfl, Nat.le_of_ble_eq_true rfl⟩) (pc_preV pcN_ok hX hW.1 hM.1 rfl rfl hW.1) rfl rfl hl.1 rfl (lv_room (Nat.le_of_ble_eq_true rfl)) dL_isFair_435 ⟨Nat.le_of_ble_eq_true rfl, Nat.le_of_ble_eq_true rfl⟩) hW (fun r618 H locs hwr618 hW => ?_)
          replace hwr618 := hwr618.symm
          subst hwr618
          refine lv_iadd hx hb dL_isFair_438 ?_
          refine lv_iload_n hx hb dL_isFair_439 rfl (lv_at hl 1 rfl) ?_
          refine lv_icmp_ne (tgt := 447) hx hb dL_isFair_440 (by decide) (fun c619 => absurd c619 (fun q => q (states_all hi))) (fun _ => ?_)
          refine lv_iconst (v := 1) hx hb dL_isFair_443 (by decide) ?_
          refine lv_goto (tgt := 448) hx hb dL_isFair_444 (by decide) ?_
          exact W.zret (v := 1) hx hb hr rfl (fun t ht hW9 => ⟨⟨1, (), rfl, rfl, trivial⟩, hW.2.F ht⟩) hW.2.2.2 dL_isFair_448
        | succ k610 ihk610 =>
          intro i609 H locs ls hk hW hl
          have hlt : i609 < (c 4) := by omega
          have hlt9i609 := hlt
          refine lv_iload hx hb dL_isFair_207 (lv_at hl 0 rfl) ?_
          refine lv_iload_n hx hb dL_isFair_209 rfl (lv_at hl 1 rfl) ?_
          refine lv_icmp_ge (tgt := 402) hx hb dL_isFair_210 (by decide) (fun c620 => absurd c620 (nI_ge hlt (Nat.lt_of_le_of_lt hBd.2.2.2.2 (by decide)))) (fun _ => ?_)
          refine lv_aload_n hx hb dL_isFair_213 rfl (lv_at hl 3 rfl) ?_
          refine lv_iload hx hb dL_isFair_214 (lv_at hl 0 rfl) ?_
          refine lv_iconst (v := 5) hx hb dL_isFair_216 (by decide) ?_
          refine pc_qcalli (va_runV (As := [.int (nI i609), .int 5]) (rest := []) ⟨hx, hb, hml, hown, hts⟩ (r_X5_ofPack5 l D cA NL c v w u ad (nI i609) hM hBd hF (nI_nn (Nat.lt_of_lt_of_le hlt9i609 (Nat.le_trans hBd.2.2.2.2 (by decide)))) (by rw [nI_clamp (Nat.lt_of_lt_of_le hlt9i609 (Nat.le_trans hBd.2.2.2.2 (by decide)))]; exact hlt9i609)) (cwV 2 hts gL_isFair_X5_ofPack rfl rfl rfl (by decide +kernel) ⟨Nat.le_of_ble_eq_true rfl, Nat.le_of_ble_eq_true rfl⟩) (pc_preV pcN_ok hX hW.1 hM.1 rfl rfl hW.1) rfl rfl hl.1 rfl (lv_room (Nat.le_of_ble_eq_true rfl)) dL_isFair_217 ⟨Nat.le_of_ble_eq_true rfl, Nat.le_of_ble_eq_true rfl⟩) hW (fun r621 H locs hwr621 hW => ?_)
          replace hwr621 := hwr621.symm
          subst hwr621
          refine lv_istore (lv' := [(5, .int (F_X5_ofPack5 c v w (nI i609))), (4, .int (nI i609)), (3, .int (nI (c 4))), (2, .int (nI (PR c v w (c 0)))), (0, .ref (ad 5 0)), (1, .int (nI (c 0)))]) hx hb dL_isFair_220 hl (by decide) rfl (fun ls hl => ?_)
          refine lv_aload_n hx hb dL_isFair_222 rfl (lv_at hl 4 rfl) ?_
          refine lv_iload hx hb dL_isFair_223 (lv_at hl 1 rfl) ?_
          refine lv_iconst (v := 4) hx hb dL_isFair_225 (by decide) ?_
          refine pc_qcalli (va_runV (As := [.int (nI i609), .int 4]) (rest := []) ⟨hx, hb, hml, hown, hts⟩ (r_X5_ofPack4 l D cA NL c v w u ad (nI i609) hM hBd hF (nI_nn (Nat.lt_of_lt_of_le hlt9i609 (Nat.le_trans hBd.2.2.2.2 (by decide)))) (by rw [nI_clamp (Nat.lt_of_lt_of_le hlt9i609 (Nat.le_trans hBd.2.2.2.2 (by decide)))]; exact hlt9i609)) (cwV 2 hts gL_isFair_X5_ofPack rfl rfl rfl (by decide +kernel) ⟨Nat.le_of_ble_eq_true rfl, Nat.le_of_ble_eq_true rfl⟩) (pc_preV pcN_ok hX hW.1 hM.1 rfl rfl hW.1) rfl rfl hl.1 rfl (lv_room (Nat.le_of_ble_eq_true rfl)) dL_isFair_226 ⟨Nat.le_of_ble_eq_true rfl, Nat.le_of_ble_eq_true rfl⟩) hW (fun r622 H locs hwr622 hW => ?_)
          replace hwr622 := hwr622.symm
          subst hwr622
          refine lv_if_ge (tgt := 236) hx hb dL_isFair_229 (by decide) (fun (c623 : 0 ≤ (F_X5_ofPack4 c v w (nI i609))) => ?_) (fun (c623 : ¬ 0 ≤ (F_X5_ofPack4 c v w (nI i609))) => ?_)
          · refine lv_iconst (v := 0) hx hb dL_isFair_236 (by decide) ?_
            refine lv_iload hx hb dL_isFair_237 (lv_at hl 0 rfl) ?_
            refine lv_if_ne (tgt := 246) hx hb dL_isFair_239 (by decide) (fun _ => ?_) (fun c624 => absurd c624 ((fa_u hi hlt9i609).1 c623))
            refine lv_iconst (v := 0) hx hb dL_isFair_246 (by decide) ?_
            refine lv_icmp_ne (tgt := 300) hx hb dL_isFair_247 (by decide) (fun c625 => absurd c625 (by decide)) (fun _ => ?_)
            refine lv_aload_n hx hb dL_isFair_250 rfl (lv_at hl 4 rfl) ?_
            refine lv_iload hx hb dL_isFair_251 (lv_at hl 1 rfl) ?_
            refine lv_iconst (v := 2) hx hb dL_isFair_253 (by decide) ?_
            refine pc_qcalli (va_runV (As := [.int (nI i609), .int 2]) (rest := []) ⟨hx, hb, hml, hown, hts⟩ (r_X5_ofPack2 l D cA NL c v w u ad (nI i609) hM hBd hF (nI_nn (Nat.lt_of_lt_of_le hlt9i609 (Nat.le_trans hBd.2.2.2.2 (by decide)))) (by rw [nI_clamp (Nat.lt_of_lt_of_le hlt9i609 (Nat.le_trans hBd.2.2.2.2 (by decide)))]; exact hlt9i609)) (cwV 2 hts gL_isFair_X5_ofPack rfl rfl rfl (by decide +kernel) ⟨Nat.le_of_ble_eq_true rfl, Nat.le_of_ble_eq_true rfl⟩) (pc_preV pcN_ok hX hW.1 hM.1 rfl rfl hW.1) rfl rfl hl.1 rfl (lv_room (Nat.le_of_ble_eq_true rfl)) dL_isFair_254 ⟨Nat.le_of_ble_eq_true rfl, Nat.le_of_ble_eq_true rfl⟩) hW (fun r626 H locs hwr626 hW => ?_)
            replace hwr626 := hwr626.symm
            subst hwr626
            refine lv_iconst (v := 1) hx hb dL_isFair_257 (by decide) ?_
            refine lv_icmp_ne (tgt := 266) hx hb dL_isFair_258 (by decide) (fun (c627 : ¬ (F_X5_ofPack2 c v w (nI i609)) = (1 : Int32)) => ?_) (fun (c627 : (F_X5_ofPack2 c v w (nI i609)) = (1 : Int32)) => ?_)
            · refine lv_aload_n hx hb dL_isFair_266 rfl (lv_at hl 4 rfl) ?_
              refine lv_iload hx hb dL_isFair_267 (lv_at hl 1 rfl) ?_
              refine lv_iconst (v := 2) hx hb dL_isFair_269 (by decide) ?_
              refine pc_qcalli (va_runV (As := [.int (nI i609), .int 2]) (rest := []) ⟨hx, hb, hml, hown, hts⟩ (r_X5_ofPack2 l D cA NL c v w u ad (nI i609) hM hBd hF (nI_nn (Nat.lt_of_lt_of_le hlt9i609 (Nat.le_trans hBd.2.2.2.2 (by decide)))) (by rw [nI_clamp (Nat.lt_of_lt_of_le hlt9i609 (Nat.le_trans hBd.2.2.2.2 (by decide)))]; exact hlt9i609)) (cwV 2 hts gL_isFair_X5_ofPack rfl rfl rfl (by decide +kernel) ⟨Nat.le_of_ble_eq_true rfl, Nat.le_of_ble_eq_true rfl⟩) (pc_preV pcN_ok hX hW.1 hM.1 rfl rfl hW.1) rfl rfl hl.1 rfl (lv_room (Nat.le_of_ble_eq_true rfl)) dL_isFair_270 ⟨Nat.le_of_ble_eq_true rfl, Nat.le_of_ble_eq_true rfl⟩) hW (fun r628 H locs hwr628 hW => ?_)
              replace hwr628 := hwr628.symm
              subst hwr628
              refine lv_iconst (v := 3) hx hb dL_isFair_273 (by decide) ?_
              refine lv_icmp_ne (tgt := 281) hx hb dL_isFair_274 (by decide) (fun (c629 : ¬ (F_X5_ofPack2 c v w (nI i609)) = (3 : Int32)) => ?_) (fun (c629 : (F_X5_ofPack2 c v w (nI i609)) = (3 : Int32)) => ?_)
              · refine lv_iconst (v := 0) hx hb dL_isFair_281 (by decide) ?_
                refine lv_aload_n hx hb dL_isFair_282 rfl (lv_at hl 4 rfl) ?_
                refine lv_iload hx hb dL_isFair_283 (lv_at hl 1 rfl) ?_
                refine lv_iconst (v := 3) hx hb dL_isFair_285 (by decide) ?_
                refine pc_qcalli (va_runV (As := [.int (nI i609), .int 3]) (rest := [.int 0]) ⟨hx, hb, hml, hown, hts⟩ (r_X5_ofPack3 l D cA NL c v w u ad (nI i609) hM hBd hF (nI_nn (Nat.lt_of_lt_of_le hlt9i609 (Nat.le_trans hBd.2.2.2.2 (by decide)))) (by rw [nI_clamp (Nat.lt_of_lt_of_le hlt9i609 (Nat.le_trans hBd.2.2.2.2 (by decide)))]; exact hlt9i609)) (cwV 2 hts gL_isFair_X5_ofPack rfl rfl rfl (by decide +kernel) ⟨Nat.le_of_ble_eq_true rfl, Nat.le_of_ble_eq_true rfl⟩) (pc_preV pcN_ok hX hW.1 hM.1 rfl rfl hW.1) rfl rfl hl.1 rfl (lv_room (Nat.le_of_ble_eq_true rfl)) dL_isFair_286 ⟨Nat.le_of_ble_eq_true rfl, Nat.le_of_ble_eq_true rfl⟩) hW (fun r630 H locs hwr630 hW => ?_)
                replace hwr630 := hwr630.symm
                subst hwr630
                refine lv_if_ne (tgt := 296) hx hb dL_isFair_289 (by decide) (fun _ => ?_) (fun c631 => absurd c631 (fun q => c629 ((fa_done hi hlt9i609).mpr q)))
                refine lv_iconst (v := 0) hx hb dL_isFair_296 (by decide) ?_
                refine lv_icmp_eq (tgt := 302) hx hb dL_isFair_297 (by decide) (fun _ => ?_) (fun c632 => absurd (by decide) c632)
                refine lv_aload_n hx hb dL_isFair_302 rfl (lv_at hl 4 rfl) ?_
                refine lv_iload hx hb dL_isFair_303 (lv_at hl 1 rfl) ?_
                refine lv_iconst (v := 0) hx hb dL_isFair_305 (by decide) ?_
                refine pc_qcalli (va_runV (As := [.int (nI i609), .int 0]) (rest := []) ⟨hx, hb, hml, hown, hts⟩ (r_X5_ofPack0 l D cA NL c v w u ad (nI i609) hM hBd hF (nI_nn (Nat.lt_of_lt_of_le hlt9i609 (Nat.le_trans hBd.2.2.2.2 (by decide)))) (by rw [nI_clamp (Nat.lt_of_lt_of_le hlt9i609 (Nat.le_trans hBd.2.2.2.2 (by decide)))]; exact hlt9i609)) (cwV 2 hts gL_isFair_X5_ofPack rfl rfl rfl (by decide +kernel) ⟨Nat.le_of_ble_eq_true rfl, Nat.le_of_ble_eq_true rfl⟩) (pc_preV pcN_ok hX hW.1 hM.1 rfl rfl hW.1) rfl rfl hl.1 rfl (lv_room (Nat.le_of_ble_eq_true rfl)) dL_isFair_306 ⟨Nat.le_of_ble_eq_true rfl, Nat.le_of_ble_eq_true rfl⟩) hW (fun r633 H locs hwr633 hW => ?_)
                replace hwr633 := hwr633.symm
                subst hwr633
                refine lv_istore (lv' := [(6, .int (F_X5_ofPack0 c v w (nI i609))), (5, .int (F_X5_ofPack5 c v w (nI i609))), (4, .int (nI i609)), (3, .int (nI (c 4))), (2, .int (nI (PR c v w (c 0)))), (0, .ref (ad 5 0)), (1, .int (nI (c 0)))]) hx hb dL_isFair_309 hl (by decide) rfl (fun ls hl => ?_)
                refine lv_iconst (v := 0) hx hb dL_isFair_311 (by decide) ?_
                refine lv_istore (lv' := [(7, .int 0), (6, .int (F_X5_ofPack0 c v w (nI i609))), (5, .int (F_X5_ofPack5 c v w (nI i609))), (4, .int (nI i609)), (3, .int (nI (c 4))), (2, .int (nI (PR c v w (c 0)))), (0, .ref (ad 5 0)), (1, .int (nI (c 0)))]) hx hb dL_isFair_312 hl (by decide) rfl (fun ls hl => ?_)
                have K636 : ∀ (k635 i634 : Nat) (H : Heap) (locs : List Loc) (ls : Array Slot), i634 + k635 = (c 0) → pcQ D vwCl (fun _ => False) s.heap NL ad (ctO cA c v w u ad) H locs → lv_has ls 8 [(7, .int (nI i634)), (6, .int (F_X5_ofPack0 c v w (nI i609))), (5, .int (F_X5_ofPack5 c v w (nI i609))), (4, .int (nI i609)), (3, .int (nI (c 4))), (2, .int (nI (PR c v w (c 0)))), (0, .ref (ad 5 0)), (1, .int (nI (c 0)))] → W p l e (headSpec wsL_isFair ({ frames := 7, cells := 0, slots := 0, locals := 164 })).room s m ([.ref (ad 5 0), .int (nI (c 0))] : List Value).toArray below meth c0 H locs 0 0 (MQ below (va_Qi (fun (r : Int32) (_ : Unit) => r = 1) (fun _ _ => True) (fun _ => False)) ([.ref (ad 5 0), .int (nI (c 0))] : List Value).toArray s 0 0 (fun _ => False)) (F0 m 314 ls []) := by
                  intro k635
                  induction k635 with
                  | zero =>
                    intro i634 H locs ls hk hW hl
                    have ei : i634 = (c 0) := by omega
                    rw [ei] at hl
                    refine lv_aload_n hx hb dL_isFair_314 rfl (lv_at hl 6 rfl) ?_
                    refine lv_iload hx hb dL_isFair_315 (lv_at hl 3 rfl) ?_
                    refine lv_iconst (v := 2) hx hb dL_isFair_317 (by decide) ?_
                    refine pc_qcalli (va_runV (As := [.int (nI i609), .int 2]) (rest := []) ⟨hx, hb, hml, hown, hts⟩ (r_X5_ofPack2 l D cA NL c v w u ad (nI i609) hM hBd hF (nI_nn (Nat.lt_of_lt_of_le hlt9i609 (Nat.le_trans hBd.2.2.2.2 (by decide)))) (by rw [nI_clamp (Nat.lt_of_lt_of_le hlt9i609 (Nat.le_trans hBd.2.2.2.2 (by decide)))]; exact hlt9i609)) (cwV 2 hts gL_isFair_X5_ofPack rfl rfl rfl (by decide +kernel) ⟨Nat.le_of_ble_eq_true rfl, Nat.le_of_ble_eq_true rfl⟩) (pc_preV pcN_ok hX hW.1 hM.1 rfl rfl hW.1) rfl rfl hl.1 rfl (lv_room (Nat.le_of_ble_eq_true rfl)) dL_isFair_318 ⟨Nat.le_of_ble_eq_true rfl, Nat.le_of_ble_eq_true rfl⟩) hW (fun r637 H locs hwr637 hW => ?_)
                    replace hwr637 := hwr637.symm
                    subst hwr637
                    refine lv_iconst (v := 1) hx hb dL_isFair_321 (by decide) ?_
                    refine lv_icmp_ne (tgt := 396) hx hb dL_isFair_322 (by decide) (fun _ => ?_) (fun c638 => absurd c638 c627)
                    refine lv_iinc (v := nI (i609 + 1)) (lv' := [(4, .int (nI (i609 + 1))), (7, .int (nI (c 0))), (6, .int (F_X5_ofPack0 c v w (nI i609))), (5, .int (F_X5_ofPack5 c v w (nI i609))), (3, .int (nI (c 4))), (2, .int (nI (PR c v w (c 0)))), (0, .ref (ad 5 0)), (1, .int (nI (c 0)))]) hx hb dL_isFair_396 hl (k := 3) rfl (nI_1 i609) (by decide) rfl (fun ls hl => ?_)
                    refine lv_goto (tgt := 207) hx hb dL_isFair_399 (by decide) ?_
                    exact ihk610 (i609 + 1) H locs ls (by omega) hW (lv_sub hl [0, 4, 5, 6, 7] rfl)
                  | succ k635 ihk635 =>
                    intro i634 H locs ls hk hW hl
                    have hlt : i634 < (c 0) := by omega
                    have hlt9i634 := hlt
                    refine lv_aload_n hx hb dL_isFair_314 rfl (lv_at hl 6 rfl) ?_
                    refine lv_iload hx hb dL_isFair_315 (lv_at hl 3 rfl) ?_
                    refine lv_iconst (v := 2) hx hb dL_isFair_317 (by decide) ?_
                    refine pc_qcalli (va_runV (As := [.int (nI i609), .int 2]) (rest := []) ⟨hx, hb, hml, hown, hts⟩ (r_X5_ofPack2 l D cA NL c v w u ad (nI i609) hM hBd hF (nI_nn (Nat.lt_of_lt_of_le hlt9i609 (Nat.le_trans hBd.2.2.2.2 (by decide)))) (by rw [nI_clamp (Nat.lt_of_lt_of_le hlt9i609 (Nat.le_trans hBd.2.2.2.2 (by decide)))]; exact hlt9i609)) (cwV 2 hts gL_isFair_X5_ofPack rfl rfl rfl (by decide +kernel) ⟨Nat.le_of_ble_eq_true rfl, Nat.le_of_ble_eq_true rfl⟩) (pc_preV pcN_ok hX hW.1 hM.1 rfl rfl hW.1) rfl rfl hl.1 rfl (lv_room (Nat.le_of_ble_eq_true rfl)) dL_isFair_318 ⟨Nat.le_of_ble_eq_true rfl, Nat.le_of_ble_eq_true rfl⟩) hW (fun r639 H locs hwr639 hW => ?_)
                    replace hwr639 := hwr639.symm
                    subst hwr639
                    refine lv_iconst (v := 1) hx hb dL_isFair_321 (by decide) ?_
                    refine lv_icmp_ne (tgt := 396) hx hb dL_isFair_322 (by decide) (fun _ => ?_) (fun c640 => absurd c640 c627)
                    refine lv_iinc (v := nI (i609 + 1)) (lv' := [(4, .int (nI (i609 + 1))), (7, .int (nI i634)), (6, .int (F_X5_ofPack0 c v w (nI i609))), (5, .int (F_X5_ofPack5 c v w (nI i609))), (3, .int (nI (c 4))), (2, .int (nI (PR c v w (c 0)))), (0, .ref (ad 5 0)), (1, .int (nI (c 0)))]) hx hb dL_isFair_396 hl (k := 3) rfl (nI_1 i609) (by decide) rfl (fun ls hl => ?_)
                    refine lv_goto (tgt := 207) hx hb dL_isFair_399 (by decide) ?_
                    exact ihk610 (i609 + 1) H locs ls (by omega) hW (lv_sub hl [0, 4, 5, 6, 7] rfl)
                exact K636 (c 0) 0 _ _ ls (by omega) hW (lv_sub hl [0, 1, 2, 3, 4, 5, 6, 7] rfl)
              · refine lv_iconst (v := 1) hx hb dL_isFair_277 (by decide) ?_
                refine lv_goto (tgt := 282) hx hb dL_isFair_278 (by decide) ?_
                refine lv_aload_n hx hb dL_isFair_282 rfl (lv_at hl 4 rfl) ?_
                refine lv_iload hx hb dL_isFair_283 (lv_at hl 1 rfl) ?_
                refine lv_iconst (v := 3) hx hb dL_isFair_285 (by decide) ?_
                refine pc_qcalli (va_runV (As := [.int (nI i609), .int 3]) (rest := [.int 1]) ⟨hx, hb, hml, hown, hts⟩ (r_X5_ofPack3 l D cA NL c v w u ad (nI i609) hM hBd hF (nI_nn (Nat.lt_of_lt_of_le hlt9i609 (Nat.le_trans hBd.2.2.2.2 (by decide)))) (by rw [nI_clamp (Nat.lt_of_lt_of_le hlt9i609 (Nat.le_trans hBd.2.2.2.2 (by decide)))]; exact hlt9i609)) (cwV 2 hts gL_isFair_X5_ofPack rfl rfl rfl (by decide +kernel) ⟨Nat.le_of_ble_eq_true rfl, Nat.le_of_ble_eq_true rfl⟩) (pc_preV pcN_ok hX hW.1 hM.1 rfl rfl hW.1) rfl rfl hl.1 rfl (lv_room (Nat.le_of_ble_eq_true rfl)) dL_isFair_286 ⟨Nat.le_of_ble_eq_true rfl, Nat.le_of_ble_eq_true rfl⟩) hW (fun r641 H locs hwr641 hW => ?_)
                replace hwr641 := hwr641.symm
                subst hwr641
                refine lv_if_ne (tgt := 296) hx hb dL_isFair_289 (by decide) (fun c642 => absurd c642 (fun q => q ((fa_done hi hlt9i609).mp c629))) (fun _ => ?_)
                refine lv_iconst (v := 1) hx hb dL_isFair_292 (by decide) ?_
                refine lv_goto (tgt := 297) hx hb dL_isFair_293 (by decide) ?_
                refine lv_icmp_eq (tgt := 302) hx hb dL_isFair_297 (by decide) (fun _ => ?_) (fun c643 => absurd (by decide) c643)
                refine lv_aload_n hx hb dL_isFair_302 rfl (lv_at hl 4 rfl) ?_
                refine lv_iload hx hb dL_isFair_303 (lv_at hl 1 rfl) ?_
                refine lv_iconst (v := 0) hx hb dL_isFair_305 (by decide) ?_
                refine pc_qcalli (va_runV (As := [.int (nI i609), .int 0]) (rest := []) ⟨hx, hb, hml, hown, hts⟩ (r_X5_ofPack0 l D cA NL c v w u ad (nI i609) hM hBd hF (nI_nn (Nat.lt_of_lt_of_le hlt9i609 (Nat.le_trans hBd.2.2.2.2 (by decide)))) (by rw [nI_clamp (Nat.lt_of_lt_of_le hlt9i609 (Nat.le_trans hBd.2.2.2.2 (by decide)))]; exact hlt9i609)) (cwV 2 hts gL_isFair_X5_ofPack rfl rfl rfl (by decide +kernel) ⟨Nat.le_of_ble_eq_true rfl, Nat.le_of_ble_eq_true rfl⟩) (pc_preV pcN_ok hX hW.1 hM.1 rfl rfl hW.1) rfl rfl hl.1 rfl (lv_room (Nat.le_of_ble_eq_true rfl)) dL_isFair_306 ⟨Nat.le_of_ble_eq_true rfl, Nat.le_of_ble_eq_true rfl⟩) hW (fun r644 H locs hwr644 hW => ?_)
                replace hwr644 := hwr644.symm
                subst hwr644
                refine lv_istore (lv' := [(6, .int (F_X5_ofPack0 c v w (nI i609))), (5, .int (F_X5_ofPack5 c v w (nI i609))), (4, .int (nI i609)), (3, .int (nI (c 4))), (2, .int (nI (PR c v w (c 0)))), (0, .ref (ad 5 0)), (1, .int (nI (c 0)))]) hx hb dL_isFair_309 hl (by decide) rfl (fun ls hl => ?_)
                refine lv_iconst (v := 0) hx hb dL_isFair_311 (by decide) ?_
                refine lv_istore (lv' := [(7, .int 0), (6, .int (F_X5_ofPack0 c v w (nI i609))), (5, .int (F_X5_ofPack5 c v w (nI i609))), (4, .int (nI i609)), (3, .int (nI (c 4))), (2, .int (nI (PR c v w (c 0)))), (0, .ref (ad 5 0)), (1, .int (nI (c 0)))]) hx hb dL_isFair_312 hl (by decide) rfl (fun ls hl => ?_)
                have K647 : ∀ (k646 i645 : Nat) (H : Heap) (locs : List Loc) (ls : Array Slot), i645 + k646 = (c 0) → pcQ D vwCl (fun _ => False) s.heap NL ad (ctO cA c v w u ad) H locs → lv_has ls 8 [(7, .int (nI i645)), (6, .int (F_X5_ofPack0 c v w (nI i609))), (5, .int (F_X5_ofPack5 c v w (nI i609))), (4, .int (nI i609)), (3, .int (nI (c 4))), (2, .int (nI (PR c v w (c 0)))), (0, .ref (ad 5 0)), (1, .int (nI (c 0)))] → W p l e (headSpec wsL_isFair ({ frames := 7, cells := 0, slots := 0, locals := 164 })).room s m ([.ref (ad 5 0), .int (nI (c 0))] : List Value).toArray below meth c0 H locs 0 0 (MQ below (va_Qi (fun (r : Int32) (_ : Unit) => r = 1) (fun _ _ => True) (fun _ => False)) ([.ref (ad 5 0), .int (nI (c 0))] : List Value).toArray s 0 0 (fun _ => False)) (F0 m 314 ls []) := by
                  intro k646
                  induction k646 with
                  | zero =>
                    intro i645 H locs ls hk hW hl
                    have ei : i645 = (c 0) := by omega
                    rw [ei] at hl
                    refine lv_aload_n hx hb dL_isFair_314 rfl (lv_at hl 6 rfl) ?_
                    refine lv_iload hx hb dL_isFair_315 (lv_at hl 3 rfl) ?_
                    refine lv_iconst (v := 2) hx hb dL_isFair_317 (by decide) ?_
                    refine pc_qcalli (va_runV (As := [.int (nI i609), .int 2]) (rest := []) ⟨hx, hb, hml, hown, hts⟩ (r_X5_ofPack2 l D cA NL c v w u ad (nI i609) hM hBd hF (nI_nn (Nat.lt_of_lt_of_le hlt9i609 (Nat.le_trans hBd.2.2.2.2 (by decide)))) (by rw [nI_clamp (Nat.lt_of_lt_of_le hlt9i609 (Nat.le_trans hBd.2.2.2.2 (by decide)))]; exact hlt9i609)) (cwV 2 hts gL_isFair_X5_ofPack rfl rfl rfl (by decide +kernel) ⟨Nat.le_of_ble_eq_true rfl, Nat.le_of_ble_eq_true rfl⟩) (pc_preV pcN_ok hX hW.1 hM.1 rfl rfl hW.1) rfl rfl hl.1 rfl (lv_room (Nat.le_of_ble_eq_true rfl)) dL_isFair_318 ⟨Nat.le_of_ble_eq_true rfl, Nat.le_of_ble_eq_true rfl⟩) hW (fun r648 H locs hwr648 hW => ?_)
                    replace hwr648 := hwr648.symm
                    subst hwr648
                    refine lv_iconst (v := 1) hx hb dL_isFair_321 (by decide) ?_
                    refine lv_icmp_ne (tgt := 396) hx hb dL_isFair_322 (by decide) (fun _ => ?_) (fun c649 => absurd c649 c627)
                    refine lv_iinc (v := nI (i609 + 1)) (lv' := [(4, .int (nI (i609 + 1))), (7, .int (nI (c 0))), (6, .int (F_X5_ofPack0 c v w (nI i609))), (5, .int (F_X5_ofPack5 c v w (nI i609))), (3, .int (nI (c 4))), (2, .int (nI (PR c v w (c 0)))), (0, .ref (ad 5 0)), (1, .int (nI (c 0)))]) hx hb dL_isFair_396 hl (k := 3) rfl (nI_1 i609) (by decide) rfl (fun ls hl => ?_)
                    refine lv_goto (tgt := 207) hx hb dL_isFair_399 (by decide) ?_
                    exact ihk610 (i609 + 1) H locs ls (by omega) hW (lv_sub hl [0, 4, 5, 6, 7] rfl)
                  | succ k646 ihk646 =>
                    intro i645 H locs ls hk hW hl
                    have hlt : i645 < (c 0) := by omega
                    have hlt9i645 := hlt
                    refine lv_aload_n hx hb dL_isFair_314 rfl (lv_at hl 6 rfl) ?_
                    refine lv_iload hx hb dL_isFair_315 (lv_at hl 3 rfl) ?_
                    refine lv_iconst (v := 2) hx hb dL_isFair_317 (by decide) ?_
                    refine pc_qcalli (va_runV (As := [.int (nI i609), .int 2]) (rest := []) ⟨hx, hb, hml, hown, hts⟩ (r_X5_ofPack2 l D cA NL c v w u ad (nI i609) hM hBd hF (nI_nn (Nat.lt_of_lt_of_le hlt9i609 (Nat.le_trans hBd.2.2.2.2 (by decide)))) (by rw [nI_clamp (Nat.lt_of_lt_of_le hlt9i609 (Nat.le_trans hBd.2.2.2.2 (by decide)))]; exact hlt9i609)) (cwV 2 hts gL_isFair_X5_ofPack rfl rfl rfl (by decide +kernel) ⟨Nat.le_of_ble_eq_true rfl, Nat.le_of_ble_eq_true rfl⟩) (pc_preV pcN_ok hX hW.1 hM.1 rfl rfl hW.1) rfl rfl hl.1 rfl (lv_room (Nat.le_of_ble_eq_true rfl)) dL_isFair_318 ⟨Nat.le_of_ble_eq_true rfl, Nat.le_of_ble_eq_true rfl⟩) hW (fun r650 H locs hwr650 hW => ?_)
                    replace hwr650 := hwr650.symm
                    subst hwr650
                    refine lv_iconst (v := 1) hx hb dL_isFair_321 (by decide) ?_
                    refine lv_icmp_ne (tgt := 396) hx hb dL_isFair_322 (by decide) (fun _ => ?_) (fun c651 => absurd c651 c627)
                    refine lv_iinc (v := nI (i609 + 1)) (lv' := [(4, .int (nI (i609 + 1))), (7, .int (nI i645)), (6, .int (F_X5_ofPack0 c v w (nI i609))), (5, .int (F_X5_ofPack5 c v w (nI i609))), (3, .int (nI (c 4))), (2, .int (nI (PR c v w (c 0)))), (0, .ref (ad 5 0)), (1, .int (nI (c 0)))]) hx hb dL_isFair_396 hl (k := 3) rfl (nI_1 i609) (by decide) rfl (fun ls hl => ?_)
                    refine lv_goto (tgt := 207) hx hb dL_isFair_399 (by decide) ?_
                    exact ihk610 (i609 + 1) H locs ls (by omega) hW (lv_sub hl [0, 4, 5, 6, 7] rfl)
                exact K647 (c 0) 0 _ _ ls (by omega) hW (lv_sub hl [0, 1, 2, 3, 4, 5, 6, 7] rfl)
            · refine lv_iload hx hb dL_isFair_261 (lv_at hl 0 rfl) ?_
              refine lv_if_gt (tgt := 300) hx hb dL_isFair_263 (by decide) (fun c652 => absurd c652 (fa_run hi hlt9i609 c627).2) (fun _ => ?_)
              refine lv_aload_n hx hb dL_isFair_266 rfl (lv_at hl 4 rfl) ?_
              refine lv_iload hx hb dL_isFair_267 (lv_at hl 1 rfl) ?_
              refine lv_iconst (v := 2) hx hb dL_isFair_269 (by decide) ?_
              refine pc_qcalli (va_runV (As := [.int (nI i609), .int 2]) (rest := []) ⟨hx, hb, hml, hown, hts⟩ (r_X5_ofPack2 l D cA NL c v w u ad (nI i609) hM hBd hF (nI_nn (Nat.lt_of_lt_of_le hlt9i609 (Nat.le_trans hBd.2.2.2.2 (by decide)))) (by rw [nI_clamp (Nat.lt_of_lt_of_le hlt9i609 (Nat.le_trans hBd.2.2.2.2 (by decide)))]; exact hlt9i609)) (cwV 2 hts gL_isFair_X5_ofPack rfl rfl rfl (by decide +kernel) ⟨Nat.le_of_ble_eq_true rfl, Nat.le_of_ble_eq_true rfl⟩) (pc_preV pcN_ok hX hW.1 hM.1 rfl rfl hW.1) rfl rfl hl.1 rfl (lv_room (Nat.le_of_ble_eq_true rfl)) dL_isFair_270 ⟨Nat.le_of_ble_eq_true rfl, Nat.le_of_ble_eq_true rfl⟩) hW (fun r653 H locs hwr653 hW => ?_)
              replace hwr653 := hwr653.symm
              subst hwr653
              refine lv_iconst (v := 3) hx hb dL_isFair_273 (by decide) ?_
              refine lv_icmp_ne (tgt := 281) hx hb dL_isFair_274 (by decide) (fun (c654 : ¬ (F_X5_ofPack2 c v w (nI i609)) = (3 : Int32)) => ?_) (fun (c654 : (F_X5_ofPack2 c v w (nI i609)) = (3 : Int32)) => ?_)
              · refine lv_iconst (v := 0) hx hb dL_isFair_281 (by decide) ?_
                refine lv_aload_n hx hb dL_isFair_282 rfl (lv_at hl 4 rfl) ?_
                refine lv_iload hx hb dL_isFair_283 (lv_at hl 1 rfl) ?_
                refine lv_iconst (v := 3) hx hb dL_isFair_285 (by decide) ?_
                refine pc_qcalli (va_runV (As := [.int (nI i609), .int 3]) (rest := [.int 0]) ⟨hx, hb, hml, hown, hts⟩ (r_X5_ofPack3 l D cA NL c v w u ad (nI i609) hM hBd hF (nI_nn (Nat.lt_of_lt_of_le hlt9i609 (Nat.le_trans hBd.2.2.2.2 (by decide)))) (by rw [nI_clamp (Nat.lt_of_lt_of_le hlt9i609 (Nat.le_trans hBd.2.2.2.2 (by decide)))]; exact hlt9i609)) (cwV 2 hts gL_isFair_X5_ofPack rfl rfl rfl (by decide +kernel) ⟨Nat.le_of_ble_eq_true rfl, Nat.le_of_ble_eq_true rfl⟩) (pc_preV pcN_ok hX hW.1 hM.1 rfl rfl hW.1) rfl rfl hl.1 rfl (lv_room (Nat.le_of_ble_eq_true rfl)) dL_isFair_286 ⟨Nat.le_of_ble_eq_true rfl, Nat.le_of_ble_eq_true rfl⟩) hW (fun r655 H locs hwr655 hW => ?_)
                replace hwr655 := hwr655.symm
                subst hwr655
                refine lv_if_ne (tgt := 296) hx hb dL_isFair_289 (by decide) (fun _ => ?_) (fun c656 => absurd c656 (fun q => c654 ((fa_done hi hlt9i609).mpr q)))
                refine lv_iconst (v := 0) hx hb dL_isFair_296 (by decide) ?_
                refine lv_icmp_eq (tgt := 302) hx hb dL_isFair_297 (by decide) (fun _ => ?_) (fun c657 => absurd (by decide) c657)
                refine lv_aload_n hx hb dL_isFair_302 rfl (lv_at hl 4 rfl) ?_
                refine lv_iload hx hb dL_isFair_303 (lv_at hl 1 rfl) ?_
                refine lv_iconst (v := 0) hx hb dL_isFair_305 (by decide) ?_
                refine pc_qcalli (va_runV (As := [.int (nI i609), .int 0]) (rest := []) ⟨hx, hb, hml, hown, hts⟩ (r_X5_ofPack0 l D cA NL c v w u ad (nI i609) hM hBd hF (nI_nn (Nat.lt_of_lt_of_le hlt9i609 (Nat.le_trans hBd.2.2.2.2 (by decide)))) (by rw [nI_clamp (Nat.lt_of_lt_of_le hlt9i609 (Nat.le_trans hBd.2.2.2.2 (by decide)))]; exact hlt9i609)) (cwV 2 hts gL_isFair_X5_ofPack rfl rfl rfl (by decide +kernel) ⟨Nat.le_of_ble_eq_true rfl, Nat.le_of_ble_eq_true rfl⟩) (pc_preV pcN_ok hX hW.1 hM.1 rfl rfl hW.1) rfl rfl hl.1 rfl (lv_room (Nat.le_of_ble_eq_true rfl)) dL_isFair_306 ⟨Nat.le_of_ble_eq_true rfl, Nat.le_of_ble_eq_true rfl⟩) hW (fun r658 H locs hwr658 hW => ?_)
                replace hwr658 := hwr658.symm
                subst hwr658
                refine lv_istore (lv' := [(6, .int (F_X5_ofPack0 c v w (nI i609))), (5, .int (F_X5_ofPack5 c v w (nI i609))), (4, .int (nI i609)), (3, .int (nI (c 4))), (2, .int (nI (PR c v w (c 0)))), (0, .ref (ad 5 0)), (1, .int (nI (c 0)))]) hx hb dL_isFair_309 hl (by decide) rfl (fun ls hl => ?_)
                refine lv_iconst (v := 0) hx hb dL_isFair_311 (by decide) ?_
                refine lv_istore (lv' := [(7, .int 0), (6, .int (F_X5_ofPack0 c v w (nI i609))), (5, .int (F_X5_ofPack5 c v w (nI i609))), (4, .int (nI i609)), (3, .int (nI (c 4))), (2, .int (nI (PR c v w (c 0)))), (0, .ref (ad 5 0)), (1, .int (nI (c 0)))]) hx hb dL_isFair_312 hl (by decide) rfl (fun ls hl => ?_)
                have K661 : ∀ (k660 i659 : Nat) (H : Heap) (locs : List Loc) (ls : Array Slot), i659 + k660 = (c 0) → pcQ D vwCl (fun _ => False) s.heap NL ad (ctO cA c v w u ad) H locs → lv_has ls 8 [(7, .int (nI i659)), (6, .int (F_X5_ofPack0 c v w (nI i609))), (5, .int (F_X5_ofPack5 c v w (nI i609))), (4, .int (nI i609)), (3, .int (nI (c 4))), (2, .int (nI (PR c v w (c 0)))), (0, .ref (ad 5 0)), (1, .int (nI (c 0)))] → W p l e (headSpec wsL_isFair ({ frames := 7, cells := 0, slots := 0, locals := 164 })).room s m ([.ref (ad 5 0), .int (nI (c 0))] : List Value).toArray below meth c0 H locs 0 0 (MQ below (va_Qi (fun (r : Int32) (_ : Unit) => r = 1) (fun _ _ => True) (fun _ => False)) ([.ref (ad 5 0), .int (nI (c 0))] : List Value).toArray s 0 0 (fun _ => False)) (F0 m 314 ls []) := by
                  intro k660
                  induction k660 with
                  | zero =>
                    intro i659 H locs ls hk hW hl
                    have ei : i659 = (c 0) := by omega
                    rw [ei] at hl
                    refine lv_aload_n hx hb dL_isFair_314 rfl (lv_at hl 6 rfl) ?_
                    refine lv_iload hx hb dL_isFair_315 (lv_at hl 3 rfl) ?_
                    refine lv_iconst (v := 2) hx hb dL_isFair_317 (by decide) ?_
                    refine pc_qcalli (va_runV (As := [.int (nI i609), .int 2]) (rest := []) ⟨hx, hb, hml, hown, hts⟩ (r_X5_ofPack2 l D cA NL c v w u ad (nI i609) hM hBd hF (nI_nn (Nat.lt_of_lt_of_le hlt9i609 (Nat.le_trans hBd.2.2.2.2 (by decide)))) (by rw [nI_clamp (Nat.lt_of_lt_of_le hlt9i609 (Nat.le_trans hBd.2.2.2.2 (by decide)))]; exact hlt9i609)) (cwV 2 hts gL_isFair_X5_ofPack rfl rfl rfl (by decide +kernel) ⟨Nat.le_of_ble_eq_true rfl, Nat.le_of_ble_eq_true rfl⟩) (pc_preV pcN_ok hX hW.1 hM.1 rfl rfl hW.1) rfl rfl hl.1 rfl (lv_room (Nat.le_of_ble_eq_true rfl)) dL_isFair_318 ⟨Nat.le_of_ble_eq_true rfl, Nat.le_of_ble_eq_true rfl⟩) hW (fun r662 H locs hwr662 hW => ?_)
                    replace hwr662 := hwr662.symm
                    subst hwr662
                    refine lv_iconst (v := 1) hx hb dL_isFair_321 (by decide) ?_
                    refine lv_icmp_ne (tgt := 396) hx hb dL_isFair_322 (by decide) (fun c663 => absurd c663 (fun q => q c627)) (fun _ => ?_)
                    refine lv_iload hx hb dL_isFair_325 (lv_at hl 0 rfl) ?_
                    refine lv_iload_n hx hb dL_isFair_327 rfl (lv_at hl 7 rfl) ?_
                    refine lv_icmp_ge (tgt := 396) hx hb dL_isFair_328 (by decide) (fun _ => ?_) (fun c664 => absurd (Int32.le_refl _) c664)
                    refine lv_iinc (v := nI (i609 + 1)) (lv' := [(4, .int (nI (i609 + 1))), (7, .int (nI (c 0))), (6, .int (F_X5_ofPack0 c v w (nI i609))), (5, .int (F_X5_ofPack5 c v w (nI i609))), (3, .int (nI (c 4))), (2, .int (nI (PR c v w (c 0)))), (0, .ref (ad 5 0)), (1, .int (nI (c 0)))]) hx hb dL_isFair_396 hl (k := 3) rfl (nI_1 i609) (by decide) rfl (fun ls hl => ?_)
                    refine lv_goto (tgt := 207) hx hb dL_isFair_399 (by decide) ?_
                    exact ihk610 (i609 + 1) H locs ls (by omega) hW (lv_sub hl [0, 4, 5, 6, 7] rfl)
                  | succ k660 ihk660 =>
                    intro i659 H locs ls hk hW hl
                    have hlt : i659 < (c 0) := by omega
                    have hlt9i659 := hlt
                    refine lv_aload_n hx hb dL_isFair_314 rfl (lv_at hl 6 rfl) ?_
                    refine lv_iload hx hb dL_isFair_315 (lv_at hl 3 rfl) ?_
                    refine lv_iconst (v := 2) hx hb dL_isFair_317 (by decide) ?_
                    refine pc_qcalli (va_runV (As := [.int (nI i609), .int 2]) (rest := []) ⟨hx, hb, hml, hown, hts⟩ (r_X5_ofPack2 l D cA NL c v w u ad (nI i609) hM hBd hF (nI_nn (Nat.lt_of_lt_of_le hlt9i609 (Nat.le_trans hBd.2.2.2.2 (by decide)))) (by rw [nI_clamp (Nat.lt_of_lt_of_le hlt9i609 (Nat.le_trans hBd.2.2.2.2 (by decide)))]; exact hlt9i609)) (cwV 2 hts gL_isFair_X5_ofPack rfl rfl rfl (by decide +kernel) ⟨Nat.le_of_ble_eq_true rfl, Nat.le_of_ble_eq_true rfl⟩) (pc_preV pcN_ok hX hW.1 hM.1 rfl rfl hW.1) rfl rfl hl.1 rfl (lv_room (Nat.le_of_ble_eq_true rfl)) dL_isFair_318 ⟨Nat.le_of_ble_eq_true rfl, Nat.le_of_ble_eq_true rfl⟩) hW (fun r665 H locs hwr665 hW => ?_)
                    replace hwr665 := hwr665.symm
                    subst hwr665
                    refine lv_iconst (v := 1) hx hb dL_isFair_321 (by decide) ?_
                    refine lv_icmp_ne (tgt := 396) hx hb dL_isFair_322 (by decide) (fun c666 => absurd c666 (fun q => q c627)) (fun _ => ?_)
                    refine lv_iload hx hb dL_isFair_325 (lv_at hl 0 rfl) ?_
                    refine lv_iload_n hx hb dL_isFair_327 rfl (lv_at hl 7 rfl) ?_
                    refine lv_icmp_ge (tgt := 396) hx hb dL_isFair_328 (by decide) (fun c667 => absurd c667 (nI_ge hlt (Nat.lt_of_le_of_lt hBd.1 (by decide)))) (fun _ => ?_)
                    refine lv_aload_n hx hb dL_isFair_331 rfl (lv_at hl 6 rfl) ?_
                    refine lv_iload hx hb dL_isFair_332 (lv_at hl 3 rfl) ?_
                    refine lv_iconst (v := 1) hx hb dL_isFair_334 (by decide) ?_
                    refine pc_qcalli (va_runV (As := [.int (nI i609), .int 1]) (rest := []) ⟨hx, hb, hml, hown, hts⟩ (r_X5_ofPack1 l D cA NL c v w u ad (nI i609) hM hBd hF (nI_nn (Nat.lt_of_lt_of_le hlt9i609 (Nat.le_trans hBd.2.2.2.2 (by decide)))) (by rw [nI_clamp (Nat.lt_of_lt_of_le hlt9i609 (Nat.le_trans hBd.2.2.2.2 (by decide)))]; exact hlt9i609)) (cwV 2 hts gL_isFair_X5_ofPack rfl rfl rfl (by decide +kernel) ⟨Nat.le_of_ble_eq_true rfl, Nat.le_of_ble_eq_true rfl⟩) (pc_preV pcN_ok hX hW.1 hM.1 rfl rfl hW.1) rfl rfl hl.1 rfl (lv_room (Nat.le_of_ble_eq_true rfl)) dL_isFair_335 ⟨Nat.le_of_ble_eq_true rfl, Nat.le_of_ble_eq_true rfl⟩) hW (fun r668 H locs hwr668 hW => ?_)
                    replace hwr668 := hwr668.symm
                    subst hwr668
                    refine lv_iload hx hb dL_isFair_338 (lv_at hl 0 rfl) ?_
                    refine lv_ishr hx hb dL_isFair_340 ?_
                    refine lv_iconst (v := 1) hx hb dL_isFair_341 (by decide) ?_
                    refine lv_iand hx hb dL_isFair_342 ?_
                    refine lv_iconst (v := 1) hx hb dL_isFair_343 (by decide) ?_
                    refine lv_icmp_ne (tgt := 390) hx hb dL_isFair_344 (by decide) (fun (c669 : ¬ (((F_X5_ofPack1 c v w (nI i609)) >>> ((nI i659) &&& 31)) &&& (1 : Int32)) = (1 : Int32)) => ?_) (fun (c669 : (((F_X5_ofPack1 c v w (nI i609)) >>> ((nI i659) &&& 31)) &&& (1 : Int32)) = (1 : Int32)) => ?_)
                    · refine lv_iinc (v := nI (i659 + 1)) (lv' := [(7, .int (nI (i659 + 1))), (6, .int (F_X5_ofPack0 c v w (nI i609))), (5, .int (F_X5_ofPack5 c v w (nI i609))), (4, .int (nI i609)), (3, .int (nI (c 4))), (2, .int (nI (PR c v w (c 0)))), (0, .ref (ad 5 0)), (1, .int (nI (c 0)))]) hx hb dL_isFair_390 hl (k := 0) rfl (nI_1 i659) (by decide) rfl (fun ls hl => ?_)
                      refine lv_goto (tgt := 314) hx hb dL_isFair_393 (by decide) ?_
                      exact ihk660 (i659 + 1) H locs ls (by omega) hW (lv_sub hl [0, 1, 2, 3, 4, 5, 6, 7] rfl)
                    · refine lv_aload_n hx hb dL_isFair_347 rfl (lv_at hl 6 rfl) ?_
                      refine lv_iload hx hb dL_isFair_348 (lv_at hl 1 rfl) ?_
                      refine lv_iload hx hb dL_isFair_350 (lv_at hl 0 rfl) ?_
                      refine pc_qcalli (va_runV (As := [.int (F_X5_ofPack0 c v w (nI i609)), .int (nI i659)]) (rest := []) ⟨hx, hb, hml, hown, hts⟩ (r_X5_has l D cA NL c v w u ad (F_X5_ofPack0 c v w (nI i609)) (nI i659) hM hBd hF (fa_crew hi hlt9i609).1 (fa_crew hi hlt9i609).2 (nI_nn (Nat.lt_of_lt_of_le hlt9i659 (Nat.le_trans hBd.1 (by decide)))) (by rw [nI_clamp (Nat.lt_of_lt_of_le hlt9i659 (Nat.le_trans hBd.1 (by decide)))]; exact hlt9i659)) (cwV 2 hts gL_isFair_X5_has rfl rfl rfl (by decide +kernel) ⟨Nat.le_of_ble_eq_true rfl, Nat.le_of_ble_eq_true rfl⟩) (pc_preV pcN_ok hX hW.1 hM.1 rfl rfl hW.1) rfl rfl hl.1 rfl (lv_room (Nat.le_of_ble_eq_true rfl)) dL_isFair_352 ⟨Nat.le_of_ble_eq_true rfl, Nat.le_of_ble_eq_true rfl⟩) hW (fun r670 H locs hwr670 hW => ?_)
                      replace hwr670 := hwr670.symm
                      subst hwr670
                      refine lv_aload_n hx hb dL_isFair_355 rfl (lv_at hl 6 rfl) ?_
                      refine lv_iload hx hb dL_isFair_356 (lv_at hl 0 rfl) ?_
                      refine lv_iconst (v := 2) hx hb dL_isFair_358 (by decide) ?_
                      refine pc_qcalli (va_runV (As := [.int (nI i659), .int 2]) (rest := [.int (F_X5_has c v w (F_X5_ofPack0 c v w (nI i609)) (nI i659))]) ⟨hx, hb, hml, hown, hts⟩ (r_X5_ofSheet2 l D cA NL c v w u ad (nI i659) hM hBd hF (nI_nn (Nat.lt_of_lt_of_le hlt9i659 (Nat.le_trans hBd.1 (by decide)))) (by rw [nI_clamp (Nat.lt_of_lt_of_le hlt9i659 (Nat.le_trans hBd.1 (by decide)))]; exact hlt9i659)) (cwV 2 hts gL_isFair_X5_ofSheet rfl rfl rfl (by decide +kernel) ⟨Nat.le_of_ble_eq_true rfl, Nat.le_of_ble_eq_true rfl⟩) (pc_preV pcN_ok hX hW.1 hM.1 rfl rfl hW.1) rfl rfl hl.1 rfl (lv_room (Nat.le_of_ble_eq_true rfl)) dL_isFair_359 ⟨Nat.le_of_ble_eq_true rfl, Nat.le_of_ble_eq_true rfl⟩) hW (fun r671 H locs hwr671 hW => ?_)
                      replace hwr671 := hwr671.symm
                      subst hwr671
                      refine lv_icmp_ne (tgt := 388) hx hb dL_isFair_362 (by decide) (fun c672 => absurd c672 (fun q => q (fa_sheet hi hlt9i609 hlt9i659 c627 c669).1)) (fun _ => ?_)
                      refine lv_aload_n hx hb dL_isFair_365 rfl (lv_at hl 6 rfl) ?_
                      refine lv_iload hx hb dL_isFair_366 (lv_at hl 0 rfl) ?_
                      refine lv_bipush (v := 7) hx hb dL_isFair_368 (by decide) ?_
                      refine pc_qcalli (va_runV (As := [.int (nI i659), .int 7]) (rest := []) ⟨hx, hb, hml, hown, hts⟩ (r_X5_ofSheet7 l D cA NL c v w u ad (nI i659) hM hBd hF (nI_nn (Nat.lt_of_lt_of_le hlt9i659 (Nat.le_trans hBd.1 (by decide)))) (by rw [nI_clamp (Nat.lt_of_lt_of_le hlt9i659 (Nat.le_trans hBd.1 (by decide)))]; exact hlt9i659)) (cwV 2 hts gL_isFair_X5_ofSheet rfl rfl rfl (by decide +kernel) ⟨Nat.le_of_ble_eq_true rfl, Nat.le_of_ble_eq_true rfl⟩) (pc_preV pcN_ok hX hW.1 hM.1 rfl rfl hW.1) rfl rfl hl.1 rfl (lv_room (Nat.le_of_ble_eq_true rfl)) dL_isFair_370 ⟨Nat.le_of_ble_eq_true rfl, Nat.le_of_ble_eq_true rfl⟩) hW (fun r673 H locs hwr673 hW => ?_)
                      replace hwr673 := hwr673.symm
                      subst hwr673
                      refine lv_if_gt (tgt := 388) hx hb dL_isFair_373 (by decide) (fun c674 => absurd c674 (fa_sheet hi hlt9i609 hlt9i659 c627 c669).2.1) (fun _ => ?_)
                      refine lv_aload_n hx hb dL_isFair_376 rfl (lv_at hl 6 rfl) ?_
                      refine lv_iload hx hb dL_isFair_377 (lv_at hl 0 rfl) ?_
                      refine lv_bipush (v := 6) hx hb dL_isFair_379 (by decide) ?_
                      refine pc_qcalli (va_runV (As := [.int (nI i659), .int 6]) (rest := []) ⟨hx, hb, hml, hown, hts⟩ (r_X5_ofSheet6 l D cA NL c v w u ad (nI i659) hM hBd hF (nI_nn (Nat.lt_of_lt_of_le hlt9i659 (Nat.le_trans hBd.1 (by decide)))) (by rw [nI_clamp (Nat.lt_of_lt_of_le hlt9i659 (Nat.le_trans hBd.1 (by decide)))]; exact hlt9i659)) (cwV 2 hts gL_isFair_X5_ofSheet rfl rfl rfl (by decide +kernel) ⟨Nat.le_of_ble_eq_true rfl, Nat.le_of_ble_eq_true rfl⟩) (pc_preV pcN_ok hX hW.1 hM.1 rfl rfl hW.1) rfl rfl hl.1 rfl (lv_room (Nat.le_of_ble_eq_true rfl)) dL_isFair_381 ⟨Nat.le_of_ble_eq_true rfl, Nat.le_of_ble_eq_true rfl⟩) hW (fun r675 H locs hwr675 hW => ?_)
                      replace hwr675 := hwr675.symm
                      subst hwr675
                      refine lv_iconst (v := 2) hx hb dL_isFair_384 (by decide) ?_
                      refine lv_icmp_le (tgt := 390) hx hb dL_isFair_385 (by decide) (fun _ => ?_) (fun c676 => absurd (fa_sheet hi hlt9i609 hlt9i659 c627 c669).2.2 c676)
                      refine lv_iinc (v := nI (i659 + 1)) (lv' := [(7, .int (nI (i659 + 1))), (6, .int (F_X5_ofPack0 c v w (nI i609))), (5, .int (F_X5_ofPack5 c v w (nI i609))), (4, .int (nI i609)), (3, .int (nI (c 4))), (2, .int (nI (PR c v w (c 0)))), (0, .ref (ad 5 0)), (1, .int (nI (c 0)))]) hx hb dL_isFair_390 hl (k := 0) rfl (nI_1 i659) (by decide) rfl (fun ls hl => ?_)
                      refine lv_goto (tgt := 314) hx hb dL_isFair_393 (by decide) ?_
                      exact ihk660 (i659 + 1) H locs ls (by omega) hW (lv_sub hl [0, 1, 2, 3, 4, 5, 6, 7] rfl)
                exact K661 (c 0) 0 _ _ ls (by omega) hW (lv_sub hl [0, 1, 2, 3, 4, 5, 6, 7] rfl)
              · refine lv_iconst (v := 1) hx hb dL_isFair_277 (by decide) ?_
                refine lv_goto (tgt := 282) hx hb dL_isFair_278 (by decide) ?_
                refine lv_aload_n hx hb dL_isFair_282 rfl (lv_at hl 4 rfl) ?_
                refine lv_iload hx hb dL_isFair_283 (lv_at hl 1 rfl) ?_
                refine lv_iconst (v := 3) hx hb dL_isFair_285 (by decide) ?_
                refine pc_qcalli (va_runV (As := [.int (nI i609), .int 3]) (rest := [.int 1]) ⟨hx, hb, hml, hown, hts⟩ (r_X5_ofPack3 l D cA NL c v w u ad (nI i609) hM hBd hF (nI_nn (Nat.lt_of_lt_of_le hlt9i609 (Nat.le_trans hBd.2.2.2.2 (by decide)))) (by rw [nI_clamp (Nat.lt_of_lt_of_le hlt9i609 (Nat.le_trans hBd.2.2.2.2 (by decide)))]; exact hlt9i609)) (cwV 2 hts gL_isFair_X5_ofPack rfl rfl rfl (by decide +kernel) ⟨Nat.le_of_ble_eq_true rfl, Nat.le_of_ble_eq_true rfl⟩) (pc_preV pcN_ok hX hW.1 hM.1 rfl rfl hW.1) rfl rfl hl.1 rfl (lv_room (Nat.le_of_ble_eq_true rfl)) dL_isFair_286 ⟨Nat.le_of_ble_eq_true rfl, Nat.le_of_ble_eq_true rfl⟩) hW (fun r677 H locs hwr677 hW => ?_)
                replace hwr677 := hwr677.symm
                subst hwr677
                refine lv_if_ne (tgt := 296) hx hb dL_isFair_289 (by decide) (fun c678 => absurd c678 (fun q => q ((fa_done hi hlt9i609).mp c654))) (fun _ => ?_)
                refine lv_iconst (v := 1) hx hb dL_isFair_292 (by decide) ?_
                refine lv_goto (tgt := 297) hx hb dL_isFair_293 (by decide) ?_
                refine lv_icmp_eq (tgt := 302) hx hb dL_isFair_297 (by decide) (fun _ => ?_) (fun c679 => absurd (by decide) c679)
                refine lv_aload_n hx hb dL_isFair_302 rfl (lv_at hl 4 rfl) ?_
                refine lv_iload hx hb dL_isFair_303 (lv_at hl 1 rfl) ?_
                refine lv_iconst (v := 0) hx hb dL_isFair_305 (by decide) ?_
                refine pc_qcalli (va_runV (As := [.int (nI i609), .int 0]) (rest := []) ⟨hx, hb, hml, hown, hts⟩ (r_X5_ofPack0 l D cA NL c v w u ad (nI i609) hM hBd hF (nI_nn (Nat.lt_of_lt_of_le hlt9i609 (Nat.le_trans hBd.2.2.2.2 (by decide)))) (by rw [nI_clamp (Nat.lt_of_lt_of_le hlt9i609 (Nat.le_trans hBd.2.2.2.2 (by decide)))]; exact hlt9i609)) (cwV 2 hts gL_isFair_X5_ofPack rfl rfl rfl (by decide +kernel) ⟨Nat.le_of_ble_eq_true rfl, Nat.le_of_ble_eq_true rfl⟩) (pc_preV pcN_ok hX hW.1 hM.1 rfl rfl hW.1) rfl rfl hl.1 rfl (lv_room (Nat.le_of_ble_eq_true rfl)) dL_isFair_306 ⟨Nat.le_of_ble_eq_true rfl, Nat.le_of_ble_eq_true rfl⟩) hW (fun r680 H locs hwr680 hW => ?_)
                replace hwr680 := hwr680.symm
                subst hwr680
                refine lv_istore (lv' := [(6, .int (F_X5_ofPack0 c v w (nI i609))), (5, .int (F_X5_ofPack5 c v w (nI i609))), (4, .int (nI i609)), (3, .int (nI (c 4))), (2, .int (nI (PR c v w (c 0)))), (0, .ref (ad 5 0)), (1, .int (nI (c 0)))]) hx hb dL_isFair_309 hl (by decide) rfl (fun ls hl => ?_)
                refine lv_iconst (v := 0) hx hb dL_isFair_311 (by decide) ?_
                refine lv_istore (lv' := [(7, .int 0), (6, .int (F_X5_ofPack0 c v w (nI i609))), (5, .int (F_X5_ofPack5 c v w (nI i609))), (4, .int (nI i609)), (3, .int (nI (c 4))), (2, .int (nI (PR c v w (c 0)))), (0, .ref (ad 5 0)), (1, .int (nI (c 0)))]) hx hb dL_isFair_312 hl (by decide) rfl (fun ls hl => ?_)
                have K683 : ∀ (k682 i681 : Nat) (H : Heap) (locs : List Loc) (ls : Array Slot), i681 + k682 = (c 0) → pcQ D vwCl (fun _ => False) s.heap NL ad (ctO cA c v w u ad) H locs → lv_has ls 8 [(7, .int (nI i681)), (6, .int (F_X5_ofPack0 c v w (nI i609))), (5, .int (F_X5_ofPack5 c v w (nI i609))), (4, .int (nI i609)), (3, .int (nI (c 4))), (2, .int (nI (PR c v w (c 0)))), (0, .ref (ad 5 0)), (1, .int (nI (c 0)))] → W p l e (headSpec wsL_isFair ({ frames := 7, cells := 0, slots := 0, locals := 164 })).room s m ([.ref (ad 5 0), .int (nI (c 0))] : List Value).toArray below meth c0 H locs 0 0 (MQ below (va_Qi (fun (r : Int32) (_ : Unit) => r = 1) (fun _ _ => True) (fun _ => False)) ([.ref (ad 5 0), .int (nI (c 0))] : List Value).toArray s 0 0 (fun _ => False)) (F0 m 314 ls []) := by
                  intro k682
                  induction k682 with
                  | zero =>
                    intro i681 H locs ls hk hW hl
                    have ei : i681 = (c 0) := by omega
                    rw [ei] at hl
                    refine lv_aload_n hx hb dL_isFair_314 rfl (lv_at hl 6 rfl) ?_
                    refine lv_iload hx hb dL_isFair_315 (lv_at hl 3 rfl) ?_
                    refine lv_iconst (v := 2) hx hb dL_isFair_317 (by decide) ?_
                    refine pc_qcalli (va_runV (As := [.int (nI i609), .int 2]) (rest := []) ⟨hx, hb, hml, hown, hts⟩ (r_X5_ofPack2 l D cA NL c v w u ad (nI i609) hM hBd hF (nI_nn (Nat.lt_of_lt_of_le hlt9i609 (Nat.le_trans hBd.2.2.2.2 (by decide)))) (by rw [nI_clamp (Nat.lt_of_lt_of_le hlt9i609 (Nat.le_trans hBd.2.2.2.2 (by decide)))]; exact hlt9i609)) (cwV 2 hts gL_isFair_X5_ofPack rfl rfl rfl (by decide +kernel) ⟨Nat.le_of_ble_eq_true rfl, Nat.le_of_ble_eq_true rfl⟩) (pc_preV pcN_ok hX hW.1 hM.1 rfl rfl hW.1) rfl rfl hl.1 rfl (lv_room (Nat.le_of_ble_eq_true rfl)) dL_isFair_318 ⟨Nat.le_of_ble_eq_true rfl, Nat.le_of_ble_eq_true rfl⟩) hW (fun r684 H locs hwr684 hW => ?_)
                    replace hwr684 := hwr684.symm
                    subst hwr684
                    refine lv_iconst (v := 1) hx hb dL_isFair_321 (by decide) ?_
                    refine lv_icmp_ne (tgt := 396) hx hb dL_isFair_322 (by decide) (fun c685 => absurd c685 (fun q => q c627)) (fun _ => ?_)
                    refine lv_iload hx hb dL_isFair_325 (lv_at hl 0 rfl) ?_
                    refine lv_iload_n hx hb dL_isFair_327 rfl (lv_at hl 7 rfl) ?_
                    refine lv_icmp_ge (tgt := 396) hx hb dL_isFair_328 (by decide) (fun _ => ?_) (fun c686 => absurd (Int32.le_refl _) c686)
                    refine lv_iinc (v := nI (i609 + 1)) (lv' := [(4, .int (nI (i609 + 1))), (7, .int (nI (c 0))), (6, .int (F_X5_ofPack0 c v w (nI i609))), (5, .int (F_X5_ofPack5 c v w (nI i609))), (3, .int (nI (c 4))), (2, .int (nI (PR c v w (c 0)))), (0, .ref (ad 5 0)), (1, .int (nI (c 0)))]) hx hb dL_isFair_396 hl (k := 3) rfl (nI_1 i609) (by decide) rfl (fun ls hl => ?_)
                    refine lv_goto (tgt := 207) hx hb dL_isFair_399 (by decide) ?_
                    exact ihk610 (i609 + 1) H locs ls (by omega) hW (lv_sub hl [0, 4, 5, 6, 7] rfl)
                  | succ k682 ihk682 =>
                    intro i681 H locs ls hk hW hl
                    have hlt : i681 < (c 0) := by omega
                    have hlt9i681 := hlt
                    refine lv_aload_n hx hb dL_isFair_314 rfl (lv_at hl 6 rfl) ?_
                    refine lv_iload hx hb dL_isFair_315 (lv_at hl 3 rfl) ?_
                    refine lv_iconst (v := 2) hx hb dL_isFair_317 (by decide) ?_
                    refine pc_qcalli (va_runV (As := [.int (nI i609), .int 2]) (rest := []) ⟨hx, hb, hml, hown, hts⟩ (r_X5_ofPack2 l D cA NL c v w u ad (nI i609) hM hBd hF (nI_nn (Nat.lt_of_lt_of_le hlt9i609 (Nat.le_trans hBd.2.2.2.2 (by decide)))) (by rw [nI_clamp (Nat.lt_of_lt_of_le hlt9i609 (Nat.le_trans hBd.2.2.2.2 (by decide)))]; exact hlt9i609)) (cwV 2 hts gL_isFair_X5_ofPack rfl rfl rfl (by decide +kernel) ⟨Nat.le_of_ble_eq_true rfl, Nat.le_of_ble_eq_true rfl⟩) (pc_preV pcN_ok hX hW.1 hM.1 rfl rfl hW.1) rfl rfl hl.1 rfl (lv_room (Nat.le_of_ble_eq_true rfl)) dL_isFair_318 ⟨Nat.le_of_ble_eq_true rfl, Nat.le_of_ble_eq_true rfl⟩) hW (fun r687 H locs hwr687 hW => ?_)
                    replace hwr687 := hwr687.symm
                    subst hwr687
                    refine lv_iconst (v := 1) hx hb dL_isFair_321 (by decide) ?_
                    refine lv_icmp_ne (tgt := 396) hx hb dL_isFair_322 (by decide) (fun c688 => absurd c688 (fun q => q c627)) (fun _ => ?_)
                    refine lv_iload hx hb dL_isFair_325 (lv_at hl 0 rfl) ?_
                    refine lv_iload_n hx hb dL_isFair_327 rfl (lv_at hl 7 rfl) ?_
                    refine lv_icmp_ge (tgt := 396) hx hb dL_isFair_328 (by decide) (fun c689 => absurd c689 (nI_ge hlt (Nat.lt_of_le_of_lt hBd.1 (by decide)))) (fun _ => ?_)
                    refine lv_aload_n hx hb dL_isFair_331 rfl (lv_at hl 6 rfl) ?_
                    refine lv_iload hx hb dL_isFair_332 (lv_at hl 3 rfl) ?_
                    refine lv_iconst (v := 1) hx hb dL_isFair_334 (by decide) ?_
                    refine pc_qcalli (va_runV (As := [.int (nI i609), .int 1]) (rest := []) ⟨hx, hb, hml, hown, hts⟩ (r_X5_ofPack1 l D cA NL c v w u ad (nI i609) hM hBd hF (nI_nn (Nat.lt_of_lt_of_le hlt9i609 (Nat.le_trans hBd.2.2.2.2 (by decide)))) (by rw [nI_clamp (Nat.lt_of_lt_of_le hlt9i609 (Nat.le_trans hBd.2.2.2.2 (by decide)))]; exact hlt9i609)) (cwV 2 hts gL_isFair_X5_ofPack rfl rfl rfl (by decide +kernel) ⟨Nat.le_of_ble_eq_true rfl, Nat.le_of_ble_eq_true rfl⟩) (pc_preV pcN_ok hX hW.1 hM.1 rfl rfl hW.1) rfl rfl hl.1 rfl (lv_room (Nat.le_of_ble_eq_true rfl)) dL_isFair_335 ⟨Nat.le_of_ble_eq_true rfl, Nat.le_of_ble_eq_true rfl⟩) hW (fun r690 H locs hwr690 hW => ?_)
                    replace hwr690 := hwr690.symm
                    subst hwr690
                    refine lv_iload hx hb dL_isFair_338 (lv_at hl 0 rfl) ?_
                    refine lv_ishr hx hb dL_isFair_340 ?_
                    refine lv_iconst (v := 1) hx hb dL_isFair_341 (by decide) ?_
                    refine lv_iand hx hb dL_isFair_342 ?_
                    refine lv_iconst (v := 1) hx hb dL_isFair_343 (by decide) ?_
                    refine lv_icmp_ne (tgt := 390) hx hb dL_isFair_344 (by decide) (fun (c691 : ¬ (((F_X5_ofPack1 c v w (nI i609)) >>> ((nI i681) &&& 31)) &&& (1 : Int32)) = (1 : Int32)) => ?_) (fun (c691 : (((F_X5_ofPack1 c v w (nI i609)) >>> ((nI i681) &&& 31)) &&& (1 : Int32)) = (1 : Int32)) => ?_)
                    · refine lv_iinc (v := nI (i681 + 1)) (lv' := [(7, .int (nI (i681 + 1))), (6, .int (F_X5_ofPack0 c v w (nI i609))), (5, .int (F_X5_ofPack5 c v w (nI i609))), (4, .int (nI i609)), (3, .int (nI (c 4))), (2, .int (nI (PR c v w (c 0)))), (0, .ref (ad 5 0)), (1, .int (nI (c 0)))]) hx hb dL_isFair_390 hl (k := 0) rfl (nI_1 i681) (by decide) rfl (fun ls hl => ?_)
                      refine lv_goto (tgt := 314) hx hb dL_isFair_393 (by decide) ?_
                      exact ihk682 (i681 + 1) H locs ls (by omega) hW (lv_sub hl [0, 1, 2, 3, 4, 5, 6, 7] rfl)
                    · refine lv_aload_n hx hb dL_isFair_347 rfl (lv_at hl 6 rfl) ?_
                      refine lv_iload hx hb dL_isFair_348 (lv_at hl 1 rfl) ?_
                      refine lv_iload hx hb dL_isFair_350 (lv_at hl 0 rfl) ?_
                      refine pc_qcalli (va_runV (As := [.int (F_X5_ofPack0 c v w (nI i609)), .int (nI i681)]) (rest := []) ⟨hx, hb, hml, hown, hts⟩ (r_X5_has l D cA NL c v w u ad (F_X5_ofPack0 c v w (nI i609)) (nI i681) hM hBd hF (fa_crew hi hlt9i609).1 (fa_crew hi hlt9i609).2 (nI_nn (Nat.lt_of_lt_of_le hlt9i681 (Nat.le_trans hBd.1 (by decide)))) (by rw [nI_clamp (Nat.lt_of_lt_of_le hlt9i681 (Nat.le_trans hBd.1 (by decide)))]; exact hlt9i681)) (cwV 2 hts gL_isFair_X5_has rfl rfl rfl (by decide +kernel) ⟨Nat.le_of_ble_eq_true rfl, Nat.le_of_ble_eq_true rfl⟩) (pc_preV pcN_ok hX hW.1 hM.1 rfl rfl hW.1) rfl rfl hl.1 rfl (lv_room (Nat.le_of_ble_eq_true rfl)) dL_isFair_352 ⟨Nat.le_of_ble_eq_true rfl, Nat.le_of_ble_eq_true rfl⟩) hW (fun r692 H locs hwr692 hW => ?_)
                      replace hwr692 := hwr692.symm
                      subst hwr692
                      refine lv_aload_n hx hb dL_isFair_355 rfl (lv_at hl 6 rfl) ?_
                      refine lv_iload hx hb dL_isFair_356 (lv_at hl 0 rfl) ?_
                      refine lv_iconst (v := 2) hx hb dL_isFair_358 (by decide) ?_
                      refine pc_qcalli (va_runV (As := [.int (nI i681), .int 2]) (rest := [.int (F_X5_has c v w (F_X5_ofPack0 c v w (nI i609)) (nI i681))]) ⟨hx, hb, hml, hown, hts⟩ (r_X5_ofSheet2 l D cA NL c v w u ad (nI i681) hM hBd hF (nI_nn (Nat.lt_of_lt_of_le hlt9i681 (Nat.le_trans hBd.1 (by decide)))) (by rw [nI_clamp (Nat.lt_of_lt_of_le hlt9i681 (Nat.le_trans hBd.1 (by decide)))]; exact hlt9i681)) (cwV 2 hts gL_isFair_X5_ofSheet rfl rfl rfl (by decide +kernel) ⟨Nat.le_of_ble_eq_true rfl, Nat.le_of_ble_eq_true rfl⟩) (pc_preV pcN_ok hX hW.1 hM.1 rfl rfl hW.1) rfl rfl hl.1 rfl (lv_room (Nat.le_of_ble_eq_true rfl)) dL_isFair_359 ⟨Nat.le_of_ble_eq_true rfl, Nat.le_of_ble_eq_true rfl⟩) hW (fun r693 H locs hwr693 hW => ?_)
                      replace hwr693 := hwr693.symm
                      subst hwr693
                      refine lv_icmp_ne (tgt := 388) hx hb dL_isFair_362 (by decide) (fun c694 => absurd c694 (fun q => q (fa_sheet hi hlt9i609 hlt9i681 c627 c691).1)) (fun _ => ?_)
                      refine lv_aload_n hx hb dL_isFair_365 rfl (lv_at hl 6 rfl) ?_
                      refine lv_iload hx hb dL_isFair_366 (lv_at hl 0 rfl) ?_
                      refine lv_bipush (v := 7) hx hb dL_isFair_368 (by decide) ?_
                      refine pc_qcalli (va_runV (As := [.int (nI i681), .int 7]) (rest := []) ⟨hx, hb, hml, hown, hts⟩ (r_X5_ofSheet7 l D cA NL c v w u ad (nI i681) hM hBd hF (nI_nn (Nat.lt_of_lt_of_le hlt9i681 (Nat.le_trans hBd.1 (by decide)))) (by rw [nI_clamp (Nat.lt_of_lt_of_le hlt9i681 (Nat.le_trans hBd.1 (by decide)))]; exact hlt9i681)) (cwV 2 hts gL_isFair_X5_ofSheet rfl rfl rfl (by decide +kernel) ⟨Nat.le_of_ble_eq_true rfl, Nat.le_of_ble_eq_true rfl⟩) (pc_preV pcN_ok hX hW.1 hM.1 rfl rfl hW.1) rfl rfl hl.1 rfl (lv_room (Nat.le_of_ble_eq_true rfl)) dL_isFair_370 ⟨Nat.le_of_ble_eq_true rfl, Nat.le_of_ble_eq_true rfl⟩) hW (fun r695 H locs hwr695 hW => ?_)
                      replace hwr695 := hwr695.symm
                      subst hwr695
                      refine lv_if_gt (tgt := 388) hx hb dL_isFair_373 (by decide) (fun c696 => absurd c696 (fa_sheet hi hlt9i609 hlt9i681 c627 c691).2.1) (fun _ => ?_)
                      refine lv_aload_n hx hb dL_isFair_376 rfl (lv_at hl 6 rfl) ?_
                      refine lv_iload hx hb dL_isFair_377 (lv_at hl 0 rfl) ?_
                      refine lv_bipush (v := 6) hx hb dL_isFair_379 (by decide) ?_
                      refine pc_qcalli (va_runV (As := [.int (nI i681), .int 6]) (rest := []) ⟨hx, hb, hml, hown, hts⟩ (r_X5_ofSheet6 l D cA NL c v w u ad (nI i681) hM hBd hF (nI_nn (Nat.lt_of_lt_of_le hlt9i681 (Nat.le_trans hBd.1 (by decide)))) (by rw [nI_clamp (Nat.lt_of_lt_of_le hlt9i681 (Nat.le_trans hBd.1 (by decide)))]; exact hlt9i681)) (cwV 2 hts gL_isFair_X5_ofSheet rfl rfl rfl (by decide +kernel) ⟨Nat.le_of_ble_eq_true rfl, Nat.le_of_ble_eq_true rfl⟩) (pc_preV pcN_ok hX hW.1 hM.1 rfl rfl hW.1) rfl rfl hl.1 rfl (lv_room (Nat.le_of_ble_eq_true rfl)) dL_isFair_381 ⟨Nat.le_of_ble_eq_true rfl, Nat.le_of_ble_eq_true rfl⟩) hW (fun r697 H locs hwr697 hW => ?_)
                      replace hwr697 := hwr697.symm
                      subst hwr697
                      refine lv_iconst (v := 2) hx hb dL_isFair_384 (by decide) ?_
                      refine lv_icmp_le (tgt := 390) hx hb dL_isFair_385 (by decide) (fun _ => ?_) (fun c698 => absurd (fa_sheet hi hlt9i609 hlt9i681 c627 c691).2.2 c698)
                      refine lv_iinc (v := nI (i681 + 1)) (lv' := [(7, .int (nI (i681 + 1))), (6, .int (F_X5_ofPack0 c v w (nI i609))), (5, .int (F_X5_ofPack5 c v w (nI i609))), (4, .int (nI i609)), (3, .int (nI (c 4))), (2, .int (nI (PR c v w (c 0)))), (0, .ref (ad 5 0)), (1, .int (nI (c 0)))]) hx hb dL_isFair_390 hl (k := 0) rfl (nI_1 i681) (by decide) rfl (fun ls hl => ?_)
                      refine lv_goto (tgt := 314) hx hb dL_isFair_393 (by decide) ?_
                      exact ihk682 (i681 + 1) H locs ls (by omega) hW (lv_sub hl [0, 1, 2, 3, 4, 5, 6, 7] rfl)
                exact K683 (c 0) 0 _ _ ls (by omega) hW (lv_sub hl [0, 1, 2, 3, 4, 5, 6, 7] rfl)
          · refine lv_iconst (v := 1) hx hb dL_isFair_232 (by decide) ?_
            refine lv_goto (tgt := 237) hx hb dL_isFair_233 (by decide) ?_
            refine lv_iload hx hb dL_isFair_237 (lv_at hl 0 rfl) ?_
            refine lv_if_ne (tgt := 246) hx hb dL_isFair_239 (by decide) (fun c699 => absurd c699 (fun q => q ((fa_u hi hlt9i609).2 c623))) (fun _ => ?_)
            refine lv_iconst (v := 1) hx hb dL_isFair_242 (by decide) ?_
            refine lv_goto (tgt := 247) hx hb dL_isFair_243 (by decide) ?_
            refine lv_icmp_ne (tgt := 300) hx hb dL_isFair_247 (by decide) (fun c700 => absurd c700 (by decide)) (fun _ => ?_)
            refine lv_aload_n hx hb dL_isFair_250 rfl (lv_at hl 4 rfl) ?_
            refine lv_iload hx hb dL_isFair_251 (lv_at hl 1 rfl) ?_
            refine lv_iconst (v := 2) hx hb dL_isFair_253 (by decide) ?_
            refine pc_qcalli (va_runV (As := [.int (nI i609), .int 2]) (rest := []) ⟨hx, hb, hml, hown, hts⟩ (r_X5_ofPack2 l D cA NL c v w u ad (nI i609) hM hBd hF (nI_nn (Nat.lt_of_lt_of_le hlt9i609 (Nat.le_trans hBd.2.2.2.2 (by decide)))) (by rw [nI_clamp (Nat.lt_of_lt_of_le hlt9i609 (Nat.le_trans hBd.2.2.2.2 (by decide)))]; exact hlt9i609)) (cwV 2 hts gL_isFair_X5_ofPack rfl rfl rfl (by decide +kernel) ⟨Nat.le_of_ble_eq_true rfl, Nat.le_of_ble_eq_true rfl⟩) (pc_preV pcN_ok hX hW.1 hM.1 rfl rfl hW.1) rfl rfl hl.1 rfl (lv_room (Nat.le_of_ble_eq_true rfl)) dL_isFair_254 ⟨Nat.le_of_ble_eq_true rfl, Nat.le_of_ble_eq_true rfl⟩) hW (fun r701 H locs hwr701 hW => ?_)
            replace hwr701 := hwr701.symm
            subst hwr701
            refine lv_iconst (v := 1) hx hb dL_isFair_257 (by decide) ?_
            refine lv_icmp_ne (tgt := 266) hx hb dL_isFair_258 (by decide) (fun (c702 : ¬ (F_X5_ofPack2 c v w (nI i609)) = (1 : Int32)) => ?_) (fun (c702 : (F_X5_ofPack2 c v w (nI i609)) = (1 : Int32)) => ?_)
            · refine lv_aload_n hx hb dL_isFair_266 rfl (lv_at hl 4 rfl) ?_
              refine lv_iload hx hb dL_isFair_267 (lv_at hl 1 rfl) ?_
              refine lv_iconst (v := 2) hx hb dL_isFair_269 (by decide) ?_
              refine pc_qcalli (va_runV (As := [.int (nI i609), .int 2]) (rest := []) ⟨hx, hb, hml, hown, hts⟩ (r_X5_ofPack2 l D cA NL c v w u ad (nI i609) hM hBd hF (nI_nn (Nat.lt_of_lt_of_le hlt9i609 (Nat.le_trans hBd.2.2.2.2 (by decide)))) (by rw [nI_clamp (Nat.lt_of_lt_of_le hlt9i609 (Nat.le_trans hBd.2.2.2.2 (by decide)))]; exact hlt9i609)) (cwV 2 hts gL_isFair_X5_ofPack rfl rfl rfl (by decide +kernel) ⟨Nat.le_of_ble_eq_true rfl, Nat.le_of_ble_eq_true rfl⟩) (pc_preV pcN_ok hX hW.1 hM.1 rfl rfl hW.1) rfl rfl hl.1 rfl (lv_room (Nat.le_of_ble_eq_true rfl)) dL_isFair_270 ⟨Nat.le_of_ble_eq_true rfl, Nat.le_of_ble_eq_true rfl⟩) hW (fun r703 H locs hwr703 hW => ?_)
              replace hwr703 := hwr703.symm
              subst hwr703
              refine lv_iconst (v := 3) hx hb dL_isFair_273 (by decide) ?_
              refine lv_icmp_ne (tgt := 281) hx hb dL_isFair_274 (by decide) (fun (c704 : ¬ (F_X5_ofPack2 c v w (nI i609)) = (3 : Int32)) => ?_) (fun (c704 : (F_X5_ofPack2 c v w (nI i609)) = (3 : Int32)) => ?_)
              · refine lv_iconst (v := 0) hx hb dL_isFair_281 (by decide) ?_
                refine lv_aload_n hx hb dL_isFair_282 rfl (lv_at hl 4 rfl) ?_
                refine lv_iload hx hb dL_isFair_283 (lv_at hl 1 rfl) ?_
                refine lv_iconst (v := 3) hx hb dL_isFair_285 (by decide) ?_
                refine pc_qcalli (va_runV (As := [.int (nI i609), .int 3]) (rest := [.int 0]) ⟨hx, hb, hml, hown, hts⟩ (r_X5_ofPack3 l D cA NL c v w u ad (nI i609) hM hBd hF (nI_nn (Nat.lt_of_lt_of_le hlt9i609 (Nat.le_trans hBd.2.2.2.2 (by decide)))) (by rw [nI_clamp (Nat.lt_of_lt_of_le hlt9i609 (Nat.le_trans hBd.2.2.2.2 (by decide)))]; exact hlt9i609)) (cwV 2 hts gL_isFair_X5_ofPack rfl rfl rfl (by decide +kernel) ⟨Nat.le_of_ble_eq_true rfl, Nat.le_of_ble_eq_true rfl⟩) (pc_preV pcN_ok hX hW.1 hM.1 rfl rfl hW.1) rfl rfl hl.1 rfl (lv_room (Nat.le_of_ble_eq_true rfl)) dL_isFair_286 ⟨Nat.le_of_ble_eq_true rfl, Nat.le_of_ble_eq_true rfl⟩) hW (fun r705 H locs hwr705 hW => ?_)
                replace hwr705 := hwr705.symm
                subst hwr705
                refine lv_if_ne (tgt := 296) hx hb dL_isFair_289 (by decide) (fun _ => ?_) (fun c706 => absurd c706 (fun q => c704 ((fa_done hi hlt9i609).mpr q)))
                refine lv_iconst (v := 0) hx hb dL_isFair_296 (by decide) ?_
                refine lv_icmp_eq (tgt := 302) hx hb dL_isFair_297 (by decide) (fun _ => ?_) (fun c707 => absurd (by decide) c707)
                refine lv_aload_n hx hb dL_isFair_302 rfl (lv_at hl 4 rfl) ?_
                refine lv_iload hx hb dL_isFair_303 (lv_at hl 1 rfl) ?_
                refine lv_iconst (v := 0) hx hb dL_isFair_305 (by decide) ?_
                refine pc_qcalli (va_runV (As := [.int (nI i609), .int 0]) (rest := []) ⟨hx, hb, hml, hown, hts⟩ (r_X5_ofPack0 l D cA NL c v w u ad (nI i609) hM hBd hF (nI_nn (Nat.lt_of_lt_of_le hlt9i609 (Nat.le_trans hBd.2.2.2.2 (by decide)))) (by rw [nI_clamp (Nat.lt_of_lt_of_le hlt9i609 (Nat.le_trans hBd.2.2.2.2 (by decide)))]; exact hlt9i609)) (cwV 2 hts gL_isFair_X5_ofPack rfl rfl rfl (by decide +kernel) ⟨Nat.le_of_ble_eq_true rfl, Nat.le_of_ble_eq_true rfl⟩) (pc_preV pcN_ok hX hW.1 hM.1 rfl rfl hW.1) rfl rfl hl.1 rfl (lv_room (Nat.le_of_ble_eq_true rfl)) dL_isFair_306 ⟨Nat.le_of_ble_eq_true rfl, Nat.le_of_ble_eq_true rfl⟩) hW (fun r708 H locs hwr708 hW => ?_)
                replace hwr708 := hwr708.symm
                subst hwr708
                refine lv_istore (lv' := [(6, .int (F_X5_ofPack0 c v w (nI i609))), (5, .int (F_X5_ofPack5 c v w (nI i609))), (4, .int (nI i609)), (3, .int (nI (c 4))), (2, .int (nI (PR c v w (c 0)))), (0, .ref (ad 5 0)), (1, .int (nI (c 0)))]) hx hb dL_isFair_309 hl (by decide) rfl (fun ls hl => ?_)
                refine lv_iconst (v := 0) hx hb dL_isFair_311 (by decide) ?_
                refine lv_istore (lv' := [(7, .int 0), (6, .int (F_X5_ofPack0 c v w (nI i609))), (5, .int (F_X5_ofPack5 c v w (nI i609))), (4, .int (nI i609)), (3, .int (nI (c 4))), (2, .int (nI (PR c v w (c 0)))), (0, .ref (ad 5 0)), (1, .int (nI (c 0)))]) hx hb dL_isFair_312 hl (by decide) rfl (fun ls hl => ?_)
                have K711 : ∀ (k710 i709 : Nat) (H : Heap) (locs : List Loc) (ls : Array Slot), i709 + k710 = (c 0) → pcQ D vwCl (fun _ => False) s.heap NL ad (ctO cA c v w u ad) H locs → lv_has ls 8 [(7, .int (nI i709)), (6, .int (F_X5_ofPack0 c v w (nI i609))), (5, .int (F_X5_ofPack5 c v w (nI i609))), (4, .int (nI i609)), (3, .int (nI (c 4))), (2, .int (nI (PR c v w (c 0)))), (0, .ref (ad 5 0)), (1, .int (nI (c 0)))] → W p l e (headSpec wsL_isFair ({ frames := 7, cells := 0, slots := 0, locals := 164 })).room s m ([.ref (ad 5 0), .int (nI (c 0))] : List Value).toArray below meth c0 H locs 0 0 (MQ below (va_Qi (fun (r : Int32) (_ : Unit) => r = 1) (fun _ _ => True) (fun _ => False)) ([.ref (ad 5 0), .int (nI (c 0))] : List Value).toArray s 0 0 (fun _ => False)) (F0 m 314 ls []) := by
                  intro k710
                  induction k710 with
                  | zero =>
                    intro i709 H locs ls hk hW hl
                    have ei : i709 = (c 0) := by omega
                    rw [ei] at hl
                    refine lv_aload_n hx hb dL_isFair_314 rfl (lv_at hl 6 rfl) ?_
                    refine lv_iload hx hb dL_isFair_315 (lv_at hl 3 rfl) ?_
                    refine lv_iconst (v := 2) hx hb dL_isFair_317 (by decide) ?_
                    refine pc_qcalli (va_runV (As := [.int (nI i609), .int 2]) (rest := []) ⟨hx, hb, hml, hown, hts⟩ (r_X5_ofPack2 l D cA NL c v w u ad (nI i609) hM hBd hF (nI_nn (Nat.lt_of_lt_of_le hlt9i609 (Nat.le_trans hBd.2.2.2.2 (by decide)))) (by rw [nI_clamp (Nat.lt_of_lt_of_le hlt9i609 (Nat.le_trans hBd.2.2.2.2 (by decide)))]; exact hlt9i609)) (cwV 2 hts gL_isFair_X5_ofPack rfl rfl rfl (by decide +kernel) ⟨Nat.le_of_ble_eq_true rfl, Nat.le_of_ble_eq_true rfl⟩) (pc_preV pcN_ok hX hW.1 hM.1 rfl rfl hW.1) rfl rfl hl.1 rfl (lv_room (Nat.le_of_ble_eq_true rfl)) dL_isFair_318 ⟨Nat.le_of_ble_eq_true rfl, Nat.le_of_ble_eq_true rfl⟩) hW (fun r712 H locs hwr712 hW => ?_)
                    replace hwr712 := hwr712.symm
                    subst hwr712
                    refine lv_iconst (v := 1) hx hb dL_isFair_321 (by decide) ?_
                    refine lv_icmp_ne (tgt := 396) hx hb dL_isFair_322 (by decide) (fun _ => ?_) (fun c713 => absurd c713 c702)
                    refine lv_iinc (v := nI (i609 + 1)) (lv' := [(4, .int (nI (i609 + 1))), (7, .int (nI (c 0))), (6, .int (F_X5_ofPack0 c v w (nI i609))), (5, .int (F_X5_ofPack5 c v w (nI i609))), (3, .int (nI (c 4))), (2, .int (nI (PR c v w (c 0)))), (0, .ref (ad 5 0)), (1, .int (nI (c 0)))]) hx hb dL_isFair_396 hl (k := 3) rfl (nI_1 i609) (by decide) rfl (fun ls hl => ?_)
                    refine lv_goto (tgt := 207) hx hb dL_isFair_399 (by decide) ?_
                    exact ihk610 (i609 + 1) H locs ls (by omega) hW (lv_sub hl [0, 4, 5, 6, 7] rfl)
                  | succ k710 ihk710 =>
                    intro i709 H locs ls hk hW hl
                    have hlt : i709 < (c 0) := by omega
                    have hlt9i709 := hlt
                    refine lv_aload_n hx hb dL_isFair_314 rfl (lv_at hl 6 rfl) ?_
                    refine lv_iload hx hb dL_isFair_315 (lv_at hl 3 rfl) ?_
                    refine lv_iconst (v := 2) hx hb dL_isFair_317 (by decide) ?_
                    refine pc_qcalli (va_runV (As := [.int (nI i609), .int 2]) (rest := []) ⟨hx, hb, hml, hown, hts⟩ (r_X5_ofPack2 l D cA NL c v w u ad (nI i609) hM hBd hF (nI_nn (Nat.lt_of_lt_of_le hlt9i609 (Nat.le_trans hBd.2.2.2.2 (by decide)))) (by rw [nI_clamp (Nat.lt_of_lt_of_le hlt9i609 (Nat.le_trans hBd.2.2.2.2 (by decide)))]; exact hlt9i609)) (cwV 2 hts gL_isFair_X5_ofPack rfl rfl rfl (by decide +kernel) ⟨Nat.le_of_ble_eq_true rfl, Nat.le_of_ble_eq_true rfl⟩) (pc_preV pcN_ok hX hW.1 hM.1 rfl rfl hW.1) rfl rfl hl.1 rfl (lv_room (Nat.le_of_ble_eq_true rfl)) dL_isFair_318 ⟨Nat.le_of_ble_eq_true rfl, Nat.le_of_ble_eq_true rfl⟩) hW (fun r714 H locs hwr714 hW => ?_)
                    replace hwr714 := hwr714.symm
                    subst hwr714
                    refine lv_iconst (v := 1) hx hb dL_isFair_321 (by decide) ?_
                    refine lv_icmp_ne (tgt := 396) hx hb dL_isFair_322 (by decide) (fun _ => ?_) (fun c715 => absurd c715 c702)
                    refine lv_iinc (v := nI (i609 + 1)) (lv' := [(4, .int (nI (i609 + 1))), (7, .int (nI i709)), (6, .int (F_X5_ofPack0 c v w (nI i609))), (5, .int (F_X5_ofPack5 c v w (nI i609))), (3, .int (nI (c 4))), (2, .int (nI (PR c v w (c 0)))), (0, .ref (ad 5 0)), (1, .int (nI (c 0)))]) hx hb dL_isFair_396 hl (k := 3) rfl (nI_1 i609) (by decide) rfl (fun ls hl => ?_)
                    refine lv_goto (tgt := 207) hx hb dL_isFair_399 (by decide) ?_
                    exact ihk610 (i609 + 1) H locs ls (by omega) hW (lv_sub hl [0, 4, 5, 6, 7] rfl)
                exact K711 (c 0) 0 _ _ ls (by omega) hW (lv_sub hl [0, 1, 2, 3, 4, 5, 6, 7] rfl)
              · refine lv_iconst (v := 1) hx hb dL_isFair_277 (by decide) ?_
                refine lv_goto (tgt := 282) hx hb dL_isFair_278 (by decide) ?_
                refine lv_aload_n hx hb dL_isFair_282 rfl (lv_at hl 4 rfl) ?_
                refine lv_iload hx hb dL_isFair_283 (lv_at hl 1 rfl) ?_
                refine lv_iconst (v := 3) hx hb dL_isFair_285 (by decide) ?_
                refine pc_qcalli (va_runV (As := [.int (nI i609), .int 3]) (rest := [.int 1]) ⟨hx, hb, hml, hown, hts⟩ (r_X5_ofPack3 l D cA NL c v w u ad (nI i609) hM hBd hF (nI_nn (Nat.lt_of_lt_of_le hlt9i609 (Nat.le_trans hBd.2.2.2.2 (by decide)))) (by rw [nI_clamp (Nat.lt_of_lt_of_le hlt9i609 (Nat.le_trans hBd.2.2.2.2 (by decide)))]; exact hlt9i609)) (cwV 2 hts gL_isFair_X5_ofPack rfl rfl rfl (by decide +kernel) ⟨Nat.le_of_ble_eq_true rfl, Nat.le_of_ble_eq_true rfl⟩) (pc_preV pcN_ok hX hW.1 hM.1 rfl rfl hW.1) rfl rfl hl.1 rfl (lv_room (Nat.le_of_ble_eq_true rfl)) dL_isFair_286 ⟨Nat.le_of_ble_eq_true rfl, Nat.le_of_ble_eq_true rfl⟩) hW (fun r716 H locs hwr716 hW => ?_)
                replace hwr716 := hwr716.symm
                subst hwr716
                refine lv_if_ne (tgt := 296) hx hb dL_isFair_289 (by decide) (fun c717 => absurd c717 (fun q => q ((fa_done hi hlt9i609).mp c704))) (fun _ => ?_)
                refine lv_iconst (v := 1) hx hb dL_isFair_292 (by decide) ?_
                refine lv_goto (tgt := 297) hx hb dL_isFair_293 (by decide) ?_
                refine lv_icmp_eq (tgt := 302) hx hb dL_isFair_297 (by decide) (fun _ => ?_) (fun c718 => absurd (by decide) c718)
                refine lv_aload_n hx hb dL_isFair_302 rfl (lv_at hl 4 rfl) ?_
                refine lv_iload hx hb dL_isFair_303 (lv_at hl 1 rfl) ?_
                refine lv_iconst (v := 0) hx hb dL_isFair_305 (by decide) ?_
                refine pc_qcalli (va_runV (As := [.int (nI i609), .int 0]) (rest := []) ⟨hx, hb, hml, hown, hts⟩ (r_X5_ofPack0 l D cA NL c v w u ad (nI i609) hM hBd hF (nI_nn (Nat.lt_of_lt_of_le hlt9i609 (Nat.le_trans hBd.2.2.2.2 (by decide)))) (by rw [nI_clamp (Nat.lt_of_lt_of_le hlt9i609 (Nat.le_trans hBd.2.2.2.2 (by decide)))]; exact hlt9i609)) (cwV 2 hts gL_isFair_X5_ofPack rfl rfl rfl (by decide +kernel) ⟨Nat.le_of_ble_eq_true rfl, Nat.le_of_ble_eq_true rfl⟩) (pc_preV pcN_ok hX hW.1 hM.1 rfl rfl hW.1) rfl rfl hl.1 rfl (lv_room (Nat.le_of_ble_eq_true rfl)) dL_isFair_306 ⟨Nat.le_of_ble_eq_true rfl, Nat.le_of_ble_eq_true rfl⟩) hW (fun r719 H locs hwr719 hW => ?_)
                replace hwr719 := hwr719.symm
                subst hwr719
                refine lv_istore (lv' := [(6, .int (F_X5_ofPack0 c v w (nI i609))), (5, .int (F_X5_ofPack5 c v w (nI i609))), (4, .int (nI i609)), (3, .int (nI (c 4))), (2, .int (nI (PR c v w (c 0)))), (0, .ref (ad 5 0)), (1, .int (nI (c 0)))]) hx hb dL_isFair_309 hl (by decide) rfl (fun ls hl => ?_)
                refine lv_iconst (v := 0) hx hb dL_isFair_311 (by decide) ?_
                refine lv_istore (lv' := [(7, .int 0), (6, .int (F_X5_ofPack0 c v w (nI i609))), (5, .int (F_X5_ofPack5 c v w (nI i609))), (4, .int (nI i609)), (3, .int (nI (c 4))), (2, .int (nI (PR c v w (c 0)))), (0, .ref (ad 5 0)), (1, .int (nI (c 0)))]) hx hb dL_isFair_312 hl (by decide) rfl (fun ls hl => ?_)
                have K722 : ∀ (k721 i720 : Nat) (H : Heap) (locs : List Loc) (ls : Array Slot), i720 + k721 = (c 0) → pcQ D vwCl (fun _ => False) s.heap NL ad (ctO cA c v w u ad) H locs → lv_has ls 8 [(7, .int (nI i720)), (6, .int (F_X5_ofPack0 c v w (nI i609))), (5, .int (F_X5_ofPack5 c v w (nI i609))), (4, .int (nI i609)), (3, .int (nI (c 4))), (2, .int (nI (PR c v w (c 0)))), (0, .ref (ad 5 0)), (1, .int (nI (c 0)))] → W p l e (headSpec wsL_isFair ({ frames := 7, cells := 0, slots := 0, locals := 164 })).room s m ([.ref (ad 5 0), .int (nI (c 0))] : List Value).toArray below meth c0 H locs 0 0 (MQ below (va_Qi (fun (r : Int32) (_ : Unit) => r = 1) (fun _ _ => True) (fun _ => False)) ([.ref (ad 5 0), .int (nI (c 0))] : List Value).toArray s 0 0 (fun _ => False)) (F0 m 314 ls []) := by
                  intro k721
                  induction k721 with
                  | zero =>
                    intro i720 H locs ls hk hW hl
                    have ei : i720 = (c 0) := by omega
                    rw [ei] at hl
                    refine lv_aload_n hx hb dL_isFair_314 rfl (lv_at hl 6 rfl) ?_
                    refine lv_iload hx hb dL_isFair_315 (lv_at hl 3 rfl) ?_
                    refine lv_iconst (v := 2) hx hb dL_isFair_317 (by decide) ?_
                    refine pc_qcalli (va_runV (As := [.int (nI i609), .int 2]) (rest := []) ⟨hx, hb, hml, hown, hts⟩ (r_X5_ofPack2 l D cA NL c v w u ad (nI i609) hM hBd hF (nI_nn (Nat.lt_of_lt_of_le hlt9i609 (Nat.le_trans hBd.2.2.2.2 (by decide)))) (by rw [nI_clamp (Nat.lt_of_lt_of_le hlt9i609 (Nat.le_trans hBd.2.2.2.2 (by decide)))]; exact hlt9i609)) (cwV 2 hts gL_isFair_X5_ofPack rfl rfl rfl (by decide +kernel) ⟨Nat.le_of_ble_eq_true rfl, Nat.le_of_ble_eq_true rfl⟩) (pc_preV pcN_ok hX hW.1 hM.1 rfl rfl hW.1) rfl rfl hl.1 rfl (lv_room (Nat.le_of_ble_eq_true rfl)) dL_isFair_318 ⟨Nat.le_of_ble_eq_true rfl, Nat.le_of_ble_eq_true rfl⟩) hW (fun r723 H locs hwr723 hW => ?_)
                    replace hwr723 := hwr723.symm
                    subst hwr723
                    refine lv_iconst (v := 1) hx hb dL_isFair_321 (by decide) ?_
                    refine lv_icmp_ne (tgt := 396) hx hb dL_isFair_322 (by decide) (fun _ => ?_) (fun c724 => absurd c724 c702)
                    refine lv_iinc (v := nI (i609 + 1)) (lv' := [(4, .int (nI (i609 + 1))), (7, .int (nI (c 0))), (6, .int (F_X5_ofPack0 c v w (nI i609))), (5, .int (F_X5_ofPack5 c v w (nI i609))), (3, .int (nI (c 4))), (2, .int (nI (PR c v w (c 0)))), (0, .ref (ad 5 0)), (1, .int (nI (c 0)))]) hx hb dL_isFair_396 hl (k := 3) rfl (nI_1 i609) (by decide) rfl (fun ls hl => ?_)
                    refine lv_goto (tgt := 207) hx hb dL_isFair_399 (by decide) ?_
                    exact ihk610 (i609 + 1) H locs ls (by omega) hW (lv_sub hl [0, 4, 5, 6, 7] rfl)
                  | succ k721 ihk721 =>
                    intro i720 H locs ls hk hW hl
                    have hlt : i720 < (c 0) := by omega
                    have hlt9i720 := hlt
                    refine lv_aload_n hx hb dL_isFair_314 rfl (lv_at hl 6 rfl) ?_
                    refine lv_iload hx hb dL_isFair_315 (lv_at hl 3 rfl) ?_
                    refine lv_iconst (v := 2) hx hb dL_isFair_317 (by decide) ?_
                    refine pc_qcalli (va_runV (As := [.int (nI i609), .int 2]) (rest := []) ⟨hx, hb, hml, hown, hts⟩ (r_X5_ofPack2 l D cA NL c v w u ad (nI i609) hM hBd hF (nI_nn (Nat.lt_of_lt_of_le hlt9i609 (Nat.le_trans hBd.2.2.2.2 (by decide)))) (by rw [nI_clamp (Nat.lt_of_lt_of_le hlt9i609 (Nat.le_trans hBd.2.2.2.2 (by decide)))]; exact hlt9i609)) (cwV 2 hts gL_isFair_X5_ofPack rfl rfl rfl (by decide +kernel) ⟨Nat.le_of_ble_eq_true rfl, Nat.le_of_ble_eq_true rfl⟩) (pc_preV pcN_ok hX hW.1 hM.1 rfl rfl hW.1) rfl rfl hl.1 rfl (lv_room (Nat.le_of_ble_eq_true rfl)) dL_isFair_318 ⟨Nat.le_of_ble_eq_true rfl, Nat.le_of_ble_eq_true rfl⟩) hW (fun r725 H locs hwr725 hW => ?_)
                    replace hwr725 := hwr725.symm
                    subst hwr725
                    refine lv_iconst (v := 1) hx hb dL_isFair_321 (by decide) ?_
                    refine lv_icmp_ne (tgt := 396) hx hb dL_isFair_322 (by decide) (fun _ => ?_) (fun c726 => absurd c726 c702)
                    refine lv_iinc (v := nI (i609 + 1)) (lv' := [(4, .int (nI (i609 + 1))), (7, .int (nI i720)), (6, .int (F_X5_ofPack0 c v w (nI i609))), (5, .int (F_X5_ofPack5 c v w (nI i609))), (3, .int (nI (c 4))), (2, .int (nI (PR c v w (c 0)))), (0, .ref (ad 5 0)), (1, .int (nI (c 0)))]) hx hb dL_isFair_396 hl (k := 3) rfl (nI_1 i609) (by decide) rfl (fun ls hl => ?_)
                    refine lv_goto (tgt := 207) hx hb dL_isFair_399 (by decide) ?_
                    exact ihk610 (i609 + 1) H locs ls (by omega) hW (lv_sub hl [0, 4, 5, 6, 7] rfl)
                exact K722 (c 0) 0 _ _ ls (by omega) hW (lv_sub hl [0, 1, 2, 3, 4, 5, 6, 7] rfl)
            · refine lv_iload hx hb dL_isFair_261 (lv_at hl 0 rfl) ?_
              refine lv_if_gt (tgt := 300) hx hb dL_isFair_263 (by decide) (fun c727 => absurd c727 (fa_run hi hlt9i609 c702).2) (fun _ => ?_)
              refine lv_aload_n hx hb dL_isFair_266 rfl (lv_at hl 4 rfl) ?_
              refine lv_iload hx hb dL_isFair_267 (lv_at hl 1 rfl) ?_
              refine lv_iconst (v := 2) hx hb dL_isFair_269 (by decide) ?_
              refine pc_qcalli (va_runV (As := [.int (nI i609), .int 2]) (rest := []) ⟨hx, hb, hml, hown, hts⟩ (r_X5_ofPack2 l D cA NL c v w u ad (nI i609) hM hBd hF (nI_nn (Nat.lt_of_lt_of_le hlt9i609 (Nat.le_trans hBd.2.2.2.2 (by decide)))) (by rw [nI_clamp (Nat.lt_of_lt_of_le hlt9i609 (Nat.le_trans hBd.2.2.2.2 (by decide)))]; exact hlt9i609)) (cwV 2 hts gL_isFair_X5_ofPack rfl rfl rfl (by decide +kernel) ⟨Nat.le_of_ble_eq_true rfl, Nat.le_of_ble_eq_true rfl⟩) (pc_preV pcN_ok hX hW.1 hM.1 rfl rfl hW.1) rfl rfl hl.1 rfl (lv_room (Nat.le_of_ble_eq_true rfl)) dL_isFair_270 ⟨Nat.le_of_ble_eq_true rfl, Nat.le_of_ble_eq_true rfl⟩) hW (fun r728 H locs hwr728 hW => ?_)
              replace hwr728 := hwr728.symm
              subst hwr728
              refine lv_iconst (v := 3) hx hb dL_isFair_273 (by decide) ?_
              refine lv_icmp_ne (tgt := 281) hx hb dL_isFair_274 (by decide) (fun (c729 : ¬ (F_X5_ofPack2 c v w (nI i609)) = (3 : Int32)) => ?_) (fun (c729 : (F_X5_ofPack2 c v w (nI i609)) = (3 : Int32)) => ?_)
              · refine lv_iconst (v := 0) hx hb dL_isFair_281 (by decide) ?_
                refine lv_aload_n hx hb dL_isFair_282 rfl (lv_at hl 4 rfl) ?_
                refine lv_iload hx hb dL_isFair_283 (lv_at hl 1 rfl) ?_
                refine lv_iconst (v := 3) hx hb dL_isFair_285 (by decide) ?_
                refine pc_qcalli (va_runV (As := [.int (nI i609), .int 3]) (rest := [.int 0]) ⟨hx, hb, hml, hown, hts⟩ (r_X5_ofPack3 l D cA NL c v w u ad (nI i609) hM hBd hF (nI_nn (Nat.lt_of_lt_of_le hlt9i609 (Nat.le_trans hBd.2.2.2.2 (by decide)))) (by rw [nI_clamp (Nat.lt_of_lt_of_le hlt9i609 (Nat.le_trans hBd.2.2.2.2 (by decide)))]; exact hlt9i609)) (cwV 2 hts gL_isFair_X5_ofPack rfl rfl rfl (by decide +kernel) ⟨Nat.le_of_ble_eq_true rfl, Nat.le_of_ble_eq_true rfl⟩) (pc_preV pcN_ok hX hW.1 hM.1 rfl rfl hW.1) rfl rfl hl.1 rfl (lv_room (Nat.le_of_ble_eq_true rfl)) dL_isFair_286 ⟨Nat.le_of_ble_eq_true rfl, Nat.le_of_ble_eq_true rfl⟩) hW (fun r730 H locs hwr730 hW => ?_)
                replace hwr730 := hwr730.symm
                subst hwr730
                refine lv_if_ne (tgt := 296) hx hb dL_isFair_289 (by decide) (fun _ => ?_) (fun c731 => absurd c731 (fun q => c729 ((fa_done hi hlt9i609).mpr q)))
                refine lv_iconst (v := 0) hx hb dL_isFair_296 (by decide) ?_
                refine lv_icmp_eq (tgt := 302) hx hb dL_isFair_297 (by decide) (fun _ => ?_) (fun c732 => absurd (by decide) c732)
                refine lv_aload_n hx hb dL_isFair_302 rfl (lv_at hl 4 rfl) ?_
                refine lv_iload hx hb dL_isFair_303 (lv_at hl 1 rfl) ?_
                refine lv_iconst (v := 0) hx hb dL_isFair_305 (by decide) ?_
                refine pc_qcalli (va_runV (As := [.int (nI i609), .int 0]) (rest := []) ⟨hx, hb, hml, hown, hts⟩ (r_X5_ofPack0 l D cA NL c v w u ad (nI i609) hM hBd hF (nI_nn (Nat.lt_of_lt_of_le hlt9i609 (Nat.le_trans hBd.2.2.2.2 (by decide)))) (by rw [nI_clamp (Nat.lt_of_lt_of_le hlt9i609 (Nat.le_trans hBd.2.2.2.2 (by decide)))]; exact hlt9i609)) (cwV 2 hts gL_isFair_X5_ofPack rfl rfl rfl (by decide +kernel) ⟨Nat.le_of_ble_eq_true rfl, Nat.le_of_ble_eq_true rfl⟩) (pc_preV pcN_ok hX hW.1 hM.1 rfl rfl hW.1) rfl rfl hl.1 rfl (lv_room (Nat.le_of_ble_eq_true rfl)) dL_isFair_306 ⟨Nat.le_of_ble_eq_true rfl, Nat.le_of_ble_eq_true rfl⟩) hW (fun r733 H locs hwr733 hW => ?_)
                replace hwr733 := hwr733.symm
                subst hwr733
                refine lv_istore (lv' := [(6, .int (F_X5_ofPack0 c v w (nI i609))), (5, .int (F_X5_ofPack5 c v w (nI i609))), (4, .int (nI i609)), (3, .int (nI (c 4))), (2, .int (nI (PR c v w (c 0)))), (0, .ref (ad 5 0)), (1, .int (nI (c 0)))]) hx hb dL_isFair_309 hl (by decide) rfl (fun ls hl => ?_)
                refine lv_iconst (v := 0) hx hb dL_isFair_311 (by decide) ?_
                refine lv_istore (lv' := [(7, .int 0), (6, .int (F_X5_ofPack0 c v w (nI i609))), (5, .int (F_X5_ofPack5 c v w (nI i609))), (4, .int (nI i609)), (3, .int (nI (c 4))), (2, .int (nI (PR c v w (c 0)))), (0, .ref (ad 5 0)), (1, .int (nI (c 0)))]) hx hb dL_isFair_312 hl (by decide) rfl (fun ls hl => ?_)
                have K736 : ∀ (k735 i734 : Nat) (H : Heap) (locs : List Loc) (ls : Array Slot), i734 + k735 = (c 0) → pcQ D vwCl (fun _ => False) s.heap NL ad (ctO cA c v w u ad) H locs → lv_has ls 8 [(7, .int (nI i734)), (6, .int (F_X5_ofPack0 c v w (nI i609))), (5, .int (F_X5_ofPack5 c v w (nI i609))), (4, .int (nI i609)), (3, .int (nI (c 4))), (2, .int (nI (PR c v w (c 0)))), (0, .ref (ad 5 0)), (1, .int (nI (c 0)))] → W p l e (headSpec wsL_isFair ({ frames := 7, cells := 0, slots := 0, locals := 164 })).room s m ([.ref (ad 5 0), .int (nI (c 0))] : List Value).toArray below meth c0 H locs 0 0 (MQ below (va_Qi (fun (r : Int32) (_ : Unit) => r = 1) (fun _ _ => True) (fun _ => False)) ([.ref (ad 5 0), .int (nI (c 0))] : List Value).toArray s 0 0 (fun _ => False)) (F0 m 314 ls []) := by
                  intro k735
                  induction k735 with
                  | zero =>
                    intro i734 H locs ls hk hW hl
                    have ei : i734 = (c 0) := by omega
                    rw [ei] at hl
                    refine lv_aload_n hx hb dL_isFair_314 rfl (lv_at hl 6 rfl) ?_
                    refine lv_iload hx hb dL_isFair_315 (lv_at hl 3 rfl) ?_
                    refine lv_iconst (v := 2) hx hb dL_isFair_317 (by decide) ?_
                    refine pc_qcalli (va_runV (As := [.int (nI i609), .int 2]) (rest := []) ⟨hx, hb, hml, hown, hts⟩ (r_X5_ofPack2 l D cA NL c v w u ad (nI i609) hM hBd hF (nI_nn (Nat.lt_of_lt_of_le hlt9i609 (Nat.le_trans hBd.2.2.2.2 (by decide)))) (by rw [nI_clamp (Nat.lt_of_lt_of_le hlt9i609 (Nat.le_trans hBd.2.2.2.2 (by decide)))]; exact hlt9i609)) (cwV 2 hts gL_isFair_X5_ofPack rfl rfl rfl (by decide +kernel) ⟨Nat.le_of_ble_eq_true rfl, Nat.le_of_ble_eq_true rfl⟩) (pc_preV pcN_ok hX hW.1 hM.1 rfl rfl hW.1) rfl rfl hl.1 rfl (lv_room (Nat.le_of_ble_eq_true rfl)) dL_isFair_318 ⟨Nat.le_of_ble_eq_true rfl, Nat.le_of_ble_eq_true rfl⟩) hW (fun r737 H locs hwr737 hW => ?_)
                    replace hwr737 := hwr737.symm
                    subst hwr737
                    refine lv_iconst (v := 1) hx hb dL_isFair_321 (by decide) ?_
                    refine lv_icmp_ne (tgt := 396) hx hb dL_isFair_322 (by decide) (fun c738 => absurd c738 (fun q => q c702)) (fun _ => ?_)
                    refine lv_iload hx hb dL_isFair_325 (lv_at hl 0 rfl) ?_
                    refine lv_iload_n hx hb dL_isFair_327 rfl (lv_at hl 7 rfl) ?_
                    refine lv_icmp_ge (tgt := 396) hx hb dL_isFair_328 (by decide) (fun _ => ?_) (fun c739 => absurd (Int32.le_refl _) c739)
                    refine lv_iinc (v := nI (i609 + 1)) (lv' := [(4, .int (nI (i609 + 1))), (7, .int (nI (c 0))), (6, .int (F_X5_ofPack0 c v w (nI i609))), (5, .int (F_X5_ofPack5 c v w (nI i609))), (3, .int (nI (c 4))), (2, .int (nI (PR c v w (c 0)))), (0, .ref (ad 5 0)), (1, .int (nI (c 0)))]) hx hb dL_isFair_396 hl (k := 3) rfl (nI_1 i609) (by decide) rfl (fun ls hl => ?_)
                    refine lv_goto (tgt := 207) hx hb dL_isFair_399 (by decide) ?_
                    exact ihk610 (i609 + 1) H locs ls (by omega) hW (lv_sub hl [0, 4, 5, 6, 7] rfl)
                  | succ k735 ihk735 =>
                    intro i734 H locs ls hk hW hl
                    have hlt : i734 < (c 0) := by omega
                    have hlt9i734 := hlt
                    refine lv_aload_n hx hb dL_isFair_314 rfl (lv_at hl 6 rfl) ?_
                    refine lv_iload hx hb dL_isFair_315 (lv_at hl 3 rfl) ?_
                    refine lv_iconst (v := 2) hx hb dL_isFair_317 (by decide) ?_
                    refine pc_qcalli (va_runV (As := [.int (nI i609), .int 2]) (rest := []) ⟨hx, hb, hml, hown, hts⟩ (r_X5_ofPack2 l D cA NL c v w u ad (nI i609) hM hBd hF (nI_nn (Nat.lt_of_lt_of_le hlt9i609 (Nat.le_trans hBd.2.2.2.2 (by decide)))) (by rw [nI_clamp (Nat.lt_of_lt_of_le hlt9i609 (Nat.le_trans hBd.2.2.2.2 (by decide)))]; exact hlt9i609)) (cwV 2 hts gL_isFair_X5_ofPack rfl rfl rfl (by decide +kernel) ⟨Nat.le_of_ble_eq_true rfl, Nat.le_of_ble_eq_true rfl⟩) (pc_preV pcN_ok hX hW.1 hM.1 rfl rfl hW.1) rfl rfl hl.1 rfl (lv_room (Nat.le_of_ble_eq_true rfl)) dL_isFair_318 ⟨Nat.le_of_ble_eq_true rfl, Nat.le_of_ble_eq_true rfl⟩) hW (fun r740 H locs hwr740 hW => ?_)
                    replace hwr740 := hwr740.symm
                    subst hwr740
                    refine lv_iconst (v := 1) hx hb dL_isFair_321 (by decide) ?_
                    refine lv_icmp_ne (tgt := 396) hx hb dL_isFair_322 (by decide) (fun c741 => absurd c741 (fun q => q c702)) (fun _ => ?_)
                    refine lv_iload hx hb dL_isFair_325 (lv_at hl 0 rfl) ?_
                    refine lv_iload_n hx hb dL_isFair_327 rfl (lv_at hl 7 rfl) ?_
                    refine lv_icmp_ge (tgt := 396) hx hb dL_isFair_328 (by decide) (fun c742 => absurd c742 (nI_ge hlt (Nat.lt_of_le_of_lt hBd.1 (by decide)))) (fun _ => ?_)
                    refine lv_aload_n hx hb dL_isFair_331 rfl (lv_at hl 6 rfl) ?_
                    refine lv_iload hx hb dL_isFair_332 (lv_at hl 3 rfl) ?_
                    refine lv_iconst (v := 1) hx hb dL_isFair_334 (by decide) ?_
                    refine pc_qcalli (va_runV (As := [.int (nI i609), .int 1]) (rest := []) ⟨hx, hb, hml, hown, hts⟩ (r_X5_ofPack1 l D cA NL c v w u ad (nI i609) hM hBd hF (nI_nn (Nat.lt_of_lt_of_le hlt9i609 (Nat.le_trans hBd.2.2.2.2 (by decide)))) (by rw [nI_clamp (Nat.lt_of_lt_of_le hlt9i609 (Nat.le_trans hBd.2.2.2.2 (by decide)))]; exact hlt9i609)) (cwV 2 hts gL_isFair_X5_ofPack rfl rfl rfl (by decide +kernel) ⟨Nat.le_of_ble_eq_true rfl, Nat.le_of_ble_eq_true rfl⟩) (pc_preV pcN_ok hX hW.1 hM.1 rfl rfl hW.1) rfl rfl hl.1 rfl (lv_room (Nat.le_of_ble_eq_true rfl)) dL_isFair_335 ⟨Nat.le_of_ble_eq_true rfl, Nat.le_of_ble_eq_true rfl⟩) hW (fun r743 H locs hwr743 hW => ?_)
                    replace hwr743 := hwr743.symm
                    subst hwr743
                    refine lv_iload hx hb dL_isFair_338 (lv_at hl 0 rfl) ?_
                    refine lv_ishr hx hb dL_isFair_340 ?_
                    refine lv_iconst (v := 1) hx hb dL_isFair_341 (by decide) ?_
                    refine lv_iand hx hb dL_isFair_342 ?_
                    refine lv_iconst (v := 1) hx hb dL_isFair_343 (by decide) ?_
                    refine lv_icmp_ne (tgt := 390) hx hb dL_isFair_344 (by decide) (fun (c744 : ¬ (((F_X5_ofPack1 c v w (nI i609)) >>> ((nI i734) &&& 31)) &&& (1 : Int32)) = (1 : Int32)) => ?_) (fun (c744 : (((F_X5_ofPack1 c v w (nI i609)) >>> ((nI i734) &&& 31)) &&& (1 : Int32)) = (1 : Int32)) => ?_)
                    · refine lv_iinc (v := nI (i734 + 1)) (lv' := [(7, .int (nI (i734 + 1))), (6, .int (F_X5_ofPack0 c v w (nI i609))), (5, .int (F_X5_ofPack5 c v w (nI i609))), (4, .int (nI i609)), (3, .int (nI (c 4))), (2, .int (nI (PR c v w (c 0)))), (0, .ref (ad 5 0)), (1, .int (nI (c 0)))]) hx hb dL_isFair_390 hl (k := 0) rfl (nI_1 i734) (by decide) rfl (fun ls hl => ?_)
                      refine lv_goto (tgt := 314) hx hb dL_isFair_393 (by decide) ?_
                      exact ihk735 (i734 + 1) H locs ls (by omega) hW (lv_sub hl [0, 1, 2, 3, 4, 5, 6, 7] rfl)
                    · refine lv_aload_n hx hb dL_isFair_347 rfl (lv_at hl 6 rfl) ?_
                      refine lv_iload hx hb dL_isFair_348 (lv_at hl 1 rfl) ?_
                      refine lv_iload hx hb dL_isFair_350 (lv_at hl 0 rfl) ?_
                      refine pc_qcalli (va_runV (As := [.int (F_X5_ofPack0 c v w (nI i609)), .int (nI i734)]) (rest := []) ⟨hx, hb, hml, hown, hts⟩ (r_X5_has l D cA NL c v w u ad (F_X5_ofPack0 c v w (nI i609)) (nI i734) hM hBd hF (fa_crew hi hlt9i609).1 (fa_crew hi hlt9i609).2 (nI_nn (Nat.lt_of_lt_of_le hlt9i734 (Nat.le_trans hBd.1 (by decide)))) (by rw [nI_clamp (Nat.lt_of_lt_of_le hlt9i734 (Nat.le_trans hBd.1 (by decide)))]; exact hlt9i734)) (cwV 2 hts gL_isFair_X5_has rfl rfl rfl (by decide +kernel) ⟨Nat.le_of_ble_eq_true rfl, Nat.le_of_ble_eq_true rfl⟩) (pc_preV pcN_ok hX hW.1 hM.1 rfl rfl hW.1) rfl rfl hl.1 rfl (lv_room (Nat.le_of_ble_eq_true rfl)) dL_isFair_352 ⟨Nat.le_of_ble_eq_true rfl, Nat.le_of_ble_eq_true rfl⟩) hW (fun r745 H locs hwr745 hW => ?_)
                      replace hwr745 := hwr745.symm
                      subst hwr745
                      refine lv_aload_n hx hb dL_isFair_355 rfl (lv_at hl 6 rfl) ?_
                      refine lv_iload hx hb dL_isFair_356 (lv_at hl 0 rfl) ?_
                      refine lv_iconst (v := 2) hx hb dL_isFair_358 (by decide) ?_
                      refine pc_qcalli (va_runV (As := [.int (nI i734), .int 2]) (rest := [.int (F_X5_has c v w (F_X5_ofPack0 c v w (nI i609)) (nI i734))]) ⟨hx, hb, hml, hown, hts⟩ (r_X5_ofSheet2 l D cA NL c v w u ad (nI i734) hM hBd hF (nI_nn (Nat.lt_of_lt_of_le hlt9i734 (Nat.le_trans hBd.1 (by decide)))) (by rw [nI_clamp (Nat.lt_of_lt_of_le hlt9i734 (Nat.le_trans hBd.1 (by decide)))]; exact hlt9i734)) (cwV 2 hts gL_isFair_X5_ofSheet rfl rfl rfl (by decide +kernel) ⟨Nat.le_of_ble_eq_true rfl, Nat.le_of_ble_eq_true rfl⟩) (pc_preV pcN_ok hX hW.1 hM.1 rfl rfl hW.1) rfl rfl hl.1 rfl (lv_room (Nat.le_of_ble_eq_true rfl)) dL_isFair_359 ⟨Nat.le_of_ble_eq_true rfl, Nat.le_of_ble_eq_true rfl⟩) hW (fun r746 H locs hwr746 hW => ?_)
                      replace hwr746 := hwr746.symm
                      subst hwr746
                      refine lv_icmp_ne (tgt := 388) hx hb dL_isFair_362 (by decide) (fun c747 => absurd c747 (fun q => q (fa_sheet hi hlt9i609 hlt9i734 c702 c744).1)) (fun _ => ?_)
                      refine lv_aload_n hx hb dL_isFair_365 rfl (lv_at hl 6 rfl) ?_
                      refine lv_iload hx hb dL_isFair_366 (lv_at hl 0 rfl) ?_
                      refine lv_bipush (v := 7) hx hb dL_isFair_368 (by decide) ?_
                      refine pc_qcalli (va_runV (As := [.int (nI i734), .int 7]) (rest := []) ⟨hx, hb, hml, hown, hts⟩ (r_X5_ofSheet7 l D cA NL c v w u ad (nI i734) hM hBd hF (nI_nn (Nat.lt_of_lt_of_le hlt9i734 (Nat.le_trans hBd.1 (by decide)))) (by rw [nI_clamp (Nat.lt_of_lt_of_le hlt9i734 (Nat.le_trans hBd.1 (by decide)))]; exact hlt9i734)) (cwV 2 hts gL_isFair_X5_ofSheet rfl rfl rfl (by decide +kernel) ⟨Nat.le_of_ble_eq_true rfl, Nat.le_of_ble_eq_true rfl⟩) (pc_preV pcN_ok hX hW.1 hM.1 rfl rfl hW.1) rfl rfl hl.1 rfl (lv_room (Nat.le_of_ble_eq_true rfl)) dL_isFair_370 ⟨Nat.le_of_ble_eq_true rfl, Nat.le_of_ble_eq_true rfl⟩) hW (fun r748 H locs hwr748 hW => ?_)
                      replace hwr748 := hwr748.symm
                      subst hwr748
                      refine lv_if_gt (tgt := 388) hx hb dL_isFair_373 (by decide) (fun c749 => absurd c749 (fa_sheet hi hlt9i609 hlt9i734 c702 c744).2.1) (fun _ => ?_)
                      refine lv_aload_n hx hb dL_isFair_376 rfl (lv_at hl 6 rfl) ?_
                      refine lv_iload hx hb dL_isFair_377 (lv_at hl 0 rfl) ?_
                      refine lv_bipush (v := 6) hx hb dL_isFair_379 (by decide) ?_
                      refine pc_qcalli (va_runV (As := [.int (nI i734), .int 6]) (rest := []) ⟨hx, hb, hml, hown, hts⟩ (r_X5_ofSheet6 l D cA NL c v w u ad (nI i734) hM hBd hF (nI_nn (Nat.lt_of_lt_of_le hlt9i734 (Nat.le_trans hBd.1 (by decide)))) (by rw [nI_clamp (Nat.lt_of_lt_of_le hlt9i734 (Nat.le_trans hBd.1 (by decide)))]; exact hlt9i734)) (cwV 2 hts gL_isFair_X5_ofSheet rfl rfl rfl (by decide +kernel) ⟨Nat.le_of_ble_eq_true rfl, Nat.le_of_ble_eq_true rfl⟩) (pc_preV pcN_ok hX hW.1 hM.1 rfl rfl hW.1) rfl rfl hl.1 rfl (lv_room (Nat.le_of_ble_eq_true rfl)) dL_isFair_381 ⟨Nat.le_of_ble_eq_true rfl, Nat.le_of_ble_eq_true rfl⟩) hW (fun r750 H locs hwr750 hW => ?_)
                      replace hwr750 := hwr750.symm
                      subst hwr750
                      refine lv_iconst (v := 2) hx hb dL_isFair_384 (by decide) ?_
                      refine lv_icmp_le (tgt := 390) hx hb dL_isFair_385 (by decide) (fun _ => ?_) (fun c751 => absurd (fa_sheet hi hlt9i609 hlt9i734 c702 c744).2.2 c751)
                      refine lv_iinc (v := nI (i734 + 1)) (lv' := [(7, .int (nI (i734 + 1))), (6, .int (F_X5_ofPack0 c v w (nI i609))), (5, .int (F_X5_ofPack5 c v w (nI i609))), (4, .int (nI i609)), (3, .int (nI (c 4))), (2, .int (nI (PR c v w (c 0)))), (0, .ref (ad 5 0)), (1, .int (nI (c 0)))]) hx hb dL_isFair_390 hl (k := 0) rfl (nI_1 i734) (by decide) rfl (fun ls hl => ?_)
                      refine lv_goto (tgt := 314) hx hb dL_isFair_393 (by decide) ?_
                      exact ihk735 (i734 + 1) H locs ls (by omega) hW (lv_sub hl [0, 1, 2, 3, 4, 5, 6, 7] rfl)
                exact K736 (c 0) 0 _ _ ls (by omega) hW (lv_sub hl [0, 1, 2, 3, 4, 5, 6, 7] rfl)
              · refine lv_iconst (v := 1) hx hb dL_isFair_277 (by decide) ?_
                refine lv_goto (tgt := 282) hx hb dL_isFair_278 (by decide) ?_
                refine lv_aload_n hx hb dL_isFair_282 rfl (lv_at hl 4 rfl) ?_
                refine lv_iload hx hb dL_isFair_283 (lv_at hl 1 rfl) ?_
                refine lv_iconst (v := 3) hx hb dL_isFair_285 (by decide) ?_
                refine pc_qcalli (va_runV (As := [.int (nI i609), .int 3]) (rest := [.int 1]) ⟨hx, hb, hml, hown, hts⟩ (r_X5_ofPack3 l D cA NL c v w u ad (nI i609) hM hBd hF (nI_nn (Nat.lt_of_lt_of_le hlt9i609 (Nat.le_trans hBd.2.2.2.2 (by decide)))) (by rw [nI_clamp (Nat.lt_of_lt_of_le hlt9i609 (Nat.le_trans hBd.2.2.2.2 (by decide)))]; exact hlt9i609)) (cwV 2 hts gL_isFair_X5_ofPack rfl rfl rfl (by decide +kernel) ⟨Nat.le_of_ble_eq_true rfl, Nat.le_of_ble_eq_true rfl⟩) (pc_preV pcN_ok hX hW.1 hM.1 rfl rfl hW.1) rfl rfl hl.1 rfl (lv_room (Nat.le_of_ble_eq_true rfl)) dL_isFair_286 ⟨Nat.le_of_ble_eq_true rfl, Nat.le_of_ble_eq_true rfl⟩) hW (fun r752 H locs hwr752 hW => ?_)
                replace hwr752 := hwr752.symm
                subst hwr752
                refine lv_if_ne (tgt := 296) hx hb dL_isFair_289 (by decide) (fun c753 => absurd c753 (fun q => q ((fa_done hi hlt9i609).mp c729))) (fun _ => ?_)
                refine lv_iconst (v := 1) hx hb dL_isFair_292 (by decide) ?_
                refine lv_goto (tgt := 297) hx hb dL_isFair_293 (by decide) ?_
                refine lv_icmp_eq (tgt := 302) hx hb dL_isFair_297 (by decide) (fun _ => ?_) (fun c754 => absurd (by decide) c754)
                refine lv_aload_n hx hb dL_isFair_302 rfl (lv_at hl 4 rfl) ?_
                refine lv_iload hx hb dL_isFair_303 (lv_at hl 1 rfl) ?_
                refine lv_iconst (v := 0) hx hb dL_isFair_305 (by decide) ?_
                refine pc_qcalli (va_runV (As := [.int (nI i609), .int 0]) (rest := []) ⟨hx, hb, hml, hown, hts⟩ (r_X5_ofPack0 l D cA NL c v w u ad (nI i609) hM hBd hF (nI_nn (Nat.lt_of_lt_of_le hlt9i609 (Nat.le_trans hBd.2.2.2.2 (by decide)))) (by rw [nI_clamp (Nat.lt_of_lt_of_le hlt9i609 (Nat.le_trans hBd.2.2.2.2 (by decide)))]; exact hlt9i609)) (cwV 2 hts gL_isFair_X5_ofPack rfl rfl rfl (by decide +kernel) ⟨Nat.le_of_ble_eq_true rfl, Nat.le_of_ble_eq_true rfl⟩) (pc_preV pcN_ok hX hW.1 hM.1 rfl rfl hW.1) rfl rfl hl.1 rfl (lv_room (Nat.le_of_ble_eq_true rfl)) dL_isFair_306 ⟨Nat.le_of_ble_eq_true rfl, Nat.le_of_ble_eq_true rfl⟩) hW (fun r755 H locs hwr755 hW => ?_)
                replace hwr755 := hwr755.symm
                subst hwr755
                refine lv_istore (lv' := [(6, .int (F_X5_ofPack0 c v w (nI i609))), (5, .int (F_X5_ofPack5 c v w (nI i609))), (4, .int (nI i609)), (3, .int (nI (c 4))), (2, .int (nI (PR c v w (c 0)))), (0, .ref (ad 5 0)), (1, .int (nI (c 0)))]) hx hb dL_isFair_309 hl (by decide) rfl (fun ls hl => ?_)
                refine lv_iconst (v := 0) hx hb dL_isFair_311 (by decide) ?_
                refine lv_istore (lv' := [(7, .int 0), (6, .int (F_X5_ofPack0 c v w (nI i609))), (5, .int (F_X5_ofPack5 c v w (nI i609))), (4, .int (nI i609)), (3, .int (nI (c 4))), (2, .int (nI (PR c v w (c 0)))), (0, .ref (ad 5 0)), (1, .int (nI (c 0)))]) hx hb dL_isFair_312 hl (by decide) rfl (fun ls hl => ?_)
                have K758 : ∀ (k757 i756 : Nat) (H : Heap) (locs : List Loc) (ls : Array Slot), i756 + k757 = (c 0) → pcQ D vwCl (fun _ => False) s.heap NL ad (ctO cA c v w u ad) H locs → lv_has ls 8 [(7, .int (nI i756)), (6, .int (F_X5_ofPack0 c v w (nI i609))), (5, .int (F_X5_ofPack5 c v w (nI i609))), (4, .int (nI i609)), (3, .int (nI (c 4))), (2, .int (nI (PR c v w (c 0)))), (0, .ref (ad 5 0)), (1, .int (nI (c 0)))] → W p l e (headSpec wsL_isFair ({ frames := 7, cells := 0, slots := 0, locals := 164 })).room s m ([.ref (ad 5 0), .int (nI (c 0))] : List Value).toArray below meth c0 H locs 0 0 (MQ below (va_Qi (fun (r : Int32) (_ : Unit) => r = 1) (fun _ _ => True) (fun _ => False)) ([.ref (ad 5 0), .int (nI (c 0))] : List Value).toArray s 0 0 (fun _ => False)) (F0 m 314 ls []) := by
                  intro k757
                  induction k757 with
                  | zero =>
                    intro i756 H locs ls hk hW hl
                    have ei : i756 = (c 0) := by omega
                    rw [ei] at hl
                    refine lv_aload_n hx hb dL_isFair_314 rfl (lv_at hl 6 rfl) ?_
                    refine lv_iload hx hb dL_isFair_315 (lv_at hl 3 rfl) ?_
                    refine lv_iconst (v := 2) hx hb dL_isFair_317 (by decide) ?_
                    refine pc_qcalli (va_runV (As := [.int (nI i609), .int 2]) (rest := []) ⟨hx, hb, hml, hown, hts⟩ (r_X5_ofPack2 l D cA NL c v w u ad (nI i609) hM hBd hF (nI_nn (Nat.lt_of_lt_of_le hlt9i609 (Nat.le_trans hBd.2.2.2.2 (by decide)))) (by rw [nI_clamp (Nat.lt_of_lt_of_le hlt9i609 (Nat.le_trans hBd.2.2.2.2 (by decide)))]; exact hlt9i609)) (cwV 2 hts gL_isFair_X5_ofPack rfl rfl rfl (by decide +kernel) ⟨Nat.le_of_ble_eq_true rfl, Nat.le_of_ble_eq_true rfl⟩) (pc_preV pcN_ok hX hW.1 hM.1 rfl rfl hW.1) rfl rfl hl.1 rfl (lv_room (Nat.le_of_ble_eq_true rfl)) dL_isFair_318 ⟨Nat.le_of_ble_eq_true rfl, Nat.le_of_ble_eq_true rfl⟩) hW (fun r759 H locs hwr759 hW => ?_)
                    replace hwr759 := hwr759.symm
                    subst hwr759
                    refine lv_iconst (v := 1) hx hb dL_isFair_321 (by decide) ?_
                    refine lv_icmp_ne (tgt := 396) hx hb dL_isFair_322 (by decide) (fun c760 => absurd c760 (fun q => q c702)) (fun _ => ?_)
                    refine lv_iload hx hb dL_isFair_325 (lv_at hl 0 rfl) ?_
                    refine lv_iload_n hx hb dL_isFair_327 rfl (lv_at hl 7 rfl) ?_
                    refine lv_icmp_ge (tgt := 396) hx hb dL_isFair_328 (by decide) (fun _ => ?_) (fun c761 => absurd (Int32.le_refl _) c761)
                    refine lv_iinc (v := nI (i609 + 1)) (lv' := [(4, .int (nI (i609 + 1))), (7, .int (nI (c 0))), (6, .int (F_X5_ofPack0 c v w (nI i609))), (5, .int (F_X5_ofPack5 c v w (nI i609))), (3, .int (nI (c 4))), (2, .int (nI (PR c v w (c 0)))), (0, .ref (ad 5 0)), (1, .int (nI (c 0)))]) hx hb dL_isFair_396 hl (k := 3) rfl (nI_1 i609) (by decide) rfl (fun ls hl => ?_)
                    refine lv_goto (tgt := 207) hx hb dL_isFair_399 (by decide) ?_
                    exact ihk610 (i609 + 1) H locs ls (by omega) hW (lv_sub hl [0, 4, 5, 6, 7] rfl)
                  | succ k757 ihk757 =>
                    intro i756 H locs ls hk hW hl
                    have hlt : i756 < (c 0) := by omega
                    have hlt9i756 := hlt
                    refine lv_aload_n hx hb dL_isFair_314 rfl (lv_at hl 6 rfl) ?_
                    refine lv_iload hx hb dL_isFair_315 (lv_at hl 3 rfl) ?_
                    refine lv_iconst (v := 2) hx hb dL_isFair_317 (by decide) ?_
                    refine pc_qcalli (va_runV (As := [.int (nI i609), .int 2]) (rest := []) ⟨hx, hb, hml, hown, hts⟩ (r_X5_ofPack2 l D cA NL c v w u ad (nI i609) hM hBd hF (nI_nn (Nat.lt_of_lt_of_le hlt9i609 (Nat.le_trans hBd.2.2.2.2 (by decide)))) (by rw [nI_clamp (Nat.lt_of_lt_of_le hlt9i609 (Nat.le_trans hBd.2.2.2.2 (by decide)))]; exact hlt9i609)) (cwV 2 hts gL_isFair_X5_ofPack rfl rfl rfl (by decide +kernel) ⟨Nat.le_of_ble_eq_true rfl, Nat.le_of_ble_eq_true rfl⟩) (pc_preV pcN_ok hX hW.1 hM.1 rfl rfl hW.1) rfl rfl hl.1 rfl (lv_room (Nat.le_of_ble_eq_true rfl)) dL_isFair_318 ⟨Nat.le_of_ble_eq_true rfl, Nat.le_of_ble_eq_true rfl⟩) hW (fun r762 H locs hwr762 hW => ?_)
                    replace hwr762 := hwr762.symm
                    subst hwr762
                    refine lv_iconst (v := 1) hx hb dL_isFair_321 (by decide) ?_
                    refine lv_icmp_ne (tgt := 396) hx hb dL_isFair_322 (by decide) (fun c763 => absurd c763 (fun q => q c702)) (fun _ => ?_)
                    refine lv_iload hx hb dL_isFair_325 (lv_at hl 0 rfl) ?_
                    refine lv_iload_n hx hb dL_isFair_327 rfl (lv_at hl 7 rfl) ?_
                    refine lv_icmp_ge (tgt := 396) hx hb dL_isFair_328 (by decide) (fun c764 => absurd c764 (nI_ge hlt (Nat.lt_of_le_of_lt hBd.1 (by decide)))) (fun _ => ?_)
                    refine lv_aload_n hx hb dL_isFair_331 rfl (lv_at hl 6 rfl) ?_
                    refine lv_iload hx hb dL_isFair_332 (lv_at hl 3 rfl) ?_
                    refine lv_iconst (v := 1) hx hb dL_isFair_334 (by decide) ?_
                    refine pc_qcalli (va_runV (As := [.int (nI i609), .int 1]) (rest := []) ⟨hx, hb, hml, hown, hts⟩ (r_X5_ofPack1 l D cA NL c v w u ad (nI i609) hM hBd hF (nI_nn (Nat.lt_of_lt_of_le hlt9i609 (Nat.le_trans hBd.2.2.2.2 (by decide)))) (by rw [nI_clamp (Nat.lt_of_lt_of_le hlt9i609 (Nat.le_trans hBd.2.2.2.2 (by decide)))]; exact hlt9i609)) (cwV 2 hts gL_isFair_X5_ofPack rfl rfl rfl (by decide +kernel) ⟨Nat.le_of_ble_eq_true rfl, Nat.le_of_ble_eq_true rfl⟩) (pc_preV pcN_ok hX hW.1 hM.1 rfl rfl hW.1) rfl rfl hl.1 rfl (lv_room (Nat.le_of_ble_eq_true rfl)) dL_isFair_335 ⟨Nat.le_of_ble_eq_true rfl, Nat.le_of_ble_eq_true rfl⟩) hW (fun r765 H locs hwr765 hW => ?_)
                    replace hwr765 := hwr765.symm
                    subst hwr765
                    refine lv_iload hx hb dL_isFair_338 (lv_at hl 0 rfl) ?_
                    refine lv_ishr hx hb dL_isFair_340 ?_
                    refine lv_iconst (v := 1) hx hb dL_isFair_341 (by decide) ?_
                    refine lv_iand hx hb dL_isFair_342 ?_
                    refine lv_iconst (v := 1) hx hb dL_isFair_343 (by decide) ?_
                    refine lv_icmp_ne (tgt := 390) hx hb dL_isFair_344 (by decide) (fun (c766 : ¬ (((F_X5_ofPack1 c v w (nI i609)) >>> ((nI i756) &&& 31)) &&& (1 : Int32)) = (1 : Int32)) => ?_) (fun (c766 : (((F_X5_ofPack1 c v w (nI i609)) >>> ((nI i756) &&& 31)) &&& (1 : Int32)) = (1 : Int32)) => ?_)
                    · refine lv_iinc (v := nI (i756 + 1)) (lv' := [(7, .int (nI (i756 + 1))), (6, .int (F_X5_ofPack0 c v w (nI i609))), (5, .int (F_X5_ofPack5 c v w (nI i609))), (4, .int (nI i609)), (3, .int (nI (c 4))), (2, .int (nI (PR c v w (c 0)))), (0, .ref (ad 5 0)), (1, .int (nI (c 0)))]) hx hb dL_isFair_390 hl (k := 0) rfl (nI_1 i756) (by decide) rfl (fun ls hl => ?_)
                      refine lv_goto (tgt := 314) hx hb dL_isFair_393 (by decide) ?_
                      exact ihk757 (i756 + 1) H locs ls (by omega) hW (lv_sub hl [0, 1, 2, 3, 4, 5, 6, 7] rfl)
                    · refine lv_aload_n hx hb dL_isFair_347 rfl (lv_at hl 6 rfl) ?_
                      refine lv_iload hx hb dL_isFair_348 (lv_at hl 1 rfl) ?_
                      refine lv_iload hx hb dL_isFair_350 (lv_at hl 0 rfl) ?_
                      refine pc_qcalli (va_runV (As := [.int (F_X5_ofPack0 c v w (nI i609)), .int (nI i756)]) (rest := []) ⟨hx, hb, hml, hown, hts⟩ (r_X5_has l D cA NL c v w u ad (F_X5_ofPack0 c v w (nI i609)) (nI i756) hM hBd hF (fa_crew hi hlt9i609).1 (fa_crew hi hlt9i609).2 (nI_nn (Nat.lt_of_lt_of_le hlt9i756 (Nat.le_trans hBd.1 (by decide)))) (by rw [nI_clamp (Nat.lt_of_lt_of_le hlt9i756 (Nat.le_trans hBd.1 (by decide)))]; exact hlt9i756)) (cwV 2 hts gL_isFair_X5_has rfl rfl rfl (by decide +kernel) ⟨Nat.le_of_ble_eq_true rfl, Nat.le_of_ble_eq_true rfl⟩) (pc_preV pcN_ok hX hW.1 hM.1 rfl rfl hW.1) rfl rfl hl.1 rfl (lv_room (Nat.le_of_ble_eq_true rfl)) dL_isFair_352 ⟨Nat.le_of_ble_eq_true rfl, Nat.le_of_ble_eq_true rfl⟩) hW (fun r767 H locs hwr767 hW => ?_)
                      replace hwr767 := hwr767.symm
                      subst hwr767
                      refine lv_aload_n hx hb dL_isFair_355 rfl (lv_at hl 6 rfl) ?_
                      refine lv_iload hx hb dL_isFair_356 (lv_at hl 0 rfl) ?_
                      refine lv_iconst (v := 2) hx hb dL_isFair_358 (by decide) ?_
                      refine pc_qcalli (va_runV (As := [.int (nI i756), .int 2]) (rest := [.int (F_X5_has c v w (F_X5_ofPack0 c v w (nI i609)) (nI i756))]) ⟨hx, hb, hml, hown, hts⟩ (r_X5_ofSheet2 l D cA NL c v w u ad (nI i756) hM hBd hF (nI_nn (Nat.lt_of_lt_of_le hlt9i756 (Nat.le_trans hBd.1 (by decide)))) (by rw [nI_clamp (Nat.lt_of_lt_of_le hlt9i756 (Nat.le_trans hBd.1 (by decide)))]; exact hlt9i756)) (cwV 2 hts gL_isFair_X5_ofSheet rfl rfl rfl (by decide +kernel) ⟨Nat.le_of_ble_eq_true rfl, Nat.le_of_ble_eq_true rfl⟩) (pc_preV pcN_ok hX hW.1 hM.1 rfl rfl hW.1) rfl rfl hl.1 rfl (lv_room (Nat.le_of_ble_eq_true rfl)) dL_isFair_359 ⟨Nat.le_of_ble_eq_true rfl, Nat.le_of_ble_eq_true rfl⟩) hW (fun r768 H locs hwr768 hW => ?_)
                      replace hwr768 := hwr768.symm
                      subst hwr768
                      refine lv_icmp_ne (tgt := 388) hx hb dL_isFair_362 (by decide) (fun c769 => absurd c769 (fun q => q (fa_sheet hi hlt9i609 hlt9i756 c702 c766).1)) (fun _ => ?_)
                      refine lv_aload_n hx hb dL_isFair_365 rfl (lv_at hl 6 rfl) ?_
                      refine lv_iload hx hb dL_isFair_366 (lv_at hl 0 rfl) ?_
                      refine lv_bipush (v := 7) hx hb dL_isFair_368 (by decide) ?_
                      refine pc_qcalli (va_runV (As := [.int (nI i756), .int 7]) (rest := []) ⟨hx, hb, hml, hown, hts⟩ (r_X5_ofSheet7 l D cA NL c v w u ad (nI i756) hM hBd hF (nI_nn (Nat.lt_of_lt_of_le hlt9i756 (Nat.le_trans hBd.1 (by decide)))) (by rw [nI_clamp (Nat.lt_of_lt_of_le hlt9i756 (Nat.le_trans hBd.1 (by decide)))]; exact hlt9i756)) (cwV 2 hts gL_isFair_X5_ofSheet rfl rfl rfl (by decide +kernel) ⟨Nat.le_of_ble_eq_true rfl, Nat.le_of_ble_eq_true rfl⟩) (pc_preV pcN_ok hX hW.1 hM.1 rfl rfl hW.1) rfl rfl hl.1 rfl (lv_room (Nat.le_of_ble_eq_true rfl)) dL_isFair_370 ⟨Nat.le_of_ble_eq_true rfl, Nat.le_of_ble_eq_true rfl⟩) hW (fun r770 H locs hwr770 hW => ?_)
                      replace hwr770 := hwr770.symm
                      subst hwr770
                      refine lv_if_gt (tgt := 388) hx hb dL_isFair_373 (by decide) (fun c771 => absurd c771 (fa_sheet hi hlt9i609 hlt9i756 c702 c766).2.1) (fun _ => ?_)
                      refine lv_aload_n hx hb dL_isFair_376 rfl (lv_at hl 6 rfl) ?_
                      refine lv_iload hx hb dL_isFair_377 (lv_at hl 0 rfl) ?_
                      refine lv_bipush (v := 6) hx hb dL_isFair_379 (by decide) ?_
                      refine pc_qcalli (va_runV (As := [.int (nI i756), .int 6]) (rest := []) ⟨hx, hb, hml, hown, hts⟩ (r_X5_ofSheet6 l D cA NL c v w u ad (nI i756) hM hBd hF (nI_nn (Nat.lt_of_lt_of_le hlt9i756 (Nat.le_trans hBd.1 (by decide)))) (by rw [nI_clamp (Nat.lt_of_lt_of_le hlt9i756 (Nat.le_trans hBd.1 (by decide)))]; exact hlt9i756)) (cwV 2 hts gL_isFair_X5_ofSheet rfl rfl rfl (by decide +kernel) ⟨Nat.le_of_ble_eq_true rfl, Nat.le_of_ble_eq_true rfl⟩) (pc_preV pcN_ok hX hW.1 hM.1 rfl rfl hW.1) rfl rfl hl.1 rfl (lv_room (Nat.le_of_ble_eq_true rfl)) dL_isFair_381 ⟨Nat.le_of_ble_eq_true rfl, Nat.le_of_ble_eq_true rfl⟩) hW (fun r772 H locs hwr772 hW => ?_)
                      replace hwr772 := hwr772.symm
                      subst hwr772
                      refine lv_iconst (v := 2) hx hb dL_isFair_384 (by decide) ?_
                      refine lv_icmp_le (tgt := 390) hx hb dL_isFair_385 (by decide) (fun _ => ?_) (fun c773 => absurd (fa_sheet hi hlt9i609 hlt9i756 c702 c766).2.2 c773)
                      refine lv_iinc (v := nI (i756 + 1)) (lv' := [(7, .int (nI (i756 + 1))), (6, .int (F_X5_ofPack0 c v w (nI i609))), (5, .int (F_X5_ofPack5 c v w (nI i609))), (4, .int (nI i609)), (3, .int (nI (c 4))), (2, .int (nI (PR c v w (c 0)))), (0, .ref (ad 5 0)), (1, .int (nI (c 0)))]) hx hb dL_isFair_390 hl (k := 0) rfl (nI_1 i756) (by decide) rfl (fun ls hl => ?_)
                      refine lv_goto (tgt := 314) hx hb dL_isFair_393 (by decide) ?_
                      exact ihk757 (i756 + 1) H locs ls (by omega) hW (lv_sub hl [0, 1, 2, 3, 4, 5, 6, 7] rfl)
                exact K758 (c 0) 0 _ _ ls (by omega) hW (lv_sub hl [0, 1, 2, 3, 4, 5, 6, 7] rfl)
      exact K611 (c 4) 0 _ _ ls (by omega) hW (lv_sub hl [0, 1, 2, 3, 4] rfl)
    | succ k605 ihk605 =>
      intro i604 H locs ls hk hW hl
      have hlt : i604 < (c 0) := by omega
      have hlt9i604 := hlt
      refine lv_iload_n hx hb dL_isFair_4 rfl (lv_at hl 0 rfl) ?_
      refine lv_iload_n hx hb dL_isFair_5 rfl (lv_at hl 3 rfl) ?_
      refine lv_icmp_ge (tgt := 197) hx hb dL_isFair_6 (by decide) (fun c774 => absurd c774 (nI_ge hlt (Nat.lt_of_le_of_lt hBd.1 (by decide)))) (fun _ => ?_)
      refine lv_aload_n hx hb dL_isFair_9 rfl (lv_at hl 2 rfl) ?_
      refine lv_iload_n hx hb dL_isFair_10 rfl (lv_at hl 0 rfl) ?_
      refine lv_iconst (v := 1) hx hb dL_isFair_11 (by decide) ?_
      refine pc_qcalli (va_runV (As := [.int (nI i604), .int 1]) (rest := []) ⟨hx, hb, hml, hown, hts⟩ (r_X5_ofSheet1 l D cA NL c v w u ad (nI i604) hM hBd hF (nI_nn (Nat.lt_of_lt_of_le hlt9i604 (Nat.le_trans hBd.1 (by decide)))) (by rw [nI_clamp (Nat.lt_of_lt_of_le hlt9i604 (Nat.le_trans hBd.1 (by decide)))]; exact hlt9i604)) (cwV 2 hts gL_isFair_X5_ofSheet rfl rfl rfl (by decide +kernel) ⟨Nat.le_of_ble_eq_true rfl, Nat.le_of_ble_eq_true rfl⟩) (pc_preV pcN_ok hX hW.1 hM.1 rfl rfl hW.1) rfl rfl hl.1 rfl (lv_room (Nat.le_of_ble_eq_true rfl)) dL_isFair_12 ⟨Nat.le_of_ble_eq_true rfl, Nat.le_of_ble_eq_true rfl⟩) hW (fun r775 H locs hwr775 hW => ?_)
      replace hwr775 := hwr775.symm
      subst hwr775
      refine lv_iconst (v := 1) hx hb dL_isFair_15 (by decide) ?_
      refine lv_isub hx hb dL_isFair_16 ?_
      rw [fa_last (by have := hi.1; omega)]
      refine lv_istore (lv' := [(4, .int (v 1 i604 1)), (3, .int (nI i604)), (2, .int (nI (PR c v w i604))), (0, .ref (ad 5 0)), (1, .int (nI (c 0)))]) hx hb dL_isFair_17 hl (by decide) rfl (fun ls hl => ?_)
      refine lv_iconst (v := 0) hx hb dL_isFair_19 (by decide) ?_
      refine lv_istore (lv' := [(5, .int 0), (4, .int (v 1 i604 1)), (3, .int (nI i604)), (2, .int (nI (PR c v w i604))), (0, .ref (ad 5 0)), (1, .int (nI (c 0)))]) hx hb dL_isFair_20 hl (by decide) rfl (fun ls hl => ?_)
      refine lv_iconst (v := 0) hx hb dL_isFair_22 (by decide) ?_
      refine lv_istore (lv' := [(6, .int 0), (5, .int 0), (4, .int (v 1 i604 1)), (3, .int (nI i604)), (2, .int (nI (PR c v w i604))), (0, .ref (ad 5 0)), (1, .int (nI (c 0)))]) hx hb dL_isFair_23 hl (by decide) rfl (fun ls hl => ?_)
      have K778 : ∀ (k777 i776 : Nat) (H : Heap) (locs : List Loc) (ls : Array Slot), i776 + k777 = ((v 1 i604 1).toNatClampNeg + 1) → pcQ D vwCl (fun _ => False) s.heap NL ad (ctO cA c v w u ad) H locs → lv_has ls 8 [(6, .int (nI i776)), (5, .int (isu v i604 i776)), (4, .int (v 1 i604 1)), (3, .int (nI i604)), (2, .int (nI (PR c v w i604))), (0, .ref (ad 5 0)), (1, .int (nI (c 0)))] → W p l e (headSpec wsL_isFair ({ frames := 7, cells := 0, slots := 0, locals := 164 })).room s m ([.ref (ad 5 0), .int (nI (c 0))] : List Value).toArray below meth c0 H locs 0 0 (MQ below (va_Qi (fun (r : Int32) (_ : Unit) => r = 1) (fun _ _ => True) (fun _ => False)) ([.ref (ad 5 0), .int (nI (c 0))] : List Value).toArray s 0 0 (fun _ => False)) (F0 m 25 ls []) := by
        intro k777
        induction k777 with
        | zero =>
          intro i776 H locs ls hk hW hl
          have ei : i776 = ((v 1 i604 1).toNatClampNeg + 1) := by omega
          rw [ei] at hl
          refine lv_iload hx hb dL_isFair_25 (lv_at hl 0 rfl) ?_
          refine lv_iload hx hb dL_isFair_27 (lv_at hl 2 rfl) ?_
          refine lv_icmp_gt (tgt := 95) hx hb dL_isFair_29 (by decide) (fun _ => ?_) (fun c779 => absurd (last_exit (hF.2.2 i604 hlt9i604).1 (hF.2.2 i604 hlt9i604).2) c779)
          refine lv_iload hx hb dL_isFair_95 (lv_at hl 1 rfl) ?_
          refine lv_iconst (v := 1) hx hb dL_isFair_97 (by decide) ?_
          refine lv_icmp_ne (tgt := 117) hx hb dL_isFair_98 (by decide) (fun c780 => absurd c780 (fun q => q (isu_end hi hlt9i604))) (fun _ => ?_)
          refine lv_aload_n hx hb dL_isFair_101 rfl (lv_at hl 5 rfl) ?_
          refine lv_iload_n hx hb dL_isFair_102 rfl (lv_at hl 3 rfl) ?_
          refine lv_iconst (v := 3) hx hb dL_isFair_103 (by decide) ?_
          refine pc_qcalli (va_runV (As := [.int (nI i604), .int 3]) (rest := []) ⟨hx, hb, hml, hown, hts⟩ (r_X5_ofSheet3 l D cA NL c v w u ad (nI i604) hM hBd hF (nI_nn (Nat.lt_of_lt_of_le hlt9i604 (Nat.le_trans hBd.1 (by decide)))) (by rw [nI_clamp (Nat.lt_of_lt_of_le hlt9i604 (Nat.le_trans hBd.1 (by decide)))]; exact hlt9i604)) (cwV 2 hts gL_isFair_X5_ofSheet rfl rfl rfl (by decide +kernel) ⟨Nat.le_of_ble_eq_true rfl, Nat.le_of_ble_eq_true rfl⟩) (pc_preV pcN_ok hX hW.1 hM.1 rfl rfl hW.1) rfl rfl hl.1 rfl (lv_room (Nat.le_of_ble_eq_true rfl)) dL_isFair_104 ⟨Nat.le_of_ble_eq_true rfl, Nat.le_of_ble_eq_true rfl⟩) hW (fun r781 H locs hwr781 hW => ?_)
          replace hwr781 := hwr781.symm
          subst hwr781
          refine lv_aload_n hx hb dL_isFair_107 rfl (lv_at hl 5 rfl) ?_
          refine lv_iload_n hx hb dL_isFair_108 rfl (lv_at hl 3 rfl) ?_
          refine lv_iload hx hb dL_isFair_109 (lv_at hl 2 rfl) ?_
          refine pc_qcalli (va_runV (As := [.int (nI i604), .int (v 1 i604 1)]) (rest := [.int (F_X5_ofSheet3 c v w (nI i604))]) ⟨hx, hb, hml, hown, hts⟩ (r_X5_status l D cA NL c v w u ad (nI i604) (v 1 i604 1) hM hBd hF (nI_nn (Nat.lt_of_lt_of_le hlt9i604 (Nat.le_trans hBd.1 (by decide)))) (by rw [nI_clamp (Nat.lt_of_lt_of_le hlt9i604 (Nat.le_trans hBd.1 (by decide)))]; exact hlt9i604) (hF.2.2 i604 hlt9i604).1 (by rw [nI_clamp (Nat.lt_of_lt_of_le hlt9i604 (Nat.le_trans hBd.1 (by decide)))]; exact Int32.le_refl _)) (cwV 2 hts gL_isFair_X5_status rfl rfl rfl (by decide +kernel) ⟨Nat.le_of_ble_eq_true rfl, Nat.le_of_ble_eq_true rfl⟩) (pc_preV pcN_ok hX hW.1 hM.1 rfl rfl hW.1) rfl rfl hl.1 rfl (lv_room (Nat.le_of_ble_eq_true rfl)) dL_isFair_111 ⟨Nat.le_of_ble_eq_true rfl, Nat.le_of_ble_eq_true rfl⟩) hW (fun r782 H locs hwr782 hW => ?_)
          replace hwr782 := hwr782.symm
          subst hwr782
          refine lv_icmp_eq (tgt := 119) hx hb dL_isFair_114 (by decide) (fun _ => ?_) (fun c783 => absurd (fa_3 (by have := hi.1; omega)) c783)
          refine lv_iconst (v := 0) hx hb dL_isFair_119 (by decide) ?_
          refine lv_istore (lv' := [(6, .int 0), (5, .int (isu v i604 ((v 1 i604 1).toNatClampNeg + 1))), (4, .int (v 1 i604 1)), (3, .int (nI i604)), (2, .int (nI (PR c v w i604))), (0, .ref (ad 5 0)), (1, .int (nI (c 0)))]) hx hb dL_isFair_120 hl (by decide) rfl (fun ls hl => ?_)
          have K786 : ∀ (k785 i784 : Nat) (H : Heap) (locs : List Loc) (ls : Array Slot), i784 + k785 = i604 → pcQ D vwCl (fun _ => False) s.heap NL ad (ctO cA c v w u ad) H locs → lv_has ls 8 [(6, .int (nI i784)), (5, .int (isu v i604 ((v 1 i604 1).toNatClampNeg + 1))), (4, .int (v 1 i604 1)), (3, .int (nI i604)), (2, .int (nI (PR c v w i604 + PQ c v w i604 i784))), (0, .ref (ad 5 0)), (1, .int (nI (c 0)))] → W p l e (headSpec wsL_isFair ({ frames := 7, cells := 0, slots := 0, locals := 164 })).room s m ([.ref (ad 5 0), .int (nI (c 0))] : List Value).toArray below meth c0 H locs 0 0 (MQ below (va_Qi (fun (r : Int32) (_ : Unit) => r = 1) (fun _ _ => True) (fun _ => False)) ([.ref (ad 5 0), .int (nI (c 0))] : List Value).toArray s 0 0 (fun _ => False)) (F0 m 122 ls []) := by
            intro k785
            induction k785 with
            | zero =>
              intro i784 H locs ls hk hW hl
              have ei : i784 = i604 := by omega
              rw [ei] at hl
              refine lv_iload hx hb dL_isFair_122 (lv_at hl 0 rfl) ?_
              refine lv_iload_n hx hb dL_isFair_124 rfl (lv_at hl 3 rfl) ?_
              refine lv_icmp_ge (tgt := 191) hx hb dL_isFair_125 (by decide) (fun _ => ?_) (fun c787 => absurd (Int32.le_refl _) c787)
              refine lv_iinc (v := nI (i604 + 1)) (lv' := [(3, .int (nI (i604 + 1))), (6, .int (nI i604)), (5, .int (isu v i604 ((v 1 i604 1).toNatClampNeg + 1))), (4, .int (v 1 i604 1)), (2, .int (nI (PR c v w i604 + PQ c v w i604 i604))), (0, .ref (ad 5 0)), (1, .int (nI (c 0)))]) hx hb dL_isFair_191 hl (k := 3) rfl (nI_1 i604) (by decide) rfl (fun ls hl => ?_)
              refine lv_goto (tgt := 4) hx hb dL_isFair_194 (by decide) ?_
              have e92 : (nI (PR c v w i604 + PQ c v w i604 i604)) = (nI (PR c v w (i604 + 1))) := rfl
              have hl : lv_has ls 8 [(3, .int (nI (i604 + 1))), (6, .int (nI i604)), (5, .int (isu v i604 ((v 1 i604 1).toNatClampNeg + 1))), (4, .int (v 1 i604 1)), (2, .int (nI (PR c v w (i604 + 1)))), (0, .ref (ad 5 0)), (1, .int (nI (c 0)))] := by rw [← e92]; exact hl
              exact ihk605 (i604 + 1) H locs ls (by omega) hW (lv_sub hl [0, 4, 5, 6] rfl)
            | succ k785 ihk785 =>
              intro i784 H locs ls hk hW hl
              have hlt : i784 < i604 := by omega
              have hlt9i784 := hlt
              refine lv_iload hx hb dL_isFair_122 (lv_at hl 0 rfl) ?_
              refine lv_iload_n hx hb dL_isFair_124 rfl (lv_at hl 3 rfl) ?_
              refine lv_icmp_ge (tgt := 191) hx hb dL_isFair_125 (by decide) (fun c788 => absurd c788 (nI_ge hlt (by have := hi.1; omega))) (fun _ => ?_)
              refine lv_aload_n hx hb dL_isFair_128 rfl (lv_at hl 5 rfl) ?_
              refine lv_iload_n hx hb dL_isFair_129 rfl (lv_at hl 3 rfl) ?_
              refine lv_iload hx hb dL_isFair_130 (lv_at hl 0 rfl) ?_
              refine pc_qcalli (va_runV (As := [.int (nI i604), .int (nI i784)]) (rest := []) ⟨hx, hb, hml, hown, hts⟩ (r_X5_clash l D cA NL c v w u ad (nI i604) (nI i784) hM hBd hF (nI_nn (Nat.lt_of_lt_of_le hlt9i604 (Nat.le_trans hBd.1 (by decide)))) (by rw [nI_clamp (Nat.lt_of_lt_of_le hlt9i604 (Nat.le_trans hBd.1 (by decide)))]; exact hlt9i604) (nI_nn (Nat.lt_of_lt_of_le (Nat.lt_trans hlt9i784 hlt9i604) (Nat.le_trans hBd.1 (by decide)))) (by rw [nI_clamp (Nat.lt_of_lt_of_le (Nat.lt_trans hlt9i784 hlt9i604) (Nat.le_trans hBd.1 (by decide)))]; exact (Nat.lt_trans hlt9i784 hlt9i604)) (fun q => absurd ((nI_eq (by have := hi.1; omega) (by have := hi.1; omega)).mp q) (by omega))) (cwV 2 hts gL_isFair_X5_clash rfl rfl rfl (by decide +kernel) ⟨Nat.le_of_ble_eq_true rfl, Nat.le_of_ble_eq_true rfl⟩) (pc_preV pcN_ok hX hW.1 hM.1 rfl rfl hW.1) rfl rfl hl.1 rfl (lv_room (Nat.le_of_ble_eq_true rfl)) dL_isFair_132 ⟨Nat.le_of_ble_eq_true rfl, Nat.le_of_ble_eq_true rfl⟩) hW (fun r789 H locs hwr789 hW => ?_)
              replace hwr789 := hwr789.symm
              subst hwr789
              refine lv_istore (lv' := [(7, .int (F_X5_clash c v w (nI i604) (nI i784))), (6, .int (nI i784)), (5, .int (isu v i604 ((v 1 i604 1).toNatClampNeg + 1))), (4, .int (v 1 i604 1)), (3, .int (nI i604)), (2, .int (nI (PR c v w i604 + PQ c v w i604 i784))), (0, .ref (ad 5 0)), (1, .int (nI (c 0)))]) hx hb dL_isFair_135 hl (by decide) rfl (fun ls hl => ?_)
              refine lv_iload hx hb dL_isFair_137 (lv_at hl 0 rfl) ?_
              refine lv_aload_n hx hb dL_isFair_139 rfl (lv_at hl 6 rfl) ?_
              refine lv_iload hx hb dL_isFair_140 (lv_at hl 1 rfl) ?_
              refine lv_iload_n hx hb dL_isFair_142 rfl (lv_at hl 4 rfl) ?_
              refine pc_qcalli (va_runV (As := [.int (nI i784), .int (nI i604)]) (rest := [.int (F_X5_clash c v w (nI i604) (nI i784))]) ⟨hx, hb, hml, hown, hts⟩ (r_X5_clash l D cA NL c v w u ad (nI i784) (nI i604) hM hBd hF (nI_nn (Nat.lt_of_lt_of_le (Nat.lt_trans hlt9i784 hlt9i604) (Nat.le_trans hBd.1 (by decide)))) (by rw [nI_clamp (Nat.lt_of_lt_of_le (Nat.lt_trans hlt9i784 hlt9i604) (Nat.le_trans hBd.1 (by decide)))]; exact (Nat.lt_trans hlt9i784 hlt9i604)) (nI_nn (Nat.lt_of_lt_of_le hlt9i604 (Nat.le_trans hBd.1 (by decide)))) (by rw [nI_clamp (Nat.lt_of_lt_of_le hlt9i604 (Nat.le_trans hBd.1 (by decide)))]; exact hlt9i604) (fun q => absurd ((nI_eq (by have := hi.1; omega) (by have := hi.1; omega)).mp q) (by omega))) (cwV 2 hts gL_isFair_X5_clash rfl rfl rfl (by decide +kernel) ⟨Nat.le_of_ble_eq_true rfl, Nat.le_of_ble_eq_true rfl⟩) (pc_preV pcN_ok hX hW.1 hM.1 rfl rfl hW.1) rfl rfl hl.1 rfl (lv_room (Nat.le_of_ble_eq_true rfl)) dL_isFair_143 ⟨Nat.le_of_ble_eq_true rfl, Nat.le_of_ble_eq_true rfl⟩) hW (fun r790 H locs hwr790 hW => ?_)
              replace hwr790 := hwr790.symm
              subst hwr790
              refine lv_icmp_ne (tgt := 170) hx hb dL_isFair_146 (by decide) (fun c791 => absurd c791 (fun q => q (fa_clash hi hlt9i604 (Nat.lt_trans hlt9i784 hlt9i604)))) (fun _ => ?_)
              refine lv_iload hx hb dL_isFair_149 (lv_at hl 0 rfl) ?_
              refine lv_if_le (tgt := 172) hx hb dL_isFair_151 (by decide) (fun (c792 : (F_X5_clash c v w (nI i604) (nI i784)) ≤ 0) => ?_) (fun (c792 : ¬ (F_X5_clash c v w (nI i604) (nI i784)) ≤ 0) => ?_)
              · refine lv_iload_n hx hb dL_isFair_172 rfl (lv_at hl 5 rfl) ?_
                refine lv_iload hx hb dL_isFair_173 (lv_at hl 0 rfl) ?_
                refine lv_if_le (tgt := 182) hx hb dL_isFair_175 (by decide) (fun _ => ?_) (fun c793 => absurd c792 c793)
                refine lv_iconst (v := 0) hx hb dL_isFair_182 (by decide) ?_
                refine lv_iadd hx hb dL_isFair_183 ?_
                refine lv_istore_n (lv' := [(2, .int ((nI (PR c v w i604 + PQ c v w i604 i784)) + (0 : Int32))), (7, .int (F_X5_clash c v w (nI i604) (nI i784))), (6, .int (nI i784)), (5, .int (isu v i604 ((v 1 i604 1).toNatClampNeg + 1))), (4, .int (v 1 i604 1)), (3, .int (nI i604)), (0, .ref (ad 5 0)), (1, .int (nI (c 0)))]) hx hb dL_isFair_184 rfl hl (by decide) rfl (fun ls hl => ?_)
                refine lv_iinc (v := nI (i784 + 1)) (lv' := [(6, .int (nI (i784 + 1))), (2, .int ((nI (PR c v w i604 + PQ c v w i604 i784)) + (0 : Int32))), (7, .int (F_X5_clash c v w (nI i604) (nI i784))), (5, .int (isu v i604 ((v 1 i604 1).toNatClampNeg + 1))), (4, .int (v 1 i604 1)), (3, .int (nI i604)), (0, .ref (ad 5 0)), (1, .int (nI (c 0)))]) hx hb dL_isFair_185 hl (k := 2) rfl (nI_1 i784) (by decide) rfl (fun ls hl => ?_)
                refine lv_goto (tgt := 122) hx hb dL_isFair_188 (by decide) ?_
                have e92 : ((nI (PR c v w i604 + PQ c v w i604 i784)) + (0 : Int32)) = (nI (PR c v w i604 + PQ c v w i604 (i784 + 1))) := pq_no hi hlt9i604 (Nat.lt_trans hlt9i784 hlt9i604) c792
                have hl : lv_has ls 8 [(6, .int (nI (i784 + 1))), (2, .int (nI (PR c v w i604 + PQ c v w i604 (i784 + 1)))), (7, .int (F_X5_clash c v w (nI i604) (nI i784))), (5, .int (isu v i604 ((v 1 i604 1).toNatClampNeg + 1))), (4, .int (v 1 i604 1)), (3, .int (nI i604)), (0, .ref (ad 5 0)), (1, .int (nI (c 0)))] := by rw [← e92]; exact hl
                exact ihk785 (i784 + 1) H locs ls (by omega) hW (lv_sub hl [0, 3, 4, 5, 1, 6, 7] rfl)
              · refine lv_aload_n hx hb dL_isFair_154 rfl (lv_at hl 6 rfl) ?_
                refine lv_iload_n hx hb dL_isFair_155 rfl (lv_at hl 4 rfl) ?_
                refine lv_iconst (v := 0) hx hb dL_isFair_156 (by decide) ?_
                refine pc_qcalli (va_runV (As := [.int (nI i604), .int 0]) (rest := []) ⟨hx, hb, hml, hown, hts⟩ (r_X5_ofSheet0 l D cA NL c v w u ad (nI i604) hM hBd hF (nI_nn (Nat.lt_of_lt_of_le hlt9i604 (Nat.le_trans hBd.1 (by decide)))) (by rw [nI_clamp (Nat.lt_of_lt_of_le hlt9i604 (Nat.le_trans hBd.1 (by decide)))]; exact hlt9i604)) (cwV 2 hts gL_isFair_X5_ofSheet rfl rfl rfl (by decide +kernel) ⟨Nat.le_of_ble_eq_true rfl, Nat.le_of_ble_eq_true rfl⟩) (pc_preV pcN_ok hX hW.1 hM.1 rfl rfl hW.1) rfl rfl hl.1 rfl (lv_room (Nat.le_of_ble_eq_true rfl)) dL_isFair_157 ⟨Nat.le_of_ble_eq_true rfl, Nat.le_of_ble_eq_true rfl⟩) hW (fun r794 H locs hwr794 hW => ?_)
                replace hwr794 := hwr794.symm
                subst hwr794
                refine lv_aload_n hx hb dL_isFair_160 rfl (lv_at hl 6 rfl) ?_
                refine lv_iload hx hb dL_isFair_161 (lv_at hl 1 rfl) ?_
                refine lv_iconst (v := 0) hx hb dL_isFair_163 (by decide) ?_
                refine pc_qcalli (va_runV (As := [.int (nI i784), .int 0]) (rest := [.int (F_X5_ofSheet0 c v w (nI i604))]) ⟨hx, hb, hml, hown, hts⟩ (r_X5_ofSheet0 l D cA NL c v w u ad (nI i784) hM hBd hF (nI_nn (Nat.lt_of_lt_of_le (Nat.lt_trans hlt9i784 hlt9i604) (Nat.le_trans hBd.1 (by decide)))) (by rw [nI_clamp (Nat.lt_of_lt_of_le (Nat.lt_trans hlt9i784 hlt9i604) (Nat.le_trans hBd.1 (by decide)))]; exact (Nat.lt_trans hlt9i784 hlt9i604))) (cwV 2 hts gL_isFair_X5_ofSheet rfl rfl rfl (by decide +kernel) ⟨Nat.le_of_ble_eq_true rfl, Nat.le_of_ble_eq_true rfl⟩) (pc_preV pcN_ok hX hW.1 hM.1 rfl rfl hW.1) rfl rfl hl.1 rfl (lv_room (Nat.le_of_ble_eq_true rfl)) dL_isFair_164 ⟨Nat.le_of_ble_eq_true rfl, Nat.le_of_ble_eq_true rfl⟩) hW (fun r795 H locs hwr795 hW => ?_)
                replace hwr795 := hwr795.symm
                subst hwr795
                refine lv_icmp_ne (tgt := 172) hx hb dL_isFair_167 (by decide) (fun _ => ?_) (fun c796 => absurd c796 (fa_trade hi hlt9i604 (Nat.lt_trans hlt9i784 hlt9i604) c792))
                refine lv_iload_n hx hb dL_isFair_172 rfl (lv_at hl 5 rfl) ?_
                refine lv_iload hx hb dL_isFair_173 (lv_at hl 0 rfl) ?_
                refine lv_if_le (tgt := 182) hx hb dL_isFair_175 (by decide) (fun c797 => absurd c797 c792) (fun _ => ?_)
                refine lv_iconst (v := 1) hx hb dL_isFair_178 (by decide) ?_
                refine lv_goto (tgt := 183) hx hb dL_isFair_179 (by decide) ?_
                refine lv_iadd hx hb dL_isFair_183 ?_
                rw [nI_1]
                refine lv_istore_n (lv' := [(2, .int (nI ((PR c v w i604 + PQ c v w i604 i784) + 1))), (7, .int (F_X5_clash c v w (nI i604) (nI i784))), (6, .int (nI i784)), (5, .int (isu v i604 ((v 1 i604 1).toNatClampNeg + 1))), (4, .int (v 1 i604 1)), (3, .int (nI i604)), (0, .ref (ad 5 0)), (1, .int (nI (c 0)))]) hx hb dL_isFair_184 rfl hl (by decide) rfl (fun ls hl => ?_)
                refine lv_iinc (v := nI (i784 + 1)) (lv' := [(6, .int (nI (i784 + 1))), (2, .int (nI ((PR c v w i604 + PQ c v w i604 i784) + 1))), (7, .int (F_X5_clash c v w (nI i604) (nI i784))), (5, .int (isu v i604 ((v 1 i604 1).toNatClampNeg + 1))), (4, .int (v 1 i604 1)), (3, .int (nI i604)), (0, .ref (ad 5 0)), (1, .int (nI (c 0)))]) hx hb dL_isFair_185 hl (k := 2) rfl (nI_1 i784) (by decide) rfl (fun ls hl => ?_)
                refine lv_goto (tgt := 122) hx hb dL_isFair_188 (by decide) ?_
                have e92 : (nI ((PR c v w i604 + PQ c v w i604 i784) + 1)) = (nI (PR c v w i604 + PQ c v w i604 (i784 + 1))) := (nI_1 _).symm.trans (pq_yes hi hlt9i604 (Nat.lt_trans hlt9i784 hlt9i604) c792)
                have hl : lv_has ls 8 [(6, .int (nI (i784 + 1))), (2, .int (nI (PR c v w i604 + PQ c v w i604 (i784 + 1)))), (7, .int (F_X5_clash c v w (nI i604) (nI i784))), (5, .int (isu v i604 ((v 1 i604 1).toNatClampNeg + 1))), (4, .int (v 1 i604 1)), (3, .int (nI i604)), (0, .ref (ad 5 0)), (1, .int (nI (c 0)))] := by rw [← e92]; exact hl
                exact ihk785 (i784 + 1) H locs ls (by omega) hW (lv_sub hl [0, 3, 4, 5, 1, 6, 7] rfl)
          have hl : lv_has ls 8 [(6, .int 0), (5, .int (isu v i604 ((v 1 i604 1).toNatClampNeg + 1))), (4, .int (v 1 i604 1)), (3, .int (nI i604)), (2, .int (nI (PR c v w i604 + PQ c v w i604 0))), (0, .ref (ad 5 0)), (1, .int (nI (c 0)))] := by exact hl
          exact K786 i604 0 _ _ ls (by omega) hW (lv_sub hl [0, 1, 2, 3, 4, 5, 6] rfl)
        | succ k777 ihk777 =>
          intro i776 H locs ls hk hW hl
          have hlt : i776 < ((v 1 i604 1).toNatClampNeg + 1) := by omega
          have hlt9i776 := hlt
          refine lv_iload hx hb dL_isFair_25 (lv_at hl 0 rfl) ?_
          refine lv_iload hx hb dL_isFair_27 (lv_at hl 2 rfl) ?_
          refine lv_icmp_gt (tgt := 95) hx hb dL_isFair_29 (by decide) (fun c798 => absurd c798 (last_step (hF.2.2 i604 hlt9i604).1 (hF.2.2 i604 hlt9i604).2 hlt)) (fun _ => ?_)
          refine lv_aload_n hx hb dL_isFair_32 rfl (lv_at hl 5 rfl) ?_
          refine lv_iload_n hx hb dL_isFair_33 rfl (lv_at hl 3 rfl) ?_
          refine lv_iload hx hb dL_isFair_34 (lv_at hl 0 rfl) ?_
          refine pc_qcalli (va_runV (As := [.int (nI i604), .int (nI i776)]) (rest := []) ⟨hx, hb, hml, hown, hts⟩ (r_X5_status l D cA NL c v w u ad (nI i604) (nI i776) hM hBd hF (nI_nn (Nat.lt_of_lt_of_le hlt9i604 (Nat.le_trans hBd.1 (by decide)))) (by rw [nI_clamp (Nat.lt_of_lt_of_le hlt9i604 (Nat.le_trans hBd.1 (by decide)))]; exact hlt9i604) (nI_nn (Nat.lt_of_lt_of_le hlt9i776 (by have h6 := (hF.2.2 i604 hlt9i604).2; omega))) (by rw [nI_clamp (Nat.lt_of_lt_of_le hlt9i604 (Nat.le_trans hBd.1 (by decide)))]; exact last_le (hF.2.2 i604 hlt9i604).1 (hF.2.2 i604 hlt9i604).2 hlt9i776)) (cwV 2 hts gL_isFair_X5_status rfl rfl rfl (by decide +kernel) ⟨Nat.le_of_ble_eq_true rfl, Nat.le_of_ble_eq_true rfl⟩) (pc_preV pcN_ok hX hW.1 hM.1 rfl rfl hW.1) rfl rfl hl.1 rfl (lv_room (Nat.le_of_ble_eq_true rfl)) dL_isFair_36 ⟨Nat.le_of_ble_eq_true rfl, Nat.le_of_ble_eq_true rfl⟩) hW (fun r799 H locs hwr799 hW => ?_)
          replace hwr799 := hwr799.symm
          subst hwr799
          refine lv_istore (lv' := [(7, .int (F_X5_status c v w (nI i604) (nI i776))), (6, .int (nI i776)), (5, .int (isu v i604 i776)), (4, .int (v 1 i604 1)), (3, .int (nI i604)), (2, .int (nI (PR c v w i604))), (0, .ref (ad 5 0)), (1, .int (nI (c 0)))]) hx hb dL_isFair_39 hl (by decide) rfl (fun ls hl => ?_)
          refine lv_iload hx hb dL_isFair_41 (lv_at hl 2 rfl) ?_
          refine lv_iload hx hb dL_isFair_43 (lv_at hl 0 rfl) ?_
          refine lv_iconst (v := 2) hx hb dL_isFair_45 (by decide) ?_
          refine lv_icmp_ne (tgt := 53) hx hb dL_isFair_46 (by decide) (fun (c800 : ¬ (F_X5_status c v w (nI i604) (nI i776)) = (2 : Int32)) => ?_) (fun (c800 : (F_X5_status c v w (nI i604) (nI i776)) = (2 : Int32)) => ?_)
          · refine lv_iconst (v := 0) hx hb dL_isFair_53 (by decide) ?_
            refine lv_iadd hx hb dL_isFair_54 ?_
            refine lv_istore (lv' := [(5, .int ((isu v i604 i776) + (0 : Int32))), (7, .int (F_X5_status c v w (nI i604) (nI i776))), (6, .int (nI i776)), (4, .int (v 1 i604 1)), (3, .int (nI i604)), (2, .int (nI (PR c v w i604))), (0, .ref (ad 5 0)), (1, .int (nI (c 0)))]) hx hb dL_isFair_55 hl (by decide) rfl (fun ls hl => ?_)
            refine lv_iload hx hb dL_isFair_57 (lv_at hl 1 rfl) ?_
            refine lv_iconst (v := 2) hx hb dL_isFair_59 (by decide) ?_
            refine lv_icmp_ge (tgt := 70) hx hb dL_isFair_60 (by decide) (fun (c801 : (2 : Int32) ≤ (F_X5_status c v w (nI i604) (nI i776))) => ?_) (fun (c801 : ¬ (2 : Int32) ≤ (F_X5_status c v w (nI i604) (nI i776))) => ?_)
            · refine lv_iload hx hb dL_isFair_70 (lv_at hl 1 rfl) ?_
              refine lv_iconst (v := 2) hx hb dL_isFair_72 (by decide) ?_
              refine lv_icmp_ne (tgt := 89) hx hb dL_isFair_73 (by decide) (fun _ => ?_) (fun c802 => absurd c802 c800)
              refine lv_iinc (v := nI (i776 + 1)) (lv' := [(6, .int (nI (i776 + 1))), (5, .int ((isu v i604 i776) + (0 : Int32))), (7, .int (F_X5_status c v w (nI i604) (nI i776))), (4, .int (v 1 i604 1)), (3, .int (nI i604)), (2, .int (nI (PR c v w i604))), (0, .ref (ad 5 0)), (1, .int (nI (c 0)))]) hx hb dL_isFair_89 hl (k := 2) rfl (nI_1 i776) (by decide) rfl (fun ls hl => ?_)
              refine lv_goto (tgt := 25) hx hb dL_isFair_92 (by decide) ?_
              have e95 : ((isu v i604 i776) + (0 : Int32)) = (isu v i604 (i776 + 1)) := isu_no hi hlt9i604 (by have := (hF.2.2 i604 hlt9i604).2; omega) c800
              have hl : lv_has ls 8 [(6, .int (nI (i776 + 1))), (5, .int (isu v i604 (i776 + 1))), (7, .int (F_X5_status c v w (nI i604) (nI i776))), (4, .int (v 1 i604 1)), (3, .int (nI i604)), (2, .int (nI (PR c v w i604))), (0, .ref (ad 5 0)), (1, .int (nI (c 0)))] := by rw [← e95]; exact hl
              exact ihk777 (i776 + 1) H locs ls (by omega) hW (lv_sub hl [0, 1, 3, 4, 5, 6, 7] rfl)
            · refine lv_iload hx hb dL_isFair_63 (lv_at hl 2 rfl) ?_
              refine lv_iload hx hb dL_isFair_65 (lv_at hl 3 rfl) ?_
              refine lv_icmp_lt (tgt := 87) hx hb dL_isFair_67 (by decide) (fun c803 => absurd c803 (fa_draft hi hlt9i604 (Int32.not_le.mp c801) hlt9i776)) (fun _ => ?_)
              refine lv_iload hx hb dL_isFair_70 (lv_at hl 1 rfl) ?_
              refine lv_iconst (v := 2) hx hb dL_isFair_72 (by decide) ?_
              refine lv_icmp_ne (tgt := 89) hx hb dL_isFair_73 (by decide) (fun _ => ?_) (fun c804 => absurd c804 c800)
              refine lv_iinc (v := nI (i776 + 1)) (lv' := [(6, .int (nI (i776 + 1))), (5, .int ((isu v i604 i776) + (0 : Int32))), (7, .int (F_X5_status c v w (nI i604) (nI i776))), (4, .int (v 1 i604 1)), (3, .int (nI i604)), (2, .int (nI (PR c v w i604))), (0, .ref (ad 5 0)), (1, .int (nI (c 0)))]) hx hb dL_isFair_89 hl (k := 2) rfl (nI_1 i776) (by decide) rfl (fun ls hl => ?_)
              refine lv_goto (tgt := 25) hx hb dL_isFair_92 (by decide) ?_
              have e95 : ((isu v i604 i776) + (0 : Int32)) = (isu v i604 (i776 + 1)) := isu_no hi hlt9i604 (by have := (hF.2.2 i604 hlt9i604).2; omega) c800
              have hl : lv_has ls 8 [(6, .int (nI (i776 + 1))), (5, .int (isu v i604 (i776 + 1))), (7, .int (F_X5_status c v w (nI i604) (nI i776))), (4, .int (v 1 i604 1)), (3, .int (nI i604)), (2, .int (nI (PR c v w i604))), (0, .ref (ad 5 0)), (1, .int (nI (c 0)))] := by rw [← e95]; exact hl
              exact ihk777 (i776 + 1) H locs ls (by omega) hW (lv_sub hl [0, 1, 3, 4, 5, 6, 7] rfl)
          · refine lv_iconst (v := 1) hx hb dL_isFair_49 (by decide) ?_
            refine lv_goto (tgt := 54) hx hb dL_isFair_50 (by decide) ?_
            refine lv_iadd hx hb dL_isFair_54 ?_
            refine lv_istore (lv' := [(5, .int ((isu v i604 i776) + (1 : Int32))), (7, .int (F_X5_status c v w (nI i604) (nI i776))), (6, .int (nI i776)), (4, .int (v 1 i604 1)), (3, .int (nI i604)), (2, .int (nI (PR c v w i604))), (0, .ref (ad 5 0)), (1, .int (nI (c 0)))]) hx hb dL_isFair_55 hl (by decide) rfl (fun ls hl => ?_)
            refine lv_iload hx hb dL_isFair_57 (lv_at hl 1 rfl) ?_
            refine lv_iconst (v := 2) hx hb dL_isFair_59 (by decide) ?_
            refine lv_icmp_ge (tgt := 70) hx hb dL_isFair_60 (by decide) (fun _ => ?_) (fun c805 => absurd (by rw [c800]; decide) c805)
            refine lv_iload hx hb dL_isFair_70 (lv_at hl 1 rfl) ?_
            refine lv_iconst (v := 2) hx hb dL_isFair_72 (by decide) ?_
            refine lv_icmp_ne (tgt := 89) hx hb dL_isFair_73 (by decide) (fun c806 => absurd c806 (fun q => q c800)) (fun _ => ?_)
            refine lv_aload_n hx hb dL_isFair_76 rfl (lv_at hl 6 rfl) ?_
            refine lv_iload_n hx hb dL_isFair_77 rfl (lv_at hl 4 rfl) ?_
            refine lv_iconst (v := 2) hx hb dL_isFair_78 (by decide) ?_
            refine pc_qcalli (va_runV (As := [.int (nI i604), .int 2]) (rest := []) ⟨hx, hb, hml, hown, hts⟩ (r_X5_ofSheet2 l D cA NL c v w u ad (nI i604) hM hBd hF (nI_nn (Nat.lt_of_lt_of_le hlt9i604 (Nat.le_trans hBd.1 (by decide)))) (by rw [nI_clamp (Nat.lt_of_lt_of_le hlt9i604 (Nat.le_trans hBd.1 (by decide)))]; exact hlt9i604)) (cwV 2 hts gL_isFair_X5_ofSheet rfl rfl rfl (by decide +kernel) ⟨Nat.le_of_ble_eq_true rfl, Nat.le_of_ble_eq_true rfl⟩) (pc_preV pcN_ok hX hW.1 hM.1 rfl rfl hW.1) rfl rfl hl.1 rfl (lv_room (Nat.le_of_ble_eq_true rfl)) dL_isFair_79 ⟨Nat.le_of_ble_eq_true rfl, Nat.le_of_ble_eq_true rfl⟩) hW (fun r807 H locs hwr807 hW => ?_)
            replace hwr807 := hwr807.symm
            subst hwr807
            refine lv_iload hx hb dL_isFair_82 (lv_at hl 2 rfl) ?_
            refine lv_icmp_eq (tgt := 89) hx hb dL_isFair_84 (by decide) (fun _ => ?_) (fun c808 => absurd (fa_2 (by have := hi.1; omega) c800) c808)
            refine lv_iinc (v := nI (i776 + 1)) (lv' := [(6, .int (nI (i776 + 1))), (5, .int ((isu v i604 i776) + (1 : Int32))), (7, .int (F_X5_status c v w (nI i604) (nI i776))), (4, .int (v 1 i604 1)), (3, .int (nI i604)), (2, .int (nI (PR c v w i604))), (0, .ref (ad 5 0)), (1, .int (nI (c 0)))]) hx hb dL_isFair_89 hl (k := 2) rfl (nI_1 i776) (by decide) rfl (fun ls hl => ?_)
            refine lv_goto (tgt := 25) hx hb dL_isFair_92 (by decide) ?_
            have e95 : ((isu v i604 i776) + (1 : Int32)) = (isu v i604 (i776 + 1)) := isu_yes (by have := hi.1; omega) (by have := (hF.2.2 i604 hlt9i604).2; omega) c800
            have hl : lv_has ls 8 [(6, .int (nI (i776 + 1))), (5, .int (isu v i604 (i776 + 1))), (7, .int (F_X5_status c v w (nI i604) (nI i776))), (4, .int (v 1 i604 1)), (3, .int (nI i604)), (2, .int (nI (PR c v w i604))), (0, .ref (ad 5 0)), (1, .int (nI (c 0)))] := by rw [← e95]; exact hl
            exact ihk777 (i776 + 1) H locs ls (by omega) hW (lv_sub hl [0, 1, 3, 4, 5, 6, 7] rfl)
      have hl : lv_has ls 8 [(6, .int 0), (5, .int (isu v i604 0)), (4, .int (v 1 i604 1)), (3, .int (nI i604)), (2, .int (nI (PR c v w i604))), (0, .ref (ad 5 0)), (1, .int (nI (c 0)))] := by rw [isu_0]; exact hl
      exact K778 ((v 1 i604 1).toNatClampNeg + 1) 0 _ _ ls (by omega) hW (lv_sub hl [0, 1, 2, 3, 4, 5, 6] rfl)
  have hl : lv_has ls 8 [(3, .int 0), (2, .int (nI (PR c v w 0))), (0, .ref (ad 5 0)), (1, .int (nI (c 0)))] := by exact hl
  exact K606 (c 0) 0 _ _ ls (by omega) hW (lv_sub hl [0, 1, 2, 3] rfl)

set_option maxHeartbeats 4000000 in
set_option maxRecDepth 100000 in
theorem law_fair {p : Program} {e : Env} {s : State} {m : MethodId} {below : List Frame} {meth : Method} {c0 : Code} {l : Launch} {b L : Nat} {xs : Nat → Int32} {D : va_G} {cA : Nat → ClassId} (C1 : law_C p l s m meth c0 b L xs D cA) {c : SC} {v : SV} {w : SW} {u : Nat → Int32} {NL : List (Nat × Nat)} {ad : Nat → Nat → Nat} {i n rr : Nat} {HR : Heap} {locs0 locs : List Loc} {H : Heap} (hi : INV c v w) (h0 : c 0 = n) (hM : MEM c NL) (hN : NMEM c NL) (hS0 : va_S (lwA0 s) s.heap HR locs0) (hW : pcS D vwCl (lwA s rr) HR NL ad (ctO cA c v w u ad) H locs) (ls : Array Slot) (hl : lv_has ls 13 [(3, .int (nI i)), (2, .int (nI n)), (1, .ref (ad 5 0)), (0, .ref b)]) (next : ∀ (c2 : SC) (v2 : SV) (w2 : SW) (u2 : Nat → Int32) (NL2 : List (Nat × Nat)) (ad2 : Nat → Nat → Nat) (H : Heap) (locs : List Loc) (ls : Array Slot), INV c2 v2 w2 → c2 0 = n → MEM c2 NL2 → NMEM c2 NL2 → pcS D vwCl (lwA0 s) s.heap NL2 ad2 (ctO cA c2 v2 w2 u2 ad2) H locs → lv_has ls 13 [(3, .int (nI (i + 1))), (2, .int (nI n)), (1, .ref (ad2 5 0)), (0, .ref b)] → W p l e room_1 s m #[Value.ref b] below meth c0 H locs (500 + 60 * (i + 1)) (4000 + 300 * (i + 1)) (lw_Z below #[Value.ref b] s) (F0 m 151 ls [])) : W p l e room_1 s m #[Value.ref b] below meth c0 H locs (500 + 60 * i + 1 + 40) (4000 + 300 * i + 4 + 200) (lw_Z below #[Value.ref b] s) (F0 m 789 ls []) := by
  subst h0
  have hW := pcS_back hS0 hW
  obtain ⟨hx, hb, hr, hml, hown, hts, hlocks, hX, hsc, hbl, hL⟩ := id C1
  have hbA : ¬ lwA0 s b := Nat.not_le.mpr hbl
  refine lv_aload_n hx hb dL_law_789 rfl (lv_at hl 2 rfl) ?_
  refine lv_iload_n hx hb dL_law_790 rfl (lv_at hl 1 rfl) ?_
  refine pc_rcalli (va_runS (As := [.ref (ad 5 0), .int (nI (c 0))]) (rest := []) ⟨hx, hb, hml, hown, hts⟩ (r_L_isFair l D cA NL c v w u ad  hM hi) (va_cwS 2 hts gL_law_L_isFair rfl rfl rfl (by decide +kernel) ⟨Nat.le_of_ble_eq_true rfl, Nat.le_of_ble_eq_true rfl⟩) (pc_preS pcN_ok hX hW.1) rfl rfl hl.1 rfl (lv_room (Nat.le_of_ble_eq_true rfl)) dL_law_791 ⟨(by show _ ≤ (600074 : Nat); omega), (by show _ ≤ (7301550 : Nat); omega)⟩) hW (fun r922 H locs hwr922 hW => ?_)
  replace hwr922 := hwr922.symm
  subst hwr922
  refine lv_if_ne (tgt := 799) hx hb dL_law_794 (by decide) (fun _ => ?_) (fun c923 => absurd c923 (by decide))
  refine lv_iinc (v := nI (i + 1)) (lv' := [(3, .int (nI (i + 1))), (2, .int (nI (c 0))), (1, .ref (ad 5 0)), (0, .ref b)]) hx hb dL_law_799 hl (k := 0) rfl (nI_1 i) (by decide) rfl (fun ls hl => ?_)
  refine lv_goto (tgt := 151) hx hb dL_law_802 (by decide) ?_
  refine W.widen (k := 500 + 60 * (i + 1)) (n := 4000 + 300 * (i + 1)) (by omega) (by omega) ?_
  exact next c v w u NL ad H locs ls hi rfl hM hN hW (lv_sub hl [0, 1, 2, 3] rfl)

set_option maxHeartbeats 4000000 in
set_option maxRecDepth 100000 in
theorem law_step {p : Program} {e : Env} {s : State} {m : MethodId} {below : List Frame} {meth : Method} {c0 : Code} {l : Launch} {b L : Nat} {xs : Nat → Int32} {D : va_G} {cA : Nat → ClassId} (C1 : law_C p l s m meth c0 b L xs D cA) {c : SC} {v : SV} {w : SW} {u : Nat → Int32} {NL : List (Nat × Nat)} {ad : Nat → Nat → Nat} {i : Nat} {locs : List Loc} {H : Heap} (hlt : i < 40) (hi : INV c v w) (h2n : 2 ≤ c 0) (hM : MEM c NL) (hN : NMEM c NL) (hW : pcS D vwCl (lwA0 s) s.heap NL ad (ctO cA c v w u ad) H locs) (ls : Array Slot) (hl : lv_has ls 13 [(3, .int (nI i)), (2, .int (nI (c 0))), (1, .ref (ad 5 0)), (0, .ref b)]) (next : ∀ (c2 : SC) (v2 : SV) (w2 : SW) (u2 : Nat → Int32) (NL2 : List (Nat × Nat)) (ad2 : Nat → Nat → Nat) (H : Heap) (locs : List Loc) (ls : Array Slot), INV c2 v2 w2 → c2 0 = c 0 → MEM c2 NL2 → NMEM c2 NL2 → pcS D vwCl (lwA0 s) s.heap NL2 ad2 (ctO cA c2 v2 w2 u2 ad2) H locs → lv_has ls 13 [(3, .int (nI (i + 1))), (2, .int (nI (c 0))), (1, .ref (ad2 5 0)), (0, .ref b)] → W p l e room_1 s m #[Value.ref b] below meth c0 H locs (500 + 60 * (i + 1)) (4000 + 300 * (i + 1)) (lw_Z below #[Value.ref b] s) (F0 m 151 ls [])) : W p l e room_1 s m #[Value.ref b] below meth c0 H locs (500 + 60 * i) (4000 + 300 * i) (lw_Z below #[Value.ref b] s) (F0 m 151 ls []) := by
  obtain ⟨hx, hb, hr, hml, hown, hts, hlocks, hX, hsc, hbl, hL⟩ := id C1
  have hbA : ¬ lwA0 s b := Nat.not_le.mpr hbl
  have h5n := hi.1
  refine lv_iload_n hx hb dL_law_151 rfl (lv_at hl 0 rfl) ?_
  refine lv_bipush (v := 40) hx hb dL_law_152 (by decide) ?_
  refine lv_icmp_ge (tgt := 805) hx hb dL_law_154 (by decide) (fun c924 => absurd c924 (Int32.not_le.mpr (nI_lt (b := 40) hlt (by decide)))) (fun _ => ?_)
  refine lv_aload_n hx hb dL_law_157 rfl (lv_at hl 3 rfl) ?_
  refine lv_iload_n hx hb dL_law_158 rfl (lv_at hl 0 rfl) ?_
  refine lv_bipush (v := 16) hx hb dL_law_159 (by decide) ?_
  refine lv_irem hx hb dL_law_161 (by decide) ?_
  rw [show nI i - nI i / (16 : Int32) * (16 : Int32) = nI (i % 16) from pk_rem (by omega) (by decide) (by decide)]
  refine pc_rcalli (va_runS (As := [.ref b, .int (nI (i % 16))]) (rest := []) ⟨hx, hb, hml, hown, hts⟩ (r_L_cell l D cA b L xs hL (nI (i % 16)) (nI_pos (by omega))) (va_cwS 2 hts gL_law_L_cell rfl rfl rfl (by decide +kernel) ⟨Nat.le_of_ble_eq_true rfl, Nat.le_of_ble_eq_true rfl⟩) (pcX_preS hX (hsc.kept (hW.2.2.2.1 b hbl hbA))) rfl rfl hl.1 rfl (lv_room (Nat.le_of_ble_eq_true rfl)) dL_law_162 ⟨(by show _ ≤ (600074 : Nat); omega), (by show _ ≤ (7301550 : Nat); omega)⟩) hW (fun x925 H locs _ hW => ?_)
  refine lv_iload_n hx hb dL_law_165 rfl (lv_at hl 0 rfl) ?_
  refine lv_bipush (v := 16) hx hb dL_law_166 (by decide) ?_
  refine lv_idiv hx hb dL_law_168 (by decide) ?_
  refine lv_iconst (v := 3) hx hb dL_law_169 (by decide) ?_
  refine lv_imul hx hb dL_law_170 ?_
  refine lv_ishr hx hb dL_law_171 ?_
  refine lv_bipush (v := 7) hx hb dL_law_172 (by decide) ?_
  refine lv_iload_n hx hb dL_law_174 rfl (lv_at hl 0 rfl) ?_
  refine lv_imul hx hb dL_law_175 ?_
  refine lv_iadd hx hb dL_law_176 ?_
  refine lv_topi (fun x9 ex9 => ?_)
  refine lv_istore (lv' := [(4, .int x9), (3, .int (nI i)), (2, .int (nI (c 0))), (1, .ref (ad 5 0)), (0, .ref b)]) hx hb dL_law_177 hl (by decide) rfl (fun ls hl => ?_)
  refine lv_iload hx hb dL_law_179 (lv_at hl 0 rfl) ?_
  refine lv_iconst (v := 3) hx hb dL_law_181 (by decide) ?_
  refine lv_ishr hx hb dL_law_182 ?_
  refine lv_iload_n hx hb dL_law_183 rfl (lv_at hl 2 rfl) ?_
  refine pc_rcalli (va_runS (As := [.int (x9 >>> ((3 : Int32) &&& 31)), .int (nI (c 0))]) (rest := []) ⟨hx, hb, hml, hown, hts⟩ (r_L_below l D cA (x9 >>> ((3 : Int32) &&& 31)) (nI (c 0)) (nI_ne0 (by omega) (by omega))) (va_cwS 2 hts gL_law_L_below rfl rfl rfl (by decide +kernel) ⟨Nat.le_of_ble_eq_true rfl, Nat.le_of_ble_eq_true rfl⟩) (pc_preS pcN_ok hX trivial) rfl rfl hl.1 rfl (lv_room (Nat.le_of_ble_eq_true rfl)) dL_law_184 ⟨(by show _ ≤ (600074 : Nat); omega), (by show _ ≤ (7301550 : Nat); omega)⟩) hW (fun r926 H locs hwr926 hW => ?_)
  replace hwr926 := hwr926.symm
  subst hwr926
  obtain ⟨j927, hj927, ej927⟩ : ∃ j, j < (c 0) ∧ (F_L_below (x9 >>> ((3 : Int32) &&& 31)) (nI (c 0))) = nI j := below_ok _ (c 0) (by omega) (by omega)
  rw [ej927]
  refine lv_istore (lv' := [(5, .int (nI j927)), (4, .int x9), (3, .int (nI i)), (2, .int (nI (c 0))), (1, .ref (ad 5 0)), (0, .ref b)]) hx hb dL_law_187 hl (by decide) rfl (fun ls hl => ?_)
  refine lv_aload_n hx hb dL_law_189 rfl (lv_at hl 4 rfl) ?_
  refine lv_bipush (v := 7) hx hb dL_law_190 (by decide) ?_
  refine pc_rcalli (va_runV (As := [.int 7]) (rest := []) ⟨hx, hb, hml, hown, hts⟩ (r_X5_many7 l D cA NL c v w u ad  hM (INV_bnd hi) (INV_wf hi) ) (cwV 1 hts gL_law_X5_many rfl rfl rfl (by decide +kernel) ⟨Nat.le_of_ble_eq_true rfl, Nat.le_of_ble_eq_true rfl⟩) (pc_preV pcN_ok hX hW.1 hM.1 rfl rfl hW.1) rfl rfl hl.1 rfl (lv_room (Nat.le_of_ble_eq_true rfl)) dL_law_192 ⟨(by show _ ≤ (600074 : Nat); omega), (by show _ ≤ (7301550 : Nat); omega)⟩) hW (fun r928 H locs hwr928 hW => ?_)
  replace hwr928 := hwr928.symm
  subst hwr928
  refine lv_istore (lv' := [(6, .int (nI (c 4))), (5, .int (nI j927)), (4, .int x9), (3, .int (nI i)), (2, .int (nI (c 0))), (1, .ref (ad 5 0)), (0, .ref b)]) hx hb dL_law_195 hl (by decide) rfl (fun ls hl => ?_)
  refine lv_iload hx hb dL_law_197 (lv_at hl 0 rfl) ?_
  refine lv_if_ne (tgt := 206) hx hb dL_law_199 (by decide) (fun (c929 : ¬ (nI (c 4)) = 0) => ?_) (fun (c929 : (nI (c 4)) = 0) => ?_)
  · have hc4 := c929
    refine lv_iload hx hb dL_law_206 (lv_at hl 2 rfl) ?_
    refine lv_iconst (v := 4) hx hb dL_law_208 (by decide) ?_
    refine lv_ishr hx hb dL_law_209 ?_
    refine lv_iload hx hb dL_law_210 (lv_at hl 0 rfl) ?_
    refine pc_rcalli (va_runS (As := [.int (x9 >>> ((4 : Int32) &&& 31)), .int (nI (c 4))]) (rest := []) ⟨hx, hb, hml, hown, hts⟩ (r_L_below l D cA (x9 >>> ((4 : Int32) &&& 31)) (nI (c 4)) (nI_ne0 (by rcases Nat.eq_zero_or_pos (c 4) with h | h; exact absurd (by rw [h]; rfl) hc4; exact h) (by omega))) (va_cwS 2 hts gL_law_L_below rfl rfl rfl (by decide +kernel) ⟨Nat.le_of_ble_eq_true rfl, Nat.le_of_ble_eq_true rfl⟩) (pc_preS pcN_ok hX trivial) rfl rfl hl.1 rfl (lv_room (Nat.le_of_ble_eq_true rfl)) dL_law_212 ⟨(by show _ ≤ (600074 : Nat); omega), (by show _ ≤ (7301550 : Nat); omega)⟩) hW (fun r930 H locs hwr930 hW => ?_)
    replace hwr930 := hwr930.symm
    subst hwr930
    obtain ⟨j931, hj931, ej931⟩ : ∃ j, j < (c 4) ∧ (F_L_below (x9 >>> ((4 : Int32) &&& 31)) (nI (c 4))) = nI j := below_ok _ (c 4) (by rcases Nat.eq_zero_or_pos (c 4) with h | h; exact absurd (by rw [h]; rfl) hc4; exact h) (by omega)
    rw [ej931]
    refine lv_istore (lv' := [(7, .int (nI j931)), (6, .int (nI (c 4))), (5, .int (nI j927)), (4, .int x9), (3, .int (nI i)), (2, .int (nI (c 0))), (1, .ref (ad 5 0)), (0, .ref b)]) hx hb dL_law_215 hl (by decide) rfl (fun ls hl => ?_)
    refine lv_iload hx hb dL_law_217 (lv_at hl 3 rfl) ?_
    refine lv_iconst (v := 2) hx hb dL_law_219 (by decide) ?_
    refine lv_ishr hx hb dL_law_220 ?_
    refine va_callr (va_runS (As := [.int (x9 >>> ((2 : Int32) &&& 31))]) (rest := []) ⟨hx, hb, hml, hown, hts⟩ (l_L_region l D cA (va_A [] H.size) (x9 >>> ((2 : Int32) &&& 31))) (va_cwS 1 hts gL_law_L_region rfl rfl rfl (by decide +kernel) ⟨Nat.le_of_ble_eq_true rfl, Nat.le_of_ble_eq_true rfl⟩) (pc_preS pcN_ok hX ⟨fun k q h => by simp at h, ⟨fun i j x y h => by simp at h, fun k q h => by simp at h⟩, fun q h => Or.inr h⟩) rfl rfl hl.1 rfl (lv_room (Nat.le_of_ble_eq_true rfl)) dL_law_221 ⟨(by show _ ≤ (600074 : Nat); omega), (by show _ ≤ (7301550 : Nat); omega)⟩) hW.2.2 (fun q _ h => (fun q h => h.elim (fun ⟨k, e, h⟩ => by simp at h) (fun h => Nat.le_trans hW.2.2.1 h)) q h) (fun q h => h.elim (fun ⟨k, e, h⟩ => by simp at h) (fun h => Nat.le_trans hW.2.2.1 h)) (fun ug rr t H1 locs1 ht hvm hug hB hz1 hk1 hS0 => ?_)
    obtain ⟨hPr0, hD1⟩ := hB
    rw [ht] at hPr0
    have hrl : rr < H1.size := (hPr0 0 _ rfl).lt
    obtain ⟨hW, hsr⟩ := pcS_row9 hW hD1 hk1
    refine va_forget (fun q hq => hS0.2.2 q hq) ?_
    have hsc1 := hsc.kept (hS0.2.1 b hbl hbA)
    have hbl1 := Nat.lt_of_lt_of_le hbl hS0.1
    have hbA1 : ¬ lwA s rr b := fun h => hbA h.1
    have hA : ∀ q : Nat, H1.size ≤ q → lwA s rr q := fun q h => ⟨Nat.le_trans hS0.1 h, fun e => by omega⟩
    refine lv_astore (lv' := [(8, .ref rr), (7, .int (nI j931)), (6, .int (nI (c 4))), (5, .int (nI j927)), (4, .int x9), (3, .int (nI i)), (2, .int (nI (c 0))), (1, .ref (ad 5 0)), (0, .ref b)]) hx hb dL_law_224 hl (by decide) rfl (fun ls hl => ?_)
    refine lv_iload hx hb dL_law_226 (lv_at hl 4 rfl) ?_
    refine lv_bipush (v := 9) hx hb dL_law_228 (by decide) ?_
    refine pc_rcalli (va_runS (As := [.int x9, .int 9]) (rest := []) ⟨hx, hb, hml, hown, hts⟩ (r_L_below l D cA x9 (9 : Int32) (by decide)) (va_cwS 2 hts gL_law_L_below rfl rfl rfl (by decide +kernel) ⟨Nat.le_of_ble_eq_true rfl, Nat.le_of_ble_eq_true rfl⟩) (pc_preS pcN_ok hX trivial) rfl rfl hl.1 rfl (lv_room (Nat.le_of_ble_eq_true rfl)) dL_law_230 ⟨(by show _ ≤ (600074 : Nat); omega), (by show _ ≤ (7301550 : Nat); omega)⟩) hW (fun r932 H locs hwr932 hW => ?_)
    replace hwr932 := hwr932.symm
    subst hwr932
    obtain ⟨j933, hj933, ej933⟩ : ∃ j, j < 9 ∧ (F_L_below x9 (9 : Int32)) = nI j := below_ok _ 9 (by decide) (by decide)
    rw [ej933]
    rcases (show j933 = 0 ∨ j933 = 1 ∨ j933 = 2 ∨ j933 = 3 ∨ j933 = 4 ∨ j933 = 5 ∨ j933 = 6 ∨ j933 = 7 ∨ j933 = 8 by omega) with rfl | rfl | rfl | rfl | rfl | rfl | rfl | rfl | rfl
    · rw [show nI 0 = (0 : Int32) from rfl]
      refine lv_tableIn (tgt := 280) hx hb dL_law_233 (by decide) (by decide) rfl (by decide) ?_
      exact law_arm_0 C1 (by omega) (by omega) hi h2n hM hN hj927 (Or.inr ⟨_, hj931, rfl⟩) hS0.1 hrl hPr0 hug H locs hW ls (lv_sub hl [0, 1, 2, 3, 4, 5, 6, 7, 8] rfl) (fun c2 v2 w2 u2 NL2 ad2 H locs ls a1 a2 a3 a4 a5 a6 => law_fair C1 a1 a2 a3 a4 hS0 a5 ls a6 next)
    · rw [show nI 1 = (1 : Int32) from rfl]
      refine lv_tableIn (tgt := 309) hx hb dL_law_233 (by decide) (by decide) rfl (by decide) ?_
      exact law_arm_1 C1 (by omega) (by omega) hi h2n hM hN hj927 (Or.inr ⟨_, hj931, rfl⟩) hS0.1 hrl hPr0 hug H locs hW ls (lv_sub hl [0, 1, 2, 3, 4, 5, 6, 7, 8] rfl) (fun c2 v2 w2 u2 NL2 ad2 H locs ls a1 a2 a3 a4 a5 a6 => law_fair C1 a1 a2 a3 a4 hS0 a5 ls a6 next)
    · rw [show nI 2 = (2 : Int32) from rfl]
      refine lv_tableIn (tgt := 418) hx hb dL_law_233 (by decide) (by decide) rfl (by decide) ?_
      exact law_arm_2 C1 (by omega) (by omega) hi h2n hM hN hj927 (Or.inr ⟨_, hj931, rfl⟩) hS0.1 hrl hPr0 hug H locs hW ls (lv_sub hl [0, 1, 2, 3, 4, 5, 6, 7, 8] rfl) (fun c2 v2 w2 u2 NL2 ad2 H locs ls a1 a2 a3 a4 a5 a6 => law_fair C1 a1 a2 a3 a4 hS0 a5 ls a6 next)
    · rw [show nI 3 = (3 : Int32) from rfl]
      refine lv_tableIn (tgt := 461) hx hb dL_law_233 (by decide) (by decide) rfl (by decide) ?_
      exact law_arm_3 C1 (by omega) (by omega) hi h2n hM hN hj927 (Or.inr ⟨_, hj931, rfl⟩) hS0.1 hrl hPr0 hug H locs hW ls (lv_sub hl [0, 1, 2, 3, 4, 5, 6, 7, 8] rfl) (fun c2 v2 w2 u2 NL2 ad2 H locs ls a1 a2 a3 a4 a5 a6 => law_fair C1 a1 a2 a3 a4 hS0 a5 ls a6 next)
    · rw [show nI 4 = (4 : Int32) from rfl]
      refine lv_tableIn (tgt := 528) hx hb dL_law_233 (by decide) (by decide) rfl (by decide) ?_
      exact law_arm_4 C1 (by omega) (by omega) hi h2n hM hN hj927 (Or.inr ⟨_, hj931, rfl⟩) hS0.1 hrl hPr0 hug H locs hW ls (lv_sub hl [0, 1, 2, 3, 4, 5, 6, 7, 8] rfl) (fun c2 v2 w2 u2 NL2 ad2 H locs ls a1 a2 a3 a4 a5 a6 => law_fair C1 a1 a2 a3 a4 hS0 a5 ls a6 next)
    · rw [show nI 5 = (5 : Int32) from rfl]
      refine lv_tableIn (tgt := 568) hx hb dL_law_233 (by decide) (by decide) rfl (by decide) ?_
      exact law_arm_5 C1 (by omega) (by omega) hi h2n hM hN hj927 (Or.inr ⟨_, hj931, rfl⟩) hS0.1 hrl hPr0 hug H locs hW ls (lv_sub hl [0, 1, 2, 3, 4, 5, 6, 7, 8] rfl) (fun c2 v2 w2 u2 NL2 ad2 H locs ls a1 a2 a3 a4 a5 a6 => law_fair C1 a1 a2 a3 a4 hS0 a5 ls a6 next)
    · rw [show nI 6 = (6 : Int32) from rfl]
      refine lv_tableIn (tgt := 630) hx hb dL_law_233 (by decide) (by decide) rfl (by decide) ?_
      exact law_arm_6 C1 (by omega) (by omega) hi h2n hM hN hj927 (Or.inr ⟨_, hj931, rfl⟩) hS0.1 hrl hPr0 hug H locs hW ls (lv_sub hl [0, 1, 2, 3, 4, 5, 6, 7, 8] rfl) (fun c2 v2 w2 u2 NL2 ad2 H locs ls a1 a2 a3 a4 a5 a6 => law_fair C1 a1 a2 a3 a4 hS0 a5 ls a6 next)
    · rw [show nI 7 = (7 : Int32) from rfl]
      refine lv_tableIn (tgt := 718) hx hb dL_law_233 (by decide) (by decide) rfl (by decide) ?_
      exact law_arm_7 C1 (by omega) (by omega) hi h2n hM hN hj927 (Or.inr ⟨_, hj931, rfl⟩) hS0.1 hrl hPr0 hug H locs hW ls (lv_sub hl [0, 1, 2, 3, 4, 5, 6, 7, 8] rfl) (fun c2 v2 w2 u2 NL2 ad2 H locs ls a1 a2 a3 a4 a5 a6 => law_fair C1 a1 a2 a3 a4 hS0 a5 ls a6 next)
    · rw [show nI 8 = (8 : Int32) from rfl]
      refine lv_tableOut (tgt := 744) hx hb dL_law_233 (by decide) (by decide) ?_
      exact law_arm_8 C1 (by omega) (by omega) hi h2n hM hN hj927 (Or.inr ⟨_, hj931, rfl⟩) hS0.1 hrl hPr0 hug H locs hW ls (lv_sub hl [0, 1, 2, 3, 4, 5, 6, 7, 8] rfl) (fun c2 v2 w2 u2 NL2 ad2 H locs ls a1 a2 a3 a4 a5 a6 => law_fair C1 a1 a2 a3 a4 hS0 a5 ls a6 next)
  · refine lv_iconst (v := -1) hx hb dL_law_202 (by decide) ?_
    refine lv_goto (tgt := 215) hx hb dL_law_203 (by decide) ?_
    refine lv_istore (lv' := [(7, .int (-1)), (6, .int (nI (c 4))), (5, .int (nI j927)), (4, .int x9), (3, .int (nI i)), (2, .int (nI (c 0))), (1, .ref (ad 5 0)), (0, .ref b)]) hx hb dL_law_215 hl (by decide) rfl (fun ls hl => ?_)
    refine lv_iload hx hb dL_law_217 (lv_at hl 3 rfl) ?_
    refine lv_iconst (v := 2) hx hb dL_law_219 (by decide) ?_
    refine lv_ishr hx hb dL_law_220 ?_
    refine va_callr (va_runS (As := [.int (x9 >>> ((2 : Int32) &&& 31))]) (rest := []) ⟨hx, hb, hml, hown, hts⟩ (l_L_region l D cA (va_A [] H.size) (x9 >>> ((2 : Int32) &&& 31))) (va_cwS 1 hts gL_law_L_region rfl rfl rfl (by decide +kernel) ⟨Nat.le_of_ble_eq_true rfl, Nat.le_of_ble_eq_true rfl⟩) (pc_preS pcN_ok hX ⟨fun k q h => by simp at h, ⟨fun i j x y h => by simp at h, fun k q h => by simp at h⟩, fun q h => Or.inr h⟩) rfl rfl hl.1 rfl (lv_room (Nat.le_of_ble_eq_true rfl)) dL_law_221 ⟨(by show _ ≤ (600074 : Nat); omega), (by show _ ≤ (7301550 : Nat); omega)⟩) hW.2.2 (fun q _ h => (fun q h => h.elim (fun ⟨k, e, h⟩ => by simp at h) (fun h => Nat.le_trans hW.2.2.1 h)) q h) (fun q h => h.elim (fun ⟨k, e, h⟩ => by simp at h) (fun h => Nat.le_trans hW.2.2.1 h)) (fun ug rr t H1 locs1 ht hvm hug hB hz1 hk1 hS0 => ?_)
    obtain ⟨hPr0, hD1⟩ := hB
    rw [ht] at hPr0
    have hrl : rr < H1.size := (hPr0 0 _ rfl).lt
    obtain ⟨hW, hsr⟩ := pcS_row9 hW hD1 hk1
    refine va_forget (fun q hq => hS0.2.2 q hq) ?_
    have hsc1 := hsc.kept (hS0.2.1 b hbl hbA)
    have hbl1 := Nat.lt_of_lt_of_le hbl hS0.1
    have hbA1 : ¬ lwA s rr b := fun h => hbA h.1
    have hA : ∀ q : Nat, H1.size ≤ q → lwA s rr q := fun q h => ⟨Nat.le_trans hS0.1 h, fun e => by omega⟩
    refine lv_astore (lv' := [(8, .ref rr), (7, .int (-1)), (6, .int (nI (c 4))), (5, .int (nI j927)), (4, .int x9), (3, .int (nI i)), (2, .int (nI (c 0))), (1, .ref (ad 5 0)), (0, .ref b)]) hx hb dL_law_224 hl (by decide) rfl (fun ls hl => ?_)
    refine lv_iload hx hb dL_law_226 (lv_at hl 4 rfl) ?_
    refine lv_bipush (v := 9) hx hb dL_law_228 (by decide) ?_
    refine pc_rcalli (va_runS (As := [.int x9, .int 9]) (rest := []) ⟨hx, hb, hml, hown, hts⟩ (r_L_below l D cA x9 (9 : Int32) (by decide)) (va_cwS 2 hts gL_law_L_below rfl rfl rfl (by decide +kernel) ⟨Nat.le_of_ble_eq_true rfl, Nat.le_of_ble_eq_true rfl⟩) (pc_preS pcN_ok hX trivial) rfl rfl hl.1 rfl (lv_room (Nat.le_of_ble_eq_true rfl)) dL_law_230 ⟨(by show _ ≤ (600074 : Nat); omega), (by show _ ≤ (7301550 : Nat); omega)⟩) hW (fun r934 H locs hwr934 hW => ?_)
    replace hwr934 := hwr934.symm
    subst hwr934
    obtain ⟨j935, hj935, ej935⟩ : ∃ j, j < 9 ∧ (F_L_below x9 (9 : Int32)) = nI j := below_ok _ 9 (by decide) (by decide)
    rw [ej935]
    rcases (show j935 = 0 ∨ j935 = 1 ∨ j935 = 2 ∨ j935 = 3 ∨ j935 = 4 ∨ j935 = 5 ∨ j935 = 6 ∨ j935 = 7 ∨ j935 = 8 by omega) with rfl | rfl | rfl | rfl | rfl | rfl | rfl | rfl | rfl
    · rw [show nI 0 = (0 : Int32) from rfl]
      refine lv_tableIn (tgt := 280) hx hb dL_law_233 (by decide) (by decide) rfl (by decide) ?_
      exact law_arm_0 C1 (by omega) (by omega) hi h2n hM hN hj927 (Or.inl rfl) hS0.1 hrl hPr0 hug H locs hW ls (lv_sub hl [0, 1, 2, 3, 4, 5, 6, 7, 8] rfl) (fun c2 v2 w2 u2 NL2 ad2 H locs ls a1 a2 a3 a4 a5 a6 => law_fair C1 a1 a2 a3 a4 hS0 a5 ls a6 next)
    · rw [show nI 1 = (1 : Int32) from rfl]
      refine lv_tableIn (tgt := 309) hx hb dL_law_233 (by decide) (by decide) rfl (by decide) ?_
      exact law_arm_1 C1 (by omega) (by omega) hi h2n hM hN hj927 (Or.inl rfl) hS0.1 hrl hPr0 hug H locs hW ls (lv_sub hl [0, 1, 2, 3, 4, 5, 6, 7, 8] rfl) (fun c2 v2 w2 u2 NL2 ad2 H locs ls a1 a2 a3 a4 a5 a6 => law_fair C1 a1 a2 a3 a4 hS0 a5 ls a6 next)
    · rw [show nI 2 = (2 : Int32) from rfl]
      refine lv_tableIn (tgt := 418) hx hb dL_law_233 (by decide) (by decide) rfl (by decide) ?_
      exact law_arm_2 C1 (by omega) (by omega) hi h2n hM hN hj927 (Or.inl rfl) hS0.1 hrl hPr0 hug H locs hW ls (lv_sub hl [0, 1, 2, 3, 4, 5, 6, 7, 8] rfl) (fun c2 v2 w2 u2 NL2 ad2 H locs ls a1 a2 a3 a4 a5 a6 => law_fair C1 a1 a2 a3 a4 hS0 a5 ls a6 next)
    · rw [show nI 3 = (3 : Int32) from rfl]
      refine lv_tableIn (tgt := 461) hx hb dL_law_233 (by decide) (by decide) rfl (by decide) ?_
      exact law_arm_3 C1 (by omega) (by omega) hi h2n hM hN hj927 (Or.inl rfl) hS0.1 hrl hPr0 hug H locs hW ls (lv_sub hl [0, 1, 2, 3, 4, 5, 6, 7, 8] rfl) (fun c2 v2 w2 u2 NL2 ad2 H locs ls a1 a2 a3 a4 a5 a6 => law_fair C1 a1 a2 a3 a4 hS0 a5 ls a6 next)
    · rw [show nI 4 = (4 : Int32) from rfl]
      refine lv_tableIn (tgt := 528) hx hb dL_law_233 (by decide) (by decide) rfl (by decide) ?_
      exact law_arm_4 C1 (by omega) (by omega) hi h2n hM hN hj927 (Or.inl rfl) hS0.1 hrl hPr0 hug H locs hW ls (lv_sub hl [0, 1, 2, 3, 4, 5, 6, 7, 8] rfl) (fun c2 v2 w2 u2 NL2 ad2 H locs ls a1 a2 a3 a4 a5 a6 => law_fair C1 a1 a2 a3 a4 hS0 a5 ls a6 next)
    · rw [show nI 5 = (5 : Int32) from rfl]
      refine lv_tableIn (tgt := 568) hx hb dL_law_233 (by decide) (by decide) rfl (by decide) ?_
      exact law_arm_5 C1 (by omega) (by omega) hi h2n hM hN hj927 (Or.inl rfl) hS0.1 hrl hPr0 hug H locs hW ls (lv_sub hl [0, 1, 2, 3, 4, 5, 6, 7, 8] rfl) (fun c2 v2 w2 u2 NL2 ad2 H locs ls a1 a2 a3 a4 a5 a6 => law_fair C1 a1 a2 a3 a4 hS0 a5 ls a6 next)
    · rw [show nI 6 = (6 : Int32) from rfl]
      refine lv_tableIn (tgt := 630) hx hb dL_law_233 (by decide) (by decide) rfl (by decide) ?_
      exact law_arm_6 C1 (by omega) (by omega) hi h2n hM hN hj927 (Or.inl rfl) hS0.1 hrl hPr0 hug H locs hW ls (lv_sub hl [0, 1, 2, 3, 4, 5, 6, 7, 8] rfl) (fun c2 v2 w2 u2 NL2 ad2 H locs ls a1 a2 a3 a4 a5 a6 => law_fair C1 a1 a2 a3 a4 hS0 a5 ls a6 next)
    · rw [show nI 7 = (7 : Int32) from rfl]
      refine lv_tableIn (tgt := 718) hx hb dL_law_233 (by decide) (by decide) rfl (by decide) ?_
      exact law_arm_7 C1 (by omega) (by omega) hi h2n hM hN hj927 (Or.inl rfl) hS0.1 hrl hPr0 hug H locs hW ls (lv_sub hl [0, 1, 2, 3, 4, 5, 6, 7, 8] rfl) (fun c2 v2 w2 u2 NL2 ad2 H locs ls a1 a2 a3 a4 a5 a6 => law_fair C1 a1 a2 a3 a4 hS0 a5 ls a6 next)
    · rw [show nI 8 = (8 : Int32) from rfl]
      refine lv_tableOut (tgt := 744) hx hb dL_law_233 (by decide) (by decide) ?_
      exact law_arm_8 C1 (by omega) (by omega) hi h2n hM hN hj927 (Or.inl rfl) hS0.1 hrl hPr0 hug H locs hW ls (lv_sub hl [0, 1, 2, 3, 4, 5, 6, 7, 8] rfl) (fun c2 v2 w2 u2 NL2 ad2 H locs ls a1 a2 a3 a4 a5 a6 => law_fair C1 a1 a2 a3 a4 hS0 a5 ls a6 next)

set_option maxHeartbeats 4000000 in
set_option maxRecDepth 100000 in
theorem law_end {p : Program} {e : Env} {s : State} {m : MethodId} {below : List Frame} {meth : Method} {c0 : Code} {l : Launch} {b L : Nat} {xs : Nat → Int32} {D : va_G} {cA : Nat → ClassId} (C1 : law_C p l s m meth c0 b L xs D cA) {c : SC} {v : SV} {w : SW} {u : Nat → Int32} {NL : List (Nat × Nat)} {ad : Nat → Nat → Nat} {locs : List Loc} {H : Heap} (hi : INV c v w) (hM : MEM c NL) (hW : pcS D vwCl (lwA0 s) s.heap NL ad (ctO cA c v w u ad) H locs) (ls : Array Slot) (hl : lv_has ls 13 [(3, .int (nI 40)), (2, .int (nI (c 0))), (1, .ref (ad 5 0)), (0, .ref b)]) : W p l e room_1 s m #[Value.ref b] below meth c0 H locs (500 + 60 * 40) (4000 + 300 * 40) (lw_Z below #[Value.ref b] s) (F0 m 151 ls []) := by
  obtain ⟨hx, hb, hr, hml, hown, hts, hlocks, hX, hsc, hbl, hL⟩ := id C1
  have hbA : ¬ lwA0 s b := Nat.not_le.mpr hbl
  have h5n := hi.1
  have hA : ∀ q : Nat, s.heap.size ≤ q → lwA0 s q := fun _ h => h
  refine lv_iload_n hx hb dL_law_151 rfl (lv_at hl 0 rfl) ?_
  refine lv_bipush (v := 40) hx hb dL_law_152 (by decide) ?_
  refine lv_icmp_ge (tgt := 805) hx hb dL_law_154 (by decide) (fun _ => ?_) (fun c936 => absurd (Int32.le_refl _) c936)
  refine lv_aload_n hx hb dL_law_805 rfl (lv_at hl 2 rfl) ?_
  have hD9 := hW.2.1
  refine pc_mcalll (va_runV (As := []) (rest := []) ⟨hx, hb, hml, hown, hts⟩ (m_X5_digest l D cA NL c v w u ad (lwA0 s)  hM (INV_bnd hi) (INV_wf hi) (INV_ri hi)) (cwV 0 hts gL_law_X5_digest rfl rfl rfl (by decide +kernel) ⟨Nat.le_of_ble_eq_true rfl, Nat.le_of_ble_eq_true rfl⟩) (pc_preV pcN_ok hX hW.1 hM.1 rfl rfl ⟨hW.1, hW.2.1, fun q h => hA q (Nat.le_trans hW.2.2.1 h)⟩) rfl rfl hl.1 rfl (lv_room (Nat.le_of_ble_eq_true rfl)) dL_law_806 ⟨(by show _ ≤ (600074 : Nat); omega), (by show _ ≤ (7301550 : Nat); omega)⟩) hW.2.2 (fun r937 _ H locs hwr937 hB hS9 => ?_)
  replace hwr937 := hwr937.symm
  subst hwr937
  have hW : pcS D vwCl (lwA0 s) s.heap NL ad (ctO cA c v w (U_X5_digest c v w) ad) H locs := ⟨hB, pcD_ct hD9, hS9⟩
  refine lv_lstore_n (lv' := [(3, .long (F_X5_digest c v w)), (2, .int (nI (c 0))), (1, .ref (ad 5 0)), (0, .ref b)]) hx hb dL_law_809 rfl hl (by decide) rfl (fun ls hl => ?_)
  refine W.widen (k := 3000) (n := 20000) (by omega) (by omega) ?_
  refine lv_iconst (v := 0) hx hb dL_law_810 (by decide) ?_
  refine lv_istore (lv' := [(5, .int 0), (3, .long (F_X5_digest c v w)), (2, .int (nI (c 0))), (1, .ref (ad 5 0)), (0, .ref b)]) hx hb dL_law_811 hl (by decide) rfl (fun ls hl => ?_)
  have K940 : ∀ (k939 i938 : Nat) (H : Heap) (locs : List Loc) (ls : Array Slot), i938 + k939 = (c 3) → pcS D vwCl (lwA0 s) s.heap NL ad (ctO cA c v w (U_X5_digest c v w) ad) H locs → lv_has ls 13 [(5, .int (nI i938)), (3, .long (F_X5_digest c v w)), (2, .int (nI (c 0))), (1, .ref (ad 5 0)), (0, .ref b)] → W p l e room_1 s m #[Value.ref b] below meth c0 H locs 3000 20000 (lw_Z below #[Value.ref b] s) (F0 m 813 ls []) := by
    intro k939
    induction k939 with
    | zero =>
      intro i938 H locs ls hk hW hl
      have ei : i938 = (c 3) := by omega
      rw [ei] at hl
      refine lv_iload hx hb dL_law_813 (lv_at hl 0 rfl) ?_
      refine lv_aload_n hx hb dL_law_815 rfl (lv_at hl 3 rfl) ?_
      refine lv_iconst (v := 4) hx hb dL_law_816 (by decide) ?_
      refine pc_rcalli (va_runV (As := [.int 4]) (rest := [.int (nI (c 3))]) ⟨hx, hb, hml, hown, hts⟩ (r_X5_many4 l D cA NL c v w (U_X5_digest c v w) ad  hM (INV_bnd hi) (INV_wf hi) ) (cwV 1 hts gL_law_X5_many rfl rfl rfl (by decide +kernel) ⟨Nat.le_of_ble_eq_true rfl, Nat.le_of_ble_eq_true rfl⟩) (pc_preV pcN_ok hX hW.1 hM.1 rfl rfl hW.1) rfl rfl hl.1 rfl (lv_room (Nat.le_of_ble_eq_true rfl)) dL_law_817 ⟨(by show _ ≤ (600074 : Nat); omega), (by show _ ≤ (7301550 : Nat); omega)⟩) hW (fun r941 H locs hwr941 hW => ?_)
      replace hwr941 := hwr941.symm
      subst hwr941
      refine lv_icmp_ge (tgt := 865) hx hb dL_law_820 (by decide) (fun _ => ?_) (fun c942 => absurd (Int32.le_refl _) c942)
      refine lv_aload_n hx hb dL_law_865 rfl (lv_at hl 3 rfl) ?_
      have hD9 := hW.2.1
      refine pc_mcalll (va_runV (As := []) (rest := []) ⟨hx, hb, hml, hown, hts⟩ (m_X5_digest l D cA NL c v w (U_X5_digest c v w) ad (lwA0 s)  hM (INV_bnd hi) (INV_wf hi) (INV_ri hi)) (cwV 0 hts gL_law_X5_digest rfl rfl rfl (by decide +kernel) ⟨Nat.le_of_ble_eq_true rfl, Nat.le_of_ble_eq_true rfl⟩) (pc_preV pcN_ok hX hW.1 hM.1 rfl rfl ⟨hW.1, hW.2.1, fun q h => hA q (Nat.le_trans hW.2.2.1 h)⟩) rfl rfl hl.1 rfl (lv_room (Nat.le_of_ble_eq_true rfl)) dL_law_866 ⟨(by show _ ≤ (600074 : Nat); omega), (by show _ ≤ (7301550 : Nat); omega)⟩) hW.2.2 (fun r943 _ H locs hwr943 hB hS9 => ?_)
      replace hwr943 := hwr943.symm
      subst hwr943
      have hW : pcS D vwCl (lwA0 s) s.heap NL ad (ctO cA c v w (U_X5_digest c v w) ad) H locs := ⟨hB, pcD_ct hD9, hS9⟩
      refine lv_lload_n hx hb dL_law_869 rfl (lv_at hl 1 rfl) ?_
      refine lv_lcmpI hx hb dL_law_870 ?_
      refine lv_if_ne (tgt := 878) hx hb dL_law_871 (by decide) (fun c944 => absurd c944 (fun q => q (lcI_0.mpr rfl))) (fun _ => ?_)
      refine lv_iconst (v := 1) hx hb dL_law_874 (by decide) ?_
      refine lv_goto (tgt := 879) hx hb dL_law_875 (by decide) ?_
      refine va_forget (fun q hq => hW.2.2.2.2 q hq) ?_
      refine W.widen (k := 600074) (n := 7301550) (Nat.le_of_ble_eq_true rfl) (Nat.le_of_ble_eq_true rfl) ?_
      exact lw_ret hx hb hr hlocks dL_law_879
    | succ k939 ihk939 =>
      intro i938 H locs ls hk hW hl
      have hlt : i938 < (c 3) := by omega
      have hlt9i938 := hlt
      refine lv_iload hx hb dL_law_813 (lv_at hl 0 rfl) ?_
      refine lv_aload_n hx hb dL_law_815 rfl (lv_at hl 3 rfl) ?_
      refine lv_iconst (v := 4) hx hb dL_law_816 (by decide) ?_
      refine pc_rcalli (va_runV (As := [.int 4]) (rest := [.int (nI i938)]) ⟨hx, hb, hml, hown, hts⟩ (r_X5_many4 l D cA NL c v w (U_X5_digest c v w) ad  hM (INV_bnd hi) (INV_wf hi) ) (cwV 1 hts gL_law_X5_many rfl rfl rfl (by decide +kernel) ⟨Nat.le_of_ble_eq_true rfl, Nat.le_of_ble_eq_true rfl⟩) (pc_preV pcN_ok hX hW.1 hM.1 rfl rfl hW.1) rfl rfl hl.1 rfl (lv_room (Nat.le_of_ble_eq_true rfl)) dL_law_817 ⟨(by show _ ≤ (600074 : Nat); omega), (by show _ ≤ (7301550 : Nat); omega)⟩) hW (fun r945 H locs hwr945 hW => ?_)
      replace hwr945 := hwr945.symm
      subst hwr945
      refine lv_icmp_ge (tgt := 865) hx hb dL_law_820 (by decide) (fun c946 => absurd c946 (nI_ge hlt (Nat.lt_of_le_of_lt (INV_bnd hi).2.2.2.1 (by decide)))) (fun _ => ?_)
      refine lv_aload_n hx hb dL_law_823 rfl (lv_at hl 3 rfl) ?_
      refine lv_iload hx hb dL_law_824 (lv_at hl 0 rfl) ?_
      have hD9 := hW.2.1
      refine pc_mcalli (va_runV (As := [.int (nI i938)]) (rest := []) ⟨hx, hb, hml, hown, hts⟩ (m_X5_freedBy l D cA NL c v w (U_X5_digest c v w) ad (lwA0 s) (nI i938) hM (INV_bnd hi) (INV_wf hi) (nI_nn (Nat.lt_of_lt_of_le hlt9i938 (Nat.le_trans (INV_bnd hi).2.2.2.1 (by decide)))) (by rw [nI_clamp (Nat.lt_of_lt_of_le hlt9i938 (Nat.le_trans (INV_bnd hi).2.2.2.1 (by decide)))]; exact hlt9i938)) (cwV 1 hts gL_law_X5_freedBy rfl rfl rfl (by decide +kernel) ⟨Nat.le_of_ble_eq_true rfl, Nat.le_of_ble_eq_true rfl⟩) (pc_preV pcN_ok hX hW.1 hM.1 rfl rfl ⟨hW.1, hW.2.1, fun q h => hA q (Nat.le_trans hW.2.2.1 h)⟩) rfl rfl hl.1 rfl (lv_room (Nat.le_of_ble_eq_true rfl)) dL_law_826 ⟨(by show _ ≤ (600074 : Nat); omega), (by show _ ≤ (7301550 : Nat); omega)⟩) hW.2.2 (fun r947 _ H locs hwr947 hB hS9 => ?_)
      replace hwr947 := hwr947.symm
      subst hwr947
      have hW : pcS D vwCl (lwA0 s) s.heap NL ad (ctO cA c v w (U_X5_digest c v w) ad) H locs := ⟨hB, pcD_ct hD9, hS9⟩
      refine lv_aload_n hx hb dL_law_829 rfl (lv_at hl 3 rfl) ?_
      refine lv_bipush (v := 10) hx hb dL_law_830 (by decide) ?_
      refine pc_rcalli (va_runV (As := [.int 10]) (rest := [.int (F_X5_freedBy c v w (nI i938))]) ⟨hx, hb, hml, hown, hts⟩ (r_X5_many10 l D cA NL c v w (U_X5_digest c v w) ad  hM (INV_bnd hi) (INV_wf hi) ) (cwV 1 hts gL_law_X5_many rfl rfl rfl (by decide +kernel) ⟨Nat.le_of_ble_eq_true rfl, Nat.le_of_ble_eq_true rfl⟩) (pc_preV pcN_ok hX hW.1 hM.1 rfl rfl hW.1) rfl rfl hl.1 rfl (lv_room (Nat.le_of_ble_eq_true rfl)) dL_law_832 ⟨(by show _ ≤ (600074 : Nat); omega), (by show _ ≤ (7301550 : Nat); omega)⟩) hW (fun r948 H locs hwr948 hW => ?_)
      replace hwr948 := hwr948.symm
      subst hwr948
      refine lv_icmp_gt (tgt := 857) hx hb dL_law_835 (by decide) (fun c949 => absurd c949 (freed_le hi)) (fun _ => ?_)
      refine lv_aload_n hx hb dL_law_838 rfl (lv_at hl 3 rfl) ?_
      refine lv_iload hx hb dL_law_839 (lv_at hl 0 rfl) ?_
      refine pc_rcalli (va_runV (As := [.int (nI i938)]) (rest := []) ⟨hx, hb, hml, hown, hts⟩ (r_X5_ofQuery l D cA NL c v w (U_X5_digest c v w) ad (nI i938) hM (INV_bnd hi) (INV_wf hi) (nI_nn (Nat.lt_of_lt_of_le hlt9i938 (Nat.le_trans (INV_bnd hi).2.2.2.1 (by decide)))) (by rw [nI_clamp (Nat.lt_of_lt_of_le hlt9i938 (Nat.le_trans (INV_bnd hi).2.2.2.1 (by decide)))]; exact hlt9i938)) (cwV 1 hts gL_law_X5_ofQuery rfl rfl rfl (by decide +kernel) ⟨Nat.le_of_ble_eq_true rfl, Nat.le_of_ble_eq_true rfl⟩) (pc_preV pcN_ok hX hW.1 hM.1 rfl rfl hW.1) rfl rfl hl.1 rfl (lv_room (Nat.le_of_ble_eq_true rfl)) dL_law_841 ⟨(by show _ ≤ (600074 : Nat); omega), (by show _ ≤ (7301550 : Nat); omega)⟩) hW (fun r950 H locs hwr950 hW => ?_)
      replace hwr950 := hwr950.symm
      subst hwr950
      refine lv_iconst (v := 2) hx hb dL_law_844 (by decide) ?_
      refine lv_icmp_ne (tgt := 859) hx hb dL_law_845 (by decide) (fun _ => ?_) (fun c951 => absurd c951 (query_open hi hlt9i938))
      refine lv_iinc (v := nI (i938 + 1)) (lv' := [(5, .int (nI (i938 + 1))), (3, .long (F_X5_digest c v w)), (2, .int (nI (c 0))), (1, .ref (ad 5 0)), (0, .ref b)]) hx hb dL_law_859 hl (k := 0) rfl (nI_1 i938) (by decide) rfl (fun ls hl => ?_)
      refine lv_goto (tgt := 813) hx hb dL_law_862 (by decide) ?_
      exact ihk939 (i938 + 1) H locs ls (by omega) hW (lv_sub hl [0, 1, 2, 3, 4] rfl)
  exact K940 (c 3) 0 _ _ ls (by omega) hW (lv_sub hl [0, 1, 2, 3, 4] rfl)

theorem law_loop {p : Program} {e : Env} {s : State} {m : MethodId} {below : List Frame} {meth : Method} {c0 : Code} {l : Launch} {b L : Nat} {xs : Nat → Int32} {D : va_G} {cA : Nat → ClassId} (C1 : law_C p l s m meth c0 b L xs D cA) : ∀ (k i : Nat) (c : SC) (v : SV) (w : SW) (u : Nat → Int32) (NL : List (Nat × Nat)) (ad : Nat → Nat → Nat) (H : Heap) (locs : List Loc) (ls : Array Slot), i + k = 40 → INV c v w → 2 ≤ c 0 → MEM c NL → NMEM c NL → pcS D vwCl (lwA0 s) s.heap NL ad (ctO cA c v w u ad) H locs → lv_has ls 13 [(3, .int (nI i)), (2, .int (nI (c 0))), (1, .ref (ad 5 0)), (0, .ref b)] → W p l e room_1 s m #[Value.ref b] below meth c0 H locs (500 + 60 * i) (4000 + 300 * i) (lw_Z below #[Value.ref b] s) (F0 m 151 ls []) := by
  intro k
  induction k with
  | zero =>
    intro i c v w u NL ad H locs ls hk hi h2n hM hN hW hl
    obtain rfl : i = 40 := by omega
    exact law_end C1 hi hM hW ls hl
  | succ k ih =>
    intro i c v w u NL ad H locs ls hk hi h2n hM hN hW hl
    exact law_step C1 (by omega) hi h2n hM hN hW ls hl (fun c2 v2 w2 u2 NL2 ad2 H locs ls a1 a2 a3 a4 a5 a6 => ih (i + 1) c2 v2 w2 u2 NL2 ad2 H locs ls (by omega) a1 (by omega) a3 a4 a5 (by rw [a2]; exact a6))

def NL0 : List (Nat × Nat) := [(5, 0), (50, 0), (51, 0), (52, 0), (53, 0), (54, 0), (55, 0), (56, 0), (57, 0), (57, 1), (57, 2), (57, 3)]
def adS (h a b c d e g w r0 r1 r2 r3 : Nat) : Nat → Nat → Nat := fun k i => if k = 5 then h else if k = 50 then a else if k = 51 then b else if k = 52 then c else if k = 53 then d else if k = 54 then e else if k = 55 then g else if k = 56 then w else if k = 57 then (if i = 0 then r0 else if i = 1 then r1 else if i = 2 then r2 else r3) else 0
def cS : SC := fun _ => 0
def vS : SV := fun a _ _ => if a = 57 then -1 else 0
def wS : SW := fun _ _ _ => 0
def uS : Nat → Int32 := fun _ => 0
theorem sRf_0 (f : Nat → Nat) : sRf 0 f = fun _ => none := by
  funext j
  unfold sRf
  rw [if_neg (Nat.not_lt_zero j)]
theorem sRf_4 {h a b c d e g w r0 r1 r2 r3 : Nat} : sRf 4 (adS h a b c d e g w r0 r1 r2 r3 57) = fun i => ([r0, r1, r2, r3] : List Nat)[i]? := by
  funext i
  unfold sRf
  rcases (show i = 0 ∨ i = 1 ∨ i = 2 ∨ i = 3 ∨ 4 ≤ i by omega) with rfl | rfl | rfl | rfl | h9
  · rfl
  · rfl
  · rfl
  · rfl
  · rw [if_neg (by omega), List.getElem?_eq_none (by simpa using h9)]
theorem start_eq {cA : Nat → ClassId} {h a b c d e g w r0 r1 r2 r3 : Nat} : pcW NL0 (adS h a b c d e g w r0 r1 r2 r3) (ctO cA cS vS wS uS (adS h a b c d e g w r0 r1 r2 r3)) = [(h, .inr (5, [.ref a, .ref b, .ref c, .ref d, .ref e, .ref g, .ref w, .int 0, .int 0, .int 0, .int 0, .int 0, .int 0])), (a, .inl (cA 3, 10, .inr (.inr (.inr (.inr (fun _ => none)))))), (b, .inl (cA 4, 20, .inr (.inr (.inr (.inr (fun _ => none)))))), (c, .inl (cA 5, 20, .inr (.inr (.inr (.inr (fun _ => none)))))), (d, .inl (cA 6, 20, .inr (.inr (.inr (.inr (fun _ => none)))))), (e, .inl (cA 7, 8, .inr (.inr (.inr (.inr (fun _ => none)))))), (g, .inl (cA 2, 4, .inr (.inr (.inr (.inr (fun i => ([r0, r1, r2, r3] : List Nat)[i]?)))))), (w, .inl (cA 0, 10, .inl (fun _ => 0))), (r0, .inl (cA 0, 10, .inl (fun _ => (-1)))), (r1, .inl (cA 0, 10, .inl (fun _ => (-1)))), (r2, .inl (cA 0, 10, .inl (fun _ => (-1)))), (r3, .inl (cA 0, 10, .inl (fun _ => (-1))))] := by
  have h50 : ctO cA cS vS wS uS (adS h a b c d e g w r0 r1 r2 r3) 50 0 = .inl (cA 3, 10, .inr (.inr (.inr (.inr (fun _ => none))))) := by
    rw [ctO_50, if_pos rfl]
    exact congrArg (fun f => (.inl (cA 3, 10, .inr (.inr (.inr (.inr f)))) : va_E)) (sRf_0 _)
  have h51 : ctO cA cS vS wS uS (adS h a b c d e g w r0 r1 r2 r3) 51 0 = .inl (cA 4, 20, .inr (.inr (.inr (.inr (fun _ => none))))) := by
    rw [ctO_51, if_pos rfl]
    exact congrArg (fun f => (.inl (cA 4, 20, .inr (.inr (.inr (.inr f)))) : va_E)) (sRf_0 _)
  have h52 : ctO cA cS vS wS uS (adS h a b c d e g w r0 r1 r2 r3) 52 0 = .inl (cA 5, 20, .inr (.inr (.inr (.inr (fun _ => none))))) := by
    rw [ctO_52, if_pos rfl]
    exact congrArg (fun f => (.inl (cA 5, 20, .inr (.inr (.inr (.inr f)))) : va_E)) (sRf_0 _)
  have h53 : ctO cA cS vS wS uS (adS h a b c d e g w r0 r1 r2 r3) 53 0 = .inl (cA 6, 20, .inr (.inr (.inr (.inr (fun _ => none))))) := by
    rw [ctO_53, if_pos rfl]
    exact congrArg (fun f => (.inl (cA 6, 20, .inr (.inr (.inr (.inr f)))) : va_E)) (sRf_0 _)
  have h54 : ctO cA cS vS wS uS (adS h a b c d e g w r0 r1 r2 r3) 54 0 = .inl (cA 7, 8, .inr (.inr (.inr (.inr (fun _ => none))))) := by
    rw [ctO_54, if_pos rfl]
    exact congrArg (fun f => (.inl (cA 7, 8, .inr (.inr (.inr (.inr f)))) : va_E)) (sRf_0 _)
  have h55 : ctO cA cS vS wS uS (adS h a b c d e g w r0 r1 r2 r3) 55 0 = .inl (cA 2, 4, .inr (.inr (.inr (.inr (fun i => ([r0, r1, r2, r3] : List Nat)[i]?))))) := by
    rw [ctO_55, if_pos rfl]
    exact congrArg (fun f => (.inl (cA 2, 4, .inr (.inr (.inr (.inr f)))) : va_E)) sRf_4
  show [(h, ctO cA cS vS wS uS (adS h a b c d e g w r0 r1 r2 r3) 5 0), (a, ctO cA cS vS wS uS (adS h a b c d e g w r0 r1 r2 r3) 50 0), (b, ctO cA cS vS wS uS (adS h a b c d e g w r0 r1 r2 r3) 51 0), (c, ctO cA cS vS wS uS (adS h a b c d e g w r0 r1 r2 r3) 52 0), (d, ctO cA cS vS wS uS (adS h a b c d e g w r0 r1 r2 r3) 53 0), (e, ctO cA cS vS wS uS (adS h a b c d e g w r0 r1 r2 r3) 54 0), (g, ctO cA cS vS wS uS (adS h a b c d e g w r0 r1 r2 r3) 55 0), (w, ctO cA cS vS wS uS (adS h a b c d e g w r0 r1 r2 r3) 56 0), (r0, ctO cA cS vS wS uS (adS h a b c d e g w r0 r1 r2 r3) 57 0), (r1, ctO cA cS vS wS uS (adS h a b c d e g w r0 r1 r2 r3) 57 1), (r2, ctO cA cS vS wS uS (adS h a b c d e g w r0 r1 r2 r3) 57 2), (r3, ctO cA cS vS wS uS (adS h a b c d e g w r0 r1 r2 r3) 57 3)] = _
  rw [h50, h51, h52, h53, h54, h55]
  rfl
theorem MEM_0 : MEM cS NL0 := by
  refine ⟨by decide, fun k h1 h2 => ?_, fun i hi => ?_, fun i hi => absurd hi (Nat.not_lt_zero i), fun i hi => absurd hi (Nat.not_lt_zero i), fun i hi => absurd hi (Nat.not_lt_zero i), fun i hi => absurd hi (Nat.not_lt_zero i), fun i hi => absurd hi (Nat.not_lt_zero i)⟩
  · rcases (show k = 50 ∨ k = 51 ∨ k = 52 ∨ k = 53 ∨ k = 54 ∨ k = 55 ∨ k = 56 by omega) with rfl | rfl | rfl | rfl | rfl | rfl | rfl <;> decide
  · rcases (show i = 0 ∨ i = 1 ∨ i = 2 ∨ i = 3 by omega) with rfl | rfl | rfl | rfl <;> decide
theorem NMEM_0 : NMEM cS NL0 := by
  refine ⟨fun k i hk h => ?_, fun i h => ?_, fun k i hk h => ?_, fun i h => ?_, fun i h => ?_⟩
  · rcases hk with rfl | rfl | rfl <;> simp [NL0] at h
  · simp [NL0] at h
  · rcases hk with rfl | rfl <;> simp [NL0] at h
  · simp [NL0] at h
  · simp [NL0] at h
theorem INI_0 : INI cS vS wS 0 := ⟨⟨rfl, rfl, rfl, rfl, rfl⟩, fun i hi => absurd hi (Nat.not_lt_zero i), fun _ _ => rfl⟩

set_option maxHeartbeats 4000000 in
set_option maxRecDepth 100000 in
theorem law_ini {p : Program} {e : Env} {s : State} {m : MethodId} {below : List Frame} {meth : Method} {c0 : Code} {l : Launch} {b L : Nat} {xs : Nat → Int32} {D : va_G} {cA : Nat → ClassId} (C1 : law_C p l s m meth c0 b L xs D cA) {c : SC} {v : SV} {w : SW} {u : Nat → Int32} {NL : List (Nat × Nat)} {ad : Nat → Nat → Nat} {n : Nat} {locs : List Loc} {H : Heap} (hini : INI c v w (c 0)) (hkn : c 0 < n) (hn5 : n ≤ 5) (hM : MEM c NL) (hN : NMEM c NL) (hW : pcS D vwCl (lwA0 s) s.heap NL ad (ctO cA c v w u ad) H locs) (ls : Array Slot) (hl : lv_has ls 13 [(3, .int (nI (c 0))), (2, .int (nI n)), (1, .ref (ad 5 0)), (0, .ref b)]) (next : ∀ (c2 : SC) (v2 : SV) (w2 : SW) (u2 : Nat → Int32) (NL2 : List (Nat × Nat)) (ad2 : Nat → Nat → Nat) (H : Heap) (locs : List Loc) (ls : Array Slot), INI c2 v2 w2 (c 0 + 1) → MEM c2 NL2 → NMEM c2 NL2 → pcS D vwCl (lwA0 s) s.heap NL2 ad2 (ctO cA c2 v2 w2 u2 ad2) H locs → lv_has ls 13 [(3, .int (nI (c 0 + 1))), (2, .int (nI n)), (1, .ref (ad2 5 0)), (0, .ref b)] → W p l e room_1 s m #[Value.ref b] below meth c0 H locs (20 + 10 * (c 0 + 1)) (200 + 60 * (c 0 + 1)) (lw_Z below #[Value.ref b] s) (F0 m 22 ls [])) : W p l e room_1 s m #[Value.ref b] below meth c0 H locs (20 + 10 * (c 0)) (200 + 60 * (c 0)) (lw_Z below #[Value.ref b] s) (F0 m 22 ls []) := by
  obtain ⟨hx, hb, hr, hml, hown, hts, hlocks, hX, hsc, hbl, hL⟩ := id C1
  have hbA : ¬ lwA0 s b := Nat.not_le.mpr hbl
  have hk5 : c 0 < 5 := by omega
  have hi := INI_inv hini (by omega)
  refine lv_iload_n hx hb dL_law_22 rfl (lv_at hl 0 rfl) ?_
  refine lv_iload_n hx hb dL_law_23 rfl (lv_at hl 1 rfl) ?_
  refine lv_icmp_ge (tgt := 108) hx hb dL_law_24 (by decide) (fun c952 => absurd c952 (nI_ge hkn (by omega))) (fun _ => ?_)
  refine lv_aload_n hx hb dL_law_27 rfl (lv_at hl 3 rfl) ?_
  refine lv_iload_n hx hb dL_law_28 rfl (lv_at hl 0 rfl) ?_
  refine lv_iconst (v := 1) hx hb dL_law_29 (by decide) ?_
  refine lv_iadd hx hb dL_law_30 ?_
  rw [nI_1]
  refine pc_rcalli (va_runS (As := [.ref b, .int (nI ((c 0) + 1))]) (rest := []) ⟨hx, hb, hml, hown, hts⟩ (r_L_cell l D cA b L xs hL (nI ((c 0) + 1)) (nI_pos (by omega))) (va_cwS 2 hts gL_law_L_cell rfl rfl rfl (by decide +kernel) ⟨Nat.le_of_ble_eq_true rfl, Nat.le_of_ble_eq_true rfl⟩) (pcX_preS hX (hsc.kept (hW.2.2.2.1 b hbl hbA))) rfl rfl hl.1 rfl (lv_room (Nat.le_of_ble_eq_true rfl)) dL_law_31 ⟨(by show _ ≤ (600074 : Nat); omega), (by show _ ≤ (7301550 : Nat); omega)⟩) hW (fun x953 H locs _ hW => ?_)
  refine va_callr (va_runS (As := [.int x953]) (rest := []) ⟨hx, hb, hml, hown, hts⟩ (l_L_region l D cA (va_A [] H.size) x953) (va_cwS 1 hts gL_law_L_region rfl rfl rfl (by decide +kernel) ⟨Nat.le_of_ble_eq_true rfl, Nat.le_of_ble_eq_true rfl⟩) (pc_preS pcN_ok hX ⟨fun k q h => by simp at h, ⟨fun i j x y h => by simp at h, fun k q h => by simp at h⟩, fun q h => Or.inr h⟩) rfl rfl hl.1 rfl (lv_room (Nat.le_of_ble_eq_true rfl)) dL_law_34 ⟨(by show _ ≤ (600074 : Nat); omega), (by show _ ≤ (7301550 : Nat); omega)⟩) hW.2.2 (fun q _ h => (fun q h => h.elim (fun ⟨k, e, h⟩ => by simp at h) (fun h => Nat.le_trans hW.2.2.1 h)) q h) (fun q h => h.elim (fun ⟨k, e, h⟩ => by simp at h) (fun h => Nat.le_trans hW.2.2.1 h)) (fun ug rr t H1 locs1 ht hvm hug hB hz1 hk1 hS0 => ?_)
  obtain ⟨hPr0, hD1⟩ := hB
  rw [ht] at hPr0
  have hrl : rr < H1.size := (hPr0 0 _ rfl).lt
  obtain ⟨hW, hsr⟩ := pcS_row9 hW hD1 hk1
  refine va_forget (fun q hq => hS0.2.2 q hq) ?_
  have hsc1 := hsc.kept (hS0.2.1 b hbl hbA)
  have hbl1 := Nat.lt_of_lt_of_le hbl hS0.1
  have hbA1 : ¬ lwA s rr b := fun h => hbA h.1
  have hA : ∀ q : Nat, H1.size ≤ q → lwA s rr q := fun q h => ⟨Nat.le_trans hS0.1 h, fun e => by omega⟩
  refine lv_astore (lv' := [(4, .ref rr), (3, .int (nI (c 0))), (2, .int (nI n)), (1, .ref (ad 5 0)), (0, .ref b)]) hx hb dL_law_37 hl (by decide) rfl (fun ls hl => ?_)
  refine lv_aload_n hx hb dL_law_39 rfl (lv_at hl 3 rfl) ?_
  refine lv_aload_n hx hb dL_law_40 rfl (lv_at hl 4 rfl) ?_
  refine lv_iload_n hx hb dL_law_41 rfl (lv_at hl 1 rfl) ?_
  refine pc_rcalli (va_runS (As := [.ref b, .int (nI (c 0))]) (rest := [.ref (ad 5 0)]) ⟨hx, hb, hml, hown, hts⟩ (r_L_cell l D cA b L xs hL (nI (c 0)) (nI_pos (by omega))) (va_cwS 2 hts gL_law_L_cell rfl rfl rfl (by decide +kernel) ⟨Nat.le_of_ble_eq_true rfl, Nat.le_of_ble_eq_true rfl⟩) (pcX_preS hX (hsc1.kept (hW.2.2.2.1 b hbl1 hbA1))) rfl rfl hl.1 rfl (lv_room (Nat.le_of_ble_eq_true rfl)) dL_law_42 ⟨(by show _ ≤ (600074 : Nat); omega), (by show _ ≤ (7301550 : Nat); omega)⟩) hW (fun x954 H locs _ hW => ?_)
  refine lv_iconst (v := 3) hx hb dL_law_45 (by decide) ?_
  refine pc_rcalli (va_runS (As := [.int x954, .int 3]) (rest := [.ref (ad 5 0)]) ⟨hx, hb, hml, hown, hts⟩ (r_L_below l D cA x954 (3 : Int32) (by decide)) (va_cwS 2 hts gL_law_L_below rfl rfl rfl (by decide +kernel) ⟨Nat.le_of_ble_eq_true rfl, Nat.le_of_ble_eq_true rfl⟩) (pc_preS pcN_ok hX trivial) rfl rfl hl.1 rfl (lv_room (Nat.le_of_ble_eq_true rfl)) dL_law_46 ⟨(by show _ ≤ (600074 : Nat); omega), (by show _ ≤ (7301550 : Nat); omega)⟩) hW (fun r955 H locs hwr955 hW => ?_)
  replace hwr955 := hwr955.symm
  subst hwr955
  obtain ⟨j956, hj956, ej956⟩ : ∃ j, j < 3 ∧ (F_L_below x954 (3 : Int32)) = nI j := below_ok _ 3 (by decide) (by decide)
  rw [ej956]
  refine pc_mcalli (S := List (Nat × Nat) × (Nat → Nat → Nat)) (post := fun r z => r = nI (c 0) ∧ MEM (uC c 0 (c 0 + 1)) z.1 ∧ NMEM (uC c 0 (c 0 + 1)) z.1 ∧ z.2 5 0 = ad 5 0) (B := fun z H9 => va_P D vwCl (pcW z.1 z.2 (ctO cA (uC c 0 (c 0 + 1)) (V_X5_sheet c v w (nI j956)) (W_X5_sheet c v w (nI j956)) u z.2)) H9 ∧ va_D (lwA s rr) (pcW z.1 z.2 (ctO cA (uC c 0 (c 0 + 1)) (V_X5_sheet c v w (nI j956)) (W_X5_sheet c v w (nI j956)) u z.2))) (va_runV (As := [.int (nI j956)]) (rest := []) ⟨hx, hb, hml, hown, hts⟩ (k_X5_sheet l D cA NL c v w u ad (lwA s rr) (nI j956) hM (INV_bnd hi) (INV_wf hi) hN (by omega) (nI_pos (by omega)) (nI_lt (b := 4) (by omega) (by decide))) (cwV 1 hts gL_law_X5_sheet rfl rfl rfl (by decide +kernel) ⟨Nat.le_of_ble_eq_true rfl, Nat.le_of_ble_eq_true rfl⟩) (pc_preV pcN_ok hX hW.1 hM.1 rfl rfl ⟨hW.1, hW.2.1, fun q h => hA q (Nat.le_trans hW.2.2.1 h)⟩) rfl rfl hl.1 rfl (lv_room (Nat.le_of_ble_eq_true rfl)) dL_law_49 ⟨(by show _ ≤ (600074 : Nat); omega), (by show _ ≤ (7301550 : Nat); omega)⟩) hW.2.2 (fun z957r z957 H locs hwz957 hB hS9 => ?_)
  obtain ⟨NL958, ad959⟩ := z957
  obtain ⟨rfl, hM960, hN961, hA962⟩ := hwz957
  have hA962 : ad959 5 0 = ad 5 0 := hA962
  have hW : pcS D vwCl (lwA s rr) H1 NL958 ad959 (ctO cA (uC c 0 (c 0 + 1)) (V_X5_sheet c v w (nI j956)) (W_X5_sheet c v w (nI j956)) u ad959) H locs := ⟨hB.1, hB.2, hS9⟩
  have hl : lv_has ls 13 [(4, .ref rr), (3, .int (nI (c 0))), (2, .int (nI n)), (1, .ref (ad959 5 0)), (0, .ref b)] := by rw [hA962]; exact hl
  have hd1 := (ini_sheet hini (nI j956)).1
  have hz1 := (ini_sheet hini (nI j956)).2
  have hk9 : c 0 < uC c 0 (c 0 + 1) 0 := by simp [uC]
  refine lv_iload_n hx hb dL_law_52 rfl (lv_at hl 1 rfl) ?_
  refine lv_icmp_ne (tgt := 100) hx hb dL_law_53 (by decide) (fun c963 => absurd c963 (fun q => q rfl)) (fun _ => ?_)
  refine lv_aload_n hx hb dL_law_56 rfl (lv_at hl 3 rfl) ?_
  refine lv_iload_n hx hb dL_law_57 rfl (lv_at hl 1 rfl) ?_
  refine lv_aload hx hb dL_law_58 (lv_at hl 0 rfl) ?_
  refine lv_iconst (v := 0) hx hb dL_law_60 (by decide) ?_
  have hPr := rr_kept hPr0 hrl hW
  refine va_iald hx hb hX.1 hPr 0 0 rfl rfl (vp_in_nI (n := 0) (by decide) (by decide)) dL_law_61 ?_
  rw [rg0]
  refine lv_aload hx hb dL_law_62 (lv_at hl 0 rfl) ?_
  refine lv_iconst (v := 1) hx hb dL_law_64 (by decide) ?_
  have hPr := rr_kept hPr0 hrl hW
  refine va_iald hx hb hX.1 hPr 0 0 rfl rfl (vp_in_nI (n := 1) (by decide) (by decide)) dL_law_65 ?_
  rw [rg1]
  refine lv_aload hx hb dL_law_66 (lv_at hl 0 rfl) ?_
  refine lv_iconst (v := 2) hx hb dL_law_68 (by decide) ?_
  have hPr := rr_kept hPr0 hrl hW
  refine va_iald hx hb hX.1 hPr 0 0 rfl rfl (vp_in_nI (n := 2) (by decide) (by decide)) dL_law_69 ?_
  rw [rg2]
  refine lv_aload hx hb dL_law_70 (lv_at hl 0 rfl) ?_
  refine lv_iconst (v := 3) hx hb dL_law_72 (by decide) ?_
  have hPr := rr_kept hPr0 hrl hW
  refine va_iald hx hb hX.1 hPr 0 0 rfl rfl (vp_in_nI (n := 3) (by decide) (by decide)) dL_law_73 ?_
  rw [rg3]
  refine lv_sipush (v := 255) hx hb dL_law_74 (by decide) ?_
  have hD9 := hW.2.1
  refine pc_mcalli (va_runV (As := [.int (nI (c 0)), .int (nI ug.1), .int (nI ug.2.1), .int (nI ug.2.2.1), .int (nI ug.2.2.2), .int 255]) (rest := []) ⟨hx, hb, hml, hown, hts⟩ (m_X5_draw l D cA NL958 (uC c 0 (c 0 + 1)) (V_X5_sheet c v w (nI j956)) (W_X5_sheet c v w (nI j956)) u ad959 (lwA s rr) (nI (c 0)) (nI ug.1) (nI ug.2.1) (nI ug.2.2.1) (nI ug.2.2.2) (255 : Int32) hM960 (DRA_bnd hd1 hk5) (DRA_wf hd1 hk5) (nI_nn (Nat.lt_of_lt_of_le hk9 (Nat.le_trans (DRA_bnd hd1 hk5).1 (by decide)))) (by rw [nI_clamp (Nat.lt_of_lt_of_le hk9 (Nat.le_trans (DRA_bnd hd1 hk5).1 (by decide)))]; exact hk9) (rg_ok hug).1 (rg_ok hug).2.1 (rg_ok hug).2.2.1 (rg_ok hug).2.2.2.1 (rg_ok hug).2.2.2.2.1 (rg_ok hug).2.2.2.2.2 (by decide) (by decide) ((ini_last hd1 hk5).2.1 hz1)) (cwV 6 hts gL_law_X5_draw rfl rfl rfl (by decide +kernel) ⟨Nat.le_of_ble_eq_true rfl, Nat.le_of_ble_eq_true rfl⟩) (pc_preV pcN_ok hX hW.1 hM960.1 rfl rfl ⟨hW.1, hW.2.1, fun q h => hA q (Nat.le_trans hW.2.2.1 h)⟩) rfl rfl hl.1 rfl (lv_room (Nat.le_of_ble_eq_true rfl)) dL_law_77 ⟨(by show _ ≤ (600074 : Nat); omega), (by show _ ≤ (7301550 : Nat); omega)⟩) hW.2.2 (fun r964 _ H locs hwr964 hB hS9 => ?_)
  replace hwr964 := hwr964.symm
  subst hwr964
  have hW : pcS D vwCl (lwA s rr) H1 NL958 ad959 (ctO cA (uC c 0 (c 0 + 1)) (V_X5_draw (uC c 0 (c 0 + 1)) (V_X5_sheet c v w (nI j956)) (W_X5_sheet c v w (nI j956)) (nI (c 0)) (nI ug.1) (nI ug.2.1) (nI ug.2.2.1) (nI ug.2.2.2) (255 : Int32)) (W_X5_draw (uC c 0 (c 0 + 1)) (V_X5_sheet c v w (nI j956)) (W_X5_sheet c v w (nI j956)) (nI (c 0)) (nI ug.1) (nI ug.2.1) (nI ug.2.2.1) (nI ug.2.2.2) (255 : Int32)) u ad959) H locs := ⟨hB, pcD_ct hD9, hS9⟩
  obtain ⟨hd2, hz2, hg2⟩ := ini_draw hd1 hk5 (nI ug.1) (nI ug.2.1) (nI ug.2.2.1) (nI ug.2.2.2) (255 : Int32)
  have hz2 := hz2.trans hz1
  refine lv_iconst (v := 1) hx hb dL_law_80 (by decide) ?_
  refine lv_icmp_lt (tgt := 100) hx hb dL_law_81 (by decide) (fun c965 => absurd c965 (fields_pos hug.1 hug.2.1 hug.2.2.1 hug.2.2.2)) (fun _ => ?_)
  refine lv_aload_n hx hb dL_law_84 rfl (lv_at hl 3 rfl) ?_
  refine lv_iload_n hx hb dL_law_85 rfl (lv_at hl 1 rfl) ?_
  have hD9 := hW.2.1
  refine pc_mcalli (va_runV (As := [.int (nI (c 0))]) (rest := []) ⟨hx, hb, hml, hown, hts⟩ (m_X5_check l D cA NL958 (uC c 0 (c 0 + 1)) (V_X5_draw (uC c 0 (c 0 + 1)) (V_X5_sheet c v w (nI j956)) (W_X5_sheet c v w (nI j956)) (nI (c 0)) (nI ug.1) (nI ug.2.1) (nI ug.2.2.1) (nI ug.2.2.2) (255 : Int32)) (W_X5_draw (uC c 0 (c 0 + 1)) (V_X5_sheet c v w (nI j956)) (W_X5_sheet c v w (nI j956)) (nI (c 0)) (nI ug.1) (nI ug.2.1) (nI ug.2.2.1) (nI ug.2.2.2) (255 : Int32)) u ad959 (lwA s rr) (nI (c 0)) hM960 (DRA_bnd hd2 hk5) (DRA_wf hd2 hk5) (nI_nn (Nat.lt_of_lt_of_le hk9 (Nat.le_trans (DRA_bnd hd2 hk5).1 (by decide)))) (by rw [nI_clamp (Nat.lt_of_lt_of_le hk9 (Nat.le_trans (DRA_bnd hd2 hk5).1 (by decide)))]; exact hk9) ((ini_last hd2 hk5).2.1 hz2)) (cwV 1 hts gL_law_X5_check rfl rfl rfl (by decide +kernel) ⟨Nat.le_of_ble_eq_true rfl, Nat.le_of_ble_eq_true rfl⟩) (pc_preV pcN_ok hX hW.1 hM960.1 rfl rfl ⟨hW.1, hW.2.1, fun q h => hA q (Nat.le_trans hW.2.2.1 h)⟩) rfl rfl hl.1 rfl (lv_room (Nat.le_of_ble_eq_true rfl)) dL_law_86 ⟨(by show _ ≤ (600074 : Nat); omega), (by show _ ≤ (7301550 : Nat); omega)⟩) hW.2.2 (fun r966 _ H locs hwr966 hB hS9 => ?_)
  replace hwr966 := hwr966.symm
  subst hwr966
  have hW : pcS D vwCl (lwA s rr) H1 NL958 ad959 (ctO cA (uC c 0 (c 0 + 1)) (V_X5_check (uC c 0 (c 0 + 1)) (V_X5_draw (uC c 0 (c 0 + 1)) (V_X5_sheet c v w (nI j956)) (W_X5_sheet c v w (nI j956)) (nI (c 0)) (nI ug.1) (nI ug.2.1) (nI ug.2.2.1) (nI ug.2.2.2) (255 : Int32)) (W_X5_draw (uC c 0 (c 0 + 1)) (V_X5_sheet c v w (nI j956)) (W_X5_sheet c v w (nI j956)) (nI (c 0)) (nI ug.1) (nI ug.2.1) (nI ug.2.2.1) (nI ug.2.2.2) (255 : Int32)) (nI (c 0))) (W_X5_draw (uC c 0 (c 0 + 1)) (V_X5_sheet c v w (nI j956)) (W_X5_sheet c v w (nI j956)) (nI (c 0)) (nI ug.1) (nI ug.2.1) (nI ug.2.2.1) (nI ug.2.2.2) (255 : Int32)) u ad959) H locs := ⟨hB, pcD_ct hD9, hS9⟩
  obtain ⟨hd3, hz3, hc3⟩ := ini_check hd2 hk5
  refine lv_if_ne (tgt := 100) hx hb dL_law_89 (by decide) (fun c967 => absurd c967 (fun q => q hc3)) (fun _ => ?_)
  refine lv_aload_n hx hb dL_law_92 rfl (lv_at hl 3 rfl) ?_
  refine lv_iload_n hx hb dL_law_93 rfl (lv_at hl 1 rfl) ?_
  have hD9 := hW.2.1
  refine pc_mcalli (va_runV (As := [.int (nI (c 0))]) (rest := []) ⟨hx, hb, hml, hown, hts⟩ (m_X5_issue l D cA NL958 (uC c 0 (c 0 + 1)) (V_X5_check (uC c 0 (c 0 + 1)) (V_X5_draw (uC c 0 (c 0 + 1)) (V_X5_sheet c v w (nI j956)) (W_X5_sheet c v w (nI j956)) (nI (c 0)) (nI ug.1) (nI ug.2.1) (nI ug.2.2.1) (nI ug.2.2.2) (255 : Int32)) (W_X5_draw (uC c 0 (c 0 + 1)) (V_X5_sheet c v w (nI j956)) (W_X5_sheet c v w (nI j956)) (nI (c 0)) (nI ug.1) (nI ug.2.1) (nI ug.2.2.1) (nI ug.2.2.2) (255 : Int32)) (nI (c 0))) (W_X5_draw (uC c 0 (c 0 + 1)) (V_X5_sheet c v w (nI j956)) (W_X5_sheet c v w (nI j956)) (nI (c 0)) (nI ug.1) (nI ug.2.1) (nI ug.2.2.1) (nI ug.2.2.2) (255 : Int32)) u ad959 (lwA s rr) (nI (c 0)) hM960 (DRA_bnd hd3 hk5) (DRA_wf hd3 hk5) (nI_nn (Nat.lt_of_lt_of_le hk9 (Nat.le_trans (DRA_bnd hd3 hk5).1 (by decide)))) (by rw [nI_clamp (Nat.lt_of_lt_of_le hk9 (Nat.le_trans (DRA_bnd hd3 hk5).1 (by decide)))]; exact hk9) ((ini_last hd3 hk5).2.2.1 hz3)) (cwV 1 hts gL_law_X5_issue rfl rfl rfl (by decide +kernel) ⟨Nat.le_of_ble_eq_true rfl, Nat.le_of_ble_eq_true rfl⟩) (pc_preV pcN_ok hX hW.1 hM960.1 rfl rfl ⟨hW.1, hW.2.1, fun q h => hA q (Nat.le_trans hW.2.2.1 h)⟩) rfl rfl hl.1 rfl (lv_room (Nat.le_of_ble_eq_true rfl)) dL_law_94 ⟨(by show _ ≤ (600074 : Nat); omega), (by show _ ≤ (7301550 : Nat); omega)⟩) hW.2.2 (fun r968 _ H locs hwr968 hB hS9 => ?_)
  replace hwr968 := hwr968.symm
  subst hwr968
  have hW : pcS D vwCl (lwA s rr) H1 NL958 ad959 (ctO cA (uC c 0 (c 0 + 1)) (V_X5_issue (uC c 0 (c 0 + 1)) (V_X5_check (uC c 0 (c 0 + 1)) (V_X5_draw (uC c 0 (c 0 + 1)) (V_X5_sheet c v w (nI j956)) (W_X5_sheet c v w (nI j956)) (nI (c 0)) (nI ug.1) (nI ug.2.1) (nI ug.2.2.1) (nI ug.2.2.2) (255 : Int32)) (W_X5_draw (uC c 0 (c 0 + 1)) (V_X5_sheet c v w (nI j956)) (W_X5_sheet c v w (nI j956)) (nI (c 0)) (nI ug.1) (nI ug.2.1) (nI ug.2.2.1) (nI ug.2.2.2) (255 : Int32)) (nI (c 0))) (W_X5_draw (uC c 0 (c 0 + 1)) (V_X5_sheet c v w (nI j956)) (W_X5_sheet c v w (nI j956)) (nI (c 0)) (nI ug.1) (nI ug.2.1) (nI ug.2.2.1) (nI ug.2.2.2) (255 : Int32)) (nI (c 0))) (W_X5_issue (uC c 0 (c 0 + 1)) (V_X5_check (uC c 0 (c 0 + 1)) (V_X5_draw (uC c 0 (c 0 + 1)) (V_X5_sheet c v w (nI j956)) (W_X5_sheet c v w (nI j956)) (nI (c 0)) (nI ug.1) (nI ug.2.1) (nI ug.2.2.1) (nI ug.2.2.2) (255 : Int32)) (W_X5_draw (uC c 0 (c 0 + 1)) (V_X5_sheet c v w (nI j956)) (W_X5_sheet c v w (nI j956)) (nI (c 0)) (nI ug.1) (nI ug.2.1) (nI ug.2.2.1) (nI ug.2.2.2) (255 : Int32)) (nI (c 0))) (W_X5_draw (uC c 0 (c 0 + 1)) (V_X5_sheet c v w (nI j956)) (W_X5_sheet c v w (nI j956)) (nI (c 0)) (nI ug.1) (nI ug.2.1) (nI ug.2.2.1) (nI ug.2.2.2) (255 : Int32)) (nI (c 0))) u ad959) H locs := ⟨hB, pcD_ct hD9, hS9⟩
  have hR : REG _ := ⟨ug.1, ug.2.1, ug.2.2.1, ug.2.2.2, hug.1, hug.2.1, hug.2.2.1, hug.2.2.2, hg2⟩
  obtain ⟨hd4, hz4⟩ := ini_issue hd3 hk5 hR
  refine lv_if_eq (tgt := 102) hx hb dL_law_97 (by decide) (fun _ => ?_) (fun c969 => absurd hz4 c969)
  refine lv_iinc (v := nI ((c 0) + 1)) (lv' := [(3, .int (nI ((c 0) + 1))), (4, .ref rr), (2, .int (nI n)), (1, .ref (ad959 5 0)), (0, .ref b)]) hx hb dL_law_102 hl (k := 1) rfl (nI_1 (c 0)) (by decide) rfl (fun ls hl => ?_)
  refine lv_goto (tgt := 22) hx hb dL_law_105 (by decide) ?_
  refine W.widen (k := 20 + 10 * (c 0 + 1)) (n := 200 + 60 * (c 0 + 1)) (by omega) (by omega) ?_
  exact next (uC c 0 (c 0 + 1)) (V_X5_issue (uC c 0 (c 0 + 1)) (V_X5_check (uC c 0 (c 0 + 1)) (V_X5_draw (uC c 0 (c 0 + 1)) (V_X5_sheet c v w (nI j956)) (W_X5_sheet c v w (nI j956)) (nI (c 0)) (nI ug.1) (nI ug.2.1) (nI ug.2.2.1) (nI ug.2.2.2) (255 : Int32)) (W_X5_draw (uC c 0 (c 0 + 1)) (V_X5_sheet c v w (nI j956)) (W_X5_sheet c v w (nI j956)) (nI (c 0)) (nI ug.1) (nI ug.2.1) (nI ug.2.2.1) (nI ug.2.2.2) (255 : Int32)) (nI (c 0))) (W_X5_draw (uC c 0 (c 0 + 1)) (V_X5_sheet c v w (nI j956)) (W_X5_sheet c v w (nI j956)) (nI (c 0)) (nI ug.1) (nI ug.2.1) (nI ug.2.2.1) (nI ug.2.2.2) (255 : Int32)) (nI (c 0))) (W_X5_issue (uC c 0 (c 0 + 1)) (V_X5_check (uC c 0 (c 0 + 1)) (V_X5_draw (uC c 0 (c 0 + 1)) (V_X5_sheet c v w (nI j956)) (W_X5_sheet c v w (nI j956)) (nI (c 0)) (nI ug.1) (nI ug.2.1) (nI ug.2.2.1) (nI ug.2.2.2) (255 : Int32)) (W_X5_draw (uC c 0 (c 0 + 1)) (V_X5_sheet c v w (nI j956)) (W_X5_sheet c v w (nI j956)) (nI (c 0)) (nI ug.1) (nI ug.2.1) (nI ug.2.2.1) (nI ug.2.2.2) (255 : Int32)) (nI (c 0))) (W_X5_draw (uC c 0 (c 0 + 1)) (V_X5_sheet c v w (nI j956)) (W_X5_sheet c v w (nI j956)) (nI (c 0)) (nI ug.1) (nI ug.2.1) (nI ug.2.2.1) (nI ug.2.2.2) (255 : Int32)) (nI (c 0))) u NL958 ad959 H locs ls hd4 hM960 hN961 (pcS_back hS0 hW) (lv_sub hl [0, 2, 3, 4] rfl)

set_option maxHeartbeats 4000000 in
set_option maxRecDepth 100000 in
theorem law_sent {p : Program} {e : Env} {s : State} {m : MethodId} {below : List Frame} {meth : Method} {c0 : Code} {l : Launch} {b L : Nat} {xs : Nat → Int32} {D : va_G} {cA : Nat → ClassId} (C1 : law_C p l s m meth c0 b L xs D cA) {c : SC} {v : SV} {w : SW} {u : Nat → Int32} {NL : List (Nat × Nat)} {ad : Nat → Nat → Nat} {locs : List Loc} {H : Heap} (hini : INI c v w (c 0)) (h2n : 2 ≤ c 0) (hn5 : c 0 ≤ 5) (hM : MEM c NL) (hN : NMEM c NL) (hW : pcS D vwCl (lwA0 s) s.heap NL ad (ctO cA c v w u ad) H locs) (ls : Array Slot) (hl : lv_has ls 13 [(3, .int (nI (c 0))), (2, .int (nI (c 0))), (1, .ref (ad 5 0)), (0, .ref b)]) : W p l e room_1 s m #[Value.ref b] below meth c0 H locs 100 1000 (lw_Z below #[Value.ref b] s) (F0 m 108 ls []) := by
  obtain ⟨hx, hb, hr, hml, hown, hts, hlocks, hX, hsc, hbl, hL⟩ := id C1
  have hbA : ¬ lwA0 s b := Nat.not_le.mpr hbl
  have hi := INI_inv hini hn5
  have h1n : 1 ≤ c 0 := by omega
  have hA : ∀ q : Nat, s.heap.size ≤ q → lwA0 s q := fun _ h => h
  refine lv_aload_n hx hb dL_law_108 rfl (lv_at hl 2 rfl) ?_
  refine lv_bipush (v := 15) hx hb dL_law_109 (by decide) ?_
  refine lv_iconst (v := 1) hx hb dL_law_111 (by decide) ?_
  refine lv_iload_n hx hb dL_law_112 rfl (lv_at hl 1 rfl) ?_
  refine lv_ishl hx hb dL_law_113 ?_
  refine lv_iconst (v := 1) hx hb dL_law_114 (by decide) ?_
  refine lv_isub hx hb dL_law_115 ?_
  refine pc_mcalli (S := List (Nat × Nat) × (Nat → Nat → Nat)) (post := fun r z => r = nI (c 2) ∧ MEM (uC c 2 (c 2 + 1)) z.1 ∧ NMEM (uC c 2 (c 2 + 1)) z.1 ∧ z.2 5 0 = ad 5 0) (B := fun z H9 => va_P D vwCl (pcW z.1 z.2 (ctO cA (uC c 2 (c 2 + 1)) (V_X5_send c v w (15 : Int32) (((1 : Int32) <<< ((nI (c 0)) &&& 31)) - (1 : Int32))) w u z.2)) H9 ∧ va_D (lwA0 s) (pcW z.1 z.2 (ctO cA (uC c 2 (c 2 + 1)) (V_X5_send c v w (15 : Int32) (((1 : Int32) <<< ((nI (c 0)) &&& 31)) - (1 : Int32))) w u z.2))) (va_runV (As := [.int 15, .int (((1 : Int32) <<< ((nI (c 0)) &&& 31)) - (1 : Int32))]) (rest := []) ⟨hx, hb, hml, hown, hts⟩ (k_X5_send l D cA NL c v w u ad (lwA0 s) (15 : Int32) (((1 : Int32) <<< ((nI (c 0)) &&& 31)) - (1 : Int32)) hM (INV_bnd hi) (INV_wf hi) hN (by have := hini.1; omega) (by decide) (by decide) (isSet (setAll (by omega) (by omega))) (allIssued (INV_all hi))) (cwV 2 hts gL_law_X5_send rfl rfl rfl (by decide +kernel) ⟨Nat.le_of_ble_eq_true rfl, Nat.le_of_ble_eq_true rfl⟩) (pc_preV pcN_ok hX hW.1 hM.1 rfl rfl ⟨hW.1, hW.2.1, fun q h => hA q (Nat.le_trans hW.2.2.1 h)⟩) rfl rfl hl.1 rfl (lv_room (Nat.le_of_ble_eq_true rfl)) dL_law_116 ⟨(by show _ ≤ (600074 : Nat); omega), (by show _ ≤ (7301550 : Nat); omega)⟩) hW.2.2 (fun z970r z970 H locs hwz970 hB hS9 => ?_)
  obtain ⟨NL971, ad972⟩ := z970
  obtain ⟨rfl, hM973, hN974, hA975⟩ := hwz970
  have hA975 : ad972 5 0 = ad 5 0 := hA975
  have hW : pcS D vwCl (lwA0 s) s.heap NL971 ad972 (ctO cA (uC c 2 (c 2 + 1)) (V_X5_send c v w (15 : Int32) (((1 : Int32) <<< ((nI (c 0)) &&& 31)) - (1 : Int32))) w u ad972) H locs := ⟨hB.1, hB.2, hS9⟩
  have hl : lv_has ls 13 [(3, .int (nI (c 0))), (2, .int (nI (c 0))), (1, .ref (ad972 5 0)), (0, .ref b)] := by rw [hA975]; exact hl
  have hs0 := ini_send hini h1n hn5
  have hc2 : uC c 2 (c 2 + 1) 2 = 1 := hs0.2.2.1
  have hr0 : 0 < uC c 2 (c 2 + 1) 2 := by omega
  refine lv_if_eq (tgt := 124) hx hb dL_law_119 (by decide) (fun _ => ?_) (fun c976 => absurd (by rw [hini.1.2.2.1]; rfl) c976)
  refine lv_iconst (v := 0) hx hb dL_law_124 (by decide) ?_
  refine lv_istore_n (lv' := [(3, .int 0), (2, .int (nI (c 0))), (1, .ref (ad972 5 0)), (0, .ref b)]) hx hb dL_law_125 rfl hl (by decide) rfl (fun ls hl => ?_)
  refine lv_iload_n hx hb dL_law_126 rfl (lv_at hl 0 rfl) ?_
  refine lv_iconst (v := 4) hx hb dL_law_127 (by decide) ?_
  refine lv_icmp_ge (tgt := 149) hx hb dL_law_128 (by decide) (fun c977 => absurd c977 (by decide)) (fun _ => ?_)
  refine lv_aload_n hx hb dL_law_131 rfl (lv_at hl 2 rfl) ?_
  refine lv_iconst (v := 0) hx hb dL_law_132 (by decide) ?_
  refine lv_iload_n hx hb dL_law_133 rfl (lv_at hl 0 rfl) ?_
  have hD9 := hW.2.1
  refine pc_mcalli (va_runV (As := [.int 0, .int 0]) (rest := []) ⟨hx, hb, hml, hown, hts⟩ (m_X5_receive l D cA NL971 (uC c 2 (c 2 + 1)) (V_X5_send c v w (15 : Int32) (((1 : Int32) <<< ((nI (c 0)) &&& 31)) - (1 : Int32))) w u ad972 (lwA0 s) (0 : Int32) (0 : Int32) hM973 (INV_bnd hs0.1) (INV_wf hs0.1) (nI_nn (Nat.lt_of_lt_of_le hr0 (Nat.le_trans (INV_bnd hs0.1).2.2.1 (by decide)))) (show (nI 0).toNatClampNeg < _ from by rw [nI_clamp (Nat.lt_of_lt_of_le hr0 (Nat.le_trans (INV_bnd hs0.1).2.2.1 (by decide)))]; exact hr0) (by decide) (by decide) (by rw [show (0 : Int32).toNatClampNeg = 0 from by decide]; rw [hs0.2.2.2.2.2.2.2]; decide +kernel)) (cwV 2 hts gL_law_X5_receive rfl rfl rfl (by decide +kernel) ⟨Nat.le_of_ble_eq_true rfl, Nat.le_of_ble_eq_true rfl⟩) (pc_preV pcN_ok hX hW.1 hM973.1 rfl rfl ⟨hW.1, hW.2.1, fun q h => hA q (Nat.le_trans hW.2.2.1 h)⟩) rfl rfl hl.1 rfl (lv_room (Nat.le_of_ble_eq_true rfl)) dL_law_134 ⟨(by show _ ≤ (600074 : Nat); omega), (by show _ ≤ (7301550 : Nat); omega)⟩) hW.2.2 (fun r978 _ H locs hwr978 hB hS9 => ?_)
  replace hwr978 := hwr978.symm
  subst hwr978
  have hW : pcS D vwCl (lwA0 s) s.heap NL971 ad972 (ctO cA (uC c 2 (c 2 + 1)) (V_X5_receive (uC c 2 (c 2 + 1)) (V_X5_send c v w (15 : Int32) (((1 : Int32) <<< ((nI (c 0)) &&& 31)) - (1 : Int32))) w (0 : Int32) (0 : Int32)) w u ad972) H locs := ⟨hB, pcD_ct hD9, hS9⟩
  have hs1 : SNT (uC c 2 (c 2 + 1)) (V_X5_receive (uC c 2 (c 2 + 1)) (V_X5_send c v w (15 : Int32) (((1 : Int32) <<< ((nI (c 0)) &&& 31)) - (1 : Int32))) w (0 : Int32) (0 : Int32)) w (c 0) 1 (15 &&& (((1 : Int32) <<< (nI 0 &&& 31)) ^^^ (-1 : Int32))) := (ini_receive (cr := 0) hs0 (by decide)).1
  refine lv_iload_n hx hb dL_law_137 rfl (lv_at hl 1 rfl) ?_
  refine lv_icmp_eq (tgt := 143) hx hb dL_law_138 (by decide) (fun _ => ?_) (fun c979 => absurd ((ini_receive (cr := 0) hs0 (by decide)).2) c979)
  refine lv_iinc (v := 1) (lv' := [(3, .int 1), (2, .int (nI (c 0))), (1, .ref (ad972 5 0)), (0, .ref b)]) hx hb dL_law_143 hl (k := 0) rfl (by decide) (by decide) rfl (fun ls hl => ?_)
  refine lv_goto (tgt := 126) hx hb dL_law_146 (by decide) ?_
  refine lv_iload_n hx hb dL_law_126 rfl (lv_at hl 0 rfl) ?_
  refine lv_iconst (v := 4) hx hb dL_law_127 (by decide) ?_
  refine lv_icmp_ge (tgt := 149) hx hb dL_law_128 (by decide) (fun c980 => absurd c980 (by decide)) (fun _ => ?_)
  refine lv_aload_n hx hb dL_law_131 rfl (lv_at hl 2 rfl) ?_
  refine lv_iconst (v := 0) hx hb dL_law_132 (by decide) ?_
  refine lv_iload_n hx hb dL_law_133 rfl (lv_at hl 0 rfl) ?_
  have hD9 := hW.2.1
  refine pc_mcalli (va_runV (As := [.int 0, .int 1]) (rest := []) ⟨hx, hb, hml, hown, hts⟩ (m_X5_receive l D cA NL971 (uC c 2 (c 2 + 1)) (V_X5_receive (uC c 2 (c 2 + 1)) (V_X5_send c v w (15 : Int32) (((1 : Int32) <<< ((nI (c 0)) &&& 31)) - (1 : Int32))) w (0 : Int32) (0 : Int32)) w u ad972 (lwA0 s) (0 : Int32) (1 : Int32) hM973 (INV_bnd hs1.1) (INV_wf hs1.1) (nI_nn (Nat.lt_of_lt_of_le hr0 (Nat.le_trans (INV_bnd hs1.1).2.2.1 (by decide)))) (show (nI 0).toNatClampNeg < _ from by rw [nI_clamp (Nat.lt_of_lt_of_le hr0 (Nat.le_trans (INV_bnd hs1.1).2.2.1 (by decide)))]; exact hr0) (by decide) (by decide) (by rw [show (0 : Int32).toNatClampNeg = 0 from by decide]; rw [hs1.2.2.2.2.2.2.2]; decide +kernel)) (cwV 2 hts gL_law_X5_receive rfl rfl rfl (by decide +kernel) ⟨Nat.le_of_ble_eq_true rfl, Nat.le_of_ble_eq_true rfl⟩) (pc_preV pcN_ok hX hW.1 hM973.1 rfl rfl ⟨hW.1, hW.2.1, fun q h => hA q (Nat.le_trans hW.2.2.1 h)⟩) rfl rfl hl.1 rfl (lv_room (Nat.le_of_ble_eq_true rfl)) dL_law_134 ⟨(by show _ ≤ (600074 : Nat); omega), (by show _ ≤ (7301550 : Nat); omega)⟩) hW.2.2 (fun r981 _ H locs hwr981 hB hS9 => ?_)
  replace hwr981 := hwr981.symm
  subst hwr981
  have hW : pcS D vwCl (lwA0 s) s.heap NL971 ad972 (ctO cA (uC c 2 (c 2 + 1)) (V_X5_receive (uC c 2 (c 2 + 1)) (V_X5_receive (uC c 2 (c 2 + 1)) (V_X5_send c v w (15 : Int32) (((1 : Int32) <<< ((nI (c 0)) &&& 31)) - (1 : Int32))) w (0 : Int32) (0 : Int32)) w (0 : Int32) (1 : Int32)) w u ad972) H locs := ⟨hB, pcD_ct hD9, hS9⟩
  have hs2 : SNT (uC c 2 (c 2 + 1)) (V_X5_receive (uC c 2 (c 2 + 1)) (V_X5_receive (uC c 2 (c 2 + 1)) (V_X5_send c v w (15 : Int32) (((1 : Int32) <<< ((nI (c 0)) &&& 31)) - (1 : Int32))) w (0 : Int32) (0 : Int32)) w (0 : Int32) (1 : Int32)) w (c 0) 2 ((15 &&& (((1 : Int32) <<< (nI 0 &&& 31)) ^^^ (-1 : Int32))) &&& (((1 : Int32) <<< (nI 1 &&& 31)) ^^^ (-1 : Int32))) := (ini_receive (cr := 1) hs1 (by decide)).1
  refine lv_iload_n hx hb dL_law_137 rfl (lv_at hl 1 rfl) ?_
  refine lv_icmp_eq (tgt := 143) hx hb dL_law_138 (by decide) (fun _ => ?_) (fun c982 => absurd ((ini_receive (cr := 1) hs1 (by decide)).2) c982)
  refine lv_iinc (v := 2) (lv' := [(3, .int 2), (2, .int (nI (c 0))), (1, .ref (ad972 5 0)), (0, .ref b)]) hx hb dL_law_143 hl (k := 0) rfl (by decide) (by decide) rfl (fun ls hl => ?_)
  refine lv_goto (tgt := 126) hx hb dL_law_146 (by decide) ?_
  refine lv_iload_n hx hb dL_law_126 rfl (lv_at hl 0 rfl) ?_
  refine lv_iconst (v := 4) hx hb dL_law_127 (by decide) ?_
  refine lv_icmp_ge (tgt := 149) hx hb dL_law_128 (by decide) (fun c983 => absurd c983 (by decide)) (fun _ => ?_)
  refine lv_aload_n hx hb dL_law_131 rfl (lv_at hl 2 rfl) ?_
  refine lv_iconst (v := 0) hx hb dL_law_132 (by decide) ?_
  refine lv_iload_n hx hb dL_law_133 rfl (lv_at hl 0 rfl) ?_
  have hD9 := hW.2.1
  refine pc_mcalli (va_runV (As := [.int 0, .int 2]) (rest := []) ⟨hx, hb, hml, hown, hts⟩ (m_X5_receive l D cA NL971 (uC c 2 (c 2 + 1)) (V_X5_receive (uC c 2 (c 2 + 1)) (V_X5_receive (uC c 2 (c 2 + 1)) (V_X5_send c v w (15 : Int32) (((1 : Int32) <<< ((nI (c 0)) &&& 31)) - (1 : Int32))) w (0 : Int32) (0 : Int32)) w (0 : Int32) (1 : Int32)) w u ad972 (lwA0 s) (0 : Int32) (2 : Int32) hM973 (INV_bnd hs2.1) (INV_wf hs2.1) (nI_nn (Nat.lt_of_lt_of_le hr0 (Nat.le_trans (INV_bnd hs2.1).2.2.1 (by decide)))) (show (nI 0).toNatClampNeg < _ from by rw [nI_clamp (Nat.lt_of_lt_of_le hr0 (Nat.le_trans (INV_bnd hs2.1).2.2.1 (by decide)))]; exact hr0) (by decide) (by decide) (by rw [show (0 : Int32).toNatClampNeg = 0 from by decide]; rw [hs2.2.2.2.2.2.2.2]; decide +kernel)) (cwV 2 hts gL_law_X5_receive rfl rfl rfl (by decide +kernel) ⟨Nat.le_of_ble_eq_true rfl, Nat.le_of_ble_eq_true rfl⟩) (pc_preV pcN_ok hX hW.1 hM973.1 rfl rfl ⟨hW.1, hW.2.1, fun q h => hA q (Nat.le_trans hW.2.2.1 h)⟩) rfl rfl hl.1 rfl (lv_room (Nat.le_of_ble_eq_true rfl)) dL_law_134 ⟨(by show _ ≤ (600074 : Nat); omega), (by show _ ≤ (7301550 : Nat); omega)⟩) hW.2.2 (fun r984 _ H locs hwr984 hB hS9 => ?_)
  replace hwr984 := hwr984.symm
  subst hwr984
  have hW : pcS D vwCl (lwA0 s) s.heap NL971 ad972 (ctO cA (uC c 2 (c 2 + 1)) (V_X5_receive (uC c 2 (c 2 + 1)) (V_X5_receive (uC c 2 (c 2 + 1)) (V_X5_receive (uC c 2 (c 2 + 1)) (V_X5_send c v w (15 : Int32) (((1 : Int32) <<< ((nI (c 0)) &&& 31)) - (1 : Int32))) w (0 : Int32) (0 : Int32)) w (0 : Int32) (1 : Int32)) w (0 : Int32) (2 : Int32)) w u ad972) H locs := ⟨hB, pcD_ct hD9, hS9⟩
  have hs3 : SNT (uC c 2 (c 2 + 1)) (V_X5_receive (uC c 2 (c 2 + 1)) (V_X5_receive (uC c 2 (c 2 + 1)) (V_X5_receive (uC c 2 (c 2 + 1)) (V_X5_send c v w (15 : Int32) (((1 : Int32) <<< ((nI (c 0)) &&& 31)) - (1 : Int32))) w (0 : Int32) (0 : Int32)) w (0 : Int32) (1 : Int32)) w (0 : Int32) (2 : Int32)) w (c 0) 3 (((15 &&& (((1 : Int32) <<< (nI 0 &&& 31)) ^^^ (-1 : Int32))) &&& (((1 : Int32) <<< (nI 1 &&& 31)) ^^^ (-1 : Int32))) &&& (((1 : Int32) <<< (nI 2 &&& 31)) ^^^ (-1 : Int32))) := (ini_receive (cr := 2) hs2 (by decide)).1
  refine lv_iload_n hx hb dL_law_137 rfl (lv_at hl 1 rfl) ?_
  refine lv_icmp_eq (tgt := 143) hx hb dL_law_138 (by decide) (fun _ => ?_) (fun c985 => absurd ((ini_receive (cr := 2) hs2 (by decide)).2) c985)
  refine lv_iinc (v := 3) (lv' := [(3, .int 3), (2, .int (nI (c 0))), (1, .ref (ad972 5 0)), (0, .ref b)]) hx hb dL_law_143 hl (k := 0) rfl (by decide) (by decide) rfl (fun ls hl => ?_)
  refine lv_goto (tgt := 126) hx hb dL_law_146 (by decide) ?_
  refine lv_iload_n hx hb dL_law_126 rfl (lv_at hl 0 rfl) ?_
  refine lv_iconst (v := 4) hx hb dL_law_127 (by decide) ?_
  refine lv_icmp_ge (tgt := 149) hx hb dL_law_128 (by decide) (fun c986 => absurd c986 (by decide)) (fun _ => ?_)
  refine lv_aload_n hx hb dL_law_131 rfl (lv_at hl 2 rfl) ?_
  refine lv_iconst (v := 0) hx hb dL_law_132 (by decide) ?_
  refine lv_iload_n hx hb dL_law_133 rfl (lv_at hl 0 rfl) ?_
  have hD9 := hW.2.1
  refine pc_mcalli (va_runV (As := [.int 0, .int 3]) (rest := []) ⟨hx, hb, hml, hown, hts⟩ (m_X5_receive l D cA NL971 (uC c 2 (c 2 + 1)) (V_X5_receive (uC c 2 (c 2 + 1)) (V_X5_receive (uC c 2 (c 2 + 1)) (V_X5_receive (uC c 2 (c 2 + 1)) (V_X5_send c v w (15 : Int32) (((1 : Int32) <<< ((nI (c 0)) &&& 31)) - (1 : Int32))) w (0 : Int32) (0 : Int32)) w (0 : Int32) (1 : Int32)) w (0 : Int32) (2 : Int32)) w u ad972 (lwA0 s) (0 : Int32) (3 : Int32) hM973 (INV_bnd hs3.1) (INV_wf hs3.1) (nI_nn (Nat.lt_of_lt_of_le hr0 (Nat.le_trans (INV_bnd hs3.1).2.2.1 (by decide)))) (show (nI 0).toNatClampNeg < _ from by rw [nI_clamp (Nat.lt_of_lt_of_le hr0 (Nat.le_trans (INV_bnd hs3.1).2.2.1 (by decide)))]; exact hr0) (by decide) (by decide) (by rw [show (0 : Int32).toNatClampNeg = 0 from by decide]; rw [hs3.2.2.2.2.2.2.2]; decide +kernel)) (cwV 2 hts gL_law_X5_receive rfl rfl rfl (by decide +kernel) ⟨Nat.le_of_ble_eq_true rfl, Nat.le_of_ble_eq_true rfl⟩) (pc_preV pcN_ok hX hW.1 hM973.1 rfl rfl ⟨hW.1, hW.2.1, fun q h => hA q (Nat.le_trans hW.2.2.1 h)⟩) rfl rfl hl.1 rfl (lv_room (Nat.le_of_ble_eq_true rfl)) dL_law_134 ⟨(by show _ ≤ (600074 : Nat); omega), (by show _ ≤ (7301550 : Nat); omega)⟩) hW.2.2 (fun r987 _ H locs hwr987 hB hS9 => ?_)
  replace hwr987 := hwr987.symm
  subst hwr987
  have hW : pcS D vwCl (lwA0 s) s.heap NL971 ad972 (ctO cA (uC c 2 (c 2 + 1)) (V_X5_receive (uC c 2 (c 2 + 1)) (V_X5_receive (uC c 2 (c 2 + 1)) (V_X5_receive (uC c 2 (c 2 + 1)) (V_X5_receive (uC c 2 (c 2 + 1)) (V_X5_send c v w (15 : Int32) (((1 : Int32) <<< ((nI (c 0)) &&& 31)) - (1 : Int32))) w (0 : Int32) (0 : Int32)) w (0 : Int32) (1 : Int32)) w (0 : Int32) (2 : Int32)) w (0 : Int32) (3 : Int32)) w u ad972) H locs := ⟨hB, pcD_ct hD9, hS9⟩
  have hs4 : SNT (uC c 2 (c 2 + 1)) (V_X5_receive (uC c 2 (c 2 + 1)) (V_X5_receive (uC c 2 (c 2 + 1)) (V_X5_receive (uC c 2 (c 2 + 1)) (V_X5_receive (uC c 2 (c 2 + 1)) (V_X5_send c v w (15 : Int32) (((1 : Int32) <<< ((nI (c 0)) &&& 31)) - (1 : Int32))) w (0 : Int32) (0 : Int32)) w (0 : Int32) (1 : Int32)) w (0 : Int32) (2 : Int32)) w (0 : Int32) (3 : Int32)) w (c 0) 4 ((((15 &&& (((1 : Int32) <<< (nI 0 &&& 31)) ^^^ (-1 : Int32))) &&& (((1 : Int32) <<< (nI 1 &&& 31)) ^^^ (-1 : Int32))) &&& (((1 : Int32) <<< (nI 2 &&& 31)) ^^^ (-1 : Int32))) &&& (((1 : Int32) <<< (nI 3 &&& 31)) ^^^ (-1 : Int32))) := (ini_receive (cr := 3) hs3 (by decide)).1
  refine lv_iload_n hx hb dL_law_137 rfl (lv_at hl 1 rfl) ?_
  refine lv_icmp_eq (tgt := 143) hx hb dL_law_138 (by decide) (fun _ => ?_) (fun c988 => absurd ((ini_receive (cr := 3) hs3 (by decide)).2) c988)
  refine lv_iinc (v := 4) (lv' := [(3, .int 4), (2, .int (nI (c 0))), (1, .ref (ad972 5 0)), (0, .ref b)]) hx hb dL_law_143 hl (k := 0) rfl (by decide) (by decide) rfl (fun ls hl => ?_)
  refine lv_goto (tgt := 126) hx hb dL_law_146 (by decide) ?_
  refine lv_iload_n hx hb dL_law_126 rfl (lv_at hl 0 rfl) ?_
  refine lv_iconst (v := 4) hx hb dL_law_127 (by decide) ?_
  refine lv_icmp_ge (tgt := 149) hx hb dL_law_128 (by decide) (fun _ => ?_) (fun c989 => absurd (by decide) c989)
  refine lv_iconst (v := 0) hx hb dL_law_149 (by decide) ?_
  refine lv_istore_n (lv' := [(3, .int 0), (2, .int (nI (c 0))), (1, .ref (ad972 5 0)), (0, .ref b)]) hx hb dL_law_150 rfl hl (by decide) rfl (fun ls hl => ?_)
  refine W.widen (k := 500 + 60 * 0) (n := 4000 + 300 * 0) (by omega) (by omega) ?_
  exact law_loop C1 40 0 (uC c 2 (c 2 + 1)) (V_X5_receive (uC c 2 (c 2 + 1)) (V_X5_receive (uC c 2 (c 2 + 1)) (V_X5_receive (uC c 2 (c 2 + 1)) (V_X5_receive (uC c 2 (c 2 + 1)) (V_X5_send c v w (15 : Int32) (((1 : Int32) <<< ((nI (c 0)) &&& 31)) - (1 : Int32))) w (0 : Int32) (0 : Int32)) w (0 : Int32) (1 : Int32)) w (0 : Int32) (2 : Int32)) w (0 : Int32) (3 : Int32)) w u NL971 ad972 H locs ls (by omega) hs4.1 h2n hM973 hN974 hW (lv_sub hl [0, 1, 2, 3] rfl)

theorem law_ini_end {p : Program} {e : Env} {s : State} {m : MethodId} {below : List Frame} {meth : Method} {c0 : Code} {l : Launch} {b L : Nat} {xs : Nat → Int32} {D : va_G} {cA : Nat → ClassId} (C1 : law_C p l s m meth c0 b L xs D cA) {c : SC} {v : SV} {w : SW} {u : Nat → Int32} {NL : List (Nat × Nat)} {ad : Nat → Nat → Nat} {locs : List Loc} {H : Heap} (hini : INI c v w (c 0)) (h2n : 2 ≤ c 0) (hn5 : c 0 ≤ 5) (hM : MEM c NL) (hN : NMEM c NL) (hW : pcS D vwCl (lwA0 s) s.heap NL ad (ctO cA c v w u ad) H locs) (ls : Array Slot) (hl : lv_has ls 13 [(3, .int (nI (c 0))), (2, .int (nI (c 0))), (1, .ref (ad 5 0)), (0, .ref b)]) : W p l e room_1 s m #[Value.ref b] below meth c0 H locs (20 + 10 * (c 0)) (200 + 60 * (c 0)) (lw_Z below #[Value.ref b] s) (F0 m 22 ls []) := by
  obtain ⟨hx, hb, hr, hml, hown, hts, hlocks, hX, hsc, hbl, hL⟩ := id C1
  refine lv_iload_n hx hb dL_law_22 rfl (lv_at hl 0 rfl) ?_
  refine lv_iload_n hx hb dL_law_23 rfl (lv_at hl 1 rfl) ?_
  refine lv_icmp_ge (tgt := 108) hx hb dL_law_24 (by decide) (fun _ => ?_) (fun q => absurd (Int32.le_refl _) q)
  refine W.widen (k := 100) (n := 1000) (by omega) (by omega) ?_
  exact law_sent C1 hini h2n hn5 hM hN hW ls hl
theorem law_inis {p : Program} {e : Env} {s : State} {m : MethodId} {below : List Frame} {meth : Method} {c0 : Code} {l : Launch} {b L : Nat} {xs : Nat → Int32} {D : va_G} {cA : Nat → ClassId} (C1 : law_C p l s m meth c0 b L xs D cA) {n : Nat} (h2n : 2 ≤ n) (hn5 : n ≤ 5) : ∀ (k : Nat) (c : SC) (v : SV) (w : SW) (u : Nat → Int32) (NL : List (Nat × Nat)) (ad : Nat → Nat → Nat) (H : Heap) (locs : List Loc) (ls : Array Slot), c 0 + k = n → INI c v w (c 0) → MEM c NL → NMEM c NL → pcS D vwCl (lwA0 s) s.heap NL ad (ctO cA c v w u ad) H locs → lv_has ls 13 [(3, .int (nI (c 0))), (2, .int (nI n)), (1, .ref (ad 5 0)), (0, .ref b)] → W p l e room_1 s m #[Value.ref b] below meth c0 H locs (20 + 10 * (c 0)) (200 + 60 * (c 0)) (lw_Z below #[Value.ref b] s) (F0 m 22 ls []) := by
  intro k
  induction k with
  | zero =>
    intro c v w u NL ad H locs ls hk hini hM hN hW hl
    obtain rfl : n = c 0 := by omega
    exact law_ini_end C1 hini h2n hn5 hM hN hW ls hl
  | succ k ih =>
    intro c v w u NL ad H locs ls hk hini hM hN hW hl
    refine law_ini C1 hini (by omega) hn5 hM hN hW ls hl (fun c2 v2 w2 u2 NL2 ad2 H locs ls a1 a2 a3 a4 a5 => ?_)
    have e : c2 0 = c 0 + 1 := a1.1.1
    have h := ih c2 v2 w2 u2 NL2 ad2 H locs ls (by omega) (by rw [e]; exact a1) a2 a3 a4 (by rw [e]; exact a5)
    rw [e] at h
    exact h

set_option maxHeartbeats 4000000 in
set_option maxRecDepth 100000 in
theorem law_start {p : Program} {e : Env} {s : State} {m : MethodId} {below : List Frame} {meth : Method} {c0 : Code} {l : Launch} {b L : Nat} {xs : Nat → Int32} {D : va_G} {cA : Nat → ClassId} (C1 : law_C p l s m meth c0 b L xs D cA) : W p l e room_1 s m #[Value.ref b] below meth c0 s.heap [] 0 0 (lw_Z below #[Value.ref b] s) (entryFrame m ([Value.ref b] : List Value).toArray 13) := by
  obtain ⟨hx, hb, hr, hml, hown, hts, hlocks, hX, hsc, hbl, hL⟩ := id C1
  have hbA : ¬ lwA0 s b := Nat.not_le.mpr hbl
  have hA : ∀ q : Nat, s.heap.size ≤ q → lwA0 s q := fun _ h => h
  have hS : va_S (lwA0 s) s.heap s.heap [] := va_S.rf
  have hP : va_P D vwCl [] s.heap := fun k q h => by simp at h
  have hD : va_D (lwA0 s) [] := ⟨fun i j x y h => by simp at h, fun k q h => by simp at h⟩
  have hl := lv_entry ([.ref b]) (n := 13) (Nat.le_of_ble_eq_true rfl)
  rw [lg_entry_eq]
  generalize (lg_sl ([.ref b]) ++ List.replicate (13 - (lg_sl ([.ref b])).length) Slot.unset).toArray = ls at hl ⊢
  have hl : lv_has ls 13 [(0, .ref b)] := hl
  refine va_new (ci := 5) (fs := [.null, .null, .null, .null, .null, .null, .null, .int 0, .int 0, .int 0, .int 0, .int 0, .int 0]) (C := RX5) (T := TX5) (N := 13) hx hb hts (by decide +kernel) tyX5 tyX5_ok hown (hts (.classLink RL 20 RX5) (by decide +kernel)) (hts (.instantiable RX5 13) (by decide +kernel)) (hts (.initialized RX5) (by decide +kernel)) hX.1 hP hD hS hA rfl (fun j hj => by rcases (show j = 0 ∨ j = 1 ∨ j = 2 ∨ j = 3 ∨ j = 4 ∨ j = 5 ∨ j = 6 ∨ j = 7 ∨ j = 8 ∨ j = 9 ∨ j = 10 ∨ j = 11 ∨ j = 12 by omega) with rfl | rfl | rfl | rfl | rfl | rfl | rfl | rfl | rfl | rfl | rfl | rfl | rfl <;> rfl) (Nat.le_of_ble_eq_true rfl) (Nat.le_of_ble_eq_true rfl) dL_law_0 (fun q990 H hP hD hS => ?_)
  have hP : va_P D vwCl [(q990, .inr (5, [.null, .null, .null, .null, .null, .null, .null, .int 0, .int 0, .int 0, .int 0, .int 0, .int 0]))] H := hP
  have hD : va_D (lwA0 s) [(q990, .inr (5, [.null, .null, .null, .null, .null, .null, .null, .int 0, .int 0, .int 0, .int 0, .int 0, .int 0]))] := hD
  refine W.widen (k := 1) (n := 13) (Nat.le_of_ble_eq_true rfl) (Nat.le_of_ble_eq_true rfl) ?_
  refine lv_dup hx hb dL_law_3 rfl ?_
  have hPc := hP.sub (ws' := [(q990, .inr (5, [.null, .null, .null, .null, .null, .null, .null, .int 0, .int 0, .int 0, .int 0, .int 0, .int 0]))]) [0] rfl
  have hDc := (hD.sub (ws' := [(q990, .inr (5, [.null, .null, .null, .null, .null, .null, .null, .int 0, .int 0, .int 0, .int 0, .int 0, .int 0]))]) [0] (by decide) rfl).self (sz := H.size)
  have hFc := va_free (wc := [(q990, .inr (5, [.null, .null, .null, .null, .null, .null, .null, .int 0, .int 0, .int 0, .int 0, .int 0, .int 0]))]) hD hS hA [0] rfl
  refine va_callv (va_runI (As := []) (rest := [.ref q990]) ⟨hx, hb, hml, hown, hts⟩ (l_X5_init l D cA (va_A [(q990, .inr (5, [.null, .null, .null, .null, .null, .null, .null, .int 0, .int 0, .int 0, .int 0, .int 0, .int 0]))] H.size) q990) (cwI 0 hts gL_law_X5_init rfl rfl rfl (hts (.initialized RX5) (by decide +kernel)) (hts (.methodLink RL 22 yX5_init) (by decide +kernel)) (hts (.instanceMethod yX5_init) (by decide +kernel)) rfl (by decide +kernel) ⟨Nat.le_of_ble_eq_true rfl, Nat.le_of_ble_eq_true rfl⟩) (pc_preS pcN_ok hX ⟨hPc, hDc, fun q h => Or.inr h⟩) rfl rfl hl.1 rfl (lv_room (Nat.le_of_ble_eq_true rfl)) dL_law_4 ⟨Nat.le_of_ble_eq_true rfl, Nat.le_of_ble_eq_true rfl⟩) hS (fun q _ h => hFc q h) hFc (fun u992 t H1 locs ht hvm hw hB hz1 hk1 hS => ?_)
  obtain ⟨q996, q997, q998, q999, q1000, q1001, q1002, q1003, q1004, q1005, q1006, hP1, hD1⟩ := hB
  rw [ht] at hP1
  obtain ⟨hP, hD⟩ := va_join (wr := []) (w1 := [(q990, .inr (5, [.ref q996, .ref q997, .ref q998, .ref q999, .ref q1000, .ref q1001, .ref q1002, .int 0, .int 0, .int 0, .int 0, .int 0, .int 0])), (q996, .inl (cA 3, 10, .inr (.inr (.inr (.inr (fun _ => none)))))), (q997, .inl (cA 4, 20, .inr (.inr (.inr (.inr (fun _ => none)))))), (q998, .inl (cA 5, 20, .inr (.inr (.inr (.inr (fun _ => none)))))), (q999, .inl (cA 6, 20, .inr (.inr (.inr (.inr (fun _ => none)))))), (q1000, .inl (cA 7, 8, .inr (.inr (.inr (.inr (fun _ => none)))))), (q1001, .inl (cA 2, 4, .inr (.inr (.inr (.inr (fun i => ([q1003, q1004, q1005, q1006] : List Nat)[i]?)))))), (q1002, .inl (cA 0, 10, .inl (fun _ => 0))), (q1003, .inl (cA 0, 10, .inl (fun _ => (-1)))), (q1004, .inl (cA 0, 10, .inl (fun _ => (-1)))), (q1005, .inl (cA 0, 10, .inl (fun _ => (-1)))), (q1006, .inl (cA 0, 10, .inl (fun _ => (-1))))]) hP hD [0] [] rfl rfl (by decide) (by decide) hk1 hFc hP1 hD1
  generalize H1 = H at hP hS ⊢
  have hP : va_P D vwCl [(q990, .inr (5, [.ref q996, .ref q997, .ref q998, .ref q999, .ref q1000, .ref q1001, .ref q1002, .int 0, .int 0, .int 0, .int 0, .int 0, .int 0])), (q996, .inl (cA 3, 10, .inr (.inr (.inr (.inr (fun _ => none)))))), (q997, .inl (cA 4, 20, .inr (.inr (.inr (.inr (fun _ => none)))))), (q998, .inl (cA 5, 20, .inr (.inr (.inr (.inr (fun _ => none)))))), (q999, .inl (cA 6, 20, .inr (.inr (.inr (.inr (fun _ => none)))))), (q1000, .inl (cA 7, 8, .inr (.inr (.inr (.inr (fun _ => none)))))), (q1001, .inl (cA 2, 4, .inr (.inr (.inr (.inr (fun i => ([q1003, q1004, q1005, q1006] : List Nat)[i]?)))))), (q1002, .inl (cA 0, 10, .inl (fun _ => 0))), (q1003, .inl (cA 0, 10, .inl (fun _ => (-1)))), (q1004, .inl (cA 0, 10, .inl (fun _ => (-1)))), (q1005, .inl (cA 0, 10, .inl (fun _ => (-1)))), (q1006, .inl (cA 0, 10, .inl (fun _ => (-1))))] H := hP
  have hD : va_D (lwA0 s) [(q990, .inr (5, [.ref q996, .ref q997, .ref q998, .ref q999, .ref q1000, .ref q1001, .ref q1002, .int 0, .int 0, .int 0, .int 0, .int 0, .int 0])), (q996, .inl (cA 3, 10, .inr (.inr (.inr (.inr (fun _ => none)))))), (q997, .inl (cA 4, 20, .inr (.inr (.inr (.inr (fun _ => none)))))), (q998, .inl (cA 5, 20, .inr (.inr (.inr (.inr (fun _ => none)))))), (q999, .inl (cA 6, 20, .inr (.inr (.inr (.inr (fun _ => none)))))), (q1000, .inl (cA 7, 8, .inr (.inr (.inr (.inr (fun _ => none)))))), (q1001, .inl (cA 2, 4, .inr (.inr (.inr (.inr (fun i => ([q1003, q1004, q1005, q1006] : List Nat)[i]?)))))), (q1002, .inl (cA 0, 10, .inl (fun _ => 0))), (q1003, .inl (cA 0, 10, .inl (fun _ => (-1)))), (q1004, .inl (cA 0, 10, .inl (fun _ => (-1)))), (q1005, .inl (cA 0, 10, .inl (fun _ => (-1)))), (q1006, .inl (cA 0, 10, .inl (fun _ => (-1))))] := hD
  refine W.widen (k := 12) (n := 145) (Nat.le_of_ble_eq_true rfl) (Nat.le_of_ble_eq_true rfl) ?_
  refine lv_astore_n (lv' := [(1, .ref q990), (0, .ref b)]) hx hb dL_law_7 rfl hl (by decide) rfl (fun ls hl => ?_)
  have hW : pcS D vwCl (lwA0 s) s.heap NL0 (adS q990 q996 q997 q998 q999 q1000 q1001 q1002 q1003 q1004 q1005 q1006) (ctO cA cS vS wS uS (adS q990 q996 q997 q998 q999 q1000 q1001 q1002 q1003 q1004 q1005 q1006)) H locs := by
    refine ⟨?_, ?_, hS⟩
    · rw [start_eq]; exact hP
    · rw [start_eq]; exact hD
  refine lv_iconst (v := 2) hx hb dL_law_8 (by decide) ?_
  refine lv_aload_n hx hb dL_law_9 rfl (lv_at hl 1 rfl) ?_
  refine lv_iconst (v := 0) hx hb dL_law_10 (by decide) ?_
  refine pc_rcalli (va_runS (As := [.ref b, .int 0]) (rest := [.int 2]) ⟨hx, hb, hml, hown, hts⟩ (r_L_cell l D cA b L xs hL (0 : Int32) (by decide)) (va_cwS 2 hts gL_law_L_cell rfl rfl rfl (by decide +kernel) ⟨Nat.le_of_ble_eq_true rfl, Nat.le_of_ble_eq_true rfl⟩) (pcX_preS hX (hsc.kept (hW.2.2.2.1 b hbl hbA))) rfl rfl hl.1 rfl (lv_room (Nat.le_of_ble_eq_true rfl)) dL_law_11 ⟨(by show _ ≤ (600074 : Nat); omega), (by show _ ≤ (7301550 : Nat); omega)⟩) hW (fun x1018 H locs _ hW => ?_)
  refine lv_iconst (v := 4) hx hb dL_law_14 (by decide) ?_
  refine pc_rcalli (va_runS (As := [.int x1018, .int 4]) (rest := [.int 2]) ⟨hx, hb, hml, hown, hts⟩ (r_L_below l D cA x1018 (4 : Int32) (by decide)) (va_cwS 2 hts gL_law_L_below rfl rfl rfl (by decide +kernel) ⟨Nat.le_of_ble_eq_true rfl, Nat.le_of_ble_eq_true rfl⟩) (pc_preS pcN_ok hX trivial) rfl rfl hl.1 rfl (lv_room (Nat.le_of_ble_eq_true rfl)) dL_law_15 ⟨(by show _ ≤ (600074 : Nat); omega), (by show _ ≤ (7301550 : Nat); omega)⟩) hW (fun r1019 H locs hwr1019 hW => ?_)
  replace hwr1019 := hwr1019.symm
  subst hwr1019
  obtain ⟨j1020, hj1020, ej1020⟩ : ∃ j, j < 4 ∧ (F_L_below x1018 (4 : Int32)) = nI j := below_ok _ 4 (by decide) (by decide)
  rw [ej1020]
  refine lv_iadd hx hb dL_law_18 ?_
  rw [show (2 : Int32) + nI j1020 = nI (j1020 + 2) from by rw [Int32.add_comm]; exact nI_add j1020 2]
  refine lv_istore_n (lv' := [(2, .int (nI (j1020 + 2))), (1, .ref ((adS q990 q996 q997 q998 q999 q1000 q1001 q1002 q1003 q1004 q1005 q1006) 5 0)), (0, .ref b)]) hx hb dL_law_19 rfl hl (by decide) rfl (fun ls hl => ?_)
  refine lv_iconst (v := 0) hx hb dL_law_20 (by decide) ?_
  refine lv_istore_n (lv' := [(3, .int 0), (2, .int (nI (j1020 + 2))), (1, .ref ((adS q990 q996 q997 q998 q999 q1000 q1001 q1002 q1003 q1004 q1005 q1006) 5 0)), (0, .ref b)]) hx hb dL_law_21 rfl hl (by decide) rfl (fun ls hl => ?_)
  refine W.widen (k := 20 + 10 * cS 0) (n := 200 + 60 * cS 0) (by show _ ≤ (20 : Nat); omega) (by show _ ≤ (200 : Nat); omega) ?_
  exact law_inis C1 (n := j1020 + 2) (by omega) (by omega) (j1020 + 2) cS vS wS uS NL0 (adS q990 q996 q997 q998 q999 q1000 q1001 q1002 q1003 q1004 q1005 q1006) H locs ls (by show 0 + (j1020 + 2) = j1020 + 2; omega) INI_0 MEM_0 NMEM_0 hW (lv_sub hl [0, 1, 2, 3] rfl)

theorem oa_C {s : State} {C : String} (h : va_AO C s) : ∃ cA : ClassId, ArrOfT s cA (.object C) ∧ va_RA s cA (.object C) := by
  obtain ⟨comp, cA, kA, h1, -, h2, h3, h4⟩ := Cond.arrayOver_spec h
  exact ⟨cA, fun n z => ⟨(fun k h => by cases h), kA, h2, comp, h3⟩, kA, comp, h2, h3, h1, h4⟩
theorem oa_A {s : State} {ty : FieldType} (h : va_AOA ty s) : ∃ cA : ClassId, ArrOfT s cA (.array ty) ∧ va_RA s cA (.array ty) := by
  obtain ⟨comp, cA, kA, h1, -, h2, h3, h4⟩ := Jvm.Stand.arrayOver_specB h
  exact ⟨cA, fun n z => ⟨(fun k h => by cases h), kA, h2, comp, h3⟩, h4⟩
theorem oa_P {args : Array Value} {s : State} {ty : FieldType} (h : (Cond.arrayClass ty).before args s = true) : ∃ cA : ClassId, ArrOfT s cA ty ∧ s.vm.findClass ("[" ++ ty.toString) = some cA := by
  obtain ⟨cA, kA, comp, h1, h2, h3⟩ := Cond.arrayClass_spec h
  exact ⟨cA, fun n z => ⟨(fun k h => by cases h), kA, h2, comp, h3⟩, h1⟩
theorem pcN_tbl : ∀ w ∈ pcN, w ∈ lw_tbl ∧ w.onTables = true := by decide +kernel
theorem pcAO_tbl : ∀ C ∈ pcAO, Cond.arrayOver (.object C) ∈ lw_tbl := by decide +kernel
theorem pcBA_tbl : ∀ ty ∈ pcBA, Cond.arrayOver (.array ty) ∈ lw_tbl := by decide +kernel
set_option maxHeartbeats 4000000 in
set_option maxRecDepth 100000 in
theorem whole_start {p : Program} {e : Env} {s : State} {m : MethodId} {below : List Frame} {meth : Method} {c : Code} (l : Launch) (hflags : l.flags = flags0) {b L : Nat} {xs : Nat → Int32} (hL : L ≤ 260) (C0 : lw_At p s m meth c b L xs) : W p l e room_1 s m #[Value.ref b] below meth c s.heap [] 0 0 (lw_Z below #[Value.ref b] s) (entryFrame m ([Value.ref b] : List Value).toArray 13) := by
  obtain ⟨hx, hb, hr, hml, hown, hts0, hsc, hbl, hlocks, hgv⟩ := id C0
  have hAO : ∀ C ∈ pcAO, va_AO C s := fun C hC => va_AO.of (hts0 _ (pcAO_tbl C hC))
  have hBA : ∀ ty ∈ pcBA, va_AOA ty s := fun ty hty => hts0 _ (pcBA_tbl ty hty)
  obtain ⟨c0, i0, h0⟩ := u_known (C := RX0) (T := TX0) (N := 3) (n := 3) hts0 inX0 (hts0 (.instantiable RX0 3) (by decide +kernel))
  obtain ⟨c1, i1, h1⟩ := u_known (C := RX1) (T := TX1) (N := 3) (n := 3) hts0 inX1 (hts0 (.instantiable RX1 3) (by decide +kernel))
  obtain ⟨c2, i2, h2⟩ := u_known (C := RX2) (T := TX2) (N := 3) (n := 3) hts0 inX2 (hts0 (.instantiable RX2 3) (by decide +kernel))
  obtain ⟨c3, i3, h3⟩ := u_known (C := RX3) (T := TX3) (N := 10) (n := 10) hts0 inX3 (hts0 (.instantiable RX3 10) (by decide +kernel))
  obtain ⟨c4, i4, h4⟩ := u_known (C := RX4) (T := TX4) (N := 6) (n := 6) hts0 inX4 (hts0 (.instantiable RX4 6) (by decide +kernel))
  obtain ⟨c5, i5, h5⟩ := u_known (C := RX5) (T := TX5) (N := 13) (n := 13) hts0 inX5 (hts0 (.instantiable RX5 13) (by decide +kernel))
  obtain ⟨y0, a0⟩ : ∃ cA : ClassId, ArrOfT s cA (.int) ∧ va_RA s cA (.int) := by
    obtain ⟨cA, h1, h2⟩ := oa_P (hts0 (.arrayClass .int) (by decide +kernel))
    exact ⟨cA, h1, h2⟩
  obtain ⟨y1, a1⟩ : ∃ cA : ClassId, ArrOfT s cA (.long) ∧ va_RA s cA (.long) := by
    obtain ⟨cA, h1, h2⟩ := oa_P (hts0 (.arrayClass .long) (by decide +kernel))
    exact ⟨cA, h1, h2⟩
  obtain ⟨y2, a2⟩ := oa_A (ty := .int) (hBA _ (by decide +kernel))
  obtain ⟨y3, a3⟩ := oa_C (C := RX3) (hAO _ (by decide +kernel))
  obtain ⟨y4, a4⟩ := oa_C (C := RX1) (hAO _ (by decide +kernel))
  obtain ⟨y5, a5⟩ := oa_C (C := RX2) (hAO _ (by decide +kernel))
  obtain ⟨y6, a6⟩ := oa_C (C := RX0) (hAO _ (by decide +kernel))
  obtain ⟨y7, a7⟩ := oa_C (C := RX4) (hAO _ (by decide +kernel))
  have hK : va_K (fun k => if k = 0 then c0 else if k = 1 then c1 else if k = 2 then c2 else if k = 3 then c3 else if k = 4 then c4 else c5, fun k => if k = 0 then i0 else if k = 1 then i1 else if k = 2 then i2 else if k = 3 then i3 else if k = 4 then i4 else i5) vwCl (tyL (fun k => if k = 0 then y0 else if k = 1 then y1 else if k = 2 then y2 else if k = 3 then y3 else if k = 4 then y4 else if k = 5 then y5 else if k = 6 then y6 else y7)) s := by
    refine ⟨fun k q hq => ?_, fun k q hq => ?_⟩
    · match k, hq with
      | 0, hq => cases hq; exact h0
      | 1, hq => cases hq; exact h1
      | 2, hq => cases hq; exact h2
      | 3, hq => cases hq; exact h3
      | 4, hq => cases hq; exact h4
      | 5, hq => cases hq; exact h5
      | k + 6, hq => simp [vwCl] at hq
    · match k, hq with
      | 0, hq => cases hq; exact a0
      | 1, hq => cases hq; exact a1
      | 2, hq => cases hq; exact a2
      | 3, hq => cases hq; exact a3
      | 4, hq => cases hq; exact a4
      | 5, hq => cases hq; exact a5
      | 6, hq => cases hq; exact a6
      | 7, hq => cases hq; exact a7
      | k + 8, hq => simp [tyL] at hq
  have hX : pcX _ vwCl (tyL _) s := ⟨hK, fun w hw => va_Nw.of (pcN_tbl w hw).2 (hts0 w (pcN_tbl w hw).1), hAO, hBA⟩
  exact law_start ⟨hx, hb, hr, hml, hown, fun w h => hts0 w (wsL_law_in w h), hlocks, hX, hsc, hbl, by omega⟩

set_option maxHeartbeats 4000000 in
theorem lw_walk (l : Launch) (hflags : l.flags = flags0) (b : Addr) (xs : List Int32) : MetFree l x (headSpec (Jvm.Cond.code x code maxLocals ret :: tables_1) room_1) (lw_P b xs) (fun _ _ _ _ _ => True) lw_Q := by
  refine MetFree.of_bodyS (code := code) (maxLocals := maxLocals) (ret := ret) (by decide) ?_ ?_
  · intro args s m h hn
    obtain ⟨meth, c, h1, h2, h3, h4, h5, h6, -, -⟩ := Cond.code_spec hn (atoms_spec (ws := Jvm.Cond.code x code maxLocals ret :: tables_1) h _ List.mem_cons_self)
    exact ⟨meth, c, h1, h2, h3, h4, h5, h6⟩
  · intro p e s m args below meth c s₁ B hml0 hP _
    obtain ⟨rfl, hx, hbd, hgv⟩ := hP
    obtain ⟨scr, harrAt, hlist, hof, hsmall⟩ := hx
    obtain ⟨hcb, hkn, -, -⟩ := State.arrayAt?_spec harrAt
    have hown : s.vm.findClass R_law = some m.cls := findClass_of_methodNamed B.named
    have hts0 : ∀ c ∈ (Jvm.Cond.code x code maxLocals ret :: tables_1), c.before #[Value.ref b] s = true := atoms_spec (ws := Jvm.Cond.code x code maxLocals ret :: tables_1) B.pre
    have hts : ∀ w ∈ lw_tbl, w.before #[Value.ref b] s = true := k2_hts_sels lw_privs (fun w hw => hts0 w (List.mem_cons_of_mem _ hw)) lw_privs_ok
    have hml : c.maxLocals = 13 := B.maxLocals_eq (hts0 _ List.mem_cons_self)
    have X₀ : Stand p l e room_1 s m #[Value.ref b] below meth c s₁ [] 0 0 := Stand.of_body B
    have hh0 : s₁.heap = s.heap := by rw [B.state]; rfl
    have hsz : scr.slots.size = xs.length := by rw [← Array.length_toList, hlist, List.length_map]
    have hval : ∀ j : Nat, j < xs.length → scr.slots[j]? = some (.int (xs.getD j 0)) := fun j hj => by
      rw [← Array.getElem?_toList, hlist]
      simp [hj]
    have hbl : b < s.heap.size := (Array.getElem?_eq_some_iff.mp hcb).1
    have hX : va_X b xs.length (fun j => xs.getD j 0) s s.heap := ⟨scr, hcb, hof, hkn, hsz, hval⟩
    have K : W p l e room_1 s m #[Value.ref b] below meth c s₁.heap [] 0 0 (lw_Z below #[Value.ref b] s) (entryFrame m ([Value.ref b] : List Value).toArray 13) := by
      rw [hh0]
      exact whole_start l hflags hbd ⟨B.exec, B.bytes, B.returns, hml, hown, hts, hX, hbl, B.notSynchronized, hgv⟩
    obtain ⟨t, a1, o, b1, b2, b3⟩ := K s₁ rfl X₀
    exact ⟨t, o, a1, b1, b2, b3⟩
theorem lw_pre_spec {args : Array Value} {s : State} (h : (Jvm.Cond.and given_1 narrow_1).before args s = true) (hr : rest_1_c.before args s = true) : ∃ (b : Addr) (xs : List Int32), lw_P b xs args s := by
  have hs := flat_of_before _ h
  have hq := flat_of_before _ hr
  have hc : (Cond.count 1).before args s = true := hs _ (by decide +kernel)
  have harr : (Cond.arrayOf (.arg 0) .int).before args s = true := hs _ (by decide +kernel)
  have hle : (Cond.le (.length (.arg 0)) (.int 260)).before args s = true := hs _ (by decide +kernel)
  have hlen : (Cond.isInt (.length (.arg 0))).before args s = true := hq _ (by decide +kernel)
  have hall : (Cond.all (.arg 0) (.isInt (.elem (.arg 0) (.index 0)))).before args s = true := hq _ (by decide +kernel)
  obtain ⟨b, xs, hb, hx⟩ := State.ints_of_pre rfl harr hlen hall
  have hsm : xs.length < 2 ^ 31 := hx.choose_spec.2.2.2
  have hev : (Term.length (.arg 0)).eval args s none [] s = some (.int xs.length.toInt32) := hx.length_eval hb
  have hv := Cond.le_ints hev (show (Term.int 260).eval args s none [] s = some (.int 260) from rfl)
  have hd : xs.length.toInt32 ≤ 260 := by
    simpa [Cond.before, Cond.holds, hv] using hle
  have hN : xs.length ≤ 260 := (Int32.ofNat_le_ofNat hsm (by decide)).mp (show Int32.ofNat xs.length ≤ Int32.ofNat 260 from hd)
  exact ⟨b, xs, Cond.one_arg hc (show args[0]? = some (.ref b) from hb), hx, hN, h⟩
theorem lw_comes (l : Launch) (hflags : l.flags = flags0) : Comes l x (Jvm.Cond.code x code maxLocals ret :: tables_1) room_1 (fun tb e args s => Calls_1 tb e args s ∧ rest_1 tb e args s ∧ Pre_1 tb e args s)
    (fun _ _ args s o t => lw_Q args s o t) := by
  intro p e ha hc hk s m args below hf hfit hheap happ hpre
  obtain ⟨b, xs, hP⟩ := lw_pre_spec hpre.2.2 hpre.2.1
  obtain ⟨k, o, h1, h2, h3, hQ⟩ := lw_walk l hflags b xs p e ha hc hk s m args below hf ((Spec.applies_iff_loose hf).mp happ).1 hP trivial
  exact ⟨k, o, h1, h2, h3, hQ⟩
theorem lw_frame {s t : State} {o : Outcome} {args : Array Value} (h : Framed s o t [] 600074 7301550) :
    Framed s o t (fieldLocs frame_1_writes args s ++ arrayLocs frame_1_arrays args s ++ staticLocs frame_1_statics s) 600074 7301550 := h
theorem lw_limb (L : Cond) (hL : ∀ (args : Array Value) (s t : State), L.after args s (.returned (some (.int 1))) t = true) :
    ArmFor flags0 classFile x code maxLocals ret World_1 tables_1 room_1 Calls_1 rest_1 Pre_1
      (fun tb e a s o t => postC L tb e a s o t ∧ Framed s o t (fieldLocs frame_1_writes a s ++ arrayLocs frame_1_arrays a s ++ staticLocs frame_1_statics s) 600074 7301550) := by
  intro l hflags _ _ p e ha hc hk s m args below hf hfit hheap happ hpre
  obtain ⟨k, o, h1, h2, h3, rfl, hF⟩ := lw_comes l hflags p e ha hc hk s m args below hf hfit hheap happ hpre
  exact ⟨k, _, h1, h2, h3, hL args s _, lw_frame hF⟩
theorem i_vc : Claimed_1_1 ∧ Claimed_1_2 := ⟨lw_limb limb_1_1 (fun args s t => by simp [limb_1_1, Cond.after, Cond.holds, Cond.value]), lw_limb limb_1_2 (fun args s t => Cond.after_iff.mpr (by
  first | (rw [show limb_1_2 = Cond.eq .result (.int 1) from rfl, Cond.eq_ints (x := 1) (y := 1) rfl rfl]; simp; done) | (simp [limb_1_2, Cond.value, Term.eval]; done)))⟩


