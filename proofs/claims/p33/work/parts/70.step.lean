theorem fresh_out {s : State} {n q : Nat} (hm : s.heap.size ≤ n) (h : va_A [] n q) : lwA0 s q := by
  show s.heap.size ≤ q
  rcases h with ⟨k, e, h⟩ | h
  · simp at h
  · omega

set_option maxHeartbeats 4000000 in
set_option maxRecDepth 100000 in
theorem law_fair {p : Program} {e : Env} {s : State} {m : MethodId} {below : List Frame} {meth : Method} {c0 : Code} {l : Launch} {b L : Nat} {xs : Nat → Int32} {D : va_G} {cA : Nat → ClassId} (C1 : law_C p l s m meth c0 b L xs D cA) {c : SC} {v : SV} {w : SW} {u : Nat → Int32} {NL : List (Nat × Nat)} {ad : Nat → Nat → Nat} {i n rr : Nat} {HR : Heap} {locs0 locs : List Loc} {H : Heap} (hlt : i < 40) (hi : INV c v w) (h0 : c 0 = n) (hM : MEM c NL) (hN : NMEM c NL) (hS0 : va_S (lwA0 s) s.heap HR locs0) (hW : pcS D vwCl (lwA s rr) HR NL ad (ctO cA c v w u ad) H locs) (ls : Array Slot) (hl : lv_has ls 13 [(3, .int (nI i)), (2, .int (nI n)), (1, .ref (ad 5 0)), (0, .ref b)]) (next : ∀ (c2 : SC) (v2 : SV) (w2 : SW) (u2 : Nat → Int32) (NL2 : List (Nat × Nat)) (ad2 : Nat → Nat → Nat) (H : Heap) (locs : List Loc) (ls : Array Slot), INV c2 v2 w2 → c2 0 = n → MEM c2 NL2 → NMEM c2 NL2 → pcS D vwCl (lwA0 s) s.heap NL2 ad2 (ctO cA c2 v2 w2 u2 ad2) H locs → lv_has ls 13 [(3, .int (nI (i + 1))), (2, .int (nI n)), (1, .ref (ad2 5 0)), (0, .ref b)] → W p l e room_1 s m #[Value.ref b] below meth c0 H locs (500 + 60 * (i + 1)) (4000 + 300 * (i + 1)) (lw_Z below #[Value.ref b] s) (F0 m 151 ls [])) : W p l e room_1 s m #[Value.ref b] below meth c0 H locs (500 + 60 * i + 1 + 40) (4000 + 300 * i + 4 + 200) (lw_Z below #[Value.ref b] s) (F0 m 789 ls []) := by
  subst h0
  have hW := pcS_back hS0 hW
  obtain ⟨hx, hb, hr, hml, hown, hts, hlocks, hX, hsc, hbl, hL⟩ := id C1
  have hbA : ¬ lwA0 s b := Nat.not_le.mpr hbl
  refine lv_aload_n hx hb dL_law_789 rfl (lv_at hl 2 rfl) ?_
  refine lv_iload_n hx hb dL_law_790 rfl (lv_at hl 1 rfl) ?_
  refine pc_rcalli (va_runS (As := [.ref (ad 5 0), .int (nI (c 0))]) (rest := []) ⟨hx, hb, hml, hown, hts⟩ (r_L_isFair l D cA NL c v w u ad  hM hi) (va_cwS 2 hts gL_law_L_isFair rfl rfl rfl (by decide +kernel) ⟨Nat.le_of_ble_eq_true rfl, Nat.le_of_ble_eq_true rfl⟩) (pc_preS pcN_ok hX hW.1) rfl rfl hl.1 rfl (lv_room (Nat.le_of_ble_eq_true rfl)) dL_law_791 ⟨(by show _ ≤ (600074 : Nat); omega), (by show _ ≤ (7301550 : Nat); omega)⟩) hW (fun r922 H locs hwr922 hW => ?_)
  replace hwr922 := hwr922.symm
  subst hwr922
  refine lv_if_ne (tgt := 799) hx hb dL_law_794 (by decide) (fun _ => ?_) (fun c923 => absurd c923 (by decide))
  refine lv_iinc (v := nI (i + 1)) (lv' := [(3, .int (nI (i + 1))), (2, .int (nI (c 0))), (1, .ref (ad 5 0)), (0, .ref b)]) hx hb dL_law_799 hl (k := 0) rfl (nI_1 i) (by decide) rfl (fun ls hl => ?_)
  refine lv_goto (tgt := 151) hx hb dL_law_802 (by decide) ?_
  refine W.widen (k := 500 + 60 * (i + 1)) (n := 4000 + 300 * (i + 1)) (by omega) (by omega) ?_
  exact next c v w u NL ad H locs ls hi rfl hM hN hW (lv_sub hl [0, 1, 2, 3] rfl)

set_option maxHeartbeats 4000000 in
set_option maxRecDepth 100000 in
theorem law_step {p : Program} {e : Env} {s : State} {m : MethodId} {below : List Frame} {meth : Method} {c0 : Code} {l : Launch} {b L : Nat} {xs : Nat → Int32} {D : va_G} {cA : Nat → ClassId} (C1 : law_C p l s m meth c0 b L xs D cA) {c : SC} {v : SV} {w : SW} {u : Nat → Int32} {NL : List (Nat × Nat)} {ad : Nat → Nat → Nat} {i : Nat} {locs : List Loc} {H : Heap} (hlt : i < 40) (hi : INV c v w) (h2n : 2 ≤ c 0) (hM : MEM c NL) (hN : NMEM c NL) (hW : pcS D vwCl (lwA0 s) s.heap NL ad (ctO cA c v w u ad) H locs) (ls : Array Slot) (hl : lv_has ls 13 [(3, .int (nI i)), (2, .int (nI (c 0))), (1, .ref (ad 5 0)), (0, .ref b)]) (next : ∀ (c2 : SC) (v2 : SV) (w2 : SW) (u2 : Nat → Int32) (NL2 : List (Nat × Nat)) (ad2 : Nat → Nat → Nat) (H : Heap) (locs : List Loc) (ls : Array Slot), INV c2 v2 w2 → c2 0 = c 0 → MEM c2 NL2 → NMEM c2 NL2 → pcS D vwCl (lwA0 s) s.heap NL2 ad2 (ctO cA c2 v2 w2 u2 ad2) H locs → lv_has ls 13 [(3, .int (nI (i + 1))), (2, .int (nI (c 0))), (1, .ref (ad2 5 0)), (0, .ref b)] → W p l e room_1 s m #[Value.ref b] below meth c0 H locs (500 + 60 * (i + 1)) (4000 + 300 * (i + 1)) (lw_Z below #[Value.ref b] s) (F0 m 151 ls [])) : W p l e room_1 s m #[Value.ref b] below meth c0 H locs (500 + 60 * i) (4000 + 300 * i) (lw_Z below #[Value.ref b] s) (F0 m 151 ls []) := by
  obtain ⟨hx, hb, hr, hml, hown, hts, hlocks, hX, hsc, hbl, hL⟩ := id C1
  have hbA : ¬ lwA0 s b := Nat.not_le.mpr hbl
  have h5n := hi.1
  refine lv_iload_n hx hb dL_law_151 rfl (lv_at hl 0 rfl) ?_
  refine lv_bipush (v := 40) hx hb dL_law_152 (by decide) ?_
  refine lv_icmp_ge (tgt := 805) hx hb dL_law_154 (by decide) (fun c924 => absurd c924 (Int32.not_le.mpr (nI_lt (b := 40) hlt (by decide)))) (fun _ => ?_)
  refine lv_aload_n hx hb dL_law_157 rfl (lv_at hl 3 rfl) ?_
  refine lv_iload_n hx hb dL_law_158 rfl (lv_at hl 0 rfl) ?_
  refine lv_bipush (v := 16) hx hb dL_law_159 (by decide) ?_
  refine lv_irem hx hb dL_law_161 (by decide) ?_
  rw [show nI i - nI i / (16 : Int32) * (16 : Int32) = nI (i % 16) from pk_rem (by omega) (by decide) (by decide)]
  refine pc_rcalli (va_runS (As := [.ref b, .int (nI (i % 16))]) (rest := []) ⟨hx, hb, hml, hown, hts⟩ (r_L_cell l D cA b L xs hL (nI (i % 16)) (nI_pos (by omega))) (va_cwS 2 hts gL_law_L_cell rfl rfl rfl (by decide +kernel) ⟨Nat.le_of_ble_eq_true rfl, Nat.le_of_ble_eq_true rfl⟩) (pcX_preS hX (hsc.kept (hW.2.2.2.1 b hbl hbA))) rfl rfl hl.1 rfl (lv_room (Nat.le_of_ble_eq_true rfl)) dL_law_162 ⟨(by show _ ≤ (600074 : Nat); omega), (by show _ ≤ (7301550 : Nat); omega)⟩) hW (fun x925 H locs _ hW => ?_)
  refine lv_iload_n hx hb dL_law_165 rfl (lv_at hl 0 rfl) ?_
  refine lv_bipush (v := 16) hx hb dL_law_166 (by decide) ?_
  refine lv_idiv hx hb dL_law_168 (by decide) ?_
  refine lv_iconst (v := 3) hx hb dL_law_169 (by decide) ?_
  refine lv_imul hx hb dL_law_170 ?_
  refine lv_ishr hx hb dL_law_171 ?_
  refine lv_bipush (v := 7) hx hb dL_law_172 (by decide) ?_
  refine lv_iload_n hx hb dL_law_174 rfl (lv_at hl 0 rfl) ?_
  refine lv_imul hx hb dL_law_175 ?_
  refine lv_iadd hx hb dL_law_176 ?_
  refine lv_topi (fun x9 ex9 => ?_)
  refine lv_istore (lv' := [(4, .int x9), (3, .int (nI i)), (2, .int (nI (c 0))), (1, .ref (ad 5 0)), (0, .ref b)]) hx hb dL_law_177 hl (by decide) rfl (fun ls hl => ?_)
  refine lv_iload hx hb dL_law_179 (lv_at hl 0 rfl) ?_
  refine lv_iconst (v := 3) hx hb dL_law_181 (by decide) ?_
  refine lv_ishr hx hb dL_law_182 ?_
  refine lv_iload_n hx hb dL_law_183 rfl (lv_at hl 2 rfl) ?_
  refine pc_rcalli (va_runS (As := [.int (x9 >>> ((3 : Int32) &&& 31)), .int (nI (c 0))]) (rest := []) ⟨hx, hb, hml, hown, hts⟩ (r_L_below l D cA (x9 >>> ((3 : Int32) &&& 31)) (nI (c 0)) (nI_ne0 (by omega) (by omega))) (va_cwS 2 hts gL_law_L_below rfl rfl rfl (by decide +kernel) ⟨Nat.le_of_ble_eq_true rfl, Nat.le_of_ble_eq_true rfl⟩) (pc_preS pcN_ok hX trivial) rfl rfl hl.1 rfl (lv_room (Nat.le_of_ble_eq_true rfl)) dL_law_184 ⟨(by show _ ≤ (600074 : Nat); omega), (by show _ ≤ (7301550 : Nat); omega)⟩) hW (fun r926 H locs hwr926 hW => ?_)
  replace hwr926 := hwr926.symm
  subst hwr926
  obtain ⟨j927, hj927, ej927⟩ : ∃ j, j < (c 0) ∧ (F_L_below (x9 >>> ((3 : Int32) &&& 31)) (nI (c 0))) = nI j := below_ok _ (c 0) (by omega) (by omega)
  rw [ej927]
  refine lv_istore (lv' := [(5, .int (nI j927)), (4, .int x9), (3, .int (nI i)), (2, .int (nI (c 0))), (1, .ref (ad 5 0)), (0, .ref b)]) hx hb dL_law_187 hl (by decide) rfl (fun ls hl => ?_)
  refine lv_aload_n hx hb dL_law_189 rfl (lv_at hl 4 rfl) ?_
  refine lv_bipush (v := 7) hx hb dL_law_190 (by decide) ?_
  refine pc_rcalli (va_runV (As := [.int 7]) (rest := []) ⟨hx, hb, hml, hown, hts⟩ (r_X5_many7 l D cA NL c v w u ad  hM (INV_bnd hi) (INV_wf hi) ) (cwV 1 hts gL_law_X5_many rfl rfl rfl (by decide +kernel) ⟨Nat.le_of_ble_eq_true rfl, Nat.le_of_ble_eq_true rfl⟩) (pc_preV pcN_ok hX hW.1 hM.1 rfl rfl hW.1) rfl rfl hl.1 rfl (lv_room (Nat.le_of_ble_eq_true rfl)) dL_law_192 ⟨(by show _ ≤ (600074 : Nat); omega), (by show _ ≤ (7301550 : Nat); omega)⟩) hW (fun r928 H locs hwr928 hW => ?_)
  replace hwr928 := hwr928.symm
  subst hwr928
  refine lv_istore (lv' := [(6, .int (nI (c 4))), (5, .int (nI j927)), (4, .int x9), (3, .int (nI i)), (2, .int (nI (c 0))), (1, .ref (ad 5 0)), (0, .ref b)]) hx hb dL_law_195 hl (by decide) rfl (fun ls hl => ?_)
  refine lv_iload hx hb dL_law_197 (lv_at hl 0 rfl) ?_
  refine lv_if_ne (tgt := 206) hx hb dL_law_199 (by decide) (fun (c929 : ¬ (nI (c 4)) = 0) => ?_) (fun (c929 : (nI (c 4)) = 0) => ?_)
  · have hc4 := c929
    refine lv_iload hx hb dL_law_206 (lv_at hl 2 rfl) ?_
    refine lv_iconst (v := 4) hx hb dL_law_208 (by decide) ?_
    refine lv_ishr hx hb dL_law_209 ?_
    refine lv_iload hx hb dL_law_210 (lv_at hl 0 rfl) ?_
    refine pc_rcalli (va_runS (As := [.int (x9 >>> ((4 : Int32) &&& 31)), .int (nI (c 4))]) (rest := []) ⟨hx, hb, hml, hown, hts⟩ (r_L_below l D cA (x9 >>> ((4 : Int32) &&& 31)) (nI (c 4)) (nI_ne0 (by rcases Nat.eq_zero_or_pos (c 4) with h | h; exact absurd (by rw [h]; rfl) hc4; exact h) (by omega))) (va_cwS 2 hts gL_law_L_below rfl rfl rfl (by decide +kernel) ⟨Nat.le_of_ble_eq_true rfl, Nat.le_of_ble_eq_true rfl⟩) (pc_preS pcN_ok hX trivial) rfl rfl hl.1 rfl (lv_room (Nat.le_of_ble_eq_true rfl)) dL_law_212 ⟨(by show _ ≤ (600074 : Nat); omega), (by show _ ≤ (7301550 : Nat); omega)⟩) hW (fun r930 H locs hwr930 hW => ?_)
    replace hwr930 := hwr930.symm
    subst hwr930
    obtain ⟨j931, hj931, ej931⟩ : ∃ j, j < (c 4) ∧ (F_L_below (x9 >>> ((4 : Int32) &&& 31)) (nI (c 4))) = nI j := below_ok _ (c 4) (by rcases Nat.eq_zero_or_pos (c 4) with h | h; exact absurd (by rw [h]; rfl) hc4; exact h) (by omega)
    rw [ej931]
    refine lv_istore (lv' := [(7, .int (nI j931)), (6, .int (nI (c 4))), (5, .int (nI j927)), (4, .int x9), (3, .int (nI i)), (2, .int (nI (c 0))), (1, .ref (ad 5 0)), (0, .ref b)]) hx hb dL_law_215 hl (by decide) rfl (fun ls hl => ?_)
    refine lv_iload hx hb dL_law_217 (lv_at hl 3 rfl) ?_
    refine lv_iconst (v := 2) hx hb dL_law_219 (by decide) ?_
    refine lv_ishr hx hb dL_law_220 ?_
    refine va_callr (va_runS (As := [.int (x9 >>> ((2 : Int32) &&& 31))]) (rest := []) ⟨hx, hb, hml, hown, hts⟩ (l_L_region l D cA (va_A [] H.size) (x9 >>> ((2 : Int32) &&& 31))) (va_cwS 1 hts gL_law_L_region rfl rfl rfl (by decide +kernel) ⟨Nat.le_of_ble_eq_true rfl, Nat.le_of_ble_eq_true rfl⟩) (pc_preS pcN_ok hX ⟨fun k q h => by simp at h, ⟨fun i j x y h => by simp at h, fun k q h => by simp at h⟩, fun q h => Or.inr h⟩) rfl rfl hl.1 rfl (lv_room (Nat.le_of_ble_eq_true rfl)) dL_law_221 ⟨(by show _ ≤ (600074 : Nat); omega), (by show _ ≤ (7301550 : Nat); omega)⟩) hW.2.2 (fun _ _ h => fresh_out hW.2.2.1 h) (fun _ h => fresh_out hW.2.2.1 h) (fun ug rr t H1 locs1 ht hvm hug hB hz1 hk1 hS0 => ?_)
    obtain ⟨hPr0, hD1⟩ := hB
    rw [ht] at hPr0
    have hrl : rr < H1.size := (hPr0 0 _ rfl).lt
    obtain ⟨hW, hsr⟩ := pcS_row9 (locs1 := []) hW hD1 hk1
    refine va_forget (fun q hq => hS0.2.2 q hq) ?_
    have hsc1 := hsc.kept (hS0.2.1 b hbl hbA)
    have hbl1 := Nat.lt_of_lt_of_le hbl hS0.1
    have hbA1 : ¬ lwA s rr b := fun h => hbA h.1
    have hA : ∀ q : Nat, H1.size ≤ q → lwA s rr q := fun q h => ⟨Nat.le_trans hS0.1 h, fun e => by omega⟩
    refine lv_astore (lv' := [(8, .ref rr), (7, .int (nI j931)), (6, .int (nI (c 4))), (5, .int (nI j927)), (4, .int x9), (3, .int (nI i)), (2, .int (nI (c 0))), (1, .ref (ad 5 0)), (0, .ref b)]) hx hb dL_law_224 hl (by decide) rfl (fun ls hl => ?_)
    refine lv_iload hx hb dL_law_226 (lv_at hl 4 rfl) ?_
    refine lv_bipush (v := 9) hx hb dL_law_228 (by decide) ?_
    refine pc_rcalli (va_runS (As := [.int x9, .int 9]) (rest := []) ⟨hx, hb, hml, hown, hts⟩ (r_L_below l D cA x9 (9 : Int32) (by decide)) (va_cwS 2 hts gL_law_L_below rfl rfl rfl (by decide +kernel) ⟨Nat.le_of_ble_eq_true rfl, Nat.le_of_ble_eq_true rfl⟩) (pc_preS pcN_ok hX trivial) rfl rfl hl.1 rfl (lv_room (Nat.le_of_ble_eq_true rfl)) dL_law_230 ⟨(by show _ ≤ (600074 : Nat); omega), (by show _ ≤ (7301550 : Nat); omega)⟩) hW (fun r932 H locs hwr932 hW => ?_)
    replace hwr932 := hwr932.symm
    subst hwr932
    obtain ⟨j933, hj933, ej933⟩ : ∃ j, j < 9 ∧ (F_L_below x9 (9 : Int32)) = nI j := below_ok _ 9 (by decide) (by decide)
    rw [ej933]
    rcases (show j933 = 0 ∨ j933 = 1 ∨ j933 = 2 ∨ j933 = 3 ∨ j933 = 4 ∨ j933 = 5 ∨ j933 = 6 ∨ j933 = 7 ∨ j933 = 8 by omega) with rfl | rfl | rfl | rfl | rfl | rfl | rfl | rfl | rfl
    · rw [show nI 0 = (0 : Int32) from rfl]
      refine lv_tableIn (tgt := 280) hx hb dL_law_233 (by decide) (by decide) rfl (by decide) ?_
      exact law_arm_0 C1 (by omega) (by omega) hi h2n hM hN hj927 (Or.inr ⟨_, hj931, rfl⟩) hS0.1 hrl hPr0 hug H locs hW ls (lv_sub hl [0, 1, 2, 3, 4, 5, 6, 7, 8] rfl) (fun c2 v2 w2 u2 NL2 ad2 H locs ls a1 a2 a3 a4 a5 a6 => law_fair C1 hlt a1 a2 a3 a4 hS0 a5 ls a6 next)
    · rw [show nI 1 = (1 : Int32) from rfl]
      refine lv_tableIn (tgt := 309) hx hb dL_law_233 (by decide) (by decide) rfl (by decide) ?_
      exact law_arm_1 C1 (by omega) (by omega) hi h2n hM hN hj927 (Or.inr ⟨_, hj931, rfl⟩) hS0.1 hrl hPr0 hug H locs hW ls (lv_sub hl [0, 1, 2, 3, 4, 5, 6, 7, 8] rfl) (fun c2 v2 w2 u2 NL2 ad2 H locs ls a1 a2 a3 a4 a5 a6 => law_fair C1 hlt a1 a2 a3 a4 hS0 a5 ls a6 next)
    · rw [show nI 2 = (2 : Int32) from rfl]
      refine lv_tableIn (tgt := 418) hx hb dL_law_233 (by decide) (by decide) rfl (by decide) ?_
      exact law_arm_2 C1 (by omega) (by omega) hi h2n hM hN hj927 (Or.inr ⟨_, hj931, rfl⟩) hS0.1 hrl hPr0 hug H locs hW ls (lv_sub hl [0, 1, 2, 3, 4, 5, 6, 7, 8] rfl) (fun c2 v2 w2 u2 NL2 ad2 H locs ls a1 a2 a3 a4 a5 a6 => law_fair C1 hlt a1 a2 a3 a4 hS0 a5 ls a6 next)
    · rw [show nI 3 = (3 : Int32) from rfl]
      refine lv_tableIn (tgt := 461) hx hb dL_law_233 (by decide) (by decide) rfl (by decide) ?_
      exact law_arm_3 C1 (by omega) (by omega) hi h2n hM hN hj927 (Or.inr ⟨_, hj931, rfl⟩) hS0.1 hrl hPr0 hug H locs hW ls (lv_sub hl [0, 1, 2, 3, 4, 5, 6, 7, 8] rfl) (fun c2 v2 w2 u2 NL2 ad2 H locs ls a1 a2 a3 a4 a5 a6 => law_fair C1 hlt a1 a2 a3 a4 hS0 a5 ls a6 next)
    · rw [show nI 4 = (4 : Int32) from rfl]
      refine lv_tableIn (tgt := 528) hx hb dL_law_233 (by decide) (by decide) rfl (by decide) ?_
      exact law_arm_4 C1 (by omega) (by omega) hi h2n hM hN hj927 (Or.inr ⟨_, hj931, rfl⟩) hS0.1 hrl hPr0 hug H locs hW ls (lv_sub hl [0, 1, 2, 3, 4, 5, 6, 7, 8] rfl) (fun c2 v2 w2 u2 NL2 ad2 H locs ls a1 a2 a3 a4 a5 a6 => law_fair C1 hlt a1 a2 a3 a4 hS0 a5 ls a6 next)
    · rw [show nI 5 = (5 : Int32) from rfl]
      refine lv_tableIn (tgt := 568) hx hb dL_law_233 (by decide) (by decide) rfl (by decide) ?_
      exact law_arm_5 C1 (by omega) (by omega) hi h2n hM hN hj927 (Or.inr ⟨_, hj931, rfl⟩) hS0.1 hrl hPr0 hug H locs hW ls (lv_sub hl [0, 1, 2, 3, 4, 5, 6, 7, 8] rfl) (fun c2 v2 w2 u2 NL2 ad2 H locs ls a1 a2 a3 a4 a5 a6 => law_fair C1 hlt a1 a2 a3 a4 hS0 a5 ls a6 next)
    · rw [show nI 6 = (6 : Int32) from rfl]
      refine lv_tableIn (tgt := 630) hx hb dL_law_233 (by decide) (by decide) rfl (by decide) ?_
      exact law_arm_6 C1 (by omega) (by omega) hi h2n hM hN hj927 (Or.inr ⟨_, hj931, rfl⟩) hS0.1 hrl hPr0 hug H locs hW ls (lv_sub hl [0, 1, 2, 3, 4, 5, 6, 7, 8] rfl) (fun c2 v2 w2 u2 NL2 ad2 H locs ls a1 a2 a3 a4 a5 a6 => law_fair C1 hlt a1 a2 a3 a4 hS0 a5 ls a6 next)
    · rw [show nI 7 = (7 : Int32) from rfl]
      refine lv_tableIn (tgt := 718) hx hb dL_law_233 (by decide) (by decide) rfl (by decide) ?_
      exact law_arm_7 C1 (by omega) (by omega) hi h2n hM hN hj927 (Or.inr ⟨_, hj931, rfl⟩) hS0.1 hrl hPr0 hug H locs hW ls (lv_sub hl [0, 1, 2, 3, 4, 5, 6, 7, 8] rfl) (fun c2 v2 w2 u2 NL2 ad2 H locs ls a1 a2 a3 a4 a5 a6 => law_fair C1 hlt a1 a2 a3 a4 hS0 a5 ls a6 next)
    · rw [show nI 8 = (8 : Int32) from rfl]
      refine lv_tableOut (tgt := 744) hx hb dL_law_233 (by decide) (by decide) ?_
      exact law_arm_8 C1 (by omega) (by omega) hi h2n hM hN hj927 (Or.inr ⟨_, hj931, rfl⟩) hS0.1 hrl hPr0 hug H locs hW ls (lv_sub hl [0, 1, 2, 3, 4, 5, 6, 7, 8] rfl) (fun c2 v2 w2 u2 NL2 ad2 H locs ls a1 a2 a3 a4 a5 a6 => law_fair C1 hlt a1 a2 a3 a4 hS0 a5 ls a6 next)
  · refine lv_iconst (v := -1) hx hb dL_law_202 (by decide) ?_
    refine lv_goto (tgt := 215) hx hb dL_law_203 (by decide) ?_
    refine lv_istore (lv' := [(7, .int (-1)), (6, .int (nI (c 4))), (5, .int (nI j927)), (4, .int x9), (3, .int (nI i)), (2, .int (nI (c 0))), (1, .ref (ad 5 0)), (0, .ref b)]) hx hb dL_law_215 hl (by decide) rfl (fun ls hl => ?_)
    refine lv_iload hx hb dL_law_217 (lv_at hl 3 rfl) ?_
    refine lv_iconst (v := 2) hx hb dL_law_219 (by decide) ?_
    refine lv_ishr hx hb dL_law_220 ?_
    refine va_callr (va_runS (As := [.int (x9 >>> ((2 : Int32) &&& 31))]) (rest := []) ⟨hx, hb, hml, hown, hts⟩ (l_L_region l D cA (va_A [] H.size) (x9 >>> ((2 : Int32) &&& 31))) (va_cwS 1 hts gL_law_L_region rfl rfl rfl (by decide +kernel) ⟨Nat.le_of_ble_eq_true rfl, Nat.le_of_ble_eq_true rfl⟩) (pc_preS pcN_ok hX ⟨fun k q h => by simp at h, ⟨fun i j x y h => by simp at h, fun k q h => by simp at h⟩, fun q h => Or.inr h⟩) rfl rfl hl.1 rfl (lv_room (Nat.le_of_ble_eq_true rfl)) dL_law_221 ⟨(by show _ ≤ (600074 : Nat); omega), (by show _ ≤ (7301550 : Nat); omega)⟩) hW.2.2 (fun _ _ h => fresh_out hW.2.2.1 h) (fun _ h => fresh_out hW.2.2.1 h) (fun ug rr t H1 locs1 ht hvm hug hB hz1 hk1 hS0 => ?_)
    obtain ⟨hPr0, hD1⟩ := hB
    rw [ht] at hPr0
    have hrl : rr < H1.size := (hPr0 0 _ rfl).lt
    obtain ⟨hW, hsr⟩ := pcS_row9 (locs1 := []) hW hD1 hk1
    refine va_forget (fun q hq => hS0.2.2 q hq) ?_
    have hsc1 := hsc.kept (hS0.2.1 b hbl hbA)
    have hbl1 := Nat.lt_of_lt_of_le hbl hS0.1
    have hbA1 : ¬ lwA s rr b := fun h => hbA h.1
    have hA : ∀ q : Nat, H1.size ≤ q → lwA s rr q := fun q h => ⟨Nat.le_trans hS0.1 h, fun e => by omega⟩
    refine lv_astore (lv' := [(8, .ref rr), (7, .int (-1)), (6, .int (nI (c 4))), (5, .int (nI j927)), (4, .int x9), (3, .int (nI i)), (2, .int (nI (c 0))), (1, .ref (ad 5 0)), (0, .ref b)]) hx hb dL_law_224 hl (by decide) rfl (fun ls hl => ?_)
    refine lv_iload hx hb dL_law_226 (lv_at hl 4 rfl) ?_
    refine lv_bipush (v := 9) hx hb dL_law_228 (by decide) ?_
    refine pc_rcalli (va_runS (As := [.int x9, .int 9]) (rest := []) ⟨hx, hb, hml, hown, hts⟩ (r_L_below l D cA x9 (9 : Int32) (by decide)) (va_cwS 2 hts gL_law_L_below rfl rfl rfl (by decide +kernel) ⟨Nat.le_of_ble_eq_true rfl, Nat.le_of_ble_eq_true rfl⟩) (pc_preS pcN_ok hX trivial) rfl rfl hl.1 rfl (lv_room (Nat.le_of_ble_eq_true rfl)) dL_law_230 ⟨(by show _ ≤ (600074 : Nat); omega), (by show _ ≤ (7301550 : Nat); omega)⟩) hW (fun r934 H locs hwr934 hW => ?_)
    replace hwr934 := hwr934.symm
    subst hwr934
    obtain ⟨j935, hj935, ej935⟩ : ∃ j, j < 9 ∧ (F_L_below x9 (9 : Int32)) = nI j := below_ok _ 9 (by decide) (by decide)
    rw [ej935]
    rcases (show j935 = 0 ∨ j935 = 1 ∨ j935 = 2 ∨ j935 = 3 ∨ j935 = 4 ∨ j935 = 5 ∨ j935 = 6 ∨ j935 = 7 ∨ j935 = 8 by omega) with rfl | rfl | rfl | rfl | rfl | rfl | rfl | rfl | rfl
    · rw [show nI 0 = (0 : Int32) from rfl]
      refine lv_tableIn (tgt := 280) hx hb dL_law_233 (by decide) (by decide) rfl (by decide) ?_
      exact law_arm_0 C1 (by omega) (by omega) hi h2n hM hN hj927 (Or.inl rfl) hS0.1 hrl hPr0 hug H locs hW ls (lv_sub hl [0, 1, 2, 3, 4, 5, 6, 7, 8] rfl) (fun c2 v2 w2 u2 NL2 ad2 H locs ls a1 a2 a3 a4 a5 a6 => law_fair C1 hlt a1 a2 a3 a4 hS0 a5 ls a6 next)
    · rw [show nI 1 = (1 : Int32) from rfl]
      refine lv_tableIn (tgt := 309) hx hb dL_law_233 (by decide) (by decide) rfl (by decide) ?_
      exact law_arm_1 C1 (by omega) (by omega) hi h2n hM hN hj927 (Or.inl rfl) hS0.1 hrl hPr0 hug H locs hW ls (lv_sub hl [0, 1, 2, 3, 4, 5, 6, 7, 8] rfl) (fun c2 v2 w2 u2 NL2 ad2 H locs ls a1 a2 a3 a4 a5 a6 => law_fair C1 hlt a1 a2 a3 a4 hS0 a5 ls a6 next)
    · rw [show nI 2 = (2 : Int32) from rfl]
      refine lv_tableIn (tgt := 418) hx hb dL_law_233 (by decide) (by decide) rfl (by decide) ?_
      exact law_arm_2 C1 (by omega) (by omega) hi h2n hM hN hj927 (Or.inl rfl) hS0.1 hrl hPr0 hug H locs hW ls (lv_sub hl [0, 1, 2, 3, 4, 5, 6, 7, 8] rfl) (fun c2 v2 w2 u2 NL2 ad2 H locs ls a1 a2 a3 a4 a5 a6 => law_fair C1 hlt a1 a2 a3 a4 hS0 a5 ls a6 next)
    · rw [show nI 3 = (3 : Int32) from rfl]
      refine lv_tableIn (tgt := 461) hx hb dL_law_233 (by decide) (by decide) rfl (by decide) ?_
      exact law_arm_3 C1 (by omega) (by omega) hi h2n hM hN hj927 (Or.inl rfl) hS0.1 hrl hPr0 hug H locs hW ls (lv_sub hl [0, 1, 2, 3, 4, 5, 6, 7, 8] rfl) (fun c2 v2 w2 u2 NL2 ad2 H locs ls a1 a2 a3 a4 a5 a6 => law_fair C1 hlt a1 a2 a3 a4 hS0 a5 ls a6 next)
    · rw [show nI 4 = (4 : Int32) from rfl]
      refine lv_tableIn (tgt := 528) hx hb dL_law_233 (by decide) (by decide) rfl (by decide) ?_
      exact law_arm_4 C1 (by omega) (by omega) hi h2n hM hN hj927 (Or.inl rfl) hS0.1 hrl hPr0 hug H locs hW ls (lv_sub hl [0, 1, 2, 3, 4, 5, 6, 7, 8] rfl) (fun c2 v2 w2 u2 NL2 ad2 H locs ls a1 a2 a3 a4 a5 a6 => law_fair C1 hlt a1 a2 a3 a4 hS0 a5 ls a6 next)
    · rw [show nI 5 = (5 : Int32) from rfl]
      refine lv_tableIn (tgt := 568) hx hb dL_law_233 (by decide) (by decide) rfl (by decide) ?_
      exact law_arm_5 C1 (by omega) (by omega) hi h2n hM hN hj927 (Or.inl rfl) hS0.1 hrl hPr0 hug H locs hW ls (lv_sub hl [0, 1, 2, 3, 4, 5, 6, 7, 8] rfl) (fun c2 v2 w2 u2 NL2 ad2 H locs ls a1 a2 a3 a4 a5 a6 => law_fair C1 hlt a1 a2 a3 a4 hS0 a5 ls a6 next)
    · rw [show nI 6 = (6 : Int32) from rfl]
      refine lv_tableIn (tgt := 630) hx hb dL_law_233 (by decide) (by decide) rfl (by decide) ?_
      exact law_arm_6 C1 (by omega) (by omega) hi h2n hM hN hj927 (Or.inl rfl) hS0.1 hrl hPr0 hug H locs hW ls (lv_sub hl [0, 1, 2, 3, 4, 5, 6, 7, 8] rfl) (fun c2 v2 w2 u2 NL2 ad2 H locs ls a1 a2 a3 a4 a5 a6 => law_fair C1 hlt a1 a2 a3 a4 hS0 a5 ls a6 next)
    · rw [show nI 7 = (7 : Int32) from rfl]
      refine lv_tableIn (tgt := 718) hx hb dL_law_233 (by decide) (by decide) rfl (by decide) ?_
      exact law_arm_7 C1 (by omega) (by omega) hi h2n hM hN hj927 (Or.inl rfl) hS0.1 hrl hPr0 hug H locs hW ls (lv_sub hl [0, 1, 2, 3, 4, 5, 6, 7, 8] rfl) (fun c2 v2 w2 u2 NL2 ad2 H locs ls a1 a2 a3 a4 a5 a6 => law_fair C1 hlt a1 a2 a3 a4 hS0 a5 ls a6 next)
    · rw [show nI 8 = (8 : Int32) from rfl]
      refine lv_tableOut (tgt := 744) hx hb dL_law_233 (by decide) (by decide) ?_
      exact law_arm_8 C1 (by omega) (by omega) hi h2n hM hN hj927 (Or.inl rfl) hS0.1 hrl hPr0 hug H locs hW ls (lv_sub hl [0, 1, 2, 3, 4, 5, 6, 7, 8] rfl) (fun c2 v2 w2 u2 NL2 ad2 H locs ls a1 a2 a3 a4 a5 a6 => law_fair C1 hlt a1 a2 a3 a4 hS0 a5 ls a6 next)

set_option maxHeartbeats 4000000 in
set_option maxRecDepth 100000 in
theorem law_end {p : Program} {e : Env} {s : State} {m : MethodId} {below : List Frame} {meth : Method} {c0 : Code} {l : Launch} {b L : Nat} {xs : Nat → Int32} {D : va_G} {cA : Nat → ClassId} (C1 : law_C p l s m meth c0 b L xs D cA) {c : SC} {v : SV} {w : SW} {u : Nat → Int32} {NL : List (Nat × Nat)} {ad : Nat → Nat → Nat} {locs : List Loc} {H : Heap} (hi : INV c v w) (hM : MEM c NL) (hW : pcS D vwCl (lwA0 s) s.heap NL ad (ctO cA c v w u ad) H locs) (ls : Array Slot) (hl : lv_has ls 13 [(3, .int (nI 40)), (2, .int (nI (c 0))), (1, .ref (ad 5 0)), (0, .ref b)]) : W p l e room_1 s m #[Value.ref b] below meth c0 H locs (500 + 60 * 40) (4000 + 300 * 40) (lw_Z below #[Value.ref b] s) (F0 m 151 ls []) := by
  obtain ⟨hx, hb, hr, hml, hown, hts, hlocks, hX, hsc, hbl, hL⟩ := id C1
  have hbA : ¬ lwA0 s b := Nat.not_le.mpr hbl
  have h5n := hi.1
  have hA : ∀ q : Nat, s.heap.size ≤ q → lwA0 s q := fun _ h => h
  refine lv_iload_n hx hb dL_law_151 rfl (lv_at hl 0 rfl) ?_
  refine lv_bipush (v := 40) hx hb dL_law_152 (by decide) ?_
  refine lv_icmp_ge (tgt := 805) hx hb dL_law_154 (by decide) (fun _ => ?_) (fun c936 => absurd (Int32.le_refl _) c936)
  refine lv_aload_n hx hb dL_law_805 rfl (lv_at hl 2 rfl) ?_
  have hD9 := hW.2.1
  refine pc_mcalll (va_runV (As := []) (rest := []) ⟨hx, hb, hml, hown, hts⟩ (m_X5_digest l D cA NL c v w u ad (lwA0 s)  hM (INV_bnd hi) (INV_wf hi) (INV_ri hi)) (cwV 0 hts gL_law_X5_digest rfl rfl rfl (by decide +kernel) ⟨Nat.le_of_ble_eq_true rfl, Nat.le_of_ble_eq_true rfl⟩) (pc_preV pcN_ok hX hW.1 hM.1 rfl rfl ⟨hW.1, hW.2.1, fun q h => hA q (Nat.le_trans hW.2.2.1 h)⟩) rfl rfl hl.1 rfl (lv_room (Nat.le_of_ble_eq_true rfl)) dL_law_806 ⟨(by show _ ≤ (600074 : Nat); omega), (by show _ ≤ (7301550 : Nat); omega)⟩) hW.2.2 (fun r937 _ H locs hwr937 hB hS9 => ?_)
  replace hwr937 := hwr937.symm
  subst hwr937
  have hW : pcS D vwCl (lwA0 s) s.heap NL ad (ctO cA c v w (U_X5_digest c v w) ad) H locs := ⟨hB, pcD_ct hD9, hS9⟩
  refine lv_lstore_n (lv' := [(3, .long (F_X5_digest c v w)), (2, .int (nI (c 0))), (1, .ref (ad 5 0)), (0, .ref b)]) hx hb dL_law_809 rfl hl (by decide) rfl (fun ls hl => ?_)
  refine W.widen (k := 3000) (n := 20000) (by omega) (by omega) ?_
  refine lv_iconst (v := 0) hx hb dL_law_810 (by decide) ?_
  refine lv_istore (lv' := [(5, .int 0), (3, .long (F_X5_digest c v w)), (2, .int (nI (c 0))), (1, .ref (ad 5 0)), (0, .ref b)]) hx hb dL_law_811 hl (by decide) rfl (fun ls hl => ?_)
  have K940 : ∀ (k939 i938 : Nat) (H : Heap) (locs : List Loc) (ls : Array Slot), i938 + k939 = (c 3) → pcS D vwCl (lwA0 s) s.heap NL ad (ctO cA c v w (U_X5_digest c v w) ad) H locs → lv_has ls 13 [(5, .int (nI i938)), (3, .long (F_X5_digest c v w)), (2, .int (nI (c 0))), (1, .ref (ad 5 0)), (0, .ref b)] → W p l e room_1 s m #[Value.ref b] below meth c0 H locs 3000 20000 (lw_Z below #[Value.ref b] s) (F0 m 813 ls []) := by
    intro k939
    induction k939 with
    | zero =>
      intro i938 H locs ls hk hW hl
      have ei : i938 = (c 3) := by omega
      rw [ei] at hl
      refine lv_iload hx hb dL_law_813 (lv_at hl 0 rfl) ?_
      refine lv_aload_n hx hb dL_law_815 rfl (lv_at hl 3 rfl) ?_
      refine lv_iconst (v := 4) hx hb dL_law_816 (by decide) ?_
      refine pc_rcalli (va_runV (As := [.int 4]) (rest := [.int (nI (c 3))]) ⟨hx, hb, hml, hown, hts⟩ (r_X5_many4 l D cA NL c v w (U_X5_digest c v w) ad  hM (INV_bnd hi) (INV_wf hi) ) (cwV 1 hts gL_law_X5_many rfl rfl rfl (by decide +kernel) ⟨Nat.le_of_ble_eq_true rfl, Nat.le_of_ble_eq_true rfl⟩) (pc_preV pcN_ok hX hW.1 hM.1 rfl rfl hW.1) rfl rfl hl.1 rfl (lv_room (Nat.le_of_ble_eq_true rfl)) dL_law_817 ⟨(by show _ ≤ (600074 : Nat); omega), (by show _ ≤ (7301550 : Nat); omega)⟩) hW (fun r941 H locs hwr941 hW => ?_)
      replace hwr941 := hwr941.symm
      subst hwr941
      refine lv_icmp_ge (tgt := 865) hx hb dL_law_820 (by decide) (fun _ => ?_) (fun c942 => absurd (Int32.le_refl _) c942)
      refine lv_aload_n hx hb dL_law_865 rfl (lv_at hl 3 rfl) ?_
      have hD9 := hW.2.1
      refine pc_mcalll (va_runV (As := []) (rest := []) ⟨hx, hb, hml, hown, hts⟩ (m_X5_digest l D cA NL c v w (U_X5_digest c v w) ad (lwA0 s)  hM (INV_bnd hi) (INV_wf hi) (INV_ri hi)) (cwV 0 hts gL_law_X5_digest rfl rfl rfl (by decide +kernel) ⟨Nat.le_of_ble_eq_true rfl, Nat.le_of_ble_eq_true rfl⟩) (pc_preV pcN_ok hX hW.1 hM.1 rfl rfl ⟨hW.1, hW.2.1, fun q h => hA q (Nat.le_trans hW.2.2.1 h)⟩) rfl rfl hl.1 rfl (lv_room (Nat.le_of_ble_eq_true rfl)) dL_law_866 ⟨(by show _ ≤ (600074 : Nat); omega), (by show _ ≤ (7301550 : Nat); omega)⟩) hW.2.2 (fun r943 _ H locs hwr943 hB hS9 => ?_)
      replace hwr943 := hwr943.symm
      subst hwr943
      have hW : pcS D vwCl (lwA0 s) s.heap NL ad (ctO cA c v w (U_X5_digest c v w) ad) H locs := ⟨hB, pcD_ct hD9, hS9⟩
      refine lv_lload_n hx hb dL_law_869 rfl (lv_at hl 1 rfl) ?_
      refine lv_lcmpI hx hb dL_law_870 ?_
      refine lv_if_ne (tgt := 878) hx hb dL_law_871 (by decide) (fun c944 => absurd c944 (fun q => q (lcI_0.mpr rfl))) (fun _ => ?_)
      refine lv_iconst (v := 1) hx hb dL_law_874 (by decide) ?_
      refine lv_goto (tgt := 879) hx hb dL_law_875 (by decide) ?_
      refine va_forget (fun q hq => hW.2.2.2.2 q hq) ?_
      refine W.widen (k := 600074) (n := 7301550) (Nat.le_of_ble_eq_true rfl) (Nat.le_of_ble_eq_true rfl) ?_
      exact lw_ret hx hb hr hlocks dL_law_879
    | succ k939 ihk939 =>
      intro i938 H locs ls hk hW hl
      have hlt : i938 < (c 3) := by omega
      have hlt9i938 := hlt
      refine lv_iload hx hb dL_law_813 (lv_at hl 0 rfl) ?_
      refine lv_aload_n hx hb dL_law_815 rfl (lv_at hl 3 rfl) ?_
      refine lv_iconst (v := 4) hx hb dL_law_816 (by decide) ?_
      refine pc_rcalli (va_runV (As := [.int 4]) (rest := [.int (nI i938)]) ⟨hx, hb, hml, hown, hts⟩ (r_X5_many4 l D cA NL c v w (U_X5_digest c v w) ad  hM (INV_bnd hi) (INV_wf hi) ) (cwV 1 hts gL_law_X5_many rfl rfl rfl (by decide +kernel) ⟨Nat.le_of_ble_eq_true rfl, Nat.le_of_ble_eq_true rfl⟩) (pc_preV pcN_ok hX hW.1 hM.1 rfl rfl hW.1) rfl rfl hl.1 rfl (lv_room (Nat.le_of_ble_eq_true rfl)) dL_law_817 ⟨(by show _ ≤ (600074 : Nat); omega), (by show _ ≤ (7301550 : Nat); omega)⟩) hW (fun r945 H locs hwr945 hW => ?_)
      replace hwr945 := hwr945.symm
      subst hwr945
      refine lv_icmp_ge (tgt := 865) hx hb dL_law_820 (by decide) (fun c946 => absurd c946 (nI_ge hlt (Nat.lt_of_le_of_lt (INV_bnd hi).2.2.2.1 (by decide)))) (fun _ => ?_)
      refine lv_aload_n hx hb dL_law_823 rfl (lv_at hl 3 rfl) ?_
      refine lv_iload hx hb dL_law_824 (lv_at hl 0 rfl) ?_
      have hD9 := hW.2.1
      refine pc_mcalli (va_runV (As := [.int (nI i938)]) (rest := []) ⟨hx, hb, hml, hown, hts⟩ (m_X5_freedBy l D cA NL c v w (U_X5_digest c v w) ad (lwA0 s) (nI i938) hM (INV_bnd hi) (INV_wf hi) (nI_nn (Nat.lt_of_lt_of_le hlt9i938 (Nat.le_trans (INV_bnd hi).2.2.2.1 (by decide)))) (by rw [nI_clamp (Nat.lt_of_lt_of_le hlt9i938 (Nat.le_trans (INV_bnd hi).2.2.2.1 (by decide)))]; exact hlt9i938)) (cwV 1 hts gL_law_X5_freedBy rfl rfl rfl (by decide +kernel) ⟨Nat.le_of_ble_eq_true rfl, Nat.le_of_ble_eq_true rfl⟩) (pc_preV pcN_ok hX hW.1 hM.1 rfl rfl ⟨hW.1, hW.2.1, fun q h => hA q (Nat.le_trans hW.2.2.1 h)⟩) rfl rfl hl.1 rfl (lv_room (Nat.le_of_ble_eq_true rfl)) dL_law_826 ⟨(by show _ ≤ (600074 : Nat); omega), (by show _ ≤ (7301550 : Nat); omega)⟩) hW.2.2 (fun r947 _ H locs hwr947 hB hS9 => ?_)
      replace hwr947 := hwr947.symm
      subst hwr947
      have hW : pcS D vwCl (lwA0 s) s.heap NL ad (ctO cA c v w (U_X5_digest c v w) ad) H locs := ⟨hB, pcD_ct hD9, hS9⟩
      refine lv_aload_n hx hb dL_law_829 rfl (lv_at hl 3 rfl) ?_
      refine lv_bipush (v := 10) hx hb dL_law_830 (by decide) ?_
      refine pc_rcalli (va_runV (As := [.int 10]) (rest := [.int (F_X5_freedBy c v w (nI i938))]) ⟨hx, hb, hml, hown, hts⟩ (r_X5_many10 l D cA NL c v w (U_X5_digest c v w) ad  hM (INV_bnd hi) (INV_wf hi) ) (cwV 1 hts gL_law_X5_many rfl rfl rfl (by decide +kernel) ⟨Nat.le_of_ble_eq_true rfl, Nat.le_of_ble_eq_true rfl⟩) (pc_preV pcN_ok hX hW.1 hM.1 rfl rfl hW.1) rfl rfl hl.1 rfl (lv_room (Nat.le_of_ble_eq_true rfl)) dL_law_832 ⟨(by show _ ≤ (600074 : Nat); omega), (by show _ ≤ (7301550 : Nat); omega)⟩) hW (fun r948 H locs hwr948 hW => ?_)
      replace hwr948 := hwr948.symm
      subst hwr948
      refine lv_icmp_gt (tgt := 857) hx hb dL_law_835 (by decide) (fun c949 => absurd c949 (freed_le hi)) (fun _ => ?_)
      refine lv_aload_n hx hb dL_law_838 rfl (lv_at hl 3 rfl) ?_
      refine lv_iload hx hb dL_law_839 (lv_at hl 0 rfl) ?_
      refine pc_rcalli (va_runV (As := [.int (nI i938)]) (rest := []) ⟨hx, hb, hml, hown, hts⟩ (r_X5_ofQuery l D cA NL c v w (U_X5_digest c v w) ad (nI i938) hM (INV_bnd hi) (INV_wf hi) (nI_nn (Nat.lt_of_lt_of_le hlt9i938 (Nat.le_trans (INV_bnd hi).2.2.2.1 (by decide)))) (by rw [nI_clamp (Nat.lt_of_lt_of_le hlt9i938 (Nat.le_trans (INV_bnd hi).2.2.2.1 (by decide)))]; exact hlt9i938)) (cwV 1 hts gL_law_X5_ofQuery rfl rfl rfl (by decide +kernel) ⟨Nat.le_of_ble_eq_true rfl, Nat.le_of_ble_eq_true rfl⟩) (pc_preV pcN_ok hX hW.1 hM.1 rfl rfl hW.1) rfl rfl hl.1 rfl (lv_room (Nat.le_of_ble_eq_true rfl)) dL_law_841 ⟨(by show _ ≤ (600074 : Nat); omega), (by show _ ≤ (7301550 : Nat); omega)⟩) hW (fun r950 H locs hwr950 hW => ?_)
      replace hwr950 := hwr950.symm
      subst hwr950
      refine lv_iconst (v := 2) hx hb dL_law_844 (by decide) ?_
      refine lv_icmp_ne (tgt := 859) hx hb dL_law_845 (by decide) (fun _ => ?_) (fun c951 => absurd c951 (query_open hi hlt9i938))
      refine lv_iinc (v := nI (i938 + 1)) (lv' := [(5, .int (nI (i938 + 1))), (3, .long (F_X5_digest c v w)), (2, .int (nI (c 0))), (1, .ref (ad 5 0)), (0, .ref b)]) hx hb dL_law_859 hl (k := 0) rfl (nI_1 i938) (by decide) rfl (fun ls hl => ?_)
      refine lv_goto (tgt := 813) hx hb dL_law_862 (by decide) ?_
      exact ihk939 (i938 + 1) H locs ls (by omega) hW (lv_sub hl [0, 1, 2, 3, 4] rfl)
  exact K940 (c 3) 0 _ _ ls (by omega) hW (lv_sub hl [0, 1, 2, 3, 4] rfl)

theorem law_loop {p : Program} {e : Env} {s : State} {m : MethodId} {below : List Frame} {meth : Method} {c0 : Code} {l : Launch} {b L : Nat} {xs : Nat → Int32} {D : va_G} {cA : Nat → ClassId} (C1 : law_C p l s m meth c0 b L xs D cA) : ∀ (k i : Nat) (c : SC) (v : SV) (w : SW) (u : Nat → Int32) (NL : List (Nat × Nat)) (ad : Nat → Nat → Nat) (H : Heap) (locs : List Loc) (ls : Array Slot), i + k = 40 → INV c v w → 2 ≤ c 0 → MEM c NL → NMEM c NL → pcS D vwCl (lwA0 s) s.heap NL ad (ctO cA c v w u ad) H locs → lv_has ls 13 [(3, .int (nI i)), (2, .int (nI (c 0))), (1, .ref (ad 5 0)), (0, .ref b)] → W p l e room_1 s m #[Value.ref b] below meth c0 H locs (500 + 60 * i) (4000 + 300 * i) (lw_Z below #[Value.ref b] s) (F0 m 151 ls []) := by
  intro k
  induction k with
  | zero =>
    intro i c v w u NL ad H locs ls hk hi h2n hM hN hW hl
    obtain rfl : i = 40 := by omega
    exact law_end C1 hi hM hW ls hl
  | succ k ih =>
    intro i c v w u NL ad H locs ls hk hi h2n hM hN hW hl
    exact law_step C1 (by omega) hi h2n hM hN hW ls hl (fun c2 v2 w2 u2 NL2 ad2 H locs ls a1 a2 a3 a4 a5 a6 => ih (i + 1) c2 v2 w2 u2 NL2 ad2 H locs ls (by omega) a1 (by omega) a3 a4 a5 (by rw [a2]; exact a6))

