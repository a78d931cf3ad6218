/-! THE CLAIM OUT OF ONE WALK OF THE LAW'S BODY. Your part is whole_start (and what it stands on); all else here is the same for every law, but numbers. -/
def R_law : String := "DraftsmanOfficeLaw"
def lw_P (b : Addr) (xs : List Int32) (args : Array Value) (s : State) : Prop := args = #[.ref b] ∧ s.IntsAt b xs ∧ xs.length ≤ 260 ∧ (Jvm.Cond.and given_1 narrow_1).before args s = true
def lw_Q (_ : Array Value) (s : State) (o : Outcome) (t : State) : Prop := o = .returned (some (.int 1)) ∧ Framed s o t [] 600074 7301550
def lw_Z (below : List Frame) (a : Array Value) (s : State) : State → Prop := fun t => ∃ o, t.status = .running ∧ Ended t below o ∧ lw_Q a s o t
/-- the law's own end, with 1 on the stack, nothing written that was there before, its room as the claim has it -/
theorem lw_ret {p : Program} {l : Launch} {e : Env} {s : State} {m : MethodId} {below : List Frame} {meth : Method} {c : Code} {b : Nat} (hx : p.tables.exec = Jvm.exec) (hb : c.code = code) (hr : meth.sig.returnType = ret) (hlocks : meth.locks = false) {pc : Nat} {H : Heap} {ls : Array Slot} (hdg : decode code pc = .ok (.ireturn, 1)) : W p l e room_1 s m #[Value.ref b] below meth c H [] 600074 7301550 (lw_Z below #[Value.ref b] s) (F0 m pc ls [.int 1]) := by
  intro T hT X
  obtain ⟨fs, hret, hrun, hended, hW, hframe⟩ := X.leave (v := some (.int 1)) (hlocks := hlocks) (fun h => by rw [hr] at h; cases h)
  have hmeth' : T.vm.method? m = some meth := X.method'
  refine ⟨T.setFrames fs, ?_, .returned (some (.int 1)), hrun, hended, rfl, ⟨_, rfl⟩, hW, hframe⟩
  jvm_step X.here [X.here.top, hx, hb, hdg, hmeth', hr, ret, narrow_b1]
  (try refine ⟨rfl, ?_⟩); (try refine ⟨rfl, ?_⟩)
  first | (intro acts; rw [hret _ acts rfl rfl rfl]) | rw [hret _ _ rfl rfl rfl]
  exact Steps.refl _
/-- what holds at the law's entry: the machine, the code, the tables' words (any of lw_tbl by 'hts w (by decide +kernel)'), the script of L ints xs at the cell b, what the Statement gives of the start (any of its parts by flat_of_before) -/
def lw_At (p : Program) (s : State) (m : MethodId) (meth : Method) (c : Code) (b L : Nat) (xs : Nat → Int32) : Prop :=
  p.tables.exec = Jvm.exec ∧ c.code = code ∧ meth.sig.returnType = ret ∧ c.maxLocals = 13 ∧ s.vm.findClass R_law = some m.cls ∧ (∀ w ∈ lw_tbl, w.before #[Value.ref b] s = true) ∧ va_X b L xs s s.heap ∧ b < s.heap.size ∧ meth.locks = false ∧ (Jvm.Cond.and given_1 narrow_1).before #[Value.ref b] s = true

def lwA0 (s : State) : Nat → Prop := fun q => s.heap.size ≤ q
def lwA (s : State) (rr : Nat) : Nat → Prop := fun q => s.heap.size ≤ q ∧ q ≠ rr
/-- what the law's walk has behind its start, the same in each of its arms -/
def law_C (p : Program) (l : Launch) (s : State) (m : MethodId) (meth : Method) (c0 : Code) (b L : Nat) (xs : Nat → Int32) (D : va_G) (cA : Nat → ClassId) : Prop :=
  p.tables.exec = Jvm.exec ∧ c0.code = code ∧ meth.sig.returnType = ret ∧ c0.maxLocals = 13 ∧ s.vm.findClass RL = some m.cls ∧ (∀ w ∈ wsL_law, w.before #[Value.ref b] s = true) ∧ meth.locks = false ∧ pcX D vwCl (tyL cA) s ∧ va_X b L xs s s.heap ∧ b < s.heap.size ∧ L < 2 ^ 31
theorem rr_kept {D : va_G} {cl : List vw_C} {s : State} {rr : Nat} {HR H : Heap} {NL : List (Nat × Nat)} {ad : Nat → Nat → Nat} {ct : Nat → Nat → va_E} {locs : List Loc} {e : va_E} (h : va_P D cl [(rr, e)] HR) (hr : rr < HR.size) (hW : pcS D cl (lwA s rr) HR NL ad ct H locs) : va_P D cl [(rr, e)] H :=
  h.kept (H1 := H) (fun k q hk => by
    have h1 := (List.getElem?_eq_some_iff.mp hk).1
    simp only [List.length_cons, List.length_nil] at h1
    obtain rfl : k = 0 := by omega
    obtain rfl := Option.some.inj hk
    exact hW.2.2.2.1 rr hr (fun q => q.2 rfl))
theorem rg0 (u : Nat × Nat × Nat × Nat) : rgF u (0 : Int32).toNatClampNeg = nI u.1 := by
  rw [show (0 : Int32).toNatClampNeg = 0 from by decide]
  rfl
theorem rg1 (u : Nat × Nat × Nat × Nat) : rgF u (1 : Int32).toNatClampNeg = nI u.2.1 := by
  rw [show (1 : Int32).toNatClampNeg = 1 from by decide]
  rfl
theorem rg2 (u : Nat × Nat × Nat × Nat) : rgF u (2 : Int32).toNatClampNeg = nI u.2.2.1 := by
  rw [show (2 : Int32).toNatClampNeg = 2 from by decide]
  rfl
theorem rg3 (u : Nat × Nat × Nat × Nat) : rgF u (3 : Int32).toNatClampNeg = nI u.2.2.2 := by
  rw [show (3 : Int32).toNatClampNeg = 3 from by decide]
  rfl
/-- a region as the class wants it -/
theorem rg_ok {u : Nat × Nat × Nat × Nat} (h : rgO u) : ¬ nI u.1 < 0 ∧ ¬ nI u.2.2.1 < nI u.1 ∧ ¬ (20 : Int32) ≤ nI u.2.2.1 ∧ ¬ nI u.2.1 < 0 ∧ ¬ nI u.2.2.2 < nI u.2.1 ∧ nI u.2.2.2 < 20 := by
  obtain ⟨h1, h2, h3, h4⟩ := h
  exact ⟨nI_pos (by omega), nI_nlt h1 (by omega), Int32.not_le.mpr (nI_lt20 h2), nI_pos (by omega), nI_nlt h3 (by omega), nI_lt20 h4⟩
/-- behind a step, back from its own heap to the law's start -/
theorem pcS_back {D : va_G} {cl : List vw_C} {s : State} {rr : Nat} {HR H : Heap} {NL : List (Nat × Nat)} {ad : Nat → Nat → Nat} {ct : Nat → Nat → va_E} {locs locs0 : List Loc} (hS0 : va_S (lwA0 s) s.heap HR locs0) (hW : pcS D cl (lwA s rr) HR NL ad ct H locs) : pcS D cl (lwA0 s) s.heap NL ad ct H locs := by
  obtain ⟨hP, hD, hS⟩ := hW
  refine ⟨hP, ⟨hD.1, fun k q hk => (hD.2 k q hk).1⟩, Nat.le_trans hS0.1 hS.1, fun q h1 h2 => ?_, fun l hl => (hS.2.2 l hl).1⟩
  rw [hS.2.1 q (Nat.lt_of_lt_of_le h1 hS0.1) (fun h => h2 h.1)]
  exact hS0.2.1 q h1 h2
/-- a new row beside the names -/
theorem pcS_row9 {D : va_G} {cl : List vw_C} {s : State} {H H1 : Heap} {NL : List (Nat × Nat)} {ad : Nat → Nat → Nat} {ct : Nat → Nat → va_E} {locs locs1 : List Loc} {rr : Nat} {e : va_E} (hW : pcS D cl (lwA0 s) s.heap NL ad ct H locs) (hD1 : va_D (va_A [] H.size) [(rr, e)]) (hk : ∀ q : Nat, q < H.size → ¬ va_A [] H.size q → H1[q]? = H[q]?) : pcS D cl (lwA s rr) H1 NL ad ct H1 [] ∧ s.heap.size ≤ rr := by
  have hrr : H.size ≤ rr := by
    rcases hD1.2 0 _ rfl with ⟨k, e, h⟩ | h
    · simp at h
    · exact h
  have hlt : ∀ k i, (k, i) ∈ NL → ad k i < H.size := by
    intro k i h
    obtain ⟨j, -, hj⟩ := pc_place (ad := ad) (ct := ct) h
    exact (hW.1 j _ hj).lt
  refine ⟨⟨pcP_keep hW.1 (fun q hq => hk q hq (fun h => ?_)), ⟨hW.2.1.1, fun k q hq => ?_⟩, va_S.rf⟩, Nat.le_trans hW.2.2.1 hrr⟩
  · rcases h with ⟨k, e, h⟩ | h
    · simp at h
    · omega
  · obtain ⟨a, i, hm, -, rfl⟩ := pc_mem hq
    exact ⟨pcD_in hW.2.1 hm, fun h => by have := hlt a i hm; have h : ad a i = rr := h; omega⟩

set_option maxHeartbeats 4000000 in
set_option maxRecDepth 100000 in
theorem law_arm_0 {p : Program} {e : Env} {s : State} {m : MethodId} {below : List Frame} {meth : Method} {c0 : Code} {l : Launch} {b L : Nat} {xs : Nat → Int32} {D : va_G} {cA : Nat → ClassId} (C1 : law_C p l s m meth c0 b L xs D cA) {c : SC} {v : SV} {w : SW} {u : Nat → Int32} {NL : List (Nat × Nat)} {ad : Nat → Nat → Nat} {i sh rr cl0 sl0 : Nat} {pk x9 : Int32} {ug : Nat × Nat × Nat × Nat} {HR : Heap} (hcl : cl0 ≤ 300000) (hsl : sl0 ≤ 3000000) (hi : INV c v w) (h2n : 2 ≤ c 0) (hM : MEM c NL) (hN : NMEM c NL) (hsh : sh < c 0) (hpk : pk = -1 ∨ ∃ q, q < c 4 ∧ pk = nI q) (hsz : s.heap.size ≤ HR.size) (hrl : rr < HR.size) (hPr0 : va_P D vwCl [(rr, .inl (cA 0, 4, .inl (rgF ug)))] HR) (hug : rgO ug) (H : Heap) (locs : List Loc) (hW : pcS D vwCl (lwA s rr) HR NL ad (ctO cA c v w u ad) H locs) (ls : Array Slot) (hl : lv_has ls 13 [(8, .ref rr), (7, .int pk), (6, .int (nI (c 4))), (5, .int (nI sh)), (4, .int x9), (3, .int (nI i)), (2, .int (nI (c 0))), (1, .ref (ad 5 0)), (0, .ref b)]) (kk : ∀ (c2 : SC) (v2 : SV) (w2 : SW) (u2 : Nat → Int32) (NL2 : List (Nat × Nat)) (ad2 : Nat → Nat → Nat) (H : Heap) (locs : List Loc) (ls : Array Slot), INV c2 v2 w2 → c2 0 = c 0 → MEM c2 NL2 → NMEM c2 NL2 → pcS D vwCl (lwA s rr) HR NL2 ad2 (ctO cA c2 v2 w2 u2 ad2) H locs → lv_has ls 13 [(3, .int (nI i)), (2, .int (nI (c 0))), (1, .ref (ad2 5 0)), (0, .ref b)] → W p l e room_1 s m #[Value.ref b] below meth c0 H locs (cl0 + 40) (sl0 + 200) (lw_Z below #[Value.ref b] s) (F0 m 789 ls [])) : W p l e room_1 s m #[Value.ref b] below meth c0 H locs cl0 sl0 (lw_Z below #[Value.ref b] s) (F0 m 280 ls []) := by
  obtain ⟨hx, hb, hr, hml, hown, hts, hlocks, hX, hsc, hbl, hL⟩ := id C1
  have hA : ∀ q : Nat, HR.size ≤ q → lwA s rr q := fun q h => ⟨Nat.le_trans hsz h, fun e => by omega⟩
  have h5n := hi.1
  refine lv_aload_n hx hb dL_law_280 rfl (lv_at hl 7 rfl) ?_
  refine lv_iload hx hb dL_law_281 (lv_at hl 3 rfl) ?_
  refine lv_iconst (v := 3) hx hb dL_law_283 (by decide) ?_
  refine pc_rcalli (va_runV (As := [.int (nI sh), .int 3]) (rest := []) ⟨hx, hb, hml, hown, hts⟩ (r_X5_ofSheet3 l D cA NL c v w u ad (nI sh) hM (INV_bnd hi) (INV_wf hi) (nI_nn (Nat.lt_of_lt_of_le hsh (Nat.le_trans (INV_bnd hi).1 (by decide)))) (by rw [nI_clamp (Nat.lt_of_lt_of_le hsh (Nat.le_trans (INV_bnd hi).1 (by decide)))]; exact hsh)) (cwV 2 hts gL_law_X5_ofSheet rfl rfl rfl (by decide +kernel) ⟨Nat.le_of_ble_eq_true rfl, Nat.le_of_ble_eq_true rfl⟩) (pc_preV pcN_ok hX hW.1 hM.1 rfl rfl hW.1) rfl rfl hl.1 rfl (lv_room (Nat.le_of_ble_eq_true rfl)) dL_law_284 ⟨(by show _ ≤ (600074 : Nat); omega), (by show _ ≤ (7301550 : Nat); omega)⟩) hW (fun r809 H locs hwr809 hW => ?_)
  replace hwr809 := hwr809.symm
  subst hwr809
  refine lv_if_ne (tgt := 789) hx hb dL_law_287 (by decide) (fun (c810 : ¬ (F_X5_ofSheet3 c v w (nI sh)) = 0) => ?_) (fun (c810 : (F_X5_ofSheet3 c v w (nI sh)) = 0) => ?_)
  · refine W.widen (k := cl0 + 40) (n := sl0 + 200) (by omega) (by omega) ?_
    exact kk c v w u NL ad H locs ls hi rfl hM hN hW (lv_sub hl [5, 6, 7, 8] rfl)
  · refine lv_aload_n hx hb dL_law_290 rfl (lv_at hl 7 rfl) ?_
    refine lv_iload hx hb dL_law_291 (lv_at hl 3 rfl) ?_
    have hD9 := hW.2.1
    refine pc_mcalli (va_runV (As := [.int (nI sh)]) (rest := []) ⟨hx, hb, hml, hown, hts⟩ (m_X5_check l D cA NL c v w u ad (lwA s rr) (nI sh) hM (INV_bnd hi) (INV_wf hi) (nI_nn (Nat.lt_of_lt_of_le hsh (Nat.le_trans (INV_bnd hi).1 (by decide)))) (by rw [nI_clamp (Nat.lt_of_lt_of_le hsh (Nat.le_trans (INV_bnd hi).1 (by decide)))]; exact hsh) c810) (cwV 1 hts gL_law_X5_check rfl rfl rfl (by decide +kernel) ⟨Nat.le_of_ble_eq_true rfl, Nat.le_of_ble_eq_true rfl⟩) (pc_preV pcN_ok hX hW.1 hM.1 rfl rfl ⟨hW.1, hW.2.1, fun q h => hA q (Nat.le_trans hW.2.2.1 h)⟩) rfl rfl hl.1 rfl (lv_room (Nat.le_of_ble_eq_true rfl)) dL_law_293 ⟨(by show _ ≤ (600074 : Nat); omega), (by show _ ≤ (7301550 : Nat); omega)⟩) hW.2.2 (fun r811 _ H locs hwr811 hB hS9 => ?_)
    replace hwr811 := hwr811.symm
    subst hwr811
    have hW : pcS D vwCl (lwA s rr) HR NL ad (ctO cA c (V_X5_check c v w (nI sh)) w u ad) H locs := ⟨hB, pcD_ct hD9, hS9⟩
    have hi812 : INV c (V_X5_check c v w (nI sh)) w := (INV_check hi hsh)
    refine lv_aload_n hx hb dL_law_296 rfl (lv_at hl 7 rfl) ?_
    refine lv_iload hx hb dL_law_297 (lv_at hl 3 rfl) ?_
    refine lv_bipush (v := 7) hx hb dL_law_299 (by decide) ?_
    refine pc_rcalli (va_runV (As := [.int (nI sh), .int 7]) (rest := [.int (F_X5_check c v w (nI sh))]) ⟨hx, hb, hml, hown, hts⟩ (r_X5_ofSheet7 l D cA NL c (V_X5_check c v w (nI sh)) w u ad (nI sh) hM (INV_bnd hi812) (INV_wf hi812) (nI_nn (Nat.lt_of_lt_of_le hsh (Nat.le_trans (INV_bnd hi812).1 (by decide)))) (by rw [nI_clamp (Nat.lt_of_lt_of_le hsh (Nat.le_trans (INV_bnd hi812).1 (by decide)))]; exact hsh)) (cwV 2 hts gL_law_X5_ofSheet rfl rfl rfl (by decide +kernel) ⟨Nat.le_of_ble_eq_true rfl, Nat.le_of_ble_eq_true rfl⟩) (pc_preV pcN_ok hX hW.1 hM.1 rfl rfl hW.1) rfl rfl hl.1 rfl (lv_room (Nat.le_of_ble_eq_true rfl)) dL_law_301 ⟨(by show _ ≤ (600074 : Nat); omega), (by show _ ≤ (7301550 : Nat); omega)⟩) hW (fun r813 H locs hwr813 hW => ?_)
    replace hwr813 := hwr813.symm
    subst hwr813
    refine lv_icmp_eq (tgt := 789) hx hb dL_law_304 (by decide) (fun _ => ?_) (fun c814 => absurd (check_ans hi hsh) c814)
    refine W.widen (k := cl0 + 40) (n := sl0 + 200) (by omega) (by omega) ?_
    exact kk c (V_X5_check c v w (nI sh)) w u NL ad H locs ls hi812 rfl hM hN hW (lv_sub hl [5, 6, 7, 8] rfl)

set_option maxHeartbeats 4000000 in
set_option maxRecDepth 100000 in
theorem law_arm_1 {p : Program} {e : Env} {s : State} {m : MethodId} {below : List Frame} {meth : Method} {c0 : Code} {l : Launch} {b L : Nat} {xs : Nat → Int32} {D : va_G} {cA : Nat → ClassId} (C1 : law_C p l s m meth c0 b L xs D cA) {c : SC} {v : SV} {w : SW} {u : Nat → Int32} {NL : List (Nat × Nat)} {ad : Nat → Nat → Nat} {i sh rr cl0 sl0 : Nat} {pk x9 : Int32} {ug : Nat × Nat × Nat × Nat} {HR : Heap} (hcl : cl0 ≤ 300000) (hsl : sl0 ≤ 3000000) (hi : INV c v w) (h2n : 2 ≤ c 0) (hM : MEM c NL) (hN : NMEM c NL) (hsh : sh < c 0) (hpk : pk = -1 ∨ ∃ q, q < c 4 ∧ pk = nI q) (hsz : s.heap.size ≤ HR.size) (hrl : rr < HR.size) (hPr0 : va_P D vwCl [(rr, .inl (cA 0, 4, .inl (rgF ug)))] HR) (hug : rgO ug) (H : Heap) (locs : List Loc) (hW : pcS D vwCl (lwA s rr) HR NL ad (ctO cA c v w u ad) H locs) (ls : Array Slot) (hl : lv_has ls 13 [(8, .ref rr), (7, .int pk), (6, .int (nI (c 4))), (5, .int (nI sh)), (4, .int x9), (3, .int (nI i)), (2, .int (nI (c 0))), (1, .ref (ad 5 0)), (0, .ref b)]) (kk : ∀ (c2 : SC) (v2 : SV) (w2 : SW) (u2 : Nat → Int32) (NL2 : List (Nat × Nat)) (ad2 : Nat → Nat → Nat) (H : Heap) (locs : List Loc) (ls : Array Slot), INV c2 v2 w2 → c2 0 = c 0 → MEM c2 NL2 → NMEM c2 NL2 → pcS D vwCl (lwA s rr) HR NL2 ad2 (ctO cA c2 v2 w2 u2 ad2) H locs → lv_has ls 13 [(3, .int (nI i)), (2, .int (nI (c 0))), (1, .ref (ad2 5 0)), (0, .ref b)] → W p l e room_1 s m #[Value.ref b] below meth c0 H locs (cl0 + 40) (sl0 + 200) (lw_Z below #[Value.ref b] s) (F0 m 789 ls [])) : W p l e room_1 s m #[Value.ref b] below meth c0 H locs cl0 sl0 (lw_Z below #[Value.ref b] s) (F0 m 309 ls []) := by
  obtain ⟨hx, hb, hr, hml, hown, hts, hlocks, hX, hsc, hbl, hL⟩ := id C1
  have hA : ∀ q : Nat, HR.size ≤ q → lwA s rr q := fun q h => ⟨Nat.le_trans hsz h, fun e => by omega⟩
  have h5n := hi.1
  refine lv_aload_n hx hb dL_law_309 rfl (lv_at hl 7 rfl) ?_
  refine lv_iload hx hb dL_law_310 (lv_at hl 3 rfl) ?_
  have hD9 := hW.2.1
  refine pc_mcalli (va_runV (As := [.int (nI sh)]) (rest := []) ⟨hx, hb, hml, hown, hts⟩ (m_X5_stoppedBy l D cA NL c v w u ad (lwA s rr) (nI sh) hM (INV_bnd hi) (INV_wf hi) (INV_ri hi) (nI_nn (Nat.lt_of_lt_of_le hsh (Nat.le_trans (INV_bnd hi).1 (by decide)))) (by rw [nI_clamp (Nat.lt_of_lt_of_le hsh (Nat.le_trans (INV_bnd hi).1 (by decide)))]; exact hsh)) (cwV 1 hts gL_law_X5_stoppedBy rfl rfl rfl (by decide +kernel) ⟨Nat.le_of_ble_eq_true rfl, Nat.le_of_ble_eq_true rfl⟩) (pc_preV pcN_ok hX hW.1 hM.1 rfl rfl ⟨hW.1, hW.2.1, fun q h => hA q (Nat.le_trans hW.2.2.1 h)⟩) rfl rfl hl.1 rfl (lv_room (Nat.le_of_ble_eq_true rfl)) dL_law_312 ⟨(by show _ ≤ (600074 : Nat); omega), (by show _ ≤ (7301550 : Nat); omega)⟩) hW.2.2 (fun r815 _ H locs hwr815 hB hS9 => ?_)
  replace hwr815 := hwr815.symm
  subst hwr815
  have hW : pcS D vwCl (lwA s rr) HR NL ad (ctO cA c v w u ad) H locs := ⟨hB, pcD_ct hD9, hS9⟩
  refine lv_istore (lv' := [(9, .int (F_X5_stoppedBy c v w (nI sh))), (8, .ref rr), (7, .int pk), (6, .int (nI (c 4))), (5, .int (nI sh)), (4, .int x9), (3, .int (nI i)), (2, .int (nI (c 0))), (1, .ref (ad 5 0)), (0, .ref b)]) hx hb dL_law_315 hl (by decide) rfl (fun ls hl => ?_)
  refine lv_aload_n hx hb dL_law_317 rfl (lv_at hl 8 rfl) ?_
  refine lv_bipush (v := 10) hx hb dL_law_318 (by decide) ?_
  refine pc_rcalli (va_runV (As := [.int 10]) (rest := []) ⟨hx, hb, hml, hown, hts⟩ (r_X5_many10 l D cA NL c v w u ad  hM (INV_bnd hi) (INV_wf hi) ) (cwV 1 hts gL_law_X5_many rfl rfl rfl (by decide +kernel) ⟨Nat.le_of_ble_eq_true rfl, Nat.le_of_ble_eq_true rfl⟩) (pc_preV pcN_ok hX hW.1 hM.1 rfl rfl hW.1) rfl rfl hl.1 rfl (lv_room (Nat.le_of_ble_eq_true rfl)) dL_law_320 ⟨(by show _ ≤ (600074 : Nat); omega), (by show _ ≤ (7301550 : Nat); omega)⟩) hW (fun r816 H locs hwr816 hW => ?_)
  replace hwr816 := hwr816.symm
  subst hwr816
  refine lv_istore (lv' := [(10, .int (F_X5_many10 c v w)), (9, .int (F_X5_stoppedBy c v w (nI sh))), (8, .ref rr), (7, .int pk), (6, .int (nI (c 4))), (5, .int (nI sh)), (4, .int x9), (3, .int (nI i)), (2, .int (nI (c 0))), (1, .ref (ad 5 0)), (0, .ref b)]) hx hb dL_law_323 hl (by decide) rfl (fun ls hl => ?_)
  refine lv_iload hx hb dL_law_325 (lv_at hl 1 rfl) ?_
  refine lv_if_lt (tgt := 334) hx hb dL_law_327 (by decide) (fun (c817 : (F_X5_stoppedBy c v w (nI sh)) < 0) => ?_) (fun (c817 : ¬ (F_X5_stoppedBy c v w (nI sh)) < 0) => ?_)
  · refine lv_iconst (v := 0) hx hb dL_law_334 (by decide) ?_
    refine lv_aload_n hx hb dL_law_335 rfl (lv_at hl 9 rfl) ?_
    refine lv_iload hx hb dL_law_336 (lv_at hl 5 rfl) ?_
    refine lv_iconst (v := 3) hx hb dL_law_338 (by decide) ?_
    refine pc_rcalli (va_runV (As := [.int (nI sh), .int 3]) (rest := [.int 0]) ⟨hx, hb, hml, hown, hts⟩ (r_X5_ofSheet3 l D cA NL c v w u ad (nI sh) hM (INV_bnd hi) (INV_wf hi) (nI_nn (Nat.lt_of_lt_of_le hsh (Nat.le_trans (INV_bnd hi).1 (by decide)))) (by rw [nI_clamp (Nat.lt_of_lt_of_le hsh (Nat.le_trans (INV_bnd hi).1 (by decide)))]; exact hsh)) (cwV 2 hts gL_law_X5_ofSheet rfl rfl rfl (by decide +kernel) ⟨Nat.le_of_ble_eq_true rfl, Nat.le_of_ble_eq_true rfl⟩) (pc_preV pcN_ok hX hW.1 hM.1 rfl rfl hW.1) rfl rfl hl.1 rfl (lv_room (Nat.le_of_ble_eq_true rfl)) dL_law_339 ⟨(by show _ ≤ (600074 : Nat); omega), (by show _ ≤ (7301550 : Nat); omega)⟩) hW (fun r818 H locs hwr818 hW => ?_)
    replace hwr818 := hwr818.symm
    subst hwr818
    refine lv_iconst (v := 1) hx hb dL_law_342 (by decide) ?_
    refine lv_icmp_ne (tgt := 361) hx hb dL_law_343 (by decide) (fun (c819 : ¬ (F_X5_ofSheet3 c v w (nI sh)) = (1 : Int32)) => ?_) (fun (c819 : (F_X5_ofSheet3 c v w (nI sh)) = (1 : Int32)) => ?_)
    · refine lv_iconst (v := 0) hx hb dL_law_361 (by decide) ?_
      refine lv_icmp_eq (tgt := 367) hx hb dL_law_362 (by decide) (fun _ => ?_) (fun c820 => absurd (by decide) c820)
      refine lv_iload hx hb dL_law_367 (lv_at hl 1 rfl) ?_
      refine lv_if_lt (tgt := 789) hx hb dL_law_369 (by decide) (fun _ => ?_) (fun c821 => absurd c817 c821)
      refine W.widen (k := cl0 + 40) (n := sl0 + 200) (by omega) (by omega) ?_
      exact kk c v w u NL ad H locs ls hi rfl hM hN hW (lv_sub hl [7, 8, 9, 10] rfl)
    · refine lv_aload_n hx hb dL_law_346 rfl (lv_at hl 9 rfl) ?_
      refine lv_iload hx hb dL_law_347 (lv_at hl 5 rfl) ?_
      refine lv_bipush (v := 7) hx hb dL_law_349 (by decide) ?_
      refine pc_rcalli (va_runV (As := [.int (nI sh), .int 7]) (rest := [.int 0]) ⟨hx, hb, hml, hown, hts⟩ (r_X5_ofSheet7 l D cA NL c v w u ad (nI sh) hM (INV_bnd hi) (INV_wf hi) (nI_nn (Nat.lt_of_lt_of_le hsh (Nat.le_trans (INV_bnd hi).1 (by decide)))) (by rw [nI_clamp (Nat.lt_of_lt_of_le hsh (Nat.le_trans (INV_bnd hi).1 (by decide)))]; exact hsh)) (cwV 2 hts gL_law_X5_ofSheet rfl rfl rfl (by decide +kernel) ⟨Nat.le_of_ble_eq_true rfl, Nat.le_of_ble_eq_true rfl⟩) (pc_preV pcN_ok hX hW.1 hM.1 rfl rfl hW.1) rfl rfl hl.1 rfl (lv_room (Nat.le_of_ble_eq_true rfl)) dL_law_351 ⟨(by show _ ≤ (600074 : Nat); omega), (by show _ ≤ (7301550 : Nat); omega)⟩) hW (fun r822 H locs hwr822 hW => ?_)
      replace hwr822 := hwr822.symm
      subst hwr822
      refine lv_if_ne (tgt := 361) hx hb dL_law_354 (by decide) (fun _ => ?_) (fun c823 => absurd c823 (sb_not hi c817 c819))
      refine lv_iconst (v := 0) hx hb dL_law_361 (by decide) ?_
      refine lv_icmp_eq (tgt := 367) hx hb dL_law_362 (by decide) (fun _ => ?_) (fun c824 => absurd (by decide) c824)
      refine lv_iload hx hb dL_law_367 (lv_at hl 1 rfl) ?_
      refine lv_if_lt (tgt := 789) hx hb dL_law_369 (by decide) (fun _ => ?_) (fun c825 => absurd c817 c825)
      refine W.widen (k := cl0 + 40) (n := sl0 + 200) (by omega) (by omega) ?_
      exact kk c v w u NL ad H locs ls hi rfl hM hN hW (lv_sub hl [7, 8, 9, 10] rfl)
  · refine lv_iconst (v := 1) hx hb dL_law_330 (by decide) ?_
    refine lv_goto (tgt := 335) hx hb dL_law_331 (by decide) ?_
    refine lv_aload_n hx hb dL_law_335 rfl (lv_at hl 9 rfl) ?_
    refine lv_iload hx hb dL_law_336 (lv_at hl 5 rfl) ?_
    refine lv_iconst (v := 3) hx hb dL_law_338 (by decide) ?_
    refine pc_rcalli (va_runV (As := [.int (nI sh), .int 3]) (rest := [.int 1]) ⟨hx, hb, hml, hown, hts⟩ (r_X5_ofSheet3 l D cA NL c v w u ad (nI sh) hM (INV_bnd hi) (INV_wf hi) (nI_nn (Nat.lt_of_lt_of_le hsh (Nat.le_trans (INV_bnd hi).1 (by decide)))) (by rw [nI_clamp (Nat.lt_of_lt_of_le hsh (Nat.le_trans (INV_bnd hi).1 (by decide)))]; exact hsh)) (cwV 2 hts gL_law_X5_ofSheet rfl rfl rfl (by decide +kernel) ⟨Nat.le_of_ble_eq_true rfl, Nat.le_of_ble_eq_true rfl⟩) (pc_preV pcN_ok hX hW.1 hM.1 rfl rfl hW.1) rfl rfl hl.1 rfl (lv_room (Nat.le_of_ble_eq_true rfl)) dL_law_339 ⟨(by show _ ≤ (600074 : Nat); omega), (by show _ ≤ (7301550 : Nat); omega)⟩) hW (fun r826 H locs hwr826 hW => ?_)
    replace hwr826 := hwr826.symm
    subst hwr826
    refine lv_iconst (v := 1) hx hb dL_law_342 (by decide) ?_
    refine lv_icmp_ne (tgt := 361) hx hb dL_law_343 (by decide) (fun c827 => absurd c827 (fun q => q (sb_ready c817).2.1)) (fun _ => ?_)
    refine lv_aload_n hx hb dL_law_346 rfl (lv_at hl 9 rfl) ?_
    refine lv_iload hx hb dL_law_347 (lv_at hl 5 rfl) ?_
    refine lv_bipush (v := 7) hx hb dL_law_349 (by decide) ?_
    refine pc_rcalli (va_runV (As := [.int (nI sh), .int 7]) (rest := [.int 1]) ⟨hx, hb, hml, hown, hts⟩ (r_X5_ofSheet7 l D cA NL c v w u ad (nI sh) hM (INV_bnd hi) (INV_wf hi) (nI_nn (Nat.lt_of_lt_of_le hsh (Nat.le_trans (INV_bnd hi).1 (by decide)))) (by rw [nI_clamp (Nat.lt_of_lt_of_le hsh (Nat.le_trans (INV_bnd hi).1 (by decide)))]; exact hsh)) (cwV 2 hts gL_law_X5_ofSheet rfl rfl rfl (by decide +kernel) ⟨Nat.le_of_ble_eq_true rfl, Nat.le_of_ble_eq_true rfl⟩) (pc_preV pcN_ok hX hW.1 hM.1 rfl rfl hW.1) rfl rfl hl.1 rfl (lv_room (Nat.le_of_ble_eq_true rfl)) dL_law_351 ⟨(by show _ ≤ (600074 : Nat); omega), (by show _ ≤ (7301550 : Nat); omega)⟩) hW (fun r828 H locs hwr828 hW => ?_)
    replace hwr828 := hwr828.symm
    subst hwr828
    refine lv_if_ne (tgt := 361) hx hb dL_law_354 (by decide) (fun c829 => absurd c829 (fun q => q (sb_ready c817).2.2)) (fun _ => ?_)
    refine lv_iconst (v := 1) hx hb dL_law_357 (by decide) ?_
    refine lv_goto (tgt := 362) hx hb dL_law_358 (by decide) ?_
    refine lv_icmp_eq (tgt := 367) hx hb dL_law_362 (by decide) (fun _ => ?_) (fun c830 => absurd (by decide) c830)
    refine lv_iload hx hb dL_law_367 (lv_at hl 1 rfl) ?_
    refine lv_if_lt (tgt := 789) hx hb dL_law_369 (by decide) (fun c831 => absurd c831 c817) (fun _ => ?_)
    refine lv_aload_n hx hb dL_law_372 rfl (lv_at hl 9 rfl) ?_
    refine lv_iload hx hb dL_law_373 (lv_at hl 5 rfl) ?_
    have hD9 := hW.2.1
    refine pc_mcalli (va_runV (As := [.int (nI sh)]) (rest := []) ⟨hx, hb, hml, hown, hts⟩ (m_X5_issue l D cA NL c v w u ad (lwA s rr) (nI sh) hM (INV_bnd hi) (INV_wf hi) (nI_nn (Nat.lt_of_lt_of_le hsh (Nat.le_trans (INV_bnd hi).1 (by decide)))) (by rw [nI_clamp (Nat.lt_of_lt_of_le hsh (Nat.le_trans (INV_bnd hi).1 (by decide)))]; exact hsh) (sb_ready c817).1) (cwV 1 hts gL_law_X5_issue rfl rfl rfl (by decide +kernel) ⟨Nat.le_of_ble_eq_true rfl, Nat.le_of_ble_eq_true rfl⟩) (pc_preV pcN_ok hX hW.1 hM.1 rfl rfl ⟨hW.1, hW.2.1, fun q h => hA q (Nat.le_trans hW.2.2.1 h)⟩) rfl rfl hl.1 rfl (lv_room (Nat.le_of_ble_eq_true rfl)) dL_law_375 ⟨(by show _ ≤ (600074 : Nat); omega), (by show _ ≤ (7301550 : Nat); omega)⟩) hW.2.2 (fun r832 _ H locs hwr832 hB hS9 => ?_)
    replace hwr832 := hwr832.symm
    subst hwr832
    have hW : pcS D vwCl (lwA s rr) HR NL ad (ctO cA c (V_X5_issue c v w (nI sh)) (W_X5_issue c v w (nI sh)) u ad) H locs := ⟨hB, pcD_ct hD9, hS9⟩
    have hi833 : INV c (V_X5_issue c v w (nI sh)) (W_X5_issue c v w (nI sh)) := (INV_issue hi hsh)
    refine lv_iload hx hb dL_law_378 (lv_at hl 1 rfl) ?_
    refine lv_icmp_ne (tgt := 416) hx hb dL_law_380 (by decide) (fun c834 => absurd c834 (fun q => q (issue_ans hi hsh (sb_ready c817).1))) (fun _ => ?_)
    refine lv_aload_n hx hb dL_law_383 rfl (lv_at hl 9 rfl) ?_
    refine lv_bipush (v := 10) hx hb dL_law_384 (by decide) ?_
    refine pc_rcalli (va_runV (As := [.int 10]) (rest := []) ⟨hx, hb, hml, hown, hts⟩ (r_X5_many10 l D cA NL c (V_X5_issue c v w (nI sh)) (W_X5_issue c v w (nI sh)) u ad  hM (INV_bnd hi833) (INV_wf hi833) ) (cwV 1 hts gL_law_X5_many rfl rfl rfl (by decide +kernel) ⟨Nat.le_of_ble_eq_true rfl, Nat.le_of_ble_eq_true rfl⟩) (pc_preV pcN_ok hX hW.1 hM.1 rfl rfl hW.1) rfl rfl hl.1 rfl (lv_room (Nat.le_of_ble_eq_true rfl)) dL_law_386 ⟨(by show _ ≤ (600074 : Nat); omega), (by show _ ≤ (7301550 : Nat); omega)⟩) hW (fun r835 H locs hwr835 hW => ?_)
    replace hwr835 := hwr835.symm
    subst hwr835
    refine lv_iload hx hb dL_law_389 (lv_at hl 0 rfl) ?_
    refine lv_iload hx hb dL_law_391 (lv_at hl 1 rfl) ?_
    refine lv_iadd hx hb dL_law_393 ?_
    refine lv_icmp_ne (tgt := 416) hx hb dL_law_394 (by decide) (fun c836 => absurd c836 (fun q => q ((issue_many hi hsh).trans (by rw [issue_ans hi hsh (sb_ready c817).1])))) (fun _ => ?_)
    refine lv_aload_n hx hb dL_law_397 rfl (lv_at hl 9 rfl) ?_
    refine lv_iload hx hb dL_law_398 (lv_at hl 5 rfl) ?_
    refine lv_iconst (v := 2) hx hb dL_law_400 (by decide) ?_
    refine pc_rcalli (va_runV (As := [.int (nI sh), .int 2]) (rest := []) ⟨hx, hb, hml, hown, hts⟩ (r_X5_ofSheet2 l D cA NL c (V_X5_issue c v w (nI sh)) (W_X5_issue c v w (nI sh)) u ad (nI sh) hM (INV_bnd hi833) (INV_wf hi833) (nI_nn (Nat.lt_of_lt_of_le hsh (Nat.le_trans (INV_bnd hi833).1 (by decide)))) (by rw [nI_clamp (Nat.lt_of_lt_of_le hsh (Nat.le_trans (INV_bnd hi833).1 (by decide)))]; exact hsh)) (cwV 2 hts gL_law_X5_ofSheet rfl rfl rfl (by decide +kernel) ⟨Nat.le_of_ble_eq_true rfl, Nat.le_of_ble_eq_true rfl⟩) (pc_preV pcN_ok hX hW.1 hM.1 rfl rfl hW.1) rfl rfl hl.1 rfl (lv_room (Nat.le_of_ble_eq_true rfl)) dL_law_401 ⟨(by show _ ≤ (600074 : Nat); omega), (by show _ ≤ (7301550 : Nat); omega)⟩) hW (fun r837 H locs hwr837 hW => ?_)
    replace hwr837 := hwr837.symm
    subst hwr837
    refine lv_aload_n hx hb dL_law_404 rfl (lv_at hl 9 rfl) ?_
    refine lv_iload hx hb dL_law_405 (lv_at hl 5 rfl) ?_
    refine lv_iconst (v := 1) hx hb dL_law_407 (by decide) ?_
    refine pc_rcalli (va_runV (As := [.int (nI sh), .int 1]) (rest := [.int (F_X5_ofSheet2 c (V_X5_issue c v w (nI sh)) (W_X5_issue c v w (nI sh)) (nI sh))]) ⟨hx, hb, hml, hown, hts⟩ (r_X5_ofSheet1 l D cA NL c (V_X5_issue c v w (nI sh)) (W_X5_issue c v w (nI sh)) u ad (nI sh) hM (INV_bnd hi833) (INV_wf hi833) (nI_nn (Nat.lt_of_lt_of_le hsh (Nat.le_trans (INV_bnd hi833).1 (by decide)))) (by rw [nI_clamp (Nat.lt_of_lt_of_le hsh (Nat.le_trans (INV_bnd hi833).1 (by decide)))]; exact hsh)) (cwV 2 hts gL_law_X5_ofSheet rfl rfl rfl (by decide +kernel) ⟨Nat.le_of_ble_eq_true rfl, Nat.le_of_ble_eq_true rfl⟩) (pc_preV pcN_ok hX hW.1 hM.1 rfl rfl hW.1) rfl rfl hl.1 rfl (lv_room (Nat.le_of_ble_eq_true rfl)) dL_law_408 ⟨(by show _ ≤ (600074 : Nat); omega), (by show _ ≤ (7301550 : Nat); omega)⟩) hW (fun r838 H locs hwr838 hW => ?_)
    replace hwr838 := hwr838.symm
    subst hwr838
    refine lv_iconst (v := 1) hx hb dL_law_411 (by decide) ?_
    refine lv_isub hx hb dL_law_412 ?_
    refine lv_icmp_eq (tgt := 789) hx hb dL_law_413 (by decide) (fun _ => ?_) (fun c839 => absurd (issue_last hi hsh) c839)
    refine W.widen (k := cl0 + 40) (n := sl0 + 200) (by omega) (by omega) ?_
    exact kk c (V_X5_issue c v w (nI sh)) (W_X5_issue c v w (nI sh)) u NL ad H locs ls hi833 rfl hM hN hW (lv_sub hl [7, 8, 9, 10] rfl)

set_option maxHeartbeats 4000000 in
set_option maxRecDepth 100000 in
theorem law_arm_2 {p : Program} {e : Env} {s : State} {m : MethodId} {below : List Frame} {meth : Method} {c0 : Code} {l : Launch} {b L : Nat} {xs : Nat → Int32} {D : va_G} {cA : Nat → ClassId} (C1 : law_C p l s m meth c0 b L xs D cA) {c : SC} {v : SV} {w : SW} {u : Nat → Int32} {NL : List (Nat × Nat)} {ad : Nat → Nat → Nat} {i sh rr cl0 sl0 : Nat} {pk x9 : Int32} {ug : Nat × Nat × Nat × Nat} {HR : Heap} (hcl : cl0 ≤ 300000) (hsl : sl0 ≤ 3000000) (hi : INV c v w) (h2n : 2 ≤ c 0) (hM : MEM c NL) (hN : NMEM c NL) (hsh : sh < c 0) (hpk : pk = -1 ∨ ∃ q, q < c 4 ∧ pk = nI q) (hsz : s.heap.size ≤ HR.size) (hrl : rr < HR.size) (hPr0 : va_P D vwCl [(rr, .inl (cA 0, 4, .inl (rgF ug)))] HR) (hug : rgO ug) (H : Heap) (locs : List Loc) (hW : pcS D vwCl (lwA s rr) HR NL ad (ctO cA c v w u ad) H locs) (ls : Array Slot) (hl : lv_has ls 13 [(8, .ref rr), (7, .int pk), (6, .int (nI (c 4))), (5, .int (nI sh)), (4, .int x9), (3, .int (nI i)), (2, .int (nI (c 0))), (1, .ref (ad 5 0)), (0, .ref b)]) (kk : ∀ (c2 : SC) (v2 : SV) (w2 : SW) (u2 : Nat → Int32) (NL2 : List (Nat × Nat)) (ad2 : Nat → Nat → Nat) (H : Heap) (locs : List Loc) (ls : Array Slot), INV c2 v2 w2 → c2 0 = c 0 → MEM c2 NL2 → NMEM c2 NL2 → pcS D vwCl (lwA s rr) HR NL2 ad2 (ctO cA c2 v2 w2 u2 ad2) H locs → lv_has ls 13 [(3, .int (nI i)), (2, .int (nI (c 0))), (1, .ref (ad2 5 0)), (0, .ref b)] → W p l e room_1 s m #[Value.ref b] below meth c0 H locs (cl0 + 40) (sl0 + 200) (lw_Z below #[Value.ref b] s) (F0 m 789 ls [])) : W p l e room_1 s m #[Value.ref b] below meth c0 H locs cl0 sl0 (lw_Z below #[Value.ref b] s) (F0 m 418 ls []) := by
  obtain ⟨hx, hb, hr, hml, hown, hts, hlocks, hX, hsc, hbl, hL⟩ := id C1
  have hA : ∀ q : Nat, HR.size ≤ q → lwA s rr q := fun q h => ⟨Nat.le_trans hsz h, fun e => by omega⟩
  have h5n := hi.1
  refine lv_aload_n hx hb dL_law_418 rfl (lv_at hl 7 rfl) ?_
  refine lv_iload hx hb dL_law_419 (lv_at hl 3 rfl) ?_
  refine lv_iconst (v := 3) hx hb dL_law_421 (by decide) ?_
  refine pc_rcalli (va_runV (As := [.int (nI sh), .int 3]) (rest := []) ⟨hx, hb, hml, hown, hts⟩ (r_X5_ofSheet3 l D cA NL c v w u ad (nI sh) hM (INV_bnd hi) (INV_wf hi) (nI_nn (Nat.lt_of_lt_of_le hsh (Nat.le_trans (INV_bnd hi).1 (by decide)))) (by rw [nI_clamp (Nat.lt_of_lt_of_le hsh (Nat.le_trans (INV_bnd hi).1 (by decide)))]; exact hsh)) (cwV 2 hts gL_law_X5_ofSheet rfl rfl rfl (by decide +kernel) ⟨Nat.le_of_ble_eq_true rfl, Nat.le_of_ble_eq_true rfl⟩) (pc_preV pcN_ok hX hW.1 hM.1 rfl rfl hW.1) rfl rfl hl.1 rfl (lv_room (Nat.le_of_ble_eq_true rfl)) dL_law_422 ⟨(by show _ ≤ (600074 : Nat); omega), (by show _ ≤ (7301550 : Nat); omega)⟩) hW (fun r840 H locs hwr840 hW => ?_)
  replace hwr840 := hwr840.symm
  subst hwr840
  refine lv_iconst (v := 1) hx hb dL_law_425 (by decide) ?_
  refine lv_icmp_le (tgt := 789) hx hb dL_law_426 (by decide) (fun (c841 : (F_X5_ofSheet3 c v w (nI sh)) ≤ (1 : Int32)) => ?_) (fun (c841 : ¬ (F_X5_ofSheet3 c v w (nI sh)) ≤ (1 : Int32)) => ?_)
  · refine W.widen (k := cl0 + 40) (n := sl0 + 200) (by omega) (by omega) ?_
    exact kk c v w u NL ad H locs ls hi rfl hM hN hW (lv_sub hl [5, 6, 7, 8] rfl)
  · refine lv_aload_n hx hb dL_law_429 rfl (lv_at hl 7 rfl) ?_
    refine lv_iload hx hb dL_law_430 (lv_at hl 3 rfl) ?_
    refine lv_iconst (v := 1) hx hb dL_law_432 (by decide) ?_
    refine pc_rcalli (va_runV (As := [.int (nI sh), .int 1]) (rest := []) ⟨hx, hb, hml, hown, hts⟩ (r_X5_ofSheet1 l D cA NL c v w u ad (nI sh) hM (INV_bnd hi) (INV_wf hi) (nI_nn (Nat.lt_of_lt_of_le hsh (Nat.le_trans (INV_bnd hi).1 (by decide)))) (by rw [nI_clamp (Nat.lt_of_lt_of_le hsh (Nat.le_trans (INV_bnd hi).1 (by decide)))]; exact hsh)) (cwV 2 hts gL_law_X5_ofSheet rfl rfl rfl (by decide +kernel) ⟨Nat.le_of_ble_eq_true rfl, Nat.le_of_ble_eq_true rfl⟩) (pc_preV pcN_ok hX hW.1 hM.1 rfl rfl hW.1) rfl rfl hl.1 rfl (lv_room (Nat.le_of_ble_eq_true rfl)) dL_law_433 ⟨(by show _ ≤ (600074 : Nat); omega), (by show _ ≤ (7301550 : Nat); omega)⟩) hW (fun r842 H locs hwr842 hW => ?_)
    replace hwr842 := hwr842.symm
    subst hwr842
    refine lv_bipush (v := 6) hx hb dL_law_436 (by decide) ?_
    refine lv_icmp_ge (tgt := 789) hx hb dL_law_438 (by decide) (fun (c843 : (6 : Int32) ≤ (F_X5_ofSheet1 c v w (nI sh))) => ?_) (fun (c843 : ¬ (6 : Int32) ≤ (F_X5_ofSheet1 c v w (nI sh))) => ?_)
    · refine W.widen (k := cl0 + 40) (n := sl0 + 200) (by omega) (by omega) ?_
      exact kk c v w u NL ad H locs ls hi rfl hM hN hW (lv_sub hl [5, 6, 7, 8] rfl)
    · refine lv_aload_n hx hb dL_law_441 rfl (lv_at hl 7 rfl) ?_
      refine lv_iload hx hb dL_law_442 (lv_at hl 3 rfl) ?_
      have hD9 := hW.2.1
      refine pc_mcalli (va_runV (As := [.int (nI sh)]) (rest := []) ⟨hx, hb, hml, hown, hts⟩ (m_X5_revise l D cA NL c v w u ad (lwA s rr) (nI sh) hM (INV_bnd hi) (INV_wf hi) (nI_nn (Nat.lt_of_lt_of_le hsh (Nat.le_trans (INV_bnd hi).1 (by decide)))) (by rw [nI_clamp (Nat.lt_of_lt_of_le hsh (Nat.le_trans (INV_bnd hi).1 (by decide)))]; exact hsh) (st_gt1 hi hsh c841).1 (Int32.not_le.mp c843)) (cwV 1 hts gL_law_X5_revise rfl rfl rfl (by decide +kernel) ⟨Nat.le_of_ble_eq_true rfl, Nat.le_of_ble_eq_true rfl⟩) (pc_preV pcN_ok hX hW.1 hM.1 rfl rfl ⟨hW.1, hW.2.1, fun q h => hA q (Nat.le_trans hW.2.2.1 h)⟩) rfl rfl hl.1 rfl (lv_room (Nat.le_of_ble_eq_true rfl)) dL_law_444 ⟨(by show _ ≤ (600074 : Nat); omega), (by show _ ≤ (7301550 : Nat); omega)⟩) hW.2.2 (fun r844 _ H locs hwr844 hB hS9 => ?_)
      replace hwr844 := hwr844.symm
      subst hwr844
      have hW : pcS D vwCl (lwA s rr) HR NL ad (ctO cA c (V_X5_revise c v w (nI sh)) (W_X5_revise c v w (nI sh)) u ad) H locs := ⟨hB, pcD_ct hD9, hS9⟩
      have hi845 : INV c (V_X5_revise c v w (nI sh)) (W_X5_revise c v w (nI sh)) := (INV_revise hi hsh (st_gt1 hi hsh c841).2 (by have h9 := Int32.not_le.mp c843; unfold F_X5_ofSheet1 at h9; rw [(cl (i := sh) (by omega))] at h9; exact h9))
      refine lv_aload_n hx hb dL_law_447 rfl (lv_at hl 7 rfl) ?_
      refine lv_iload hx hb dL_law_448 (lv_at hl 3 rfl) ?_
      refine lv_iconst (v := 1) hx hb dL_law_450 (by decide) ?_
      refine pc_rcalli (va_runV (As := [.int (nI sh), .int 1]) (rest := [.int (F_X5_revise c v w (nI sh))]) ⟨hx, hb, hml, hown, hts⟩ (r_X5_ofSheet1 l D cA NL c (V_X5_revise c v w (nI sh)) (W_X5_revise c v w (nI sh)) u ad (nI sh) hM (INV_bnd hi845) (INV_wf hi845) (nI_nn (Nat.lt_of_lt_of_le hsh (Nat.le_trans (INV_bnd hi845).1 (by decide)))) (by rw [nI_clamp (Nat.lt_of_lt_of_le hsh (Nat.le_trans (INV_bnd hi845).1 (by decide)))]; exact hsh)) (cwV 2 hts gL_law_X5_ofSheet rfl rfl rfl (by decide +kernel) ⟨Nat.le_of_ble_eq_true rfl, Nat.le_of_ble_eq_true rfl⟩) (pc_preV pcN_ok hX hW.1 hM.1 rfl rfl hW.1) rfl rfl hl.1 rfl (lv_room (Nat.le_of_ble_eq_true rfl)) dL_law_451 ⟨(by show _ ≤ (600074 : Nat); omega), (by show _ ≤ (7301550 : Nat); omega)⟩) hW (fun r846 H locs hwr846 hW => ?_)
      replace hwr846 := hwr846.symm
      subst hwr846
      refine lv_iconst (v := 1) hx hb dL_law_454 (by decide) ?_
      refine lv_isub hx hb dL_law_455 ?_
      refine lv_icmp_eq (tgt := 789) hx hb dL_law_456 (by decide) (fun _ => ?_) (fun c847 => absurd revise_ans c847)
      refine W.widen (k := cl0 + 40) (n := sl0 + 200) (by omega) (by omega) ?_
      exact kk c (V_X5_revise c v w (nI sh)) (W_X5_revise c v w (nI sh)) u NL ad H locs ls hi845 rfl hM hN hW (lv_sub hl [5, 6, 7, 8] rfl)

set_option maxHeartbeats 4000000 in
set_option maxRecDepth 100000 in
theorem law_arm_3 {p : Program} {e : Env} {s : State} {m : MethodId} {below : List Frame} {meth : Method} {c0 : Code} {l : Launch} {b L : Nat} {xs : Nat → Int32} {D : va_G} {cA : Nat → ClassId} (C1 : law_C p l s m meth c0 b L xs D cA) {c : SC} {v : SV} {w : SW} {u : Nat → Int32} {NL : List (Nat × Nat)} {ad : Nat → Nat → Nat} {i sh rr cl0 sl0 : Nat} {pk x9 : Int32} {ug : Nat × Nat × Nat × Nat} {HR : Heap} (hcl : cl0 ≤ 300000) (hsl : sl0 ≤ 3000000) (hi : INV c v w) (h2n : 2 ≤ c 0) (hM : MEM c NL) (hN : NMEM c NL) (hsh : sh < c 0) (hpk : pk = -1 ∨ ∃ q, q < c 4 ∧ pk = nI q) (hsz : s.heap.size ≤ HR.size) (hrl : rr < HR.size) (hPr0 : va_P D vwCl [(rr, .inl (cA 0, 4, .inl (rgF ug)))] HR) (hug : rgO ug) (H : Heap) (locs : List Loc) (hW : pcS D vwCl (lwA s rr) HR NL ad (ctO cA c v w u ad) H locs) (ls : Array Slot) (hl : lv_has ls 13 [(8, .ref rr), (7, .int pk), (6, .int (nI (c 4))), (5, .int (nI sh)), (4, .int x9), (3, .int (nI i)), (2, .int (nI (c 0))), (1, .ref (ad 5 0)), (0, .ref b)]) (kk : ∀ (c2 : SC) (v2 : SV) (w2 : SW) (u2 : Nat → Int32) (NL2 : List (Nat × Nat)) (ad2 : Nat → Nat → Nat) (H : Heap) (locs : List Loc) (ls : Array Slot), INV c2 v2 w2 → c2 0 = c 0 → MEM c2 NL2 → NMEM c2 NL2 → pcS D vwCl (lwA s rr) HR NL2 ad2 (ctO cA c2 v2 w2 u2 ad2) H locs → lv_has ls 13 [(3, .int (nI i)), (2, .int (nI (c 0))), (1, .ref (ad2 5 0)), (0, .ref b)] → W p l e room_1 s m #[Value.ref b] below meth c0 H locs (cl0 + 40) (sl0 + 200) (lw_Z below #[Value.ref b] s) (F0 m 789 ls [])) : W p l e room_1 s m #[Value.ref b] below meth c0 H locs cl0 sl0 (lw_Z below #[Value.ref b] s) (F0 m 461 ls []) := by
  obtain ⟨hx, hb, hr, hml, hown, hts, hlocks, hX, hsc, hbl, hL⟩ := id C1
  have hA : ∀ q : Nat, HR.size ≤ q → lwA s rr q := fun q h => ⟨Nat.le_trans hsz h, fun e => by omega⟩
  have h5n := hi.1
  refine lv_iload hx hb dL_law_461 (lv_at hl 4 rfl) ?_
  refine lv_iconst (v := 5) hx hb dL_law_463 (by decide) ?_
  refine lv_ishr hx hb dL_law_464 ?_
  refine lv_iload_n hx hb dL_law_465 rfl (lv_at hl 6 rfl) ?_
  refine pc_rcalli (va_runS (As := [.int (x9 >>> ((5 : Int32) &&& 31)), .int (nI (c 0))]) (rest := []) ⟨hx, hb, hml, hown, hts⟩ (r_L_below l D cA (x9 >>> ((5 : Int32) &&& 31)) (nI (c 0)) (nI_ne0 (by omega) (by omega))) (va_cwS 2 hts gL_law_L_below rfl rfl rfl (by decide +kernel) ⟨Nat.le_of_ble_eq_true rfl, Nat.le_of_ble_eq_true rfl⟩) (pc_preS pcN_ok hX trivial) rfl rfl hl.1 rfl (lv_room (Nat.le_of_ble_eq_true rfl)) dL_law_466 ⟨(by show _ ≤ (600074 : Nat); omega), (by show _ ≤ (7301550 : Nat); omega)⟩) hW (fun r848 H locs hwr848 hW => ?_)
  replace hwr848 := hwr848.symm
  subst hwr848
  obtain ⟨j849, hj849, ej849⟩ : ∃ j, j < (c 0) ∧ (F_L_below (x9 >>> ((5 : Int32) &&& 31)) (nI (c 0))) = nI j := below_ok _ (c 0) (by omega) (by omega)
  rw [ej849]
  refine lv_istore (lv' := [(11, .int (nI j849)), (8, .ref rr), (7, .int pk), (6, .int (nI (c 4))), (5, .int (nI sh)), (4, .int x9), (3, .int (nI i)), (2, .int (nI (c 0))), (1, .ref (ad 5 0)), (0, .ref b)]) hx hb dL_law_469 hl (by decide) rfl (fun ls hl => ?_)
  refine lv_iload hx hb dL_law_471 (lv_at hl 0 rfl) ?_
  refine lv_iload hx hb dL_law_473 (lv_at hl 4 rfl) ?_
  refine lv_icmp_eq (tgt := 789) hx hb dL_law_475 (by decide) (fun (c850 : (nI j849) = (nI sh)) => ?_) (fun (c850 : ¬ (nI j849) = (nI sh)) => ?_)
  · refine W.widen (k := cl0 + 40) (n := sl0 + 200) (by omega) (by omega) ?_
    exact kk c v w u NL ad H locs ls hi rfl hM hN hW (lv_sub hl [6, 7, 8, 9] rfl)
  · refine lv_aload_n hx hb dL_law_478 rfl (lv_at hl 8 rfl) ?_
    refine lv_iload hx hb dL_law_479 (lv_at hl 4 rfl) ?_
    refine lv_iconst (v := 3) hx hb dL_law_481 (by decide) ?_
    refine pc_rcalli (va_runV (As := [.int (nI sh), .int 3]) (rest := []) ⟨hx, hb, hml, hown, hts⟩ (r_X5_ofSheet3 l D cA NL c v w u ad (nI sh) hM (INV_bnd hi) (INV_wf hi) (nI_nn (Nat.lt_of_lt_of_le hsh (Nat.le_trans (INV_bnd hi).1 (by decide)))) (by rw [nI_clamp (Nat.lt_of_lt_of_le hsh (Nat.le_trans (INV_bnd hi).1 (by decide)))]; exact hsh)) (cwV 2 hts gL_law_X5_ofSheet rfl rfl rfl (by decide +kernel) ⟨Nat.le_of_ble_eq_true rfl, Nat.le_of_ble_eq_true rfl⟩) (pc_preV pcN_ok hX hW.1 hM.1 rfl rfl hW.1) rfl rfl hl.1 rfl (lv_room (Nat.le_of_ble_eq_true rfl)) dL_law_482 ⟨(by show _ ≤ (600074 : Nat); omega), (by show _ ≤ (7301550 : Nat); omega)⟩) hW (fun r851 H locs hwr851 hW => ?_)
    replace hwr851 := hwr851.symm
    subst hwr851
    refine lv_if_ne (tgt := 789) hx hb dL_law_485 (by decide) (fun (c852 : ¬ (F_X5_ofSheet3 c v w (nI sh)) = 0) => ?_) (fun (c852 : (F_X5_ofSheet3 c v w (nI sh)) = 0) => ?_)
    · refine W.widen (k := cl0 + 40) (n := sl0 + 200) (by omega) (by omega) ?_
      exact kk c v w u NL ad H locs ls hi rfl hM hN hW (lv_sub hl [6, 7, 8, 9] rfl)
    · refine lv_aload_n hx hb dL_law_488 rfl (lv_at hl 8 rfl) ?_
      refine lv_iconst (v := 1) hx hb dL_law_489 (by decide) ?_
      refine pc_rcalli (va_runV (As := [.int 1]) (rest := []) ⟨hx, hb, hml, hown, hts⟩ (r_X5_many1 l D cA NL c v w u ad  hM (INV_bnd hi) (INV_wf hi) ) (cwV 1 hts gL_law_X5_many rfl rfl rfl (by decide +kernel) ⟨Nat.le_of_ble_eq_true rfl, Nat.le_of_ble_eq_true rfl⟩) (pc_preV pcN_ok hX hW.1 hM.1 rfl rfl hW.1) rfl rfl hl.1 rfl (lv_room (Nat.le_of_ble_eq_true rfl)) dL_law_490 ⟨(by show _ ≤ (600074 : Nat); omega), (by show _ ≤ (7301550 : Nat); omega)⟩) hW (fun r853 H locs hwr853 hW => ?_)
      replace hwr853 := hwr853.symm
      subst hwr853
      refine lv_bipush (v := 20) hx hb dL_law_493 (by decide) ?_
      refine lv_icmp_ge (tgt := 789) hx hb dL_law_495 (by decide) (fun (c854 : (20 : Int32) ≤ (F_X5_many1 c v w)) => ?_) (fun (c854 : ¬ (20 : Int32) ≤ (F_X5_many1 c v w)) => ?_)
      · refine W.widen (k := cl0 + 40) (n := sl0 + 200) (by omega) (by omega) ?_
        exact kk c v w u NL ad H locs ls hi rfl hM hN hW (lv_sub hl [6, 7, 8, 9] rfl)
      · refine lv_aload_n hx hb dL_law_498 rfl (lv_at hl 8 rfl) ?_
        refine lv_iload hx hb dL_law_499 (lv_at hl 4 rfl) ?_
        refine lv_iload hx hb dL_law_501 (lv_at hl 0 rfl) ?_
        refine lv_iload hx hb dL_law_503 (lv_at hl 5 rfl) ?_
        refine lv_bipush (v := 6) hx hb dL_law_505 (by decide) ?_
        refine lv_ishr hx hb dL_law_507 ?_
        refine lv_bipush (v := 8) hx hb dL_law_508 (by decide) ?_
        refine pc_rcalli (va_runS (As := [.int (x9 >>> ((6 : Int32) &&& 31)), .int 8]) (rest := [.int (nI j849), .int (nI sh), .ref (ad 5 0)]) ⟨hx, hb, hml, hown, hts⟩ (r_L_below l D cA (x9 >>> ((6 : Int32) &&& 31)) (8 : Int32) (by decide)) (va_cwS 2 hts gL_law_L_below rfl rfl rfl (by decide +kernel) ⟨Nat.le_of_ble_eq_true rfl, Nat.le_of_ble_eq_true rfl⟩) (pc_preS pcN_ok hX trivial) rfl rfl hl.1 rfl (lv_room (Nat.le_of_ble_eq_true rfl)) dL_law_510 ⟨(by show _ ≤ (600074 : Nat); omega), (by show _ ≤ (7301550 : Nat); omega)⟩) hW (fun r855 H locs hwr855 hW => ?_)
        replace hwr855 := hwr855.symm
        subst hwr855
        obtain ⟨j856, hj856, ej856⟩ : ∃ j, j < 8 ∧ (F_L_below (x9 >>> ((6 : Int32) &&& 31)) (8 : Int32)) = nI j := below_ok _ 8 (by decide) (by decide)
        rw [ej856]
        refine pc_mcalli (S := List (Nat × Nat) × (Nat → Nat → Nat)) (post := fun r z => r = nI (c 1) ∧ MEM (uC c 1 (c 1 + 1)) z.1 ∧ NMEM (uC c 1 (c 1 + 1)) z.1 ∧ z.2 5 0 = ad 5 0) (B := fun z H9 => va_P D vwCl (pcW z.1 z.2 (ctO cA (uC c 1 (c 1 + 1)) (V_X5_refer c v w (nI sh) (nI j849) (nI j856)) w u z.2)) H9 ∧ va_D (lwA s rr) (pcW z.1 z.2 (ctO cA (uC c 1 (c 1 + 1)) (V_X5_refer c v w (nI sh) (nI j849) (nI j856)) w u z.2))) (va_runV (As := [.int (nI sh), .int (nI j849), .int (nI j856)]) (rest := []) ⟨hx, hb, hml, hown, hts⟩ (k_X5_refer l D cA NL c v w u ad (lwA s rr) (nI sh) (nI j849) (nI j856) hM (INV_bnd hi) (INV_wf hi) hN (nI_nn (Nat.lt_of_lt_of_le hsh (Nat.le_trans (INV_bnd hi).1 (by decide)))) (by rw [nI_clamp (Nat.lt_of_lt_of_le hsh (Nat.le_trans (INV_bnd hi).1 (by decide)))]; exact hsh) (nI_nn (Nat.lt_of_lt_of_le hj849 (Nat.le_trans (INV_bnd hi).1 (by decide)))) (by rw [nI_clamp (Nat.lt_of_lt_of_le hj849 (Nat.le_trans (INV_bnd hi).1 (by decide)))]; exact hj849) (room20 c854 (by omega)) (fun q => c850 q.symm) (nI_pos (by omega)) (nI_lt8 hj856) c852) (cwV 3 hts gL_law_X5_refer rfl rfl rfl (by decide +kernel) ⟨Nat.le_of_ble_eq_true rfl, Nat.le_of_ble_eq_true rfl⟩) (pc_preV pcN_ok hX hW.1 hM.1 rfl rfl ⟨hW.1, hW.2.1, fun q h => hA q (Nat.le_trans hW.2.2.1 h)⟩) rfl rfl hl.1 rfl (lv_room (Nat.le_of_ble_eq_true rfl)) dL_law_513 ⟨(by show _ ≤ (600074 : Nat); omega), (by show _ ≤ (7301550 : Nat); omega)⟩) hW.2.2 (fun z857r z857 H locs hwz857 hB hS9 => ?_)
        obtain ⟨NL858, ad859⟩ := z857
        obtain ⟨rfl, hM860, hN861, hA862⟩ := hwz857
        have hA862 : ad859 5 0 = ad 5 0 := hA862
        have hW : pcS D vwCl (lwA s rr) HR NL858 ad859 (ctO cA (uC c 1 (c 1 + 1)) (V_X5_refer c v w (nI sh) (nI j849) (nI j856)) w u ad859) H locs := ⟨hB.1, hB.2, hS9⟩
        have hl : lv_has ls 13 [(11, .int (nI j849)), (8, .ref rr), (7, .int pk), (6, .int (nI (c 4))), (5, .int (nI sh)), (4, .int x9), (3, .int (nI i)), (2, .int (nI (c 0))), (1, .ref (ad859 5 0)), (0, .ref b)] := by rw [hA862]; exact hl
        have hi863 : INV (uC c 1 (c 1 + 1)) (V_X5_refer c v w (nI sh) (nI j849) (nI j856)) w := (INV_refer hi hj849 (room20 c854 (by omega)) _ _)
        refine lv_aload_n hx hb dL_law_516 rfl (lv_at hl 8 rfl) ?_
        refine lv_iconst (v := 1) hx hb dL_law_517 (by decide) ?_
        refine pc_rcalli (va_runV (As := [.int 1]) (rest := [.int (nI (c 1))]) ⟨hx, hb, hml, hown, hts⟩ (r_X5_many1 l D cA NL858 (uC c 1 (c 1 + 1)) (V_X5_refer c v w (nI sh) (nI j849) (nI j856)) w u ad859  hM860 (INV_bnd hi863) (INV_wf hi863) ) (cwV 1 hts gL_law_X5_many rfl rfl rfl (by decide +kernel) ⟨Nat.le_of_ble_eq_true rfl, Nat.le_of_ble_eq_true rfl⟩) (pc_preV pcN_ok hX hW.1 hM860.1 rfl rfl hW.1) rfl rfl hl.1 rfl (lv_room (Nat.le_of_ble_eq_true rfl)) dL_law_518 ⟨(by show _ ≤ (600074 : Nat); omega), (by show _ ≤ (7301550 : Nat); omega)⟩) hW (fun r864 H locs hwr864 hW => ?_)
        replace hwr864 := hwr864.symm
        subst hwr864
        refine lv_iconst (v := 1) hx hb dL_law_521 (by decide) ?_
        refine lv_isub hx hb dL_law_522 ?_
        refine lv_icmp_eq (tgt := 789) hx hb dL_law_523 (by decide) (fun _ => ?_) (fun c865 => absurd (show nI (c 1) = nI (uC c 1 (c 1 + 1) 1) - 1 from by simp only [uC, if_pos rfl]; exact (nI_pred _).symm) c865)
        refine W.widen (k := cl0 + 40) (n := sl0 + 200) (by omega) (by omega) ?_
        exact kk (uC c 1 (c 1 + 1)) (V_X5_refer c v w (nI sh) (nI j849) (nI j856)) w u NL858 ad859 H locs ls hi863 rfl hM860 hN861 hW (lv_sub hl [6, 7, 8, 9] rfl)

set_option maxHeartbeats 4000000 in
set_option maxRecDepth 100000 in
theorem law_arm_4 {p : Program} {e : Env} {s : State} {m : MethodId} {below : List Frame} {meth : Method} {c0 : Code} {l : Launch} {b L : Nat} {xs : Nat → Int32} {D : va_G} {cA : Nat → ClassId} (C1 : law_C p l s m meth c0 b L xs D cA) {c : SC} {v : SV} {w : SW} {u : Nat → Int32} {NL : List (Nat × Nat)} {ad : Nat → Nat → Nat} {i sh rr cl0 sl0 : Nat} {pk x9 : Int32} {ug : Nat × Nat × Nat × Nat} {HR : Heap} (hcl : cl0 ≤ 300000) (hsl : sl0 ≤ 3000000) (hi : INV c v w) (h2n : 2 ≤ c 0) (hM : MEM c NL) (hN : NMEM c NL) (hsh : sh < c 0) (hpk : pk = -1 ∨ ∃ q, q < c 4 ∧ pk = nI q) (hsz : s.heap.size ≤ HR.size) (hrl : rr < HR.size) (hPr0 : va_P D vwCl [(rr, .inl (cA 0, 4, .inl (rgF ug)))] HR) (hug : rgO ug) (H : Heap) (locs : List Loc) (hW : pcS D vwCl (lwA s rr) HR NL ad (ctO cA c v w u ad) H locs) (ls : Array Slot) (hl : lv_has ls 13 [(8, .ref rr), (7, .int pk), (6, .int (nI (c 4))), (5, .int (nI sh)), (4, .int x9), (3, .int (nI i)), (2, .int (nI (c 0))), (1, .ref (ad 5 0)), (0, .ref b)]) (kk : ∀ (c2 : SC) (v2 : SV) (w2 : SW) (u2 : Nat → Int32) (NL2 : List (Nat × Nat)) (ad2 : Nat → Nat → Nat) (H : Heap) (locs : List Loc) (ls : Array Slot), INV c2 v2 w2 → c2 0 = c 0 → MEM c2 NL2 → NMEM c2 NL2 → pcS D vwCl (lwA s rr) HR NL2 ad2 (ctO cA c2 v2 w2 u2 ad2) H locs → lv_has ls 13 [(3, .int (nI i)), (2, .int (nI (c 0))), (1, .ref (ad2 5 0)), (0, .ref b)] → W p l e room_1 s m #[Value.ref b] below meth c0 H locs (cl0 + 40) (sl0 + 200) (lw_Z below #[Value.ref b] s) (F0 m 789 ls [])) : W p l e room_1 s m #[Value.ref b] below meth c0 H locs cl0 sl0 (lw_Z below #[Value.ref b] s) (F0 m 528 ls []) := by
  obtain ⟨hx, hb, hr, hml, hown, hts, hlocks, hX, hsc, hbl, hL⟩ := id C1
  have hA : ∀ q : Nat, HR.size ≤ q → lwA s rr q := fun q h => ⟨Nat.le_trans hsz h, fun e => by omega⟩
  have h5n := hi.1
  refine lv_aload_n hx hb dL_law_528 rfl (lv_at hl 7 rfl) ?_
  refine lv_iconst (v := 3) hx hb dL_law_529 (by decide) ?_
  refine pc_rcalli (va_runV (As := [.int 3]) (rest := []) ⟨hx, hb, hml, hown, hts⟩ (r_X5_many3 l D cA NL c v w u ad  hM (INV_bnd hi) (INV_wf hi) ) (cwV 1 hts gL_law_X5_many rfl rfl rfl (by decide +kernel) ⟨Nat.le_of_ble_eq_true rfl, Nat.le_of_ble_eq_true rfl⟩) (pc_preV pcN_ok hX hW.1 hM.1 rfl rfl hW.1) rfl rfl hl.1 rfl (lv_room (Nat.le_of_ble_eq_true rfl)) dL_law_530 ⟨(by show _ ≤ (600074 : Nat); omega), (by show _ ≤ (7301550 : Nat); omega)⟩) hW (fun r866 H locs hwr866 hW => ?_)
  replace hwr866 := hwr866.symm
  subst hwr866
  refine lv_bipush (v := 20) hx hb dL_law_533 (by decide) ?_
  refine lv_icmp_ge (tgt := 789) hx hb dL_law_535 (by decide) (fun (c867 : (20 : Int32) ≤ (F_X5_many3 c v w)) => ?_) (fun (c867 : ¬ (20 : Int32) ≤ (F_X5_many3 c v w)) => ?_)
  · refine W.widen (k := cl0 + 40) (n := sl0 + 200) (by omega) (by omega) ?_
    exact kk c v w u NL ad H locs ls hi rfl hM hN hW (lv_sub hl [5, 6, 7, 8] rfl)
  · refine lv_aload_n hx hb dL_law_538 rfl (lv_at hl 7 rfl) ?_
    refine lv_iconst (v := 1) hx hb dL_law_539 (by decide) ?_
    refine lv_iload hx hb dL_law_540 (lv_at hl 4 rfl) ?_
    refine lv_iconst (v := 5) hx hb dL_law_542 (by decide) ?_
    refine lv_ishr hx hb dL_law_543 ?_
    refine lv_iconst (v := 4) hx hb dL_law_544 (by decide) ?_
    refine pc_rcalli (va_runS (As := [.int (x9 >>> ((5 : Int32) &&& 31)), .int 4]) (rest := [.int 1, .ref (ad 5 0)]) ⟨hx, hb, hml, hown, hts⟩ (r_L_below l D cA (x9 >>> ((5 : Int32) &&& 31)) (4 : Int32) (by decide)) (va_cwS 2 hts gL_law_L_below rfl rfl rfl (by decide +kernel) ⟨Nat.le_of_ble_eq_true rfl, Nat.le_of_ble_eq_true rfl⟩) (pc_preS pcN_ok hX trivial) rfl rfl hl.1 rfl (lv_room (Nat.le_of_ble_eq_true rfl)) dL_law_545 ⟨(by show _ ≤ (600074 : Nat); omega), (by show _ ≤ (7301550 : Nat); omega)⟩) hW (fun r868 H locs hwr868 hW => ?_)
    replace hwr868 := hwr868.symm
    subst hwr868
    obtain ⟨j869, hj869, ej869⟩ : ∃ j, j < 4 ∧ (F_L_below (x9 >>> ((5 : Int32) &&& 31)) (4 : Int32)) = nI j := below_ok _ 4 (by decide) (by decide)
    rw [ej869]
    refine lv_ishl hx hb dL_law_548 ?_
    refine lv_iconst (v := 1) hx hb dL_law_549 (by decide) ?_
    refine lv_iload hx hb dL_law_550 (lv_at hl 3 rfl) ?_
    refine lv_ishl hx hb dL_law_552 ?_
    refine pc_mcalli (S := List (Nat × Nat) × (Nat → Nat → Nat)) (post := fun r z => r = nI (c 2) ∧ MEM (uC c 2 (c 2 + 1)) z.1 ∧ NMEM (uC c 2 (c 2 + 1)) z.1 ∧ z.2 5 0 = ad 5 0) (B := fun z H9 => va_P D vwCl (pcW z.1 z.2 (ctO cA (uC c 2 (c 2 + 1)) (V_X5_send c v w ((1 : Int32) <<< ((nI j869) &&& 31)) ((1 : Int32) <<< ((nI sh) &&& 31))) w u z.2)) H9 ∧ va_D (lwA s rr) (pcW z.1 z.2 (ctO cA (uC c 2 (c 2 + 1)) (V_X5_send c v w ((1 : Int32) <<< ((nI j869) &&& 31)) ((1 : Int32) <<< ((nI sh) &&& 31))) w u z.2))) (va_runV (As := [.int ((1 : Int32) <<< ((nI j869) &&& 31)), .int ((1 : Int32) <<< ((nI sh) &&& 31))]) (rest := []) ⟨hx, hb, hml, hown, hts⟩ (k_X5_send l D cA NL c v w u ad (lwA s rr) ((1 : Int32) <<< ((nI j869) &&& 31)) ((1 : Int32) <<< ((nI sh) &&& 31)) hM (INV_bnd hi) (INV_wf hi) hN (room20 c867 (by omega)) (crewset _ hj869).1 (crewset _ hj869).2 (isSet (setOk (by omega) hsh)) (allIssued (INV_all hi))) (cwV 2 hts gL_law_X5_send rfl rfl rfl (by decide +kernel) ⟨Nat.le_of_ble_eq_true rfl, Nat.le_of_ble_eq_true rfl⟩) (pc_preV pcN_ok hX hW.1 hM.1 rfl rfl ⟨hW.1, hW.2.1, fun q h => hA q (Nat.le_trans hW.2.2.1 h)⟩) rfl rfl hl.1 rfl (lv_room (Nat.le_of_ble_eq_true rfl)) dL_law_553 ⟨(by show _ ≤ (600074 : Nat); omega), (by show _ ≤ (7301550 : Nat); omega)⟩) hW.2.2 (fun z870r z870 H locs hwz870 hB hS9 => ?_)
    obtain ⟨NL871, ad872⟩ := z870
    obtain ⟨rfl, hM873, hN874, hA875⟩ := hwz870
    have hA875 : ad872 5 0 = ad 5 0 := hA875
    have hW : pcS D vwCl (lwA s rr) HR NL871 ad872 (ctO cA (uC c 2 (c 2 + 1)) (V_X5_send c v w ((1 : Int32) <<< ((nI j869) &&& 31)) ((1 : Int32) <<< ((nI sh) &&& 31))) w u ad872) H locs := ⟨hB.1, hB.2, hS9⟩
    have hl : lv_has ls 13 [(8, .ref rr), (7, .int pk), (6, .int (nI (c 4))), (5, .int (nI sh)), (4, .int x9), (3, .int (nI i)), (2, .int (nI (c 0))), (1, .ref (ad872 5 0)), (0, .ref b)] := by rw [hA875]; exact hl
    have hi876 : INV (uC c 2 (c 2 + 1)) (V_X5_send c v w ((1 : Int32) <<< ((nI j869) &&& 31)) ((1 : Int32) <<< ((nI sh) &&& 31))) w := (INV_send hi (room20 c867 (by omega)) _ _)
    refine lv_aload_n hx hb dL_law_556 rfl (lv_at hl 7 rfl) ?_
    refine lv_iconst (v := 3) hx hb dL_law_557 (by decide) ?_
    refine pc_rcalli (va_runV (As := [.int 3]) (rest := [.int (nI (c 2))]) ⟨hx, hb, hml, hown, hts⟩ (r_X5_many3 l D cA NL871 (uC c 2 (c 2 + 1)) (V_X5_send c v w ((1 : Int32) <<< ((nI j869) &&& 31)) ((1 : Int32) <<< ((nI sh) &&& 31))) w u ad872  hM873 (INV_bnd hi876) (INV_wf hi876) ) (cwV 1 hts gL_law_X5_many rfl rfl rfl (by decide +kernel) ⟨Nat.le_of_ble_eq_true rfl, Nat.le_of_ble_eq_true rfl⟩) (pc_preV pcN_ok hX hW.1 hM873.1 rfl rfl hW.1) rfl rfl hl.1 rfl (lv_room (Nat.le_of_ble_eq_true rfl)) dL_law_558 ⟨(by show _ ≤ (600074 : Nat); omega), (by show _ ≤ (7301550 : Nat); omega)⟩) hW (fun r877 H locs hwr877 hW => ?_)
    replace hwr877 := hwr877.symm
    subst hwr877
    refine lv_iconst (v := 1) hx hb dL_law_561 (by decide) ?_
    refine lv_isub hx hb dL_law_562 ?_
    refine lv_icmp_eq (tgt := 789) hx hb dL_law_563 (by decide) (fun _ => ?_) (fun c878 => absurd (show nI (c 2) = nI (uC c 2 (c 2 + 1) 2) - 1 from by simp only [uC, if_pos rfl]; exact (nI_pred _).symm) c878)
    refine W.widen (k := cl0 + 40) (n := sl0 + 200) (by omega) (by omega) ?_
    exact kk (uC c 2 (c 2 + 1)) (V_X5_send c v w ((1 : Int32) <<< ((nI j869) &&& 31)) ((1 : Int32) <<< ((nI sh) &&& 31))) w u NL871 ad872 H locs ls hi876 rfl hM873 hN874 hW (lv_sub hl [5, 6, 7, 8] rfl)

set_option maxHeartbeats 4000000 in
set_option maxRecDepth 100000 in
theorem law_arm_5 {p : Program} {e : Env} {s : State} {m : MethodId} {below : List Frame} {meth : Method} {c0 : Code} {l : Launch} {b L : Nat} {xs : Nat → Int32} {D : va_G} {cA : Nat → ClassId} (C1 : law_C p l s m meth c0 b L xs D cA) {c : SC} {v : SV} {w : SW} {u : Nat → Int32} {NL : List (Nat × Nat)} {ad : Nat → Nat → Nat} {i sh rr cl0 sl0 : Nat} {pk x9 : Int32} {ug : Nat × Nat × Nat × Nat} {HR : Heap} (hcl : cl0 ≤ 300000) (hsl : sl0 ≤ 3000000) (hi : INV c v w) (h2n : 2 ≤ c 0) (hM : MEM c NL) (hN : NMEM c NL) (hsh : sh < c 0) (hpk : pk = -1 ∨ ∃ q, q < c 4 ∧ pk = nI q) (hsz : s.heap.size ≤ HR.size) (hrl : rr < HR.size) (hPr0 : va_P D vwCl [(rr, .inl (cA 0, 4, .inl (rgF ug)))] HR) (hug : rgO ug) (H : Heap) (locs : List Loc) (hW : pcS D vwCl (lwA s rr) HR NL ad (ctO cA c v w u ad) H locs) (ls : Array Slot) (hl : lv_has ls 13 [(8, .ref rr), (7, .int pk), (6, .int (nI (c 4))), (5, .int (nI sh)), (4, .int x9), (3, .int (nI i)), (2, .int (nI (c 0))), (1, .ref (ad 5 0)), (0, .ref b)]) (kk : ∀ (c2 : SC) (v2 : SV) (w2 : SW) (u2 : Nat → Int32) (NL2 : List (Nat × Nat)) (ad2 : Nat → Nat → Nat) (H : Heap) (locs : List Loc) (ls : Array Slot), INV c2 v2 w2 → c2 0 = c 0 → MEM c2 NL2 → NMEM c2 NL2 → pcS D vwCl (lwA s rr) HR NL2 ad2 (ctO cA c2 v2 w2 u2 ad2) H locs → lv_has ls 13 [(3, .int (nI i)), (2, .int (nI (c 0))), (1, .ref (ad2 5 0)), (0, .ref b)] → W p l e room_1 s m #[Value.ref b] below meth c0 H locs (cl0 + 40) (sl0 + 200) (lw_Z below #[Value.ref b] s) (F0 m 789 ls [])) : W p l e room_1 s m #[Value.ref b] below meth c0 H locs cl0 sl0 (lw_Z below #[Value.ref b] s) (F0 m 568 ls []) := by
  obtain ⟨hx, hb, hr, hml, hown, hts, hlocks, hX, hsc, hbl, hL⟩ := id C1
  have hA : ∀ q : Nat, HR.size ≤ q → lwA s rr q := fun q h => ⟨Nat.le_trans hsz h, fun e => by omega⟩
  have h5n := hi.1
  refine lv_aload_n hx hb dL_law_568 rfl (lv_at hl 7 rfl) ?_
  refine lv_iconst (v := 4) hx hb dL_law_569 (by decide) ?_
  refine pc_rcalli (va_runV (As := [.int 4]) (rest := []) ⟨hx, hb, hml, hown, hts⟩ (r_X5_many4 l D cA NL c v w u ad  hM (INV_bnd hi) (INV_wf hi) ) (cwV 1 hts gL_law_X5_many rfl rfl rfl (by decide +kernel) ⟨Nat.le_of_ble_eq_true rfl, Nat.le_of_ble_eq_true rfl⟩) (pc_preV pcN_ok hX hW.1 hM.1 rfl rfl hW.1) rfl rfl hl.1 rfl (lv_room (Nat.le_of_ble_eq_true rfl)) dL_law_570 ⟨(by show _ ≤ (600074 : Nat); omega), (by show _ ≤ (7301550 : Nat); omega)⟩) hW (fun r879 H locs hwr879 hW => ?_)
  replace hwr879 := hwr879.symm
  subst hwr879
  refine lv_bipush (v := 20) hx hb dL_law_573 (by decide) ?_
  refine lv_icmp_ge (tgt := 789) hx hb dL_law_575 (by decide) (fun (c880 : (20 : Int32) ≤ (F_X5_many4 c v w)) => ?_) (fun (c880 : ¬ (20 : Int32) ≤ (F_X5_many4 c v w)) => ?_)
  · refine W.widen (k := cl0 + 40) (n := sl0 + 200) (by omega) (by omega) ?_
    exact kk c v w u NL ad H locs ls hi rfl hM hN hW (lv_sub hl [5, 6, 7, 8] rfl)
  · refine lv_aload_n hx hb dL_law_578 rfl (lv_at hl 7 rfl) ?_
    refine lv_iload hx hb dL_law_579 (lv_at hl 3 rfl) ?_
    refine lv_aload hx hb dL_law_581 (lv_at hl 0 rfl) ?_
    refine lv_iconst (v := 0) hx hb dL_law_583 (by decide) ?_
    have hPr := rr_kept hPr0 hrl hW
    refine va_iald hx hb hX.1 hPr 0 0 rfl rfl (vp_in_nI (n := 0) (by decide) (by decide)) dL_law_584 ?_
    rw [rg0]
    refine lv_aload hx hb dL_law_585 (lv_at hl 0 rfl) ?_
    refine lv_iconst (v := 1) hx hb dL_law_587 (by decide) ?_
    have hPr := rr_kept hPr0 hrl hW
    refine va_iald hx hb hX.1 hPr 0 0 rfl rfl (vp_in_nI (n := 1) (by decide) (by decide)) dL_law_588 ?_
    rw [rg1]
    refine lv_aload hx hb dL_law_589 (lv_at hl 0 rfl) ?_
    refine lv_iconst (v := 2) hx hb dL_law_591 (by decide) ?_
    have hPr := rr_kept hPr0 hrl hW
    refine va_iald hx hb hX.1 hPr 0 0 rfl rfl (vp_in_nI (n := 2) (by decide) (by decide)) dL_law_592 ?_
    rw [rg2]
    refine lv_aload hx hb dL_law_593 (lv_at hl 0 rfl) ?_
    refine lv_iconst (v := 3) hx hb dL_law_595 (by decide) ?_
    have hPr := rr_kept hPr0 hrl hW
    refine va_iald hx hb hX.1 hPr 0 0 rfl rfl (vp_in_nI (n := 3) (by decide) (by decide)) dL_law_596 ?_
    rw [rg3]
    refine pc_mcalli (S := List (Nat × Nat) × (Nat → Nat → Nat)) (post := fun r z => r = nI (c 3) ∧ MEM (uC c 3 (c 3 + 1)) z.1 ∧ NMEM (uC c 3 (c 3 + 1)) z.1 ∧ z.2 5 0 = ad 5 0) (B := fun z H9 => va_P D vwCl (pcW z.1 z.2 (ctO cA (uC c 3 (c 3 + 1)) (V_X5_query c v w (nI sh) (nI ug.1) (nI ug.2.1) (nI ug.2.2.1) (nI ug.2.2.2)) (W_X5_query c v w (nI sh) (nI ug.1) (nI ug.2.1) (nI ug.2.2.1) (nI ug.2.2.2)) u z.2)) H9 ∧ va_D (lwA s rr) (pcW z.1 z.2 (ctO cA (uC c 3 (c 3 + 1)) (V_X5_query c v w (nI sh) (nI ug.1) (nI ug.2.1) (nI ug.2.2.1) (nI ug.2.2.2)) (W_X5_query c v w (nI sh) (nI ug.1) (nI ug.2.1) (nI ug.2.2.1) (nI ug.2.2.2)) u z.2))) (va_runV (As := [.int (nI sh), .int (nI ug.1), .int (nI ug.2.1), .int (nI ug.2.2.1), .int (nI ug.2.2.2)]) (rest := []) ⟨hx, hb, hml, hown, hts⟩ (k_X5_query l D cA NL c v w u ad (lwA s rr) (nI sh) (nI ug.1) (nI ug.2.1) (nI ug.2.2.1) (nI ug.2.2.2) hM (INV_bnd hi) (INV_wf hi) hN (nI_nn (Nat.lt_of_lt_of_le hsh (Nat.le_trans (INV_bnd hi).1 (by decide)))) (by rw [nI_clamp (Nat.lt_of_lt_of_le hsh (Nat.le_trans (INV_bnd hi).1 (by decide)))]; exact hsh) (rg_ok hug).1 (rg_ok hug).2.1 (rg_ok hug).2.2.1 (rg_ok hug).2.2.2.1 (rg_ok hug).2.2.2.2.1 (rg_ok hug).2.2.2.2.2 (room20 c880 (by omega)) (by rw [cl (by omega)]; exact INV_all hi sh hsh)) (cwV 5 hts gL_law_X5_query rfl rfl rfl (by decide +kernel) ⟨Nat.le_of_ble_eq_true rfl, Nat.le_of_ble_eq_true rfl⟩) (pc_preV pcN_ok hX hW.1 hM.1 rfl rfl ⟨hW.1, hW.2.1, fun q h => hA q (Nat.le_trans hW.2.2.1 h)⟩) rfl rfl hl.1 rfl (lv_room (Nat.le_of_ble_eq_true rfl)) dL_law_597 ⟨(by show _ ≤ (600074 : Nat); omega), (by show _ ≤ (7301550 : Nat); omega)⟩) hW.2.2 (fun z881r z881 H locs hwz881 hB hS9 => ?_)
    obtain ⟨NL882, ad883⟩ := z881
    obtain ⟨rfl, hM884, hN885, hA886⟩ := hwz881
    have hA886 : ad883 5 0 = ad 5 0 := hA886
    have hW : pcS D vwCl (lwA s rr) HR NL882 ad883 (ctO cA (uC c 3 (c 3 + 1)) (V_X5_query c v w (nI sh) (nI ug.1) (nI ug.2.1) (nI ug.2.2.1) (nI ug.2.2.2)) (W_X5_query c v w (nI sh) (nI ug.1) (nI ug.2.1) (nI ug.2.2.1) (nI ug.2.2.2)) u ad883) H locs := ⟨hB.1, hB.2, hS9⟩
    have hl : lv_has ls 13 [(8, .ref rr), (7, .int pk), (6, .int (nI (c 4))), (5, .int (nI sh)), (4, .int x9), (3, .int (nI i)), (2, .int (nI (c 0))), (1, .ref (ad883 5 0)), (0, .ref b)] := by rw [hA886]; exact hl
    have hi887 : INV (uC c 3 (c 3 + 1)) (V_X5_query c v w (nI sh) (nI ug.1) (nI ug.2.1) (nI ug.2.2.1) (nI ug.2.2.2)) (W_X5_query c v w (nI sh) (nI ug.1) (nI ug.2.1) (nI ug.2.2.1) (nI ug.2.2.2)) := (INV_query hi (room20 c880 (by omega)) _ _ _ _ _)
    refine lv_aload_n hx hb dL_law_600 rfl (lv_at hl 7 rfl) ?_
    refine lv_iconst (v := 4) hx hb dL_law_601 (by decide) ?_
    refine pc_rcalli (va_runV (As := [.int 4]) (rest := [.int (nI (c 3))]) ⟨hx, hb, hml, hown, hts⟩ (r_X5_many4 l D cA NL882 (uC c 3 (c 3 + 1)) (V_X5_query c v w (nI sh) (nI ug.1) (nI ug.2.1) (nI ug.2.2.1) (nI ug.2.2.2)) (W_X5_query c v w (nI sh) (nI ug.1) (nI ug.2.1) (nI ug.2.2.1) (nI ug.2.2.2)) u ad883  hM884 (INV_bnd hi887) (INV_wf hi887) ) (cwV 1 hts gL_law_X5_many rfl rfl rfl (by decide +kernel) ⟨Nat.le_of_ble_eq_true rfl, Nat.le_of_ble_eq_true rfl⟩) (pc_preV pcN_ok hX hW.1 hM884.1 rfl rfl hW.1) rfl rfl hl.1 rfl (lv_room (Nat.le_of_ble_eq_true rfl)) dL_law_602 ⟨(by show _ ≤ (600074 : Nat); omega), (by show _ ≤ (7301550 : Nat); omega)⟩) hW (fun r888 H locs hwr888 hW => ?_)
    replace hwr888 := hwr888.symm
    subst hwr888
    refine lv_iconst (v := 1) hx hb dL_law_605 (by decide) ?_
    refine lv_isub hx hb dL_law_606 ?_
    refine lv_icmp_ne (tgt := 628) hx hb dL_law_607 (by decide) (fun c889 => absurd c889 (fun q => q (show nI (c 3) = nI (uC c 3 (c 3 + 1) 3) - 1 from by simp only [uC, if_pos rfl]; exact (nI_pred _).symm))) (fun _ => ?_)
    refine lv_aload_n hx hb dL_law_610 rfl (lv_at hl 7 rfl) ?_
    refine lv_iload hx hb dL_law_611 (lv_at hl 3 rfl) ?_
    refine lv_aload hx hb dL_law_613 (lv_at hl 0 rfl) ?_
    refine lv_iconst (v := 0) hx hb dL_law_615 (by decide) ?_
    have hPr := rr_kept hPr0 hrl hW
    refine va_iald hx hb hX.1 hPr 0 0 rfl rfl (vp_in_nI (n := 0) (by decide) (by decide)) dL_law_616 ?_
    rw [rg0]
    refine lv_aload hx hb dL_law_617 (lv_at hl 0 rfl) ?_
    refine lv_iconst (v := 3) hx hb dL_law_619 (by decide) ?_
    have hPr := rr_kept hPr0 hrl hW
    refine va_iald hx hb hX.1 hPr 0 0 rfl rfl (vp_in_nI (n := 3) (by decide) (by decide)) dL_law_620 ?_
    rw [rg3]
    refine pc_rcalli (va_runV (As := [.int (nI sh), .int (nI ug.1), .int (nI ug.2.2.2)]) (rest := []) ⟨hx, hb, hml, hown, hts⟩ (r_X5_clouds l D cA NL882 (uC c 3 (c 3 + 1)) (V_X5_query c v w (nI sh) (nI ug.1) (nI ug.2.1) (nI ug.2.2.1) (nI ug.2.2.2)) (W_X5_query c v w (nI sh) (nI ug.1) (nI ug.2.1) (nI ug.2.2.1) (nI ug.2.2.2)) u ad883 (nI sh) (nI ug.1) (nI ug.2.2.2) hM884 (INV_bnd hi887) (INV_wf hi887) (nI_nn (Nat.lt_of_lt_of_le hsh (Nat.le_trans (INV_bnd hi887).1 (by decide)))) (by rw [nI_clamp (Nat.lt_of_lt_of_le hsh (Nat.le_trans (INV_bnd hi887).1 (by decide)))]; exact hsh) (rg_ok hug).1 (nI_lt20 (Nat.lt_of_le_of_lt hug.1 hug.2.1)) (nI_pos (by have := hug.2.2.2; omega)) (rg_ok hug).2.2.2.2.2) (cwV 3 hts gL_law_X5_clouds rfl rfl rfl (by decide +kernel) ⟨Nat.le_of_ble_eq_true rfl, Nat.le_of_ble_eq_true rfl⟩) (pc_preV pcN_ok hX hW.1 hM884.1 rfl rfl hW.1) rfl rfl hl.1 rfl (lv_room (Nat.le_of_ble_eq_true rfl)) dL_law_621 ⟨(by show _ ≤ (600074 : Nat); omega), (by show _ ≤ (7301550 : Nat); omega)⟩) hW (fun r890 H locs hwr890 hW => ?_)
    replace hwr890 := hwr890.symm
    subst hwr890
    refine lv_iconst (v := 1) hx hb dL_law_624 (by decide) ?_
    refine lv_icmp_ge (tgt := 789) hx hb dL_law_625 (by decide) (fun _ => ?_) (fun c891 => absurd (clouds_new hi (room20 c880 (by omega)) hug.1 hug.2.1 hug.2.2.1 hug.2.2.2) c891)
    refine W.widen (k := cl0 + 40) (n := sl0 + 200) (by omega) (by omega) ?_
    exact kk (uC c 3 (c 3 + 1)) (V_X5_query c v w (nI sh) (nI ug.1) (nI ug.2.1) (nI ug.2.2.1) (nI ug.2.2.2)) (W_X5_query c v w (nI sh) (nI ug.1) (nI ug.2.1) (nI ug.2.2.1) (nI ug.2.2.2)) u NL882 ad883 H locs ls hi887 rfl hM884 hN885 hW (lv_sub hl [5, 6, 7, 8] rfl)

set_option maxHeartbeats 4000000 in
set_option maxRecDepth 100000 in
theorem law_arm_6 {p : Program} {e : Env} {s : State} {m : MethodId} {below : List Frame} {meth : Method} {c0 : Code} {l : Launch} {b L : Nat} {xs : Nat → Int32} {D : va_G} {cA : Nat → ClassId} (C1 : law_C p l s m meth c0 b L xs D cA) {c : SC} {v : SV} {w : SW} {u : Nat → Int32} {NL : List (Nat × Nat)} {ad : Nat → Nat → Nat} {i sh rr cl0 sl0 : Nat} {pk x9 : Int32} {ug : Nat × Nat × Nat × Nat} {HR : Heap} (hcl : cl0 ≤ 300000) (hsl : sl0 ≤ 3000000) (hi : INV c v w) (h2n : 2 ≤ c 0) (hM : MEM c NL) (hN : NMEM c NL) (hsh : sh < c 0) (hpk : pk = -1 ∨ ∃ q, q < c 4 ∧ pk = nI q) (hsz : s.heap.size ≤ HR.size) (hrl : rr < HR.size) (hPr0 : va_P D vwCl [(rr, .inl (cA 0, 4, .inl (rgF ug)))] HR) (hug : rgO ug) (H : Heap) (locs : List Loc) (hW : pcS D vwCl (lwA s rr) HR NL ad (ctO cA c v w u ad) H locs) (ls : Array Slot) (hl : lv_has ls 13 [(8, .ref rr), (7, .int pk), (6, .int (nI (c 4))), (5, .int (nI sh)), (4, .int x9), (3, .int (nI i)), (2, .int (nI (c 0))), (1, .ref (ad 5 0)), (0, .ref b)]) (kk : ∀ (c2 : SC) (v2 : SV) (w2 : SW) (u2 : Nat → Int32) (NL2 : List (Nat × Nat)) (ad2 : Nat → Nat → Nat) (H : Heap) (locs : List Loc) (ls : Array Slot), INV c2 v2 w2 → c2 0 = c 0 → MEM c2 NL2 → NMEM c2 NL2 → pcS D vwCl (lwA s rr) HR NL2 ad2 (ctO cA c2 v2 w2 u2 ad2) H locs → lv_has ls 13 [(3, .int (nI i)), (2, .int (nI (c 0))), (1, .ref (ad2 5 0)), (0, .ref b)] → W p l e room_1 s m #[Value.ref b] below meth c0 H locs (cl0 + 40) (sl0 + 200) (lw_Z below #[Value.ref b] s) (F0 m 789 ls [])) : W p l e room_1 s m #[Value.ref b] below meth c0 H locs cl0 sl0 (lw_Z below #[Value.ref b] s) (F0 m 630 ls []) := by
  obtain ⟨hx, hb, hr, hml, hown, hts, hlocks, hX, hsc, hbl, hL⟩ := id C1
  have hA : ∀ q : Nat, HR.size ≤ q → lwA s rr q := fun q h => ⟨Nat.le_trans hsz h, fun e => by omega⟩
  have h5n := hi.1
  refine lv_iload hx hb dL_law_630 (lv_at hl 2 rfl) ?_
  refine lv_bipush (v := 8) hx hb dL_law_632 (by decide) ?_
  refine lv_icmp_ge (tgt := 789) hx hb dL_law_634 (by decide) (fun (c892 : (8 : Int32) ≤ (nI (c 4))) => ?_) (fun (c892 : ¬ (8 : Int32) ≤ (nI (c 4))) => ?_)
  · refine W.widen (k := cl0 + 40) (n := sl0 + 200) (by omega) (by omega) ?_
    exact kk c v w u NL ad H locs ls hi rfl hM hN hW (lv_sub hl [5, 6, 7, 8] rfl)
  · refine lv_aload_n hx hb dL_law_637 rfl (lv_at hl 7 rfl) ?_
    refine lv_iload hx hb dL_law_638 (lv_at hl 4 rfl) ?_
    refine lv_iconst (v := 5) hx hb dL_law_640 (by decide) ?_
    refine lv_ishr hx hb dL_law_641 ?_
    refine lv_iconst (v := 4) hx hb dL_law_642 (by decide) ?_
    refine pc_rcalli (va_runS (As := [.int (x9 >>> ((5 : Int32) &&& 31)), .int 4]) (rest := [.ref (ad 5 0)]) ⟨hx, hb, hml, hown, hts⟩ (r_L_below l D cA (x9 >>> ((5 : Int32) &&& 31)) (4 : Int32) (by decide)) (va_cwS 2 hts gL_law_L_below rfl rfl rfl (by decide +kernel) ⟨Nat.le_of_ble_eq_true rfl, Nat.le_of_ble_eq_true rfl⟩) (pc_preS pcN_ok hX trivial) rfl rfl hl.1 rfl (lv_room (Nat.le_of_ble_eq_true rfl)) dL_law_643 ⟨(by show _ ≤ (600074 : Nat); omega), (by show _ ≤ (7301550 : Nat); omega)⟩) hW (fun r893 H locs hwr893 hW => ?_)
    replace hwr893 := hwr893.symm
    subst hwr893
    obtain ⟨j894, hj894, ej894⟩ : ∃ j, j < 4 ∧ (F_L_below (x9 >>> ((5 : Int32) &&& 31)) (4 : Int32)) = nI j := below_ok _ 4 (by decide) (by decide)
    rw [ej894]
    refine lv_iconst (v := 1) hx hb dL_law_646 (by decide) ?_
    refine lv_iload hx hb dL_law_647 (lv_at hl 3 rfl) ?_
    refine lv_ishl hx hb dL_law_649 ?_
    refine lv_iconst (v := 1) hx hb dL_law_650 (by decide) ?_
    refine lv_iload hx hb dL_law_651 (lv_at hl 4 rfl) ?_
    refine lv_iconst (v := 2) hx hb dL_law_653 (by decide) ?_
    refine lv_ishr hx hb dL_law_654 ?_
    refine lv_iconst (v := 4) hx hb dL_law_655 (by decide) ?_
    refine pc_rcalli (va_runS (As := [.int (x9 >>> ((2 : Int32) &&& 31)), .int 4]) (rest := [.int 1, .int ((1 : Int32) <<< ((nI sh) &&& 31)), .int (nI j894), .ref (ad 5 0)]) ⟨hx, hb, hml, hown, hts⟩ (r_L_below l D cA (x9 >>> ((2 : Int32) &&& 31)) (4 : Int32) (by decide)) (va_cwS 2 hts gL_law_L_below rfl rfl rfl (by decide +kernel) ⟨Nat.le_of_ble_eq_true rfl, Nat.le_of_ble_eq_true rfl⟩) (pc_preS pcN_ok hX trivial) rfl rfl hl.1 rfl (lv_room (Nat.le_of_ble_eq_true rfl)) dL_law_656 ⟨(by show _ ≤ (600074 : Nat); omega), (by show _ ≤ (7301550 : Nat); omega)⟩) hW (fun r895 H locs hwr895 hW => ?_)
    replace hwr895 := hwr895.symm
    subst hwr895
    obtain ⟨j896, hj896, ej896⟩ : ∃ j, j < 4 ∧ (F_L_below (x9 >>> ((2 : Int32) &&& 31)) (4 : Int32)) = nI j := below_ok _ 4 (by decide) (by decide)
    rw [ej896]
    refine lv_iadd hx hb dL_law_659 ?_
    rw [n1_add]
    refine pc_mcalli (S := List (Nat × Nat) × (Nat → Nat → Nat)) (post := fun r z => r = nI (c 4) ∧ MEM (uC c 4 (c 4 + 1)) z.1 ∧ NMEM (uC c 4 (c 4 + 1)) z.1 ∧ z.2 5 0 = ad 5 0) (B := fun z H9 => va_P D vwCl (pcW z.1 z.2 (ctO cA (uC c 4 (c 4 + 1)) (V_X5_pack c v w (nI j894) ((1 : Int32) <<< ((nI sh) &&& 31)) (nI (j896 + 1))) (W_X5_pack c v w (nI j894) ((1 : Int32) <<< ((nI sh) &&& 31)) (nI (j896 + 1))) u z.2)) H9 ∧ va_D (lwA s rr) (pcW z.1 z.2 (ctO cA (uC c 4 (c 4 + 1)) (V_X5_pack c v w (nI j894) ((1 : Int32) <<< ((nI sh) &&& 31)) (nI (j896 + 1))) (W_X5_pack c v w (nI j894) ((1 : Int32) <<< ((nI sh) &&& 31)) (nI (j896 + 1))) u z.2))) (va_runV (As := [.int (nI j894), .int ((1 : Int32) <<< ((nI sh) &&& 31)), .int (nI (j896 + 1))]) (rest := []) ⟨hx, hb, hml, hown, hts⟩ (k_X5_pack l D cA NL c v w u ad (lwA s rr) (nI j894) ((1 : Int32) <<< ((nI sh) &&& 31)) (nI (j896 + 1)) hM (INV_bnd hi) (INV_wf hi) hN (room8 c892 (by omega)) (nI_pos (by omega)) (nI_lt (b := 4) hj894 (by decide)) (isSet (setOk (by omega) hsh)) (nI_nlt (b := 1) (by omega) (by omega)) (nI_le (b := 9) (by omega) (by decide))) (cwV 3 hts gL_law_X5_pack rfl rfl rfl (by decide +kernel) ⟨Nat.le_of_ble_eq_true rfl, Nat.le_of_ble_eq_true rfl⟩) (pc_preV pcN_ok hX hW.1 hM.1 rfl rfl ⟨hW.1, hW.2.1, fun q h => hA q (Nat.le_trans hW.2.2.1 h)⟩) rfl rfl hl.1 rfl (lv_room (Nat.le_of_ble_eq_true rfl)) dL_law_660 ⟨(by show _ ≤ (600074 : Nat); omega), (by show _ ≤ (7301550 : Nat); omega)⟩) hW.2.2 (fun z897r z897 H locs hwz897 hB hS9 => ?_)
    obtain ⟨NL898, ad899⟩ := z897
    obtain ⟨rfl, hM900, hN901, hA902⟩ := hwz897
    have hA902 : ad899 5 0 = ad 5 0 := hA902
    have hW : pcS D vwCl (lwA s rr) HR NL898 ad899 (ctO cA (uC c 4 (c 4 + 1)) (V_X5_pack c v w (nI j894) ((1 : Int32) <<< ((nI sh) &&& 31)) (nI (j896 + 1))) (W_X5_pack c v w (nI j894) ((1 : Int32) <<< ((nI sh) &&& 31)) (nI (j896 + 1))) u ad899) H locs := ⟨hB.1, hB.2, hS9⟩
    have hl : lv_has ls 13 [(8, .ref rr), (7, .int pk), (6, .int (nI (c 4))), (5, .int (nI sh)), (4, .int x9), (3, .int (nI i)), (2, .int (nI (c 0))), (1, .ref (ad899 5 0)), (0, .ref b)] := by rw [hA902]; exact hl
    have hi903 : INV (uC c 4 (c 4 + 1)) (V_X5_pack c v w (nI j894) ((1 : Int32) <<< ((nI sh) &&& 31)) (nI (j896 + 1))) (W_X5_pack c v w (nI j894) ((1 : Int32) <<< ((nI sh) &&& 31)) (nI (j896 + 1))) := (INV_pack hi (room8 c892 (by omega)) hj894 hsh (by omega) (by omega))
    have hp4 : c 4 < uC c 4 (c 4 + 1) 4 := by simp [uC]
    refine lv_iload hx hb dL_law_663 (lv_at hl 2 rfl) ?_
    refine lv_icmp_ne (tgt := 716) hx hb dL_law_665 (by decide) (fun c904 => absurd c904 (fun q => q rfl)) (fun _ => ?_)
    refine lv_aload_n hx hb dL_law_668 rfl (lv_at hl 7 rfl) ?_
    refine lv_iload hx hb dL_law_669 (lv_at hl 2 rfl) ?_
    refine lv_aload hx hb dL_law_671 (lv_at hl 0 rfl) ?_
    refine lv_iconst (v := 0) hx hb dL_law_673 (by decide) ?_
    have hPr := rr_kept hPr0 hrl hW
    refine va_iald hx hb hX.1 hPr 0 0 rfl rfl (vp_in_nI (n := 0) (by decide) (by decide)) dL_law_674 ?_
    rw [rg0]
    refine lv_aload hx hb dL_law_675 (lv_at hl 0 rfl) ?_
    refine lv_iconst (v := 1) hx hb dL_law_677 (by decide) ?_
    have hPr := rr_kept hPr0 hrl hW
    refine va_iald hx hb hX.1 hPr 0 0 rfl rfl (vp_in_nI (n := 1) (by decide) (by decide)) dL_law_678 ?_
    rw [rg1]
    refine lv_aload hx hb dL_law_679 (lv_at hl 0 rfl) ?_
    refine lv_iconst (v := 2) hx hb dL_law_681 (by decide) ?_
    have hPr := rr_kept hPr0 hrl hW
    refine va_iald hx hb hX.1 hPr 0 0 rfl rfl (vp_in_nI (n := 2) (by decide) (by decide)) dL_law_682 ?_
    rw [rg2]
    refine lv_aload hx hb dL_law_683 (lv_at hl 0 rfl) ?_
    refine lv_iconst (v := 3) hx hb dL_law_685 (by decide) ?_
    have hPr := rr_kept hPr0 hrl hW
    refine va_iald hx hb hX.1 hPr 0 0 rfl rfl (vp_in_nI (n := 3) (by decide) (by decide)) dL_law_686 ?_
    rw [rg3]
    have hD9 := hW.2.1
    refine pc_mcalli (va_runV (As := [.int (nI (c 4)), .int (nI ug.1), .int (nI ug.2.1), .int (nI ug.2.2.1), .int (nI ug.2.2.2)]) (rest := []) ⟨hx, hb, hml, hown, hts⟩ (m_X5_place l D cA NL898 (uC c 4 (c 4 + 1)) (V_X5_pack c v w (nI j894) ((1 : Int32) <<< ((nI sh) &&& 31)) (nI (j896 + 1))) (W_X5_pack c v w (nI j894) ((1 : Int32) <<< ((nI sh) &&& 31)) (nI (j896 + 1))) u ad899 (lwA s rr) (nI (c 4)) (nI ug.1) (nI ug.2.1) (nI ug.2.2.1) (nI ug.2.2.2) hM900 (INV_bnd hi903) (INV_wf hi903) (nI_nn (Nat.lt_of_lt_of_le hp4 (Nat.le_trans (INV_bnd hi903).2.2.2.2 (by decide)))) (by rw [nI_clamp (Nat.lt_of_lt_of_le hp4 (Nat.le_trans (INV_bnd hi903).2.2.2.2 (by decide)))]; exact hp4) (rg_ok hug).1 (rg_ok hug).2.1 (rg_ok hug).2.2.1 (rg_ok hug).2.2.2.1 (rg_ok hug).2.2.2.2.1 (rg_ok hug).2.2.2.2.2 (by rw [cl (by have := (room8 c892 (by omega)); omega)]; unfold V_X5_pack; simp [newV_7])) (cwV 5 hts gL_law_X5_place rfl rfl rfl (by decide +kernel) ⟨Nat.le_of_ble_eq_true rfl, Nat.le_of_ble_eq_true rfl⟩) (pc_preV pcN_ok hX hW.1 hM900.1 rfl rfl ⟨hW.1, hW.2.1, fun q h => hA q (Nat.le_trans hW.2.2.1 h)⟩) rfl rfl hl.1 rfl (lv_room (Nat.le_of_ble_eq_true rfl)) dL_law_687 ⟨(by show _ ≤ (600074 : Nat); omega), (by show _ ≤ (7301550 : Nat); omega)⟩) hW.2.2 (fun r905 _ H locs hwr905 hB hS9 => ?_)
    replace hwr905 := hwr905.symm
    subst hwr905
    have hW : pcS D vwCl (lwA s rr) HR NL898 ad899 (ctO cA (uC c 4 (c 4 + 1)) (V_X5_place (uC c 4 (c 4 + 1)) (V_X5_pack c v w (nI j894) ((1 : Int32) <<< ((nI sh) &&& 31)) (nI (j896 + 1))) (W_X5_pack c v w (nI j894) ((1 : Int32) <<< ((nI sh) &&& 31)) (nI (j896 + 1))) (nI (c 4)) (nI ug.1) (nI ug.2.1) (nI ug.2.2.1) (nI ug.2.2.2)) (W_X5_place (uC c 4 (c 4 + 1)) (V_X5_pack c v w (nI j894) ((1 : Int32) <<< ((nI sh) &&& 31)) (nI (j896 + 1))) (W_X5_pack c v w (nI j894) ((1 : Int32) <<< ((nI sh) &&& 31)) (nI (j896 + 1))) (nI (c 4)) (nI ug.1) (nI ug.2.1) (nI ug.2.2.1) (nI ug.2.2.2)) u ad899) H locs := ⟨hB, pcD_ct hD9, hS9⟩
    have hi906 : INV (uC c 4 (c 4 + 1)) (V_X5_place (uC c 4 (c 4 + 1)) (V_X5_pack c v w (nI j894) ((1 : Int32) <<< ((nI sh) &&& 31)) (nI (j896 + 1))) (W_X5_pack c v w (nI j894) ((1 : Int32) <<< ((nI sh) &&& 31)) (nI (j896 + 1))) (nI (c 4)) (nI ug.1) (nI ug.2.1) (nI ug.2.2.1) (nI ug.2.2.2)) (W_X5_place (uC c 4 (c 4 + 1)) (V_X5_pack c v w (nI j894) ((1 : Int32) <<< ((nI sh) &&& 31)) (nI (j896 + 1))) (W_X5_pack c v w (nI j894) ((1 : Int32) <<< ((nI sh) &&& 31)) (nI (j896 + 1))) (nI (c 4)) (nI ug.1) (nI ug.2.1) (nI ug.2.2.1) (nI ug.2.2.2)) := (INV_place hi903 hp4 _ _ _ _)
    refine lv_aload hx hb dL_law_690 (lv_at hl 0 rfl) ?_
    refine lv_iconst (v := 2) hx hb dL_law_692 (by decide) ?_
    have hPr := rr_kept hPr0 hrl hW
    refine va_iald hx hb hX.1 hPr 0 0 rfl rfl (vp_in_nI (n := 2) (by decide) (by decide)) dL_law_693 ?_
    rw [rg2]
    refine lv_aload hx hb dL_law_694 (lv_at hl 0 rfl) ?_
    refine lv_iconst (v := 0) hx hb dL_law_696 (by decide) ?_
    have hPr := rr_kept hPr0 hrl hW
    refine va_iald hx hb hX.1 hPr 0 0 rfl rfl (vp_in_nI (n := 0) (by decide) (by decide)) dL_law_697 ?_
    rw [rg0]
    refine lv_isub hx hb dL_law_698 ?_
    refine lv_iconst (v := 1) hx hb dL_law_699 (by decide) ?_
    refine lv_iadd hx hb dL_law_700 ?_
    refine lv_aload hx hb dL_law_701 (lv_at hl 0 rfl) ?_
    refine lv_iconst (v := 3) hx hb dL_law_703 (by decide) ?_
    have hPr := rr_kept hPr0 hrl hW
    refine va_iald hx hb hX.1 hPr 0 0 rfl rfl (vp_in_nI (n := 3) (by decide) (by decide)) dL_law_704 ?_
    rw [rg3]
    refine lv_aload hx hb dL_law_705 (lv_at hl 0 rfl) ?_
    refine lv_iconst (v := 1) hx hb dL_law_707 (by decide) ?_
    have hPr := rr_kept hPr0 hrl hW
    refine va_iald hx hb hX.1 hPr 0 0 rfl rfl (vp_in_nI (n := 1) (by decide) (by decide)) dL_law_708 ?_
    rw [rg1]
    refine lv_isub hx hb dL_law_709 ?_
    refine lv_iconst (v := 1) hx hb dL_law_710 (by decide) ?_
    refine lv_iadd hx hb dL_law_711 ?_
    refine lv_imul hx hb dL_law_712 ?_
    refine lv_icmp_eq (tgt := 789) hx hb dL_law_713 (by decide) (fun _ => ?_) (fun c907 => absurd (place_ans.trans (fields_law hug.1 hug.2.1 hug.2.2.1 hug.2.2.2)) c907)
    refine W.widen (k := cl0 + 40) (n := sl0 + 200) (by omega) (by omega) ?_
    exact kk (uC c 4 (c 4 + 1)) (V_X5_place (uC c 4 (c 4 + 1)) (V_X5_pack c v w (nI j894) ((1 : Int32) <<< ((nI sh) &&& 31)) (nI (j896 + 1))) (W_X5_pack c v w (nI j894) ((1 : Int32) <<< ((nI sh) &&& 31)) (nI (j896 + 1))) (nI (c 4)) (nI ug.1) (nI ug.2.1) (nI ug.2.2.1) (nI ug.2.2.2)) (W_X5_place (uC c 4 (c 4 + 1)) (V_X5_pack c v w (nI j894) ((1 : Int32) <<< ((nI sh) &&& 31)) (nI (j896 + 1))) (W_X5_pack c v w (nI j894) ((1 : Int32) <<< ((nI sh) &&& 31)) (nI (j896 + 1))) (nI (c 4)) (nI ug.1) (nI ug.2.1) (nI ug.2.2.1) (nI ug.2.2.2)) u NL898 ad899 H locs ls hi906 rfl hM900 hN901 hW (lv_sub hl [5, 6, 7, 8] rfl)

set_option maxHeartbeats 4000000 in
set_option maxRecDepth 100000 in
theorem law_arm_7 {p : Program} {e : Env} {s : State} {m : MethodId} {below : List Frame} {meth : Method} {c0 : Code} {l : Launch} {b L : Nat} {xs : Nat → Int32} {D : va_G} {cA : Nat → ClassId} (C1 : law_C p l s m meth c0 b L xs D cA) {c : SC} {v : SV} {w : SW} {u : Nat → Int32} {NL : List (Nat × Nat)} {ad : Nat → Nat → Nat} {i sh rr cl0 sl0 : Nat} {pk x9 : Int32} {ug : Nat × Nat × Nat × Nat} {HR : Heap} (hcl : cl0 ≤ 300000) (hsl : sl0 ≤ 3000000) (hi : INV c v w) (h2n : 2 ≤ c 0) (hM : MEM c NL) (hN : NMEM c NL) (hsh : sh < c 0) (hpk : pk = -1 ∨ ∃ q, q < c 4 ∧ pk = nI q) (hsz : s.heap.size ≤ HR.size) (hrl : rr < HR.size) (hPr0 : va_P D vwCl [(rr, .inl (cA 0, 4, .inl (rgF ug)))] HR) (hug : rgO ug) (H : Heap) (locs : List Loc) (hW : pcS D vwCl (lwA s rr) HR NL ad (ctO cA c v w u ad) H locs) (ls : Array Slot) (hl : lv_has ls 13 [(8, .ref rr), (7, .int pk), (6, .int (nI (c 4))), (5, .int (nI sh)), (4, .int x9), (3, .int (nI i)), (2, .int (nI (c 0))), (1, .ref (ad 5 0)), (0, .ref b)]) (kk : ∀ (c2 : SC) (v2 : SV) (w2 : SW) (u2 : Nat → Int32) (NL2 : List (Nat × Nat)) (ad2 : Nat → Nat → Nat) (H : Heap) (locs : List Loc) (ls : Array Slot), INV c2 v2 w2 → c2 0 = c 0 → MEM c2 NL2 → NMEM c2 NL2 → pcS D vwCl (lwA s rr) HR NL2 ad2 (ctO cA c2 v2 w2 u2 ad2) H locs → lv_has ls 13 [(3, .int (nI i)), (2, .int (nI (c 0))), (1, .ref (ad2 5 0)), (0, .ref b)] → W p l e room_1 s m #[Value.ref b] below meth c0 H locs (cl0 + 40) (sl0 + 200) (lw_Z below #[Value.ref b] s) (F0 m 789 ls [])) : W p l e room_1 s m #[Value.ref b] below meth c0 H locs cl0 sl0 (lw_Z below #[Value.ref b] s) (F0 m 718 ls []) := by
  obtain ⟨hx, hb, hr, hml, hown, hts, hlocks, hX, hsc, hbl, hL⟩ := id C1
  have hA : ∀ q : Nat, HR.size ≤ q → lwA s rr q := fun q h => ⟨Nat.le_trans hsz h, fun e => by omega⟩
  have h5n := hi.1
  refine lv_aload_n hx hb dL_law_718 rfl (lv_at hl 7 rfl) ?_
  refine lv_bipush (v := 11) hx hb dL_law_719 (by decide) ?_
  refine pc_rcalli (va_runV (As := [.int 11]) (rest := []) ⟨hx, hb, hml, hown, hts⟩ (r_X5_many11 l D cA NL c v w u ad  hM (INV_bnd hi) (INV_wf hi) ) (cwV 1 hts gL_law_X5_many rfl rfl rfl (by decide +kernel) ⟨Nat.le_of_ble_eq_true rfl, Nat.le_of_ble_eq_true rfl⟩) (pc_preV pcN_ok hX hW.1 hM.1 rfl rfl hW.1) rfl rfl hl.1 rfl (lv_room (Nat.le_of_ble_eq_true rfl)) dL_law_721 ⟨(by show _ ≤ (600074 : Nat); omega), (by show _ ≤ (7301550 : Nat); omega)⟩) hW (fun r908 H locs hwr908 hW => ?_)
  replace hwr908 := hwr908.symm
  subst hwr908
  refine lv_istore (lv' := [(12, .int (F_X5_many11 c v w)), (8, .ref rr), (7, .int pk), (6, .int (nI (c 4))), (5, .int (nI sh)), (4, .int x9), (3, .int (nI i)), (2, .int (nI (c 0))), (1, .ref (ad 5 0)), (0, .ref b)]) hx hb dL_law_724 hl (by decide) rfl (fun ls hl => ?_)
  refine lv_aload_n hx hb dL_law_726 rfl (lv_at hl 8 rfl) ?_
  have hD9 := hW.2.1
  refine pc_mcalli (va_runV (As := []) (rest := []) ⟨hx, hb, hml, hown, hts⟩ (m_X5_day l D cA NL c v w u ad (lwA s rr)  hM (INV_bnd hi) (INV_wf hi) ) (cwV 0 hts gL_law_X5_day rfl rfl rfl (by decide +kernel) ⟨Nat.le_of_ble_eq_true rfl, Nat.le_of_ble_eq_true rfl⟩) (pc_preV pcN_ok hX hW.1 hM.1 rfl rfl ⟨hW.1, hW.2.1, fun q h => hA q (Nat.le_trans hW.2.2.1 h)⟩) rfl rfl hl.1 rfl (lv_room (Nat.le_of_ble_eq_true rfl)) dL_law_727 ⟨(by show _ ≤ (600074 : Nat); omega), (by show _ ≤ (7301550 : Nat); omega)⟩) hW.2.2 (fun r909 _ H locs hwr909 hB hS9 => ?_)
  replace hwr909 := hwr909.symm
  subst hwr909
  have hW : pcS D vwCl (lwA s rr) HR NL ad (ctO cA (uC c 5 (c 5 + 1)) (V_X5_day c v w) w u ad) H locs := ⟨hB, pcD_ct hD9, hS9⟩
  have hi910 : INV (uC c 5 (c 5 + 1)) (V_X5_day c v w) w := (INV_day hi)
  refine lv_aload_n hx hb dL_law_730 rfl (lv_at hl 8 rfl) ?_
  refine lv_bipush (v := 11) hx hb dL_law_731 (by decide) ?_
  refine pc_rcalli (va_runV (As := [.int 11]) (rest := [.int (F_X5_day c v w)]) ⟨hx, hb, hml, hown, hts⟩ (r_X5_many11 l D cA NL (uC c 5 (c 5 + 1)) (V_X5_day c v w) w u ad  hM (INV_bnd hi910) (INV_wf hi910) ) (cwV 1 hts gL_law_X5_many rfl rfl rfl (by decide +kernel) ⟨Nat.le_of_ble_eq_true rfl, Nat.le_of_ble_eq_true rfl⟩) (pc_preV pcN_ok hX hW.1 hM.1 rfl rfl hW.1) rfl rfl hl.1 rfl (lv_room (Nat.le_of_ble_eq_true rfl)) dL_law_733 ⟨(by show _ ≤ (600074 : Nat); omega), (by show _ ≤ (7301550 : Nat); omega)⟩) hW (fun r911 H locs hwr911 hW => ?_)
  replace hwr911 := hwr911.symm
  subst hwr911
  refine lv_iload hx hb dL_law_736 (lv_at hl 0 rfl) ?_
  refine lv_isub hx hb dL_law_738 ?_
  refine lv_icmp_eq (tgt := 789) hx hb dL_law_739 (by decide) (fun _ => ?_) (fun c912 => absurd (day_many hi) c912)
  refine W.widen (k := cl0 + 40) (n := sl0 + 200) (by omega) (by omega) ?_
  exact kk (uC c 5 (c 5 + 1)) (V_X5_day c v w) w u NL ad H locs ls hi910 rfl hM hN hW (lv_sub hl [6, 7, 8, 9] rfl)

set_option maxHeartbeats 4000000 in
set_option maxRecDepth 100000 in
theorem law_arm_8 {p : Program} {e : Env} {s : State} {m : MethodId} {below : List Frame} {meth : Method} {c0 : Code} {l : Launch} {b L : Nat} {xs : Nat → Int32} {D : va_G} {cA : Nat → ClassId} (C1 : law_C p l s m meth c0 b L xs D cA) {c : SC} {v : SV} {w : SW} {u : Nat → Int32} {NL : List (Nat × Nat)} {ad : Nat → Nat → Nat} {i sh rr cl0 sl0 : Nat} {pk x9 : Int32} {ug : Nat × Nat × Nat × Nat} {HR : Heap} (hcl : cl0 ≤ 300000) (hsl : sl0 ≤ 3000000) (hi : INV c v w) (h2n : 2 ≤ c 0) (hM : MEM c NL) (hN : NMEM c NL) (hsh : sh < c 0) (hpk : pk = -1 ∨ ∃ q, q < c 4 ∧ pk = nI q) (hsz : s.heap.size ≤ HR.size) (hrl : rr < HR.size) (hPr0 : va_P D vwCl [(rr, .inl (cA 0, 4, .inl (rgF ug)))] HR) (hug : rgO ug) (H : Heap) (locs : List Loc) (hW : pcS D vwCl (lwA s rr) HR NL ad (ctO cA c v w u ad) H locs) (ls : Array Slot) (hl : lv_has ls 13 [(8, .ref rr), (7, .int pk), (6, .int (nI (c 4))), (5, .int (nI sh)), (4, .int x9), (3, .int (nI i)), (2, .int (nI (c 0))), (1, .ref (ad 5 0)), (0, .ref b)]) (kk : ∀ (c2 : SC) (v2 : SV) (w2 : SW) (u2 : Nat → Int32) (NL2 : List (Nat × Nat)) (ad2 : Nat → Nat → Nat) (H : Heap) (locs : List Loc) (ls : Array Slot), INV c2 v2 w2 → c2 0 = c 0 → MEM c2 NL2 → NMEM c2 NL2 → pcS D vwCl (lwA s rr) HR NL2 ad2 (ctO cA c2 v2 w2 u2 ad2) H locs → lv_has ls 13 [(3, .int (nI i)), (2, .int (nI (c 0))), (1, .ref (ad2 5 0)), (0, .ref b)] → W p l e room_1 s m #[Value.ref b] below meth c0 H locs (cl0 + 40) (sl0 + 200) (lw_Z below #[Value.ref b] s) (F0 m 789 ls [])) : W p l e room_1 s m #[Value.ref b] below meth c0 H locs cl0 sl0 (lw_Z below #[Value.ref b] s) (F0 m 744 ls []) := by
  obtain ⟨hx, hb, hr, hml, hown, hts, hlocks, hX, hsc, hbl, hL⟩ := id C1
  have hA : ∀ q : Nat, HR.size ≤ q → lwA s rr q := fun q h => ⟨Nat.le_trans hsz h, fun e => by omega⟩
  have h5n := hi.1
  refine lv_iload hx hb dL_law_744 (lv_at hl 1 rfl) ?_
  refine lv_if_lt (tgt := 789) hx hb dL_law_746 (by decide) (fun (c913 : pk < 0) => ?_) (fun (c913 : ¬ pk < 0) => ?_)
  · refine W.widen (k := cl0 + 40) (n := sl0 + 200) (by omega) (by omega) ?_
    exact kk c v w u NL ad H locs ls hi rfl hM hN hW (lv_sub hl [5, 6, 7, 8] rfl)
  · obtain ⟨pq, hpq, rfl⟩ : ∃ q, q < c 4 ∧ pk = nI q := hpk.resolve_left (fun q => c913 (q ▸ (by decide)))
    refine lv_aload_n hx hb dL_law_749 rfl (lv_at hl 7 rfl) ?_
    refine lv_iload hx hb dL_law_750 (lv_at hl 1 rfl) ?_
    refine lv_iconst (v := 2) hx hb dL_law_752 (by decide) ?_
    refine pc_rcalli (va_runV (As := [.int (nI pq), .int 2]) (rest := []) ⟨hx, hb, hml, hown, hts⟩ (r_X5_ofPack2 l D cA NL c v w u ad (nI pq) hM (INV_bnd hi) (INV_wf hi) (nI_nn (Nat.lt_of_lt_of_le hpq (Nat.le_trans (INV_bnd hi).2.2.2.2 (by decide)))) (by rw [nI_clamp (Nat.lt_of_lt_of_le hpq (Nat.le_trans (INV_bnd hi).2.2.2.2 (by decide)))]; exact hpq)) (cwV 2 hts gL_law_X5_ofPack rfl rfl rfl (by decide +kernel) ⟨Nat.le_of_ble_eq_true rfl, Nat.le_of_ble_eq_true rfl⟩) (pc_preV pcN_ok hX hW.1 hM.1 rfl rfl hW.1) rfl rfl hl.1 rfl (lv_room (Nat.le_of_ble_eq_true rfl)) dL_law_753 ⟨(by show _ ≤ (600074 : Nat); omega), (by show _ ≤ (7301550 : Nat); omega)⟩) hW (fun r914 H locs hwr914 hW => ?_)
    replace hwr914 := hwr914.symm
    subst hwr914
    refine lv_iconst (v := 2) hx hb dL_law_756 (by decide) ?_
    refine lv_irem hx hb dL_law_757 (by decide) ?_
    refine lv_if_ne (tgt := 789) hx hb dL_law_758 (by decide) (fun (c915 : ¬ ((F_X5_ofPack2 c v w (nI pq)) - (F_X5_ofPack2 c v w (nI pq)) / (2 : Int32) * (2 : Int32)) = 0) => ?_) (fun (c915 : ((F_X5_ofPack2 c v w (nI pq)) - (F_X5_ofPack2 c v w (nI pq)) / (2 : Int32) * (2 : Int32)) = 0) => ?_)
    · refine W.widen (k := cl0 + 40) (n := sl0 + 200) (by omega) (by omega) ?_
      exact kk c v w u NL ad H locs ls hi rfl hM hN hW (lv_sub hl [5, 6, 7, 8] rfl)
    · refine lv_aload_n hx hb dL_law_761 rfl (lv_at hl 7 rfl) ?_
      refine lv_iload hx hb dL_law_762 (lv_at hl 1 rfl) ?_
      refine lv_iconst (v := 4) hx hb dL_law_764 (by decide) ?_
      refine pc_rcalli (va_runV (As := [.int (nI pq), .int 4]) (rest := []) ⟨hx, hb, hml, hown, hts⟩ (r_X5_ofPack4 l D cA NL c v w u ad (nI pq) hM (INV_bnd hi) (INV_wf hi) (nI_nn (Nat.lt_of_lt_of_le hpq (Nat.le_trans (INV_bnd hi).2.2.2.2 (by decide)))) (by rw [nI_clamp (Nat.lt_of_lt_of_le hpq (Nat.le_trans (INV_bnd hi).2.2.2.2 (by decide)))]; exact hpq)) (cwV 2 hts gL_law_X5_ofPack rfl rfl rfl (by decide +kernel) ⟨Nat.le_of_ble_eq_true rfl, Nat.le_of_ble_eq_true rfl⟩) (pc_preV pcN_ok hX hW.1 hM.1 rfl rfl hW.1) rfl rfl hl.1 rfl (lv_room (Nat.le_of_ble_eq_true rfl)) dL_law_765 ⟨(by show _ ≤ (600074 : Nat); omega), (by show _ ≤ (7301550 : Nat); omega)⟩) hW (fun r916 H locs hwr916 hW => ?_)
      replace hwr916 := hwr916.symm
      subst hwr916
      refine lv_if_ge (tgt := 789) hx hb dL_law_768 (by decide) (fun (c917 : 0 ≤ (F_X5_ofPack4 c v w (nI pq))) => ?_) (fun (c917 : ¬ 0 ≤ (F_X5_ofPack4 c v w (nI pq))) => ?_)
      · refine W.widen (k := cl0 + 40) (n := sl0 + 200) (by omega) (by omega) ?_
        exact kk c v w u NL ad H locs ls hi rfl hM hN hW (lv_sub hl [5, 6, 7, 8] rfl)
      · refine lv_aload_n hx hb dL_law_771 rfl (lv_at hl 7 rfl) ?_
        refine lv_iload hx hb dL_law_772 (lv_at hl 1 rfl) ?_
        have hD9 := hW.2.1
        refine pc_mcalli (va_runV (As := [.int (nI pq)]) (rest := []) ⟨hx, hb, hml, hown, hts⟩ (m_X5_start l D cA NL c v w u ad (lwA s rr) (nI pq) hM (INV_bnd hi) (INV_wf hi) (nI_nn (Nat.lt_of_lt_of_le hpq (Nat.le_trans (INV_bnd hi).2.2.2.2 (by decide)))) (by rw [nI_clamp (Nat.lt_of_lt_of_le hpq (Nat.le_trans (INV_bnd hi).2.2.2.2 (by decide)))]; exact hpq) (start_rest (by omega) (even_state hi hpq c915)) (start_fit hi c917)) (cwV 1 hts gL_law_X5_start rfl rfl rfl (by decide +kernel) ⟨Nat.le_of_ble_eq_true rfl, Nat.le_of_ble_eq_true rfl⟩) (pc_preV pcN_ok hX hW.1 hM.1 rfl rfl ⟨hW.1, hW.2.1, fun q h => hA q (Nat.le_trans hW.2.2.1 h)⟩) rfl rfl hl.1 rfl (lv_room (Nat.le_of_ble_eq_true rfl)) dL_law_774 ⟨(by show _ ≤ (600074 : Nat); omega), (by show _ ≤ (7301550 : Nat); omega)⟩) hW.2.2 (fun r918 _ H locs hwr918 hB hS9 => ?_)
        replace hwr918 := hwr918.symm
        subst hwr918
        have hW : pcS D vwCl (lwA s rr) HR NL ad (ctO cA c (V_X5_start c v w (nI pq)) w u ad) H locs := ⟨hB, pcD_ct hD9, hS9⟩
        have hi919 : INV c (V_X5_start c v w (nI pq)) w := (INV_start hi hpq (even_state hi hpq c915) (by have h9 := start_fit hi c917; rw [cl (i := pq) (by omega)] at h9; exact h9))
        refine lv_aload_n hx hb dL_law_777 rfl (lv_at hl 7 rfl) ?_
        refine lv_iload hx hb dL_law_778 (lv_at hl 1 rfl) ?_
        refine lv_iconst (v := 3) hx hb dL_law_780 (by decide) ?_
        refine pc_rcalli (va_runV (As := [.int (nI pq), .int 3]) (rest := [.int (F_X5_start c v w (nI pq))]) ⟨hx, hb, hml, hown, hts⟩ (r_X5_ofPack3 l D cA NL c (V_X5_start c v w (nI pq)) w u ad (nI pq) hM (INV_bnd hi919) (INV_wf hi919) (nI_nn (Nat.lt_of_lt_of_le hpq (Nat.le_trans (INV_bnd hi919).2.2.2.2 (by decide)))) (by rw [nI_clamp (Nat.lt_of_lt_of_le hpq (Nat.le_trans (INV_bnd hi919).2.2.2.2 (by decide)))]; exact hpq)) (cwV 2 hts gL_law_X5_ofPack rfl rfl rfl (by decide +kernel) ⟨Nat.le_of_ble_eq_true rfl, Nat.le_of_ble_eq_true rfl⟩) (pc_preV pcN_ok hX hW.1 hM.1 rfl rfl hW.1) rfl rfl hl.1 rfl (lv_room (Nat.le_of_ble_eq_true rfl)) dL_law_781 ⟨(by show _ ≤ (600074 : Nat); omega), (by show _ ≤ (7301550 : Nat); omega)⟩) hW (fun r920 H locs hwr920 hW => ?_)
        replace hwr920 := hwr920.symm
        subst hwr920
        refine lv_icmp_eq (tgt := 789) hx hb dL_law_784 (by decide) (fun _ => ?_) (fun c921 => absurd start_ans c921)
        refine W.widen (k := cl0 + 40) (n := sl0 + 200) (by omega) (by omega) ?_
        exact kk c (V_X5_start c v w (nI pq)) w u NL ad H locs ls hi919 rfl hM hN hW (lv_sub hl [5, 6, 7, 8] rfl)

