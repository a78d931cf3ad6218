theorem vr_rowsN {r : Nat → Nat} {e : va_E} {f : Nat → va_E} (n : Nat) : va_pl ([] ++ (List.range n).map r) (vr_up f ((List.range n).map r) e) = (List.range n).map (fun i => (r i, e)) := by
  unfold va_pl
  rw [List.nil_append, List.map_map]
  apply List.map_congr_left
  intro i hi
  simp only [Function.comp_apply]
  rw [vr_up_in (List.mem_map.mpr ⟨i, hi, rfl⟩)]
theorem vr_sel (r : Nat → Nat) (n : Nat) : (fun i => if i < n then some (r i) else none) = (fun i => ((List.range n).map r)[i]?) := by
  funext i
  rw [List.getElem?_map]
  by_cases h : i < n
  · rw [if_pos h, List.getElem?_range h]
    rfl
  · rw [if_neg h, List.getElem?_eq_none (by rw [List.length_range]; omega)]
    rfl

section LLA
variable {p : Program} {l : Launch} {e : Env} {R : Room} {s : State} {m : MethodId} {args : Array Value} {below : List Frame} {meth : Method} {c : Code} {H : Heap} {locs : List Loc} {cells slots : Nat} {Q : State → Prop}
variable {cc : ByteArray} {pc : Nat} {ls : Array Slot} {rest : List Value} {D : va_G} {cl : List vw_C} {a : Nat} {tys : List (ClassId × FieldType)} {ws : va_W}
theorem ll_aald (hexec : p.tables.exec = Jvm.exec) (hb : c.code = cc) (hK : va_K D cl tys s) (hP : va_P D cl ws H) (q0 t0 : Nat) {cA : ClassId} {ty : FieldType} {n : Nat} {f : Nat → Option Nat} (ha : ws[q0]? = some (a, .inl (cA, n, .inr (.inr (.inr (.inr f)))))) (ht : tys[t0]? = some (cA, ty)) (hr : refKind ty = true) {i : Int32} (hin : vp_in i n) {r : Value} (hv : va_rf (f i.toNatClampNeg) = r) (hdg : decode cc pc = .ok (.aaload, 1))
    (kk : W p l e R s m args below meth c H locs cells slots Q (F0 m (pc + 1) ls (r :: rest))) : W p l e R s m args below meth c H locs cells slots Q (F0 m pc ls (.int i :: .ref a :: rest)) := by
  subst hv
  have h1 := hP q0 _ ha
  have hlt : i.toNatClampNeg < n := Nat.not_le.mp fun q => hin (Or.inr q)
  exact W.aald (v := va_rf (f i.toNatClampNeg)) (ty := ty) hexec hb h1 ((hK.2 t0 _ ht).1 n (fun j => va_rf (f j))) hr (fun q => by cases q) (by show ¬ (i < 0 ∨ (arrV _ _ _).slots.size ≤ _); rw [arrV_size]; exact hin) (by show (arrV _ _ _).slots[_]? = _; rw [arrV_read _ _ hlt]) rfl rfl hdg kk
end LLA

theorem va_P_row {D : va_G} {cl : List vw_C} {ws : va_W} {H : Heap} (hP : va_P D cl ws H) (k : Nat) {q n : Nat} {cA : ClassId} {f g : Nat → Int32} (hk : ws[k]? = some (q, .inl (cA, n, .inl f))) (h : ∀ j, j < n → f j = g j) : va_P D cl (ws.set k (q, .inl (cA, n, .inl g))) H := by
  intro j p hj
  by_cases hjk : j = k
  · subst hjk
    have hlen : j < ws.length := (List.getElem?_eq_some_iff.mp hk).1
    rw [List.getElem?_set_self hlen] at hj
    obtain rfl := Option.some.inj hj
    have h1 := hP j _ hk
    show H[q]? = some (arrV cA n (fun i => .int (g i)))
    have h2 : H[q]? = some (arrV cA n (fun i => .int (f i))) := h1
    rw [h2]
    unfold arrV
    congr 3
    funext i
    exact congrArg Value.int (h i.val i.isLt)
  · rw [List.getElem?_set_ne (Ne.symm hjk)] at hj
    exact hP j p hj
theorem va_D_row {A : Nat → Prop} {ws : va_W} (hD : va_D A ws) (k : Nat) {q : Nat} {e e2 : va_E} (hk : ws[k]? = some (q, e)) : va_D A (ws.set k (q, e2)) := by
  have hlen : k < ws.length := (List.getElem?_eq_some_iff.mp hk).1
  have key : ∀ (j : Nat) (p : Nat × va_E), (ws.set k (q, e2))[j]? = some p → ∃ p0, ws[j]? = some p0 ∧ p0.1 = p.1 := by
    intro j p hj
    by_cases hjk : j = k
    · subst hjk
      rw [List.getElem?_set_self hlen] at hj
      obtain rfl := Option.some.inj hj
      exact ⟨_, hk, rfl⟩
    · rw [List.getElem?_set_ne (Ne.symm hjk)] at hj
      exact ⟨p, hj, rfl⟩
  refine ⟨fun i j x y hi hj hxy => ?_, fun j p hj => ?_⟩
  · obtain ⟨x0, h1, h2⟩ := key i x hi
    obtain ⟨y0, h3, h4⟩ := key j y hj
    exact hD.1 i j x0 y0 h1 h3 (h2.trans (hxy.trans h4.symm))
  · obtain ⟨p0, h1, h2⟩ := key j p hj
    rw [← h2]
    exact hD.2 j p0 h1

set_option maxHeartbeats 4000000 in
set_option maxRecDepth 100000 in
theorem l_J7_fill_53178 (l : Launch) (D : va_G) (cA : Nat → ClassId) (A : Nat → Prop) (h0 n : Nat) (f : Nat → Int32) (v : Int32) (hn : n < 2 ^ 31) : Met l yJ7_fill_53178 wsJ7_fill_53178 ({ frames := 0, cells := 0, slots := 0, locals := 0 }) (pcPre D vwCl (tyL cA) [.ref h0, .int v] (fun H => va_P D vwCl [(h0, .inl (cA 0, n, .inl f))] H ∧ va_D A [(h0, .inl (cA 0, n, .inl f))] ∧ (∀ q, H.size ≤ q → A q))) (va_Qv (fun (u : Nat → Int32) => ∀ j, j < n → u j = v) (fun (u : Nat → Int32) t => va_P D vwCl [(h0, .inl (cA 0, n, .inl u))] t.heap ∧ va_D A [(h0, .inl (cA 0, n, .inl u))]) A) 0 0 A := by
  refine Met.ofW (cc := cJ7_fill_53178) (maxL := 4) (ret := none) (by decide) rfl ?_
  intro p e s m args below meth c s₁ B hml hv
  obtain ⟨rfl, hX, hP, hD, hA⟩ := hv
  have hx := B.exec
  have hb := B.bytes
  have hr := B.returns
  have hts := atoms_spec (ws := wsJ7_fill_53178) B.pre
  have hown : s.vm.findClass RJ7 = some m.cls := findClass_of_methodNamed B.named
  have hlocks := B.notSynchronized
  have hS : va_S A s.heap s.heap [] := va_S.rf
  have hl := lv_entry ([.ref h0, .int v]) (n := 4) (Nat.le_of_ble_eq_true rfl)
  rw [lg_entry_eq]
  generalize (lg_sl ([.ref h0, .int v]) ++ List.replicate (4 - (lg_sl ([.ref h0, .int v])).length) Slot.unset).toArray = ls at hl ⊢
  have hl : lv_has ls 4 [(0, .ref h0), (1, .int v)] := hl
  refine lv_iconst (v := 0) hx hb dJ7_fill_53178_0 (by decide) ?_
  refine lv_istore_n (lv' := [(2, .int 0), (0, .ref h0), (1, .int v)]) hx hb dJ7_fill_53178_1 rfl hl (by decide) rfl (fun ls hl => ?_)
  refine lv_aload_n hx hb dJ7_fill_53178_2 rfl (lv_at hl 1 rfl) ?_
  refine va_alen (v := nI n) hx hb hX.1 hP 0 0 rfl rfl rfl dJ7_fill_53178_3 ?_
  refine lv_istore_n (lv' := [(3, .int (nI n)), (2, .int 0), (0, .ref h0), (1, .int v)]) hx hb dJ7_fill_53178_4 rfl hl (by decide) rfl (fun ls hl => ?_)
  have K : ∀ (k i : Nat) (f1 : Nat → Int32) (H : Heap) (locs : List Loc) (ls : Array Slot), i + k = n → (∀ j, j < i → f1 j = v) → va_P D vwCl [(h0, .inl (cA 0, n, .inl f1))] H → va_D A [(h0, .inl (cA 0, n, .inl f1))] → va_S A s.heap H locs → lv_has ls 4 [(2, .int (nI i)), (3, .int (nI n)), (0, .ref h0), (1, .int v)] → W p l e (headSpec wsJ7_fill_53178 ({ frames := 0, cells := 0, slots := 0, locals := 0 })).room s m ([.ref h0, .int v] : List Value).toArray below meth c H locs 0 0 (MQ below (va_Qv (fun (u : Nat → Int32) => ∀ j, j < n → u j = v) (fun (u : Nat → Int32) t => va_P D vwCl [(h0, .inl (cA 0, n, .inl u))] t.heap ∧ va_D A [(h0, .inl (cA 0, n, .inl u))]) A) ([.ref h0, .int v] : List Value).toArray s 0 0 A) (F0 m 5 ls []) := by
    intro k
    induction k with
    | zero =>
      intro i f1 H locs ls hk hf hP hD hS hl
      have ei : i = n := by omega
      subst ei
      refine lv_iload_n hx hb dJ7_fill_53178_5 rfl (lv_at hl 0 rfl) ?_
      refine lv_iload_n hx hb dJ7_fill_53178_6 rfl (lv_at hl 1 rfl) ?_
      refine lv_icmp_ge (tgt := 20) hx hb dJ7_fill_53178_7 (by decide) (fun _ => ?_) (fun c348 => absurd (Int32.le_refl _) c348)
      have hP9 := hP.sub (ws' := [(h0, .inl (cA 0, i, .inl f1))]) [0] rfl
      have hD9 := hD.sub (ws' := [(h0, .inl (cA 0, i, .inl f1))]) [0] (by decide) rfl
      refine W.widen (k := 0) (n := 0) (Nat.le_of_ble_eq_true rfl) (Nat.le_of_ble_eq_true rfl) ?_
      exact W.vret hx hb hr (fun t ht hW9 => ⟨⟨f1, rfl, hf, ⟨by show va_P _ _ _ t.heap; rw [ht]; exact hP9, hD9⟩⟩, hS.F ht⟩) hS.2.2 dJ7_fill_53178_20
    | succ k ih =>
      intro i f1 H locs ls hk hf hP hD hS hl
      have hlt : i < n := by omega
      refine lv_iload_n hx hb dJ7_fill_53178_5 rfl (lv_at hl 0 rfl) ?_
      refine lv_iload_n hx hb dJ7_fill_53178_6 rfl (lv_at hl 1 rfl) ?_
      refine lv_icmp_ge (tgt := 20) hx hb dJ7_fill_53178_7 (by decide) (fun c349 => absurd c349 (nI_ge hlt hn)) (fun _ => ?_)
      refine lv_aload_n hx hb dJ7_fill_53178_10 rfl (lv_at hl 2 rfl) ?_
      refine lv_iload_n hx hb dJ7_fill_53178_11 rfl (lv_at hl 0 rfl) ?_
      refine lv_iload_n hx hb dJ7_fill_53178_12 rfl (lv_at hl 3 rfl) ?_
      refine va_iast hx hb hX.1 hP hD hS 0 0 rfl rfl (vp_in_nI hlt hn) dJ7_fill_53178_13 (fun H locs hP hD hS => ?_)
      rw [nI_clamp (Nat.lt_trans hlt hn)] at hP hD
      refine lv_iinc (v := nI (i + 1)) (lv' := [(2, .int (nI (i + 1))), (3, .int (nI n)), (0, .ref h0), (1, .int v)]) hx hb dJ7_fill_53178_14 hl (k := 0) rfl (nI_1 i) (by decide) rfl (fun ls hl => ?_)
      refine lv_goto (tgt := 5) hx hb dJ7_fill_53178_17 (by decide) ?_
      exact ih (i + 1) (upd f1 i v) H locs ls (by omega) (fun j hj => by unfold upd; split <;> first | rfl | (exact hf j (by omega))) hP hD hS (lv_sub hl [0, 1, 2, 3] rfl)
  exact K n 0 f _ _ ls (Nat.zero_add n) (fun j hj => absurd hj (Nat.not_lt_zero j)) hP hD hS (lv_sub hl [1, 0, 2, 3] rfl)

set_option maxHeartbeats 4000000 in
set_option maxRecDepth 100000 in
theorem l_X3_init (l : Launch) (D : va_G) (cA : Nat → ClassId) (A : Nat → Prop) (h0 : Nat) (x1 : Int32)  : Met l yX3_init wsX3_init ({ frames := 1, cells := 2, slots := 12, locals := 20 }) (pcPre D vwCl (tyL cA) [.ref h0, .int x1] (fun H => va_P D vwCl [(h0, .inr (3, [.int 0, .null, .null, .int 0, .int 0, .int 0, .long 0, .int 0, .int 0, .int 0]))] H ∧ va_D A [(h0, .inr (3, [.int 0, .null, .null, .int 0, .int 0, .int 0, .long 0, .int 0, .int 0, .int 0]))] ∧ (∀ q, H.size ≤ q → A q))) (va_Qv (fun (u : Unit) => True) (fun (u : Unit) t => ∃ (q350 : Nat) (q353 : Nat), va_P D vwCl [(h0, .inr (3, [.int x1, .ref q350, .ref q353, .int 0, .int 0, .int (-1), .long 0, .int 0, .int 0, .int 0])), (q350, .inl (cA 1, 6, .inr (.inl (vp_updL (fun _ => 0) 0 1048577)))), (q353, .inl (cA 0, 6, .inl (fun _ => 0)))] t.heap ∧ va_D A [(h0, .inr (3, [.int x1, .ref q350, .ref q353, .int 0, .int 0, .int (-1), .long 0, .int 0, .int 0, .int 0])), (q350, .inl (cA 1, 6, .inr (.inl (vp_updL (fun _ => 0) 0 1048577)))), (q353, .inl (cA 0, 6, .inl (fun _ => 0)))]) A) 2 12 A := by
  refine Met.ofW (cc := cX3_init) (maxL := 2) (ret := none) (by decide) rfl ?_
  intro p e s m args below meth c s₁ B hml hv
  obtain ⟨rfl, hX, hP, hD, hA⟩ := hv
  have hx := B.exec
  have hb := B.bytes
  have hr := B.returns
  have hts := atoms_spec (ws := wsX3_init) B.pre
  have hown : s.vm.findClass RX3 = some m.cls := findClass_of_methodNamed B.named
  have hlocks := B.notSynchronized
  have hin : meth.name = "<init>" := (name_of_methodNamed B.named B.method).1
  have hS : va_S A s.heap s.heap [] := va_S.rf
  have hl := lv_entry ([.ref h0, .int x1]) (n := 2) (Nat.le_of_ble_eq_true rfl)
  rw [lg_entry_eq]
  generalize (lg_sl ([.ref h0, .int x1]) ++ List.replicate (2 - (lg_sl ([.ref h0, .int x1])).length) Slot.unset).toArray = ls at hl ⊢
  have hl : lv_has ls 2 [(0, .ref h0), (1, .int x1)] := hl
  refine lv_aload_n hx hb dX3_init_0 rfl (lv_at hl 0 rfl) ?_
  refine W.objInit hx hb hown (hts (.methodLink RX3 3 objectInit) (by decide +kernel)) (hts (.instanceMethod objectInit) (by decide +kernel)) (hts (.code objectInit ⟨#[0xb1]⟩ 1 none) (by decide +kernel)) rfl (by rw [hml]; exact hl.1) rfl dX3_init_1 (Nat.le_of_ble_eq_true rfl) (Nat.le_of_ble_eq_true rfl) ?_
  refine W.eq (g2 := F0 m 4 ls []) rfl ?_
  refine lv_aload_n hx hb dX3_init_4 rfl (lv_at hl 0 rfl) ?_
  refine lv_bipush (v := 6) hx hb dX3_init_5 (by decide) ?_
  refine va_newa (atype := .long) (ty := .long) (N' := 6) (a0 := (6, .inr (.inl (fun _ => 0)))) hx hb (hts (.arrayClass .long) (by decide +kernel)) rfl hX.1 hP hD hS hA (fun _ => rfl) (by decide) (by decide) (Nat.le_of_ble_eq_true rfl) (Nat.le_of_ble_eq_true rfl) (Nat.le_of_ble_eq_true rfl) dX3_init_7 (fun q350 y351 H hK9 hP hD hS => ?_)
  obtain rfl : y351 = cA 1 := va_K_last (t0 := 1) hX.1 rfl hK9
  have hP : va_P D vwCl [(h0, .inr (3, [.int 0, .null, .null, .int 0, .int 0, .int 0, .long 0, .int 0, .int 0, .int 0])), (q350, .inl (cA 1, 6, .inr (.inl (fun _ => 0))))] H := hP
  have hD : va_D A [(h0, .inr (3, [.int 0, .null, .null, .int 0, .int 0, .int 0, .long 0, .int 0, .int 0, .int 0])), (q350, .inl (cA 1, 6, .inr (.inl (fun _ => 0))))] := hD
  refine W.widen (k := 1) (n := 6) (Nat.le_of_ble_eq_true rfl) (Nat.le_of_ble_eq_true rfl) ?_
  refine va_putF (D := D) (ci := 3) (v := .ref q350) (ty := .array .long) (C := RX3) (T := TX3) (N := 10) hx hb hts (by decide +kernel) tyX3 tyX3_ok nmX3 hown hX.1 hP hD hS 0 rfl rfl 1 (by decide) (hts (.fieldLink RX3 9 "DraftsmanOffice$Sheet" "regions" "[J") (by decide +kernel)) (fun _ h9 => h9) rfl hin rfl (by decide +kernel) rfl rfl (Nat.le_of_ble_eq_true rfl) dX3_init_9 (fun H locs hP hD hS => ?_)
  have hP : va_P D vwCl [(h0, .inr (3, [.int 0, .ref q350, .null, .int 0, .int 0, .int 0, .long 0, .int 0, .int 0, .int 0])), (q350, .inl (cA 1, 6, .inr (.inl (fun _ => 0))))] H := hP
  have hD : va_D A [(h0, .inr (3, [.int 0, .ref q350, .null, .int 0, .int 0, .int 0, .long 0, .int 0, .int 0, .int 0])), (q350, .inl (cA 1, 6, .inr (.inl (fun _ => 0))))] := hD
  refine lv_aload_n hx hb dX3_init_12 rfl (lv_at hl 0 rfl) ?_
  refine lv_bipush (v := 6) hx hb dX3_init_13 (by decide) ?_
  refine va_newa (atype := .int) (ty := .int) (N' := 6) (a0 := (6, .inl (fun _ => 0))) hx hb (hts (.arrayClass .int) (by decide +kernel)) rfl hX.1 hP hD hS hA (fun _ => rfl) (by decide) (by decide) (Nat.le_of_ble_eq_true rfl) (Nat.le_of_ble_eq_true rfl) (Nat.le_of_ble_eq_true rfl) dX3_init_15 (fun q353 y354 H hK9 hP hD hS => ?_)
  obtain rfl : y354 = cA 0 := va_K_last (t0 := 0) hX.1 rfl hK9
  have hP : va_P D vwCl [(h0, .inr (3, [.int 0, .ref q350, .null, .int 0, .int 0, .int 0, .long 0, .int 0, .int 0, .int 0])), (q350, .inl (cA 1, 6, .inr (.inl (fun _ => 0)))), (q353, .inl (cA 0, 6, .inl (fun _ => 0)))] H := hP
  have hD : va_D A [(h0, .inr (3, [.int 0, .ref q350, .null, .int 0, .int 0, .int 0, .long 0, .int 0, .int 0, .int 0])), (q350, .inl (cA 1, 6, .inr (.inl (fun _ => 0)))), (q353, .inl (cA 0, 6, .inl (fun _ => 0)))] := hD
  refine W.widen (k := 2) (n := 12) (Nat.le_of_ble_eq_true rfl) (Nat.le_of_ble_eq_true rfl) ?_
  refine va_putF (D := D) (ci := 3) (v := .ref q353) (ty := .array .int) (C := RX3) (T := TX3) (N := 10) hx hb hts (by decide +kernel) tyX3 tyX3_ok nmX3 hown hX.1 hP hD hS 0 rfl rfl 2 (by decide) (hts (.fieldLink RX3 15 "DraftsmanOffice$Sheet" "details" "[I") (by decide +kernel)) (fun _ h9 => h9) rfl hin rfl (by decide +kernel) rfl rfl (Nat.le_of_ble_eq_true rfl) dX3_init_17 (fun H locs hP hD hS => ?_)
  have hP : va_P D vwCl [(h0, .inr (3, [.int 0, .ref q350, .ref q353, .int 0, .int 0, .int 0, .long 0, .int 0, .int 0, .int 0])), (q350, .inl (cA 1, 6, .inr (.inl (fun _ => 0)))), (q353, .inl (cA 0, 6, .inl (fun _ => 0)))] H := hP
  have hD : va_D A [(h0, .inr (3, [.int 0, .ref q350, .ref q353, .int 0, .int 0, .int 0, .long 0, .int 0, .int 0, .int 0])), (q350, .inl (cA 1, 6, .inr (.inl (fun _ => 0)))), (q353, .inl (cA 0, 6, .inl (fun _ => 0)))] := hD
  refine lv_aload_n hx hb dX3_init_20 rfl (lv_at hl 0 rfl) ?_
  refine lv_iconst (v := 0) hx hb dX3_init_21 (by decide) ?_
  refine va_put (D := D) (ci := 3) (v := .int 0) (ty := .int) (C := RX3) (T := TX3) (N := 10) hx hb hts (by decide +kernel) tyX3 tyX3_ok nmX3 hown hX.1 hP hD hS 0 rfl rfl 3 (by decide) (hts (.fieldLink RX3 19 "DraftsmanOffice$Sheet" "last" "I") (by decide +kernel)) (fun _ h9 => h9) rfl (by decide +kernel) rfl rfl (Nat.le_of_ble_eq_true rfl) dX3_init_22 (fun H locs hP hD hS => ?_)
  have hP : va_P D vwCl [(h0, .inr (3, [.int 0, .ref q350, .ref q353, .int 0, .int 0, .int 0, .long 0, .int 0, .int 0, .int 0])), (q350, .inl (cA 1, 6, .inr (.inl (fun _ => 0)))), (q353, .inl (cA 0, 6, .inl (fun _ => 0)))] H := hP
  have hD : va_D A [(h0, .inr (3, [.int 0, .ref q350, .ref q353, .int 0, .int 0, .int 0, .long 0, .int 0, .int 0, .int 0])), (q350, .inl (cA 1, 6, .inr (.inl (fun _ => 0)))), (q353, .inl (cA 0, 6, .inl (fun _ => 0)))] := hD
  refine lv_aload_n hx hb dX3_init_25 rfl (lv_at hl 0 rfl) ?_
  refine lv_iconst (v := 0) hx hb dX3_init_26 (by decide) ?_
  refine va_put (D := D) (ci := 3) (v := .int 0) (ty := .boolean) (C := RX3) (T := TX3) (N := 10) hx hb hts (by decide +kernel) tyX3 tyX3_ok nmX3 hown hX.1 hP hD hS 0 rfl rfl 4 (by decide) (hts (.fieldLink RX3 23 "DraftsmanOffice$Sheet" "isLastChecked" "Z") (by decide +kernel)) (fun _ h9 => h9) rfl (by decide +kernel) rfl rfl (Nat.le_of_ble_eq_true rfl) dX3_init_27 (fun H locs hP hD hS => ?_)
  have hP : va_P D vwCl [(h0, .inr (3, [.int 0, .ref q350, .ref q353, .int 0, .int 0, .int 0, .long 0, .int 0, .int 0, .int 0])), (q350, .inl (cA 1, 6, .inr (.inl (fun _ => 0)))), (q353, .inl (cA 0, 6, .inl (fun _ => 0)))] H := hP
  have hD : va_D A [(h0, .inr (3, [.int 0, .ref q350, .ref q353, .int 0, .int 0, .int 0, .long 0, .int 0, .int 0, .int 0])), (q350, .inl (cA 1, 6, .inr (.inl (fun _ => 0)))), (q353, .inl (cA 0, 6, .inl (fun _ => 0)))] := hD
  refine lv_aload_n hx hb dX3_init_30 rfl (lv_at hl 0 rfl) ?_
  refine lv_iconst (v := -1) hx hb dX3_init_31 (by decide) ?_
  refine va_put (D := D) (ci := 3) (v := .int (-1)) (ty := .int) (C := RX3) (T := TX3) (N := 10) hx hb hts (by decide +kernel) tyX3 tyX3_ok nmX3 hown hX.1 hP hD hS 0 rfl rfl 5 (by decide) (hts (.fieldLink RX3 27 "DraftsmanOffice$Sheet" "issued" "I") (by decide +kernel)) (fun _ h9 => h9) rfl (by decide +kernel) rfl rfl (Nat.le_of_ble_eq_true rfl) dX3_init_32 (fun H locs hP hD hS => ?_)
  have hP : va_P D vwCl [(h0, .inr (3, [.int 0, .ref q350, .ref q353, .int 0, .int 0, .int (-1), .long 0, .int 0, .int 0, .int 0])), (q350, .inl (cA 1, 6, .inr (.inl (fun _ => 0)))), (q353, .inl (cA 0, 6, .inl (fun _ => 0)))] H := hP
  have hD : va_D A [(h0, .inr (3, [.int 0, .ref q350, .ref q353, .int 0, .int 0, .int (-1), .long 0, .int 0, .int 0, .int 0])), (q350, .inl (cA 1, 6, .inr (.inl (fun _ => 0)))), (q353, .inl (cA 0, 6, .inl (fun _ => 0)))] := hD
  refine lv_aload_n hx hb dX3_init_35 rfl (lv_at hl 0 rfl) ?_
  refine lv_lconst (v := 0) hx hb dX3_init_36 (by decide) ?_
  refine va_put (D := D) (ci := 3) (v := .long 0) (ty := .long) (C := RX3) (T := TX3) (N := 10) hx hb hts (by decide +kernel) tyX3 tyX3_ok nmX3 hown hX.1 hP hD hS 0 rfl rfl 6 (by decide) (hts (.fieldLink RX3 30 "DraftsmanOffice$Sheet" "issuedRegion" "J") (by decide +kernel)) (fun _ h9 => h9) rfl (by decide +kernel) rfl rfl (Nat.le_of_ble_eq_true rfl) dX3_init_37 (fun H locs hP hD hS => ?_)
  have hP : va_P D vwCl [(h0, .inr (3, [.int 0, .ref q350, .ref q353, .int 0, .int 0, .int (-1), .long 0, .int 0, .int 0, .int 0])), (q350, .inl (cA 1, 6, .inr (.inl (fun _ => 0)))), (q353, .inl (cA 0, 6, .inl (fun _ => 0)))] H := hP
  have hD : va_D A [(h0, .inr (3, [.int 0, .ref q350, .ref q353, .int 0, .int 0, .int (-1), .long 0, .int 0, .int 0, .int 0])), (q350, .inl (cA 1, 6, .inr (.inl (fun _ => 0)))), (q353, .inl (cA 0, 6, .inl (fun _ => 0)))] := hD
  refine lv_aload_n hx hb dX3_init_40 rfl (lv_at hl 0 rfl) ?_
  refine lv_iconst (v := 0) hx hb dX3_init_41 (by decide) ?_
  refine va_put (D := D) (ci := 3) (v := .int 0) (ty := .int) (C := RX3) (T := TX3) (N := 10) hx hb hts (by decide +kernel) tyX3 tyX3_ok nmX3 hown hX.1 hP hD hS 0 rfl rfl 7 (by decide) (hts (.fieldLink RX3 34 "DraftsmanOffice$Sheet" "issuedDetails" "I") (by decide +kernel)) (fun _ h9 => h9) rfl (by decide +kernel) rfl rfl (Nat.le_of_ble_eq_true rfl) dX3_init_42 (fun H locs hP hD hS => ?_)
  have hP : va_P D vwCl [(h0, .inr (3, [.int 0, .ref q350, .ref q353, .int 0, .int 0, .int (-1), .long 0, .int 0, .int 0, .int 0])), (q350, .inl (cA 1, 6, .inr (.inl (fun _ => 0)))), (q353, .inl (cA 0, 6, .inl (fun _ => 0)))] H := hP
  have hD : va_D A [(h0, .inr (3, [.int 0, .ref q350, .ref q353, .int 0, .int 0, .int (-1), .long 0, .int 0, .int 0, .int 0])), (q350, .inl (cA 1, 6, .inr (.inl (fun _ => 0)))), (q353, .inl (cA 0, 6, .inl (fun _ => 0)))] := hD
  refine lv_aload_n hx hb dX3_init_45 rfl (lv_at hl 0 rfl) ?_
  refine lv_iconst (v := 0) hx hb dX3_init_46 (by decide) ?_
  refine va_put (D := D) (ci := 3) (v := .int 0) (ty := .int) (C := RX3) (T := TX3) (N := 10) hx hb hts (by decide +kernel) tyX3 tyX3_ok nmX3 hown hX.1 hP hD hS 0 rfl rfl 8 (by decide) (hts (.fieldLink RX3 37 "DraftsmanOffice$Sheet" "marks" "I") (by decide +kernel)) (fun _ h9 => h9) rfl (by decide +kernel) rfl rfl (Nat.le_of_ble_eq_true rfl) dX3_init_47 (fun H locs hP hD hS => ?_)
  have hP : va_P D vwCl [(h0, .inr (3, [.int 0, .ref q350, .ref q353, .int 0, .int 0, .int (-1), .long 0, .int 0, .int 0, .int 0])), (q350, .inl (cA 1, 6, .inr (.inl (fun _ => 0)))), (q353, .inl (cA 0, 6, .inl (fun _ => 0)))] H := hP
  have hD : va_D A [(h0, .inr (3, [.int 0, .ref q350, .ref q353, .int 0, .int 0, .int (-1), .long 0, .int 0, .int 0, .int 0])), (q350, .inl (cA 1, 6, .inr (.inl (fun _ => 0)))), (q353, .inl (cA 0, 6, .inl (fun _ => 0)))] := hD
  refine lv_aload_n hx hb dX3_init_50 rfl (lv_at hl 0 rfl) ?_
  refine lv_iconst (v := 0) hx hb dX3_init_51 (by decide) ?_
  refine va_put (D := D) (ci := 3) (v := .int 0) (ty := .int) (C := RX3) (T := TX3) (N := 10) hx hb hts (by decide +kernel) tyX3 tyX3_ok nmX3 hown hX.1 hP hD hS 0 rfl rfl 9 (by decide) (hts (.fieldLink RX3 40 "DraftsmanOffice$Sheet" "excused" "I") (by decide +kernel)) (fun _ h9 => h9) rfl (by decide +kernel) rfl rfl (Nat.le_of_ble_eq_true rfl) dX3_init_52 (fun H locs hP hD hS => ?_)
  have hP : va_P D vwCl [(h0, .inr (3, [.int 0, .ref q350, .ref q353, .int 0, .int 0, .int (-1), .long 0, .int 0, .int 0, .int 0])), (q350, .inl (cA 1, 6, .inr (.inl (fun _ => 0)))), (q353, .inl (cA 0, 6, .inl (fun _ => 0)))] H := hP
  have hD : va_D A [(h0, .inr (3, [.int 0, .ref q350, .ref q353, .int 0, .int 0, .int (-1), .long 0, .int 0, .int 0, .int 0])), (q350, .inl (cA 1, 6, .inr (.inl (fun _ => 0)))), (q353, .inl (cA 0, 6, .inl (fun _ => 0)))] := hD
  refine lv_aload_n hx hb dX3_init_55 rfl (lv_at hl 0 rfl) ?_
  refine lv_iload_n hx hb dX3_init_56 rfl (lv_at hl 1 rfl) ?_
  refine va_putF (D := D) (ci := 3) (v := .int x1) (ty := .int) (C := RX3) (T := TX3) (N := 10) hx hb hts (by decide +kernel) tyX3 tyX3_ok nmX3 hown hX.1 hP hD hS 0 rfl rfl 0 (by decide) (hts (.fieldLink RX3 43 "DraftsmanOffice$Sheet" "trade" "I") (by decide +kernel)) (fun _ h9 => h9) rfl hin rfl (by decide +kernel) rfl rfl (Nat.le_of_ble_eq_true rfl) dX3_init_57 (fun H locs hP hD hS => ?_)
  have hP : va_P D vwCl [(h0, .inr (3, [.int x1, .ref q350, .ref q353, .int 0, .int 0, .int (-1), .long 0, .int 0, .int 0, .int 0])), (q350, .inl (cA 1, 6, .inr (.inl (fun _ => 0)))), (q353, .inl (cA 0, 6, .inl (fun _ => 0)))] H := hP
  have hD : va_D A [(h0, .inr (3, [.int x1, .ref q350, .ref q353, .int 0, .int 0, .int (-1), .long 0, .int 0, .int 0, .int 0])), (q350, .inl (cA 1, 6, .inr (.inl (fun _ => 0)))), (q353, .inl (cA 0, 6, .inl (fun _ => 0)))] := hD
  refine lv_aload_n hx hb dX3_init_60 rfl (lv_at hl 0 rfl) ?_
  refine va_get (D := D) (ci := 3) (v := .ref q350) (C := RX3) (T := TX3) (N := 10) hx hb hts (by decide +kernel) hown hX.1 hP 0 rfl rfl 1 (by decide) (hts (.fieldLink RX3 9 "DraftsmanOffice$Sheet" "regions" "[J") (by decide +kernel)) (fun _ h9 => h9) rfl dX3_init_61 ?_
  refine lv_iconst (v := 0) hx hb dX3_init_64 (by decide) ?_
  refine lv_ldc2 (v := 1048577) hx hb hown (hts (.constantLong RX3 46 1048577) (by decide +kernel)) dX3_init_65 ?_
  refine va_last hx hb hX.1 hP hD hS 1 1 rfl rfl (vp_in_nI (n := 0) (by decide) (by decide)) dX3_init_68 (fun H locs hP hD hS => ?_)
  have hP : va_P D vwCl [(h0, .inr (3, [.int x1, .ref q350, .ref q353, .int 0, .int 0, .int (-1), .long 0, .int 0, .int 0, .int 0])), (q350, .inl (cA 1, 6, .inr (.inl (vp_updL (fun _ => 0) 0 1048577)))), (q353, .inl (cA 0, 6, .inl (fun _ => 0)))] H := hP
  have hD : va_D A [(h0, .inr (3, [.int x1, .ref q350, .ref q353, .int 0, .int 0, .int (-1), .long 0, .int 0, .int 0, .int 0])), (q350, .inl (cA 1, 6, .inr (.inl (vp_updL (fun _ => 0) 0 1048577)))), (q353, .inl (cA 0, 6, .inl (fun _ => 0)))] := hD
  have hP9 := hP.sub (ws' := [(h0, .inr (3, [.int x1, .ref q350, .ref q353, .int 0, .int 0, .int (-1), .long 0, .int 0, .int 0, .int 0])), (q350, .inl (cA 1, 6, .inr (.inl (vp_updL (fun _ => 0) 0 1048577)))), (q353, .inl (cA 0, 6, .inl (fun _ => 0)))]) [0, 1, 2] rfl
  have hD9 := hD.sub (ws' := [(h0, .inr (3, [.int x1, .ref q350, .ref q353, .int 0, .int 0, .int (-1), .long 0, .int 0, .int 0, .int 0])), (q350, .inl (cA 1, 6, .inr (.inl (vp_updL (fun _ => 0) 0 1048577)))), (q353, .inl (cA 0, 6, .inl (fun _ => 0)))]) [0, 1, 2] (by decide) rfl
  refine W.widen (k := 2) (n := 12) (Nat.le_of_ble_eq_true rfl) (Nat.le_of_ble_eq_true rfl) ?_
  exact W.vret hx hb hr (fun t ht hW9 => ⟨⟨(), rfl, trivial, ⟨q350, q353, by show va_P _ _ _ t.heap; rw [ht]; exact hP9, hD9⟩⟩, hS.F ht⟩) hS.2.2 dX3_init_69

set_option maxHeartbeats 4000000 in
set_option maxRecDepth 100000 in
theorem l_X1_init (l : Launch) (D : va_G) (cA : Nat → ClassId) (A : Nat → Prop) (h0 : Nat) (x1 : Int32) (x2 : Int32) (x3 : Int32)  : Met l yX1_init wsX1_init ({ frames := 1, cells := 0, slots := 0, locals := 20 }) (pcPre D vwCl (tyL cA) [.ref h0, .int x1, .int x2, .int x3] (fun H => va_P D vwCl [(h0, .inr (1, [.int 0, .int 0, .int 0]))] H ∧ va_D A [(h0, .inr (1, [.int 0, .int 0, .int 0]))] ∧ (∀ q, H.size ≤ q → A q))) (va_Qv (fun (u : Unit) => True) (fun (u : Unit) t => va_P D vwCl [(h0, .inr (1, [.int x1, .int x2, .int x3]))] t.heap ∧ va_D A [(h0, .inr (1, [.int x1, .int x2, .int x3]))]) A) 0 0 A := by
  refine Met.ofW (cc := cX1_init) (maxL := 4) (ret := none) (by decide) rfl ?_
  intro p e s m args below meth c s₁ B hml hv
  obtain ⟨rfl, hX, hP, hD, hA⟩ := hv
  have hx := B.exec
  have hb := B.bytes
  have hr := B.returns
  have hts := atoms_spec (ws := wsX1_init) B.pre
  have hown : s.vm.findClass RX1 = some m.cls := findClass_of_methodNamed B.named
  have hlocks := B.notSynchronized
  have hin : meth.name = "<init>" := (name_of_methodNamed B.named B.method).1
  have hS : va_S A s.heap s.heap [] := va_S.rf
  have hl := lv_entry ([.ref h0, .int x1, .int x2, .int x3]) (n := 4) (Nat.le_of_ble_eq_true rfl)
  rw [lg_entry_eq]
  generalize (lg_sl ([.ref h0, .int x1, .int x2, .int x3]) ++ List.replicate (4 - (lg_sl ([.ref h0, .int x1, .int x2, .int x3])).length) Slot.unset).toArray = ls at hl ⊢
  have hl : lv_has ls 4 [(0, .ref h0), (1, .int x1), (2, .int x2), (3, .int x3)] := hl
  refine lv_aload_n hx hb dX1_init_0 rfl (lv_at hl 0 rfl) ?_
  refine W.objInit hx hb hown (hts (.methodLink RX1 1 objectInit) (by decide +kernel)) (hts (.instanceMethod objectInit) (by decide +kernel)) (hts (.code objectInit ⟨#[0xb1]⟩ 1 none) (by decide +kernel)) rfl (by rw [hml]; exact hl.1) rfl dX1_init_1 (Nat.le_of_ble_eq_true rfl) (Nat.le_of_ble_eq_true rfl) ?_
  refine W.eq (g2 := F0 m 4 ls []) rfl ?_
  refine lv_aload_n hx hb dX1_init_4 rfl (lv_at hl 0 rfl) ?_
  refine lv_iload_n hx hb dX1_init_5 rfl (lv_at hl 1 rfl) ?_
  refine va_putF (D := D) (ci := 1) (v := .int x1) (ty := .int) (C := RX1) (T := TX1) (N := 3) hx hb hts (by decide +kernel) tyX1 tyX1_ok nmX1 hown hX.1 hP hD hS 0 rfl rfl 0 (by decide) (hts (.fieldLink RX1 7 "DraftsmanOffice$Reference" "from" "I") (by decide +kernel)) (fun _ h9 => h9) rfl hin rfl (by decide +kernel) rfl rfl (Nat.le_of_ble_eq_true rfl) dX1_init_6 (fun H locs hP hD hS => ?_)
  have hP : va_P D vwCl [(h0, .inr (1, [.int x1, .int 0, .int 0]))] H := hP
  have hD : va_D A [(h0, .inr (1, [.int x1, .int 0, .int 0]))] := hD
  refine lv_aload_n hx hb dX1_init_9 rfl (lv_at hl 0 rfl) ?_
  refine lv_iload_n hx hb dX1_init_10 rfl (lv_at hl 2 rfl) ?_
  refine va_putF (D := D) (ci := 1) (v := .int x2) (ty := .int) (C := RX1) (T := TX1) (N := 3) hx hb hts (by decide +kernel) tyX1 tyX1_ok nmX1 hown hX.1 hP hD hS 0 rfl rfl 1 (by decide) (hts (.fieldLink RX1 13 "DraftsmanOffice$Reference" "to" "I") (by decide +kernel)) (fun _ h9 => h9) rfl hin rfl (by decide +kernel) rfl rfl (Nat.le_of_ble_eq_true rfl) dX1_init_11 (fun H locs hP hD hS => ?_)
  have hP : va_P D vwCl [(h0, .inr (1, [.int x1, .int x2, .int 0]))] H := hP
  have hD : va_D A [(h0, .inr (1, [.int x1, .int x2, .int 0]))] := hD
  refine lv_aload_n hx hb dX1_init_14 rfl (lv_at hl 0 rfl) ?_
  refine lv_iload_n hx hb dX1_init_15 rfl (lv_at hl 3 rfl) ?_
  refine va_putF (D := D) (ci := 1) (v := .int x3) (ty := .int) (C := RX1) (T := TX1) (N := 3) hx hb hts (by decide +kernel) tyX1 tyX1_ok nmX1 hown hX.1 hP hD hS 0 rfl rfl 2 (by decide) (hts (.fieldLink RX1 16 "DraftsmanOffice$Reference" "detail" "I") (by decide +kernel)) (fun _ h9 => h9) rfl hin rfl (by decide +kernel) rfl rfl (Nat.le_of_ble_eq_true rfl) dX1_init_16 (fun H locs hP hD hS => ?_)
  have hP : va_P D vwCl [(h0, .inr (1, [.int x1, .int x2, .int x3]))] H := hP
  have hD : va_D A [(h0, .inr (1, [.int x1, .int x2, .int x3]))] := hD
  have hP9 := hP.sub (ws' := [(h0, .inr (1, [.int x1, .int x2, .int x3]))]) [0] rfl
  have hD9 := hD.sub (ws' := [(h0, .inr (1, [.int x1, .int x2, .int x3]))]) [0] (by decide) rfl
  refine W.widen (k := 0) (n := 0) (Nat.le_of_ble_eq_true rfl) (Nat.le_of_ble_eq_true rfl) ?_
  exact W.vret hx hb hr (fun t ht hW9 => ⟨⟨(), rfl, trivial, ⟨by show va_P _ _ _ t.heap; rw [ht]; exact hP9, hD9⟩⟩, hS.F ht⟩) hS.2.2 dX1_init_19

set_option maxHeartbeats 4000000 in
set_option maxRecDepth 100000 in
theorem l_X2_init (l : Launch) (D : va_G) (cA : Nat → ClassId) (A : Nat → Prop) (h0 : Nat) (x1 : Int32) (x2 : Int32)  : Met l yX2_init wsX2_init ({ frames := 1, cells := 1, slots := 10, locals := 23 }) (pcPre D vwCl (tyL cA) [.ref h0, .int x1, .int x2] (fun H => va_P D vwCl [(h0, .inr (2, [.int 0, .null, .int 0]))] H ∧ va_D A [(h0, .inr (2, [.int 0, .null, .int 0]))] ∧ (∀ q, H.size ≤ q → A q))) (va_Qv (fun (u : Unit) => True) (fun (u : Unit) t => ∃ (q356 : Nat), va_P D vwCl [(h0, .inr (2, [.int x2, .ref q356, .int x1])), (q356, .inl (cA 0, 10, .inl (fun _ => (-1))))] t.heap ∧ va_D A [(h0, .inr (2, [.int x2, .ref q356, .int x1])), (q356, .inl (cA 0, 10, .inl (fun _ => (-1))))]) A) 1 10 A := by
  refine Met.ofW (cc := cX2_init) (maxL := 3) (ret := none) (by decide) rfl ?_
  intro p e s m args below meth c s₁ B hml hv
  obtain ⟨rfl, hX, hP, hD, hA⟩ := hv
  have hx := B.exec
  have hb := B.bytes
  have hr := B.returns
  have hts := atoms_spec (ws := wsX2_init) B.pre
  have hown : s.vm.findClass RX2 = some m.cls := findClass_of_methodNamed B.named
  have hlocks := B.notSynchronized
  have hin : meth.name = "<init>" := (name_of_methodNamed B.named B.method).1
  have hS : va_S A s.heap s.heap [] := va_S.rf
  have hl := lv_entry ([.ref h0, .int x1, .int x2]) (n := 3) (Nat.le_of_ble_eq_true rfl)
  rw [lg_entry_eq]
  generalize (lg_sl ([.ref h0, .int x1, .int x2]) ++ List.replicate (3 - (lg_sl ([.ref h0, .int x1, .int x2])).length) Slot.unset).toArray = ls at hl ⊢
  have hl : lv_has ls 3 [(0, .ref h0), (1, .int x1), (2, .int x2)] := hl
  refine lv_aload_n hx hb dX2_init_0 rfl (lv_at hl 0 rfl) ?_
  refine W.objInit hx hb hown (hts (.methodLink RX2 3 objectInit) (by decide +kernel)) (hts (.instanceMethod objectInit) (by decide +kernel)) (hts (.code objectInit ⟨#[0xb1]⟩ 1 none) (by decide +kernel)) rfl (by rw [hml]; exact hl.1) rfl dX2_init_1 (Nat.le_of_ble_eq_true rfl) (Nat.le_of_ble_eq_true rfl) ?_
  refine W.eq (g2 := F0 m 4 ls []) rfl ?_
  refine lv_aload_n hx hb dX2_init_4 rfl (lv_at hl 0 rfl) ?_
  refine lv_bipush (v := 10) hx hb dX2_init_5 (by decide) ?_
  refine va_newa (atype := .int) (ty := .int) (N' := 10) (a0 := (10, .inl (fun _ => 0))) hx hb (hts (.arrayClass .int) (by decide +kernel)) rfl hX.1 hP hD hS hA (fun _ => rfl) (by decide) (by decide) (Nat.le_of_ble_eq_true rfl) (Nat.le_of_ble_eq_true rfl) (Nat.le_of_ble_eq_true rfl) dX2_init_7 (fun q356 y357 H hK9 hP hD hS => ?_)
  obtain rfl : y357 = cA 0 := va_K_last (t0 := 0) hX.1 rfl hK9
  have hP : va_P D vwCl [(h0, .inr (2, [.int 0, .null, .int 0])), (q356, .inl (cA 0, 10, .inl (fun _ => 0)))] H := hP
  have hD : va_D A [(h0, .inr (2, [.int 0, .null, .int 0])), (q356, .inl (cA 0, 10, .inl (fun _ => 0)))] := hD
  refine W.widen (k := 1) (n := 10) (Nat.le_of_ble_eq_true rfl) (Nat.le_of_ble_eq_true rfl) ?_
  refine va_putF (D := D) (ci := 2) (v := .ref q356) (ty := .array .int) (C := RX2) (T := TX2) (N := 3) hx hb hts (by decide +kernel) tyX2 tyX2_ok nmX2 hown hX.1 hP hD hS 0 rfl rfl 1 (by decide) (hts (.fieldLink RX2 9 "DraftsmanOffice$Sending" "revisions" "[I") (by decide +kernel)) (fun _ h9 => h9) rfl hin rfl (by decide +kernel) rfl rfl (Nat.le_of_ble_eq_true rfl) dX2_init_9 (fun H locs hP hD hS => ?_)
  have hP : va_P D vwCl [(h0, .inr (2, [.int 0, .ref q356, .int 0])), (q356, .inl (cA 0, 10, .inl (fun _ => 0)))] H := hP
  have hD : va_D A [(h0, .inr (2, [.int 0, .ref q356, .int 0])), (q356, .inl (cA 0, 10, .inl (fun _ => 0)))] := hD
  refine lv_aload_n hx hb dX2_init_12 rfl (lv_at hl 0 rfl) ?_
  refine lv_iload_n hx hb dX2_init_13 rfl (lv_at hl 1 rfl) ?_
  refine va_put (D := D) (ci := 2) (v := .int x1) (ty := .int) (C := RX2) (T := TX2) (N := 3) hx hb hts (by decide +kernel) tyX2 tyX2_ok nmX2 hown hX.1 hP hD hS 0 rfl rfl 2 (by decide) (hts (.fieldLink RX2 15 "DraftsmanOffice$Sending" "awaitedBy" "I") (by decide +kernel)) (fun _ h9 => h9) rfl (by decide +kernel) rfl rfl (Nat.le_of_ble_eq_true rfl) dX2_init_14 (fun H locs hP hD hS => ?_)
  have hP : va_P D vwCl [(h0, .inr (2, [.int 0, .ref q356, .int x1])), (q356, .inl (cA 0, 10, .inl (fun _ => 0)))] H := hP
  have hD : va_D A [(h0, .inr (2, [.int 0, .ref q356, .int x1])), (q356, .inl (cA 0, 10, .inl (fun _ => 0)))] := hD
  refine lv_aload_n hx hb dX2_init_17 rfl (lv_at hl 0 rfl) ?_
  refine lv_iload_n hx hb dX2_init_18 rfl (lv_at hl 2 rfl) ?_
  refine va_putF (D := D) (ci := 2) (v := .int x2) (ty := .int) (C := RX2) (T := TX2) (N := 3) hx hb hts (by decide +kernel) tyX2 tyX2_ok nmX2 hown hX.1 hP hD hS 0 rfl rfl 0 (by decide) (hts (.fieldLink RX2 19 "DraftsmanOffice$Sending" "sentOn" "I") (by decide +kernel)) (fun _ h9 => h9) rfl hin rfl (by decide +kernel) rfl rfl (Nat.le_of_ble_eq_true rfl) dX2_init_19 (fun H locs hP hD hS => ?_)
  have hP : va_P D vwCl [(h0, .inr (2, [.int x2, .ref q356, .int x1])), (q356, .inl (cA 0, 10, .inl (fun _ => 0)))] H := hP
  have hD : va_D A [(h0, .inr (2, [.int x2, .ref q356, .int x1])), (q356, .inl (cA 0, 10, .inl (fun _ => 0)))] := hD
  refine lv_aload_n hx hb dX2_init_22 rfl (lv_at hl 0 rfl) ?_
  refine va_get (D := D) (ci := 2) (v := .ref q356) (C := RX2) (T := TX2) (N := 3) hx hb hts (by decide +kernel) hown hX.1 hP 0 rfl rfl 1 (by decide) (hts (.fieldLink RX2 9 "DraftsmanOffice$Sending" "revisions" "[I") (by decide +kernel)) (fun _ h9 => h9) rfl dX2_init_23 ?_
  refine lv_iconst (v := -1) hx hb dX2_init_26 (by decide) ?_
  have hPc := hP.sub (ws' := [(q356, .inl (cA 0, 10, .inl (fun _ => 0)))]) [1] rfl
  have hDc := (hD.sub (ws' := [(q356, .inl (cA 0, 10, .inl (fun _ => 0)))]) [1] (by decide) rfl).self (sz := H.size)
  have hFc := va_free (wc := [(q356, .inl (cA 0, 10, .inl (fun _ => 0)))]) hD hS hA [1] rfl
  refine va_callv (va_runS (As := [.ref q356, .int (-1)]) (rest := []) ⟨hx, hb, hml, hown, hts⟩ (l_J7_fill_53178 l D cA (va_A [(q356, .inl (cA 0, 10, .inl (fun _ => 0)))] H.size) q356 10 (fun _ => 0) (-1) (by decide)) (va_cwS 2 hts gX2_init_J7_fill_53178 rfl rfl rfl (by decide +kernel) ⟨Nat.le_of_ble_eq_true rfl, Nat.le_of_ble_eq_true rfl⟩) (pc_preS pcN_ok hX ⟨hPc, hDc, fun q h => Or.inr h⟩) rfl rfl hl.1 rfl (lv_room (Nat.le_of_ble_eq_true rfl)) dX2_init_27 ⟨Nat.le_of_ble_eq_true rfl, Nat.le_of_ble_eq_true rfl⟩) hS (fun q _ h => hFc q h) hFc (fun u359 t H1 locs ht hvm hw hB hz1 hk1 hS => ?_)
  obtain ⟨hP1, hD1⟩ := hB
  rw [ht] at hP1
  obtain ⟨hP, hD⟩ := va_join (wr := [(h0, .inr (2, [.int x2, .ref q356, .int x1]))]) (w1 := [(q356, .inl (cA 0, 10, .inl u359))]) hP hD [1] [0] rfl rfl (by decide) (by decide) hk1 hFc hP1 hD1
  generalize H1 = H at hP hS ⊢
  have hP : va_P D vwCl [(h0, .inr (2, [.int x2, .ref q356, .int x1])), (q356, .inl (cA 0, 10, .inl u359))] H := hP
  have hD : va_D A [(h0, .inr (2, [.int x2, .ref q356, .int x1])), (q356, .inl (cA 0, 10, .inl u359))] := hD
  refine W.widen (k := 1) (n := 10) (Nat.le_of_ble_eq_true rfl) (Nat.le_of_ble_eq_true rfl) ?_
  have hP := va_P_row hP 1 (g := (fun _ => (-1))) rfl hw
  have hD := va_D_row hD 1 (e2 := .inl (cA 0, 10, .inl (fun _ => (-1)))) rfl
  have hP : va_P D vwCl [(h0, .inr (2, [.int x2, .ref q356, .int x1])), (q356, .inl (cA 0, 10, .inl (fun _ => (-1))))] H := hP
  have hD : va_D A [(h0, .inr (2, [.int x2, .ref q356, .int x1])), (q356, .inl (cA 0, 10, .inl (fun _ => (-1))))] := hD
  have hP9 := hP.sub (ws' := [(h0, .inr (2, [.int x2, .ref q356, .int x1])), (q356, .inl (cA 0, 10, .inl (fun _ => (-1))))]) [0, 1] rfl
  have hD9 := hD.sub (ws' := [(h0, .inr (2, [.int x2, .ref q356, .int x1])), (q356, .inl (cA 0, 10, .inl (fun _ => (-1))))]) [0, 1] (by decide) rfl
  refine W.widen (k := 1) (n := 10) (Nat.le_of_ble_eq_true rfl) (Nat.le_of_ble_eq_true rfl) ?_
  exact W.vret hx hb hr (fun t ht hW9 => ⟨⟨(), rfl, trivial, ⟨q356, by show va_P _ _ _ t.heap; rw [ht]; exact hP9, hD9⟩⟩, hS.F ht⟩) hS.2.2 dX2_init_30

set_option maxHeartbeats 4000000 in
set_option maxRecDepth 100000 in
theorem l_X0_init (l : Launch) (D : va_G) (cA : Nat → ClassId) (A : Nat → Prop) (h0 : Nat) (x1 : Int32) (x2 : Int64)  : Met l yX0_init wsX0_init ({ frames := 1, cells := 0, slots := 0, locals := 20 }) (pcPre D vwCl (tyL cA) [.ref h0, .int x1, .long x2] (fun H => va_P D vwCl [(h0, .inr (0, [.int 0, .long 0, .int 0]))] H ∧ va_D A [(h0, .inr (0, [.int 0, .long 0, .int 0]))] ∧ (∀ q, H.size ≤ q → A q))) (va_Qv (fun (u : Unit) => True) (fun (u : Unit) t => va_P D vwCl [(h0, .inr (0, [.int x1, .long x2, .int 0]))] t.heap ∧ va_D A [(h0, .inr (0, [.int x1, .long x2, .int 0]))]) A) 0 0 A := by
  refine Met.ofW (cc := cX0_init) (maxL := 4) (ret := none) (by decide) rfl ?_
  intro p e s m args below meth c s₁ B hml hv
  obtain ⟨rfl, hX, hP, hD, hA⟩ := hv
  have hx := B.exec
  have hb := B.bytes
  have hr := B.returns
  have hts := atoms_spec (ws := wsX0_init) B.pre
  have hown : s.vm.findClass RX0 = some m.cls := findClass_of_methodNamed B.named
  have hlocks := B.notSynchronized
  have hin : meth.name = "<init>" := (name_of_methodNamed B.named B.method).1
  have hS : va_S A s.heap s.heap [] := va_S.rf
  have hl := lv_entry ([.ref h0, .int x1, .long x2]) (n := 4) (Nat.le_of_ble_eq_true rfl)
  rw [lg_entry_eq]
  generalize (lg_sl ([.ref h0, .int x1, .long x2]) ++ List.replicate (4 - (lg_sl ([.ref h0, .int x1, .long x2])).length) Slot.unset).toArray = ls at hl ⊢
  have hl : lv_has ls 4 [(0, .ref h0), (1, .int x1), (2, .long x2)] := hl
  refine lv_aload_n hx hb dX0_init_0 rfl (lv_at hl 0 rfl) ?_
  refine W.objInit hx hb hown (hts (.methodLink RX0 3 objectInit) (by decide +kernel)) (hts (.instanceMethod objectInit) (by decide +kernel)) (hts (.code objectInit ⟨#[0xb1]⟩ 1 none) (by decide +kernel)) rfl (by rw [hml]; exact hl.1) rfl dX0_init_1 (Nat.le_of_ble_eq_true rfl) (Nat.le_of_ble_eq_true rfl) ?_
  refine W.eq (g2 := F0 m 4 ls []) rfl ?_
  refine lv_aload_n hx hb dX0_init_4 rfl (lv_at hl 0 rfl) ?_
  refine lv_iconst (v := 0) hx hb dX0_init_5 (by decide) ?_
  refine va_put (D := D) (ci := 0) (v := .int 0) (ty := .int) (C := RX0) (T := TX0) (N := 3) hx hb hts (by decide +kernel) tyX0 tyX0_ok nmX0 hown hX.1 hP hD hS 0 rfl rfl 2 (by decide) (hts (.fieldLink RX0 9 "DraftsmanOffice$Query" "state" "I") (by decide +kernel)) (fun _ h9 => h9) rfl (by decide +kernel) rfl rfl (Nat.le_of_ble_eq_true rfl) dX0_init_6 (fun H locs hP hD hS => ?_)
  have hP : va_P D vwCl [(h0, .inr (0, [.int 0, .long 0, .int 0]))] H := hP
  have hD : va_D A [(h0, .inr (0, [.int 0, .long 0, .int 0]))] := hD
  refine lv_aload_n hx hb dX0_init_9 rfl (lv_at hl 0 rfl) ?_
  refine lv_iload_n hx hb dX0_init_10 rfl (lv_at hl 1 rfl) ?_
  refine va_putF (D := D) (ci := 0) (v := .int x1) (ty := .int) (C := RX0) (T := TX0) (N := 3) hx hb hts (by decide +kernel) tyX0 tyX0_ok nmX0 hown hX.1 hP hD hS 0 rfl rfl 0 (by decide) (hts (.fieldLink RX0 15 "DraftsmanOffice$Query" "sheet" "I") (by decide +kernel)) (fun _ h9 => h9) rfl hin rfl (by decide +kernel) rfl rfl (Nat.le_of_ble_eq_true rfl) dX0_init_11 (fun H locs hP hD hS => ?_)
  have hP : va_P D vwCl [(h0, .inr (0, [.int x1, .long 0, .int 0]))] H := hP
  have hD : va_D A [(h0, .inr (0, [.int x1, .long 0, .int 0]))] := hD
  refine lv_aload_n hx hb dX0_init_14 rfl (lv_at hl 0 rfl) ?_
  refine lv_lload_n hx hb dX0_init_15 rfl (lv_at hl 2 rfl) ?_
  refine va_putF (D := D) (ci := 0) (v := .long x2) (ty := .long) (C := RX0) (T := TX0) (N := 3) hx hb hts (by decide +kernel) tyX0 tyX0_ok nmX0 hown hX.1 hP hD hS 0 rfl rfl 1 (by decide) (hts (.fieldLink RX0 18 "DraftsmanOffice$Query" "region" "J") (by decide +kernel)) (fun _ h9 => h9) rfl hin rfl (by decide +kernel) rfl rfl (Nat.le_of_ble_eq_true rfl) dX0_init_16 (fun H locs hP hD hS => ?_)
  have hP : va_P D vwCl [(h0, .inr (0, [.int x1, .long x2, .int 0]))] H := hP
  have hD : va_D A [(h0, .inr (0, [.int x1, .long x2, .int 0]))] := hD
  have hP9 := hP.sub (ws' := [(h0, .inr (0, [.int x1, .long x2, .int 0]))]) [0] rfl
  have hD9 := hD.sub (ws' := [(h0, .inr (0, [.int x1, .long x2, .int 0]))]) [0] (by decide) rfl
  refine W.widen (k := 0) (n := 0) (Nat.le_of_ble_eq_true rfl) (Nat.le_of_ble_eq_true rfl) ?_
  exact W.vret hx hb hr (fun t ht hW9 => ⟨⟨(), rfl, trivial, ⟨by show va_P _ _ _ t.heap; rw [ht]; exact hP9, hD9⟩⟩, hS.F ht⟩) hS.2.2 dX0_init_19

set_option maxHeartbeats 4000000 in
set_option maxRecDepth 100000 in
theorem l_X4_init (l : Launch) (D : va_G) (cA : Nat → ClassId) (A : Nat → Prop) (h0 : Nat) (x1 : Int32) (x2 : Int32) (x3 : Int32)  : Met l yX4_init wsX4_init ({ frames := 1, cells := 0, slots := 0, locals := 20 }) (pcPre D vwCl (tyL cA) [.ref h0, .int x1, .int x2, .int x3] (fun H => va_P D vwCl [(h0, .inr (4, [.int 0, .int 0, .int 0, .long 0, .int 0, .int 0]))] H ∧ va_D A [(h0, .inr (4, [.int 0, .int 0, .int 0, .long 0, .int 0, .int 0]))] ∧ (∀ q, H.size ≤ q → A q))) (va_Qv (fun (u : Unit) => True) (fun (u : Unit) t => va_P D vwCl [(h0, .inr (4, [.int x1, .int x2, .int x3, .long 1099511627775, .int 0, .int 0]))] t.heap ∧ va_D A [(h0, .inr (4, [.int x1, .int x2, .int x3, .long 1099511627775, .int 0, .int 0]))]) A) 0 0 A := by
  refine Met.ofW (cc := cX4_init) (maxL := 4) (ret := none) (by decide) rfl ?_
  intro p e s m args below meth c s₁ B hml hv
  obtain ⟨rfl, hX, hP, hD, hA⟩ := hv
  have hx := B.exec
  have hb := B.bytes
  have hr := B.returns
  have hts := atoms_spec (ws := wsX4_init) B.pre
  have hown : s.vm.findClass RX4 = some m.cls := findClass_of_methodNamed B.named
  have hlocks := B.notSynchronized
  have hin : meth.name = "<init>" := (name_of_methodNamed B.named B.method).1
  have hS : va_S A s.heap s.heap [] := va_S.rf
  have hl := lv_entry ([.ref h0, .int x1, .int x2, .int x3]) (n := 4) (Nat.le_of_ble_eq_true rfl)
  rw [lg_entry_eq]
  generalize (lg_sl ([.ref h0, .int x1, .int x2, .int x3]) ++ List.replicate (4 - (lg_sl ([.ref h0, .int x1, .int x2, .int x3])).length) Slot.unset).toArray = ls at hl ⊢
  have hl : lv_has ls 4 [(0, .ref h0), (1, .int x1), (2, .int x2), (3, .int x3)] := hl
  refine lv_aload_n hx hb dX4_init_0 rfl (lv_at hl 0 rfl) ?_
  refine W.objInit hx hb hown (hts (.methodLink RX4 3 objectInit) (by decide +kernel)) (hts (.instanceMethod objectInit) (by decide +kernel)) (hts (.code objectInit ⟨#[0xb1]⟩ 1 none) (by decide +kernel)) rfl (by rw [hml]; exact hl.1) rfl dX4_init_1 (Nat.le_of_ble_eq_true rfl) (Nat.le_of_ble_eq_true rfl) ?_
  refine W.eq (g2 := F0 m 4 ls []) rfl ?_
  refine lv_aload_n hx hb dX4_init_4 rfl (lv_at hl 0 rfl) ?_
  refine lv_ldc2 (v := 1099511627775) hx hb hown (hts (.constantLong RX4 9 1099511627775) (by decide +kernel)) dX4_init_5 ?_
  refine va_put (D := D) (ci := 4) (v := .long 1099511627775) (ty := .long) (C := RX4) (T := TX4) (N := 6) hx hb hts (by decide +kernel) tyX4 tyX4_ok nmX4 hown hX.1 hP hD hS 0 rfl rfl 3 (by decide) (hts (.fieldLink RX4 11 "DraftsmanOffice$WorkPackage" "region" "J") (by decide +kernel)) (fun _ h9 => h9) rfl (by decide +kernel) rfl rfl (Nat.le_of_ble_eq_true rfl) dX4_init_8 (fun H locs hP hD hS => ?_)
  have hP : va_P D vwCl [(h0, .inr (4, [.int 0, .int 0, .int 0, .long 1099511627775, .int 0, .int 0]))] H := hP
  have hD : va_D A [(h0, .inr (4, [.int 0, .int 0, .int 0, .long 1099511627775, .int 0, .int 0]))] := hD
  refine lv_aload_n hx hb dX4_init_11 rfl (lv_at hl 0 rfl) ?_
  refine lv_iconst (v := 0) hx hb dX4_init_12 (by decide) ?_
  refine va_put (D := D) (ci := 4) (v := .int 0) (ty := .int) (C := RX4) (T := TX4) (N := 6) hx hb hts (by decide +kernel) tyX4 tyX4_ok nmX4 hown hX.1 hP hD hS 0 rfl rfl 4 (by decide) (hts (.fieldLink RX4 17 "DraftsmanOffice$WorkPackage" "state" "I") (by decide +kernel)) (fun _ h9 => h9) rfl (by decide +kernel) rfl rfl (Nat.le_of_ble_eq_true rfl) dX4_init_13 (fun H locs hP hD hS => ?_)
  have hP : va_P D vwCl [(h0, .inr (4, [.int 0, .int 0, .int 0, .long 1099511627775, .int 0, .int 0]))] H := hP
  have hD : va_D A [(h0, .inr (4, [.int 0, .int 0, .int 0, .long 1099511627775, .int 0, .int 0]))] := hD
  refine lv_aload_n hx hb dX4_init_16 rfl (lv_at hl 0 rfl) ?_
  refine lv_iconst (v := 0) hx hb dX4_init_17 (by decide) ?_
  refine va_put (D := D) (ci := 4) (v := .int 0) (ty := .int) (C := RX4) (T := TX4) (N := 6) hx hb hts (by decide +kernel) tyX4 tyX4_ok nmX4 hown hX.1 hP hD hS 0 rfl rfl 5 (by decide) (hts (.fieldLink RX4 21 "DraftsmanOffice$WorkPackage" "stops" "I") (by decide +kernel)) (fun _ h9 => h9) rfl (by decide +kernel) rfl rfl (Nat.le_of_ble_eq_true rfl) dX4_init_18 (fun H locs hP hD hS => ?_)
  have hP : va_P D vwCl [(h0, .inr (4, [.int 0, .int 0, .int 0, .long 1099511627775, .int 0, .int 0]))] H := hP
  have hD : va_D A [(h0, .inr (4, [.int 0, .int 0, .int 0, .long 1099511627775, .int 0, .int 0]))] := hD
  refine lv_aload_n hx hb dX4_init_21 rfl (lv_at hl 0 rfl) ?_
  refine lv_iload_n hx hb dX4_init_22 rfl (lv_at hl 1 rfl) ?_
  refine va_putF (D := D) (ci := 4) (v := .int x1) (ty := .int) (C := RX4) (T := TX4) (N := 6) hx hb hts (by decide +kernel) tyX4 tyX4_ok nmX4 hown hX.1 hP hD hS 0 rfl rfl 0 (by decide) (hts (.fieldLink RX4 24 "DraftsmanOffice$WorkPackage" "crew" "I") (by decide +kernel)) (fun _ h9 => h9) rfl hin rfl (by decide +kernel) rfl rfl (Nat.le_of_ble_eq_true rfl) dX4_init_23 (fun H locs hP hD hS => ?_)
  have hP : va_P D vwCl [(h0, .inr (4, [.int x1, .int 0, .int 0, .long 1099511627775, .int 0, .int 0]))] H := hP
  have hD : va_D A [(h0, .inr (4, [.int x1, .int 0, .int 0, .long 1099511627775, .int 0, .int 0]))] := hD
  refine lv_aload_n hx hb dX4_init_26 rfl (lv_at hl 0 rfl) ?_
  refine lv_iload_n hx hb dX4_init_27 rfl (lv_at hl 2 rfl) ?_
  refine va_putF (D := D) (ci := 4) (v := .int x2) (ty := .int) (C := RX4) (T := TX4) (N := 6) hx hb hts (by decide +kernel) tyX4 tyX4_ok nmX4 hown hX.1 hP hD hS 0 rfl rfl 1 (by decide) (hts (.fieldLink RX4 27 "DraftsmanOffice$WorkPackage" "sheets" "I") (by decide +kernel)) (fun _ h9 => h9) rfl hin rfl (by decide +kernel) rfl rfl (Nat.le_of_ble_eq_true rfl) dX4_init_28 (fun H locs hP hD hS => ?_)
  have hP : va_P D vwCl [(h0, .inr (4, [.int x1, .int x2, .int 0, .long 1099511627775, .int 0, .int 0]))] H := hP
  have hD : va_D A [(h0, .inr (4, [.int x1, .int x2, .int 0, .long 1099511627775, .int 0, .int 0]))] := hD
  refine lv_aload_n hx hb dX4_init_31 rfl (lv_at hl 0 rfl) ?_
  refine lv_iload_n hx hb dX4_init_32 rfl (lv_at hl 3 rfl) ?_
  refine va_put (D := D) (ci := 4) (v := .int x3) (ty := .int) (C := RX4) (T := TX4) (N := 6) hx hb hts (by decide +kernel) tyX4 tyX4_ok nmX4 hown hX.1 hP hD hS 0 rfl rfl 2 (by decide) (hts (.fieldLink RX4 30 "DraftsmanOffice$WorkPackage" "daysLeft" "I") (by decide +kernel)) (fun _ h9 => h9) rfl (by decide +kernel) rfl rfl (Nat.le_of_ble_eq_true rfl) dX4_init_33 (fun H locs hP hD hS => ?_)
  have hP : va_P D vwCl [(h0, .inr (4, [.int x1, .int x2, .int x3, .long 1099511627775, .int 0, .int 0]))] H := hP
  have hD : va_D A [(h0, .inr (4, [.int x1, .int x2, .int x3, .long 1099511627775, .int 0, .int 0]))] := hD
  have hP9 := hP.sub (ws' := [(h0, .inr (4, [.int x1, .int x2, .int x3, .long 1099511627775, .int 0, .int 0]))]) [0] rfl
  have hD9 := hD.sub (ws' := [(h0, .inr (4, [.int x1, .int x2, .int x3, .long 1099511627775, .int 0, .int 0]))]) [0] (by decide) rfl
  refine W.widen (k := 0) (n := 0) (Nat.le_of_ble_eq_true rfl) (Nat.le_of_ble_eq_true rfl) ?_
  exact W.vret hx hb hr (fun t ht hW9 => ⟨⟨(), rfl, trivial, ⟨by show va_P _ _ _ t.heap; rw [ht]; exact hP9, hD9⟩⟩, hS.F ht⟩) hS.2.2 dX4_init_36

set_option maxHeartbeats 4000000 in
set_option maxRecDepth 100000 in
theorem l_X5_init (l : Launch) (D : va_G) (cA : Nat → ClassId) (A : Nat → Prop) (h0 : Nat)  : Met l yX5_init wsX5_init ({ frames := 1, cells := 11, slots := 132, locals := 23 }) (pcPre D vwCl (tyL cA) [.ref h0] (fun H => va_P D vwCl [(h0, .inr (5, [.null, .null, .null, .null, .null, .null, .null, .int 0, .int 0, .int 0, .int 0, .int 0, .int 0]))] H ∧ va_D A [(h0, .inr (5, [.null, .null, .null, .null, .null, .null, .null, .int 0, .int 0, .int 0, .int 0, .int 0, .int 0]))] ∧ (∀ q, H.size ≤ q → A q))) (va_Qv (fun (u : Unit) => True) (fun (u : Unit) t => ∃ (q363 : Nat) (q366 : Nat) (q369 : Nat) (q372 : Nat) (q375 : Nat) (q378 : Nat) (q390 : Nat) (q386 : Nat) (q387 : Nat) (q388 : Nat) (q389 : Nat), va_P D vwCl [(h0, .inr (5, [.ref q363, .ref q366, .ref q369, .ref q372, .ref q375, .ref q378, .ref q390, .int 0, .int 0, .int 0, .int 0, .int 0, .int 0])), (q363, .inl (cA 3, 10, .inr (.inr (.inr (.inr (fun _ => none)))))), (q366, .inl (cA 4, 20, .inr (.inr (.inr (.inr (fun _ => none)))))), (q369, .inl (cA 5, 20, .inr (.inr (.inr (.inr (fun _ => none)))))), (q372, .inl (cA 6, 20, .inr (.inr (.inr (.inr (fun _ => none)))))), (q375, .inl (cA 7, 8, .inr (.inr (.inr (.inr (fun _ => none)))))), (q378, .inl (cA 2, 4, .inr (.inr (.inr (.inr (fun i => ([q386, q387, q388, q389] : List Nat)[i]?)))))), (q390, .inl (cA 0, 10, .inl (fun _ => 0))), (q386, .inl (cA 0, 10, .inl (fun _ => (-1)))), (q387, .inl (cA 0, 10, .inl (fun _ => (-1)))), (q388, .inl (cA 0, 10, .inl (fun _ => (-1)))), (q389, .inl (cA 0, 10, .inl (fun _ => (-1))))] t.heap ∧ va_D A [(h0, .inr (5, [.ref q363, .ref q366, .ref q369, .ref q372, .ref q375, .ref q378, .ref q390, .int 0, .int 0, .int 0, .int 0, .int 0, .int 0])), (q363, .inl (cA 3, 10, .inr (.inr (.inr (.inr (fun _ => none)))))), (q366, .inl (cA 4, 20, .inr (.inr (.inr (.inr (fun _ => none)))))), (q369, .inl (cA 5, 20, .inr (.inr (.inr (.inr (fun _ => none)))))), (q372, .inl (cA 6, 20, .inr (.inr (.inr (.inr (fun _ => none)))))), (q375, .inl (cA 7, 8, .inr (.inr (.inr (.inr (fun _ => none)))))), (q378, .inl (cA 2, 4, .inr (.inr (.inr (.inr (fun i => ([q386, q387, q388, q389] : List Nat)[i]?)))))), (q390, .inl (cA 0, 10, .inl (fun _ => 0))), (q386, .inl (cA 0, 10, .inl (fun _ => (-1)))), (q387, .inl (cA 0, 10, .inl (fun _ => (-1)))), (q388, .inl (cA 0, 10, .inl (fun _ => (-1)))), (q389, .inl (cA 0, 10, .inl (fun _ => (-1))))]) A) 11 132 A := by
  refine Met.ofW (cc := cX5_init) (maxL := 2) (ret := none) (by decide) rfl ?_
  intro p e s m args below meth c s₁ B hml hv
  obtain ⟨rfl, hX, hP, hD, hA⟩ := hv
  have hx := B.exec
  have hb := B.bytes
  have hr := B.returns
  have hts := atoms_spec (ws := wsX5_init) B.pre
  have hown : s.vm.findClass RX5 = some m.cls := findClass_of_methodNamed B.named
  have hlocks := B.notSynchronized
  have hin : meth.name = "<init>" := (name_of_methodNamed B.named B.method).1
  have hS : va_S A s.heap s.heap [] := va_S.rf
  have hl := lv_entry ([.ref h0]) (n := 2) (Nat.le_of_ble_eq_true rfl)
  rw [lg_entry_eq]
  generalize (lg_sl ([.ref h0]) ++ List.replicate (2 - (lg_sl ([.ref h0])).length) Slot.unset).toArray = ls at hl ⊢
  have hl : lv_has ls 2 [(0, .ref h0)] := hl
  refine lv_aload_n hx hb dX5_init_0 rfl (lv_at hl 0 rfl) ?_
  refine W.objInit hx hb hown (hts (.methodLink RX5 3 objectInit) (by decide +kernel)) (hts (.instanceMethod objectInit) (by decide +kernel)) (hts (.code objectInit ⟨#[0xb1]⟩ 1 none) (by decide +kernel)) rfl (by rw [hml]; exact hl.1) rfl dX5_init_1 (Nat.le_of_ble_eq_true rfl) (Nat.le_of_ble_eq_true rfl) ?_
  refine W.eq (g2 := F0 m 4 ls []) rfl ?_
  refine lv_aload_n hx hb dX5_init_4 rfl (lv_at hl 0 rfl) ?_
  refine lv_bipush (v := 10) hx hb dX5_init_5 (by decide) ?_
  refine va_newq (C := RX3) (N' := 10) hx hb hown (hts (.classLink RX5 9 RX3) (by decide +kernel)) (hX.2.2.1 RX3 (by decide +kernel)) hX.1 hP hD hS hA (by decide) (by decide) (Nat.le_of_ble_eq_true rfl) (Nat.le_of_ble_eq_true rfl) (Nat.le_of_ble_eq_true rfl) dX5_init_7 (fun q363 y364 H hK9 hP hD hS => ?_)
  obtain rfl : y364 = cA 3 := va_K_last (t0 := 3) hX.1 rfl hK9
  have hP : va_P D vwCl [(h0, .inr (5, [.null, .null, .null, .null, .null, .null, .null, .int 0, .int 0, .int 0, .int 0, .int 0, .int 0])), (q363, .inl (cA 3, 10, .inr (.inr (.inr (.inr (fun _ => none))))))] H := hP
  have hD : va_D A [(h0, .inr (5, [.null, .null, .null, .null, .null, .null, .null, .int 0, .int 0, .int 0, .int 0, .int 0, .int 0])), (q363, .inl (cA 3, 10, .inr (.inr (.inr (.inr (fun _ => none))))))] := hD
  refine W.widen (k := 1) (n := 10) (Nat.le_of_ble_eq_true rfl) (Nat.le_of_ble_eq_true rfl) ?_
  refine va_putF (D := D) (ci := 5) (v := .ref q363) (ty := .array (.object "DraftsmanOffice$Sheet")) (C := RX5) (T := TX5) (N := 13) hx hb hts (by decide +kernel) tyX5 tyX5_ok nmX5 hown hX.1 hP hD hS 0 rfl rfl 0 (by decide) (hts (.fieldLink RX5 11 "DraftsmanOffice" "sheets" "[LDraftsmanOffice$Sheet;") (by decide +kernel)) (fun _ h9 => h9) rfl hin rfl (by decide +kernel) rfl rfl (Nat.le_of_ble_eq_true rfl) dX5_init_10 (fun H locs hP hD hS => ?_)
  have hP : va_P D vwCl [(h0, .inr (5, [.ref q363, .null, .null, .null, .null, .null, .null, .int 0, .int 0, .int 0, .int 0, .int 0, .int 0])), (q363, .inl (cA 3, 10, .inr (.inr (.inr (.inr (fun _ => none))))))] H := hP
  have hD : va_D A [(h0, .inr (5, [.ref q363, .null, .null, .null, .null, .null, .null, .int 0, .int 0, .int 0, .int 0, .int 0, .int 0])), (q363, .inl (cA 3, 10, .inr (.inr (.inr (.inr (fun _ => none))))))] := hD
  refine lv_aload_n hx hb dX5_init_13 rfl (lv_at hl 0 rfl) ?_
  refine lv_bipush (v := 20) hx hb dX5_init_14 (by decide) ?_
  refine va_newq (C := RX1) (N' := 20) hx hb hown (hts (.classLink RX5 15 RX1) (by decide +kernel)) (hX.2.2.1 RX1 (by decide +kernel)) hX.1 hP hD hS hA (by decide) (by decide) (Nat.le_of_ble_eq_true rfl) (Nat.le_of_ble_eq_true rfl) (Nat.le_of_ble_eq_true rfl) dX5_init_16 (fun q366 y367 H hK9 hP hD hS => ?_)
  obtain rfl : y367 = cA 4 := va_K_last (t0 := 4) hX.1 rfl hK9
  have hP : va_P D vwCl [(h0, .inr (5, [.ref q363, .null, .null, .null, .null, .null, .null, .int 0, .int 0, .int 0, .int 0, .int 0, .int 0])), (q363, .inl (cA 3, 10, .inr (.inr (.inr (.inr (fun _ => none)))))), (q366, .inl (cA 4, 20, .inr (.inr (.inr (.inr (fun _ => none))))))] H := hP
  have hD : va_D A [(h0, .inr (5, [.ref q363, .null, .null, .null, .null, .null, .null, .int 0, .int 0, .int 0, .int 0, .int 0, .int 0])), (q363, .inl (cA 3, 10, .inr (.inr (.inr (.inr (fun _ => none)))))), (q366, .inl (cA 4, 20, .inr (.inr (.inr (.inr (fun _ => none))))))] := hD
  refine W.widen (k := 2) (n := 30) (Nat.le_of_ble_eq_true rfl) (Nat.le_of_ble_eq_true rfl) ?_
  refine va_putF (D := D) (ci := 5) (v := .ref q366) (ty := .array (.object "DraftsmanOffice$Reference")) (C := RX5) (T := TX5) (N := 13) hx hb hts (by decide +kernel) tyX5 tyX5_ok nmX5 hown hX.1 hP hD hS 0 rfl rfl 1 (by decide) (hts (.fieldLink RX5 17 "DraftsmanOffice" "references" "[LDraftsmanOffice$Reference;") (by decide +kernel)) (fun _ h9 => h9) rfl hin rfl (by decide +kernel) rfl rfl (Nat.le_of_ble_eq_true rfl) dX5_init_19 (fun H locs hP hD hS => ?_)
  have hP : va_P D vwCl [(h0, .inr (5, [.ref q363, .ref q366, .null, .null, .null, .null, .null, .int 0, .int 0, .int 0, .int 0, .int 0, .int 0])), (q363, .inl (cA 3, 10, .inr (.inr (.inr (.inr (fun _ => none)))))), (q366, .inl (cA 4, 20, .inr (.inr (.inr (.inr (fun _ => none))))))] H := hP
  have hD : va_D A [(h0, .inr (5, [.ref q363, .ref q366, .null, .null, .null, .null, .null, .int 0, .int 0, .int 0, .int 0, .int 0, .int 0])), (q363, .inl (cA 3, 10, .inr (.inr (.inr (.inr (fun _ => none)))))), (q366, .inl (cA 4, 20, .inr (.inr (.inr (.inr (fun _ => none))))))] := hD
  refine lv_aload_n hx hb dX5_init_22 rfl (lv_at hl 0 rfl) ?_
  refine lv_bipush (v := 20) hx hb dX5_init_23 (by decide) ?_
  refine va_newq (C := RX2) (N' := 20) hx hb hown (hts (.classLink RX5 21 RX2) (by decide +kernel)) (hX.2.2.1 RX2 (by decide +kernel)) hX.1 hP hD hS hA (by decide) (by decide) (Nat.le_of_ble_eq_true rfl) (Nat.le_of_ble_eq_true rfl) (Nat.le_of_ble_eq_true rfl) dX5_init_25 (fun q369 y370 H hK9 hP hD hS => ?_)
  obtain rfl : y370 = cA 5 := va_K_last (t0 := 5) hX.1 rfl hK9
  have hP : va_P D vwCl [(h0, .inr (5, [.ref q363, .ref q366, .null, .null, .null, .null, .null, .int 0, .int 0, .int 0, .int 0, .int 0, .int 0])), (q363, .inl (cA 3, 10, .inr (.inr (.inr (.inr (fun _ => none)))))), (q366, .inl (cA 4, 20, .inr (.inr (.inr (.inr (fun _ => none)))))), (q369, .inl (cA 5, 20, .inr (.inr (.inr (.inr (fun _ => none))))))] H := hP
  have hD : va_D A [(h0, .inr (5, [.ref q363, .ref q366, .null, .null, .null, .null, .null, .int 0, .int 0, .int 0, .int 0, .int 0, .int 0])), (q363, .inl (cA 3, 10, .inr (.inr (.inr (.inr (fun _ => none)))))), (q366, .inl (cA 4, 20, .inr (.inr (.inr (.inr (fun _ => none)))))), (q369, .inl (cA 5, 20, .inr (.inr (.inr (.inr (fun _ => none))))))] := hD
  refine W.widen (k := 3) (n := 50) (Nat.le_of_ble_eq_true rfl) (Nat.le_of_ble_eq_true rfl) ?_
  refine va_putF (D := D) (ci := 5) (v := .ref q369) (ty := .array (.object "DraftsmanOffice$Sending")) (C := RX5) (T := TX5) (N := 13) hx hb hts (by decide +kernel) tyX5 tyX5_ok nmX5 hown hX.1 hP hD hS 0 rfl rfl 2 (by decide) (hts (.fieldLink RX5 23 "DraftsmanOffice" "sendings" "[LDraftsmanOffice$Sending;") (by decide +kernel)) (fun _ h9 => h9) rfl hin rfl (by decide +kernel) rfl rfl (Nat.le_of_ble_eq_true rfl) dX5_init_28 (fun H locs hP hD hS => ?_)
  have hP : va_P D vwCl [(h0, .inr (5, [.ref q363, .ref q366, .ref q369, .null, .null, .null, .null, .int 0, .int 0, .int 0, .int 0, .int 0, .int 0])), (q363, .inl (cA 3, 10, .inr (.inr (.inr (.inr (fun _ => none)))))), (q366, .inl (cA 4, 20, .inr (.inr (.inr (.inr (fun _ => none)))))), (q369, .inl (cA 5, 20, .inr (.inr (.inr (.inr (fun _ => none))))))] H := hP
  have hD : va_D A [(h0, .inr (5, [.ref q363, .ref q366, .ref q369, .null, .null, .null, .null, .int 0, .int 0, .int 0, .int 0, .int 0, .int 0])), (q363, .inl (cA 3, 10, .inr (.inr (.inr (.inr (fun _ => none)))))), (q366, .inl (cA 4, 20, .inr (.inr (.inr (.inr (fun _ => none)))))), (q369, .inl (cA 5, 20, .inr (.inr (.inr (.inr (fun _ => none))))))] := hD
  refine lv_aload_n hx hb dX5_init_31 rfl (lv_at hl 0 rfl) ?_
  refine lv_bipush (v := 20) hx hb dX5_init_32 (by decide) ?_
  refine va_newq (C := RX0) (N' := 20) hx hb hown (hts (.classLink RX5 27 RX0) (by decide +kernel)) (hX.2.2.1 RX0 (by decide +kernel)) hX.1 hP hD hS hA (by decide) (by decide) (Nat.le_of_ble_eq_true rfl) (Nat.le_of_ble_eq_true rfl) (Nat.le_of_ble_eq_true rfl) dX5_init_34 (fun q372 y373 H hK9 hP hD hS => ?_)
  obtain rfl : y373 = cA 6 := va_K_last (t0 := 6) hX.1 rfl hK9
  have hP : va_P D vwCl [(h0, .inr (5, [.ref q363, .ref q366, .ref q369, .null, .null, .null, .null, .int 0, .int 0, .int 0, .int 0, .int 0, .int 0])), (q363, .inl (cA 3, 10, .inr (.inr (.inr (.inr (fun _ => none)))))), (q366, .inl (cA 4, 20, .inr (.inr (.inr (.inr (fun _ => none)))))), (q369, .inl (cA 5, 20, .inr (.inr (.inr (.inr (fun _ => none)))))), (q372, .inl (cA 6, 20, .inr (.inr (.inr (.inr (fun _ => none))))))] H := hP
  have hD : va_D A [(h0, .inr (5, [.ref q363, .ref q366, .ref q369, .null, .null, .null, .null, .int 0, .int 0, .int 0, .int 0, .int 0, .int 0])), (q363, .inl (cA 3, 10, .inr (.inr (.inr (.inr (fun _ => none)))))), (q366, .inl (cA 4, 20, .inr (.inr (.inr (.inr (fun _ => none)))))), (q369, .inl (cA 5, 20, .inr (.inr (.inr (.inr (fun _ => none)))))), (q372, .inl (cA 6, 20, .inr (.inr (.inr (.inr (fun _ => none))))))] := hD
  refine W.widen (k := 4) (n := 70) (Nat.le_of_ble_eq_true rfl) (Nat.le_of_ble_eq_true rfl) ?_
  refine va_putF (D := D) (ci := 5) (v := .ref q372) (ty := .array (.object "DraftsmanOffice$Query")) (C := RX5) (T := TX5) (N := 13) hx hb hts (by decide +kernel) tyX5 tyX5_ok nmX5 hown hX.1 hP hD hS 0 rfl rfl 3 (by decide) (hts (.fieldLink RX5 29 "DraftsmanOffice" "queries" "[LDraftsmanOffice$Query;") (by decide +kernel)) (fun _ h9 => h9) rfl hin rfl (by decide +kernel) rfl rfl (Nat.le_of_ble_eq_true rfl) dX5_init_37 (fun H locs hP hD hS => ?_)
  have hP : va_P D vwCl [(h0, .inr (5, [.ref q363, .ref q366, .ref q369, .ref q372, .null, .null, .null, .int 0, .int 0, .int 0, .int 0, .int 0, .int 0])), (q363, .inl (cA 3, 10, .inr (.inr (.inr (.inr (fun _ => none)))))), (q366, .inl (cA 4, 20, .inr (.inr (.inr (.inr (fun _ => none)))))), (q369, .inl (cA 5, 20, .inr (.inr (.inr (.inr (fun _ => none)))))), (q372, .inl (cA 6, 20, .inr (.inr (.inr (.inr (fun _ => none))))))] H := hP
  have hD : va_D A [(h0, .inr (5, [.ref q363, .ref q366, .ref q369, .ref q372, .null, .null, .null, .int 0, .int 0, .int 0, .int 0, .int 0, .int 0])), (q363, .inl (cA 3, 10, .inr (.inr (.inr (.inr (fun _ => none)))))), (q366, .inl (cA 4, 20, .inr (.inr (.inr (.inr (fun _ => none)))))), (q369, .inl (cA 5, 20, .inr (.inr (.inr (.inr (fun _ => none)))))), (q372, .inl (cA 6, 20, .inr (.inr (.inr (.inr (fun _ => none))))))] := hD
  refine lv_aload_n hx hb dX5_init_40 rfl (lv_at hl 0 rfl) ?_
  refine lv_bipush (v := 8) hx hb dX5_init_41 (by decide) ?_
  refine va_newq (C := RX4) (N' := 8) hx hb hown (hts (.classLink RX5 33 RX4) (by decide +kernel)) (hX.2.2.1 RX4 (by decide +kernel)) hX.1 hP hD hS hA (by decide) (by decide) (Nat.le_of_ble_eq_true rfl) (Nat.le_of_ble_eq_true rfl) (Nat.le_of_ble_eq_true rfl) dX5_init_43 (fun q375 y376 H hK9 hP hD hS => ?_)
  obtain rfl : y376 = cA 7 := va_K_last (t0 := 7) hX.1 rfl hK9
  have hP : va_P D vwCl [(h0, .inr (5, [.ref q363, .ref q366, .ref q369, .ref q372, .null, .null, .null, .int 0, .int 0, .int 0, .int 0, .int 0, .int 0])), (q363, .inl (cA 3, 10, .inr (.inr (.inr (.inr (fun _ => none)))))), (q366, .inl (cA 4, 20, .inr (.inr (.inr (.inr (fun _ => none)))))), (q369, .inl (cA 5, 20, .inr (.inr (.inr (.inr (fun _ => none)))))), (q372, .inl (cA 6, 20, .inr (.inr (.inr (.inr (fun _ => none)))))), (q375, .inl (cA 7, 8, .inr (.inr (.inr (.inr (fun _ => none))))))] H := hP
  have hD : va_D A [(h0, .inr (5, [.ref q363, .ref q366, .ref q369, .ref q372, .null, .null, .null, .int 0, .int 0, .int 0, .int 0, .int 0, .int 0])), (q363, .inl (cA 3, 10, .inr (.inr (.inr (.inr (fun _ => none)))))), (q366, .inl (cA 4, 20, .inr (.inr (.inr (.inr (fun _ => none)))))), (q369, .inl (cA 5, 20, .inr (.inr (.inr (.inr (fun _ => none)))))), (q372, .inl (cA 6, 20, .inr (.inr (.inr (.inr (fun _ => none)))))), (q375, .inl (cA 7, 8, .inr (.inr (.inr (.inr (fun _ => none))))))] := hD
  refine W.widen (k := 5) (n := 78) (Nat.le_of_ble_eq_true rfl) (Nat.le_of_ble_eq_true rfl) ?_
  refine va_putF (D := D) (ci := 5) (v := .ref q375) (ty := .array (.object "DraftsmanOffice$WorkPackage")) (C := RX5) (T := TX5) (N := 13) hx hb hts (by decide +kernel) tyX5 tyX5_ok nmX5 hown hX.1 hP hD hS 0 rfl rfl 4 (by decide) (hts (.fieldLink RX5 35 "DraftsmanOffice" "packages" "[LDraftsmanOffice$WorkPackage;") (by decide +kernel)) (fun _ h9 => h9) rfl hin rfl (by decide +kernel) rfl rfl (Nat.le_of_ble_eq_true rfl) dX5_init_46 (fun H locs hP hD hS => ?_)
  have hP : va_P D vwCl [(h0, .inr (5, [.ref q363, .ref q366, .ref q369, .ref q372, .ref q375, .null, .null, .int 0, .int 0, .int 0, .int 0, .int 0, .int 0])), (q363, .inl (cA 3, 10, .inr (.inr (.inr (.inr (fun _ => none)))))), (q366, .inl (cA 4, 20, .inr (.inr (.inr (.inr (fun _ => none)))))), (q369, .inl (cA 5, 20, .inr (.inr (.inr (.inr (fun _ => none)))))), (q372, .inl (cA 6, 20, .inr (.inr (.inr (.inr (fun _ => none)))))), (q375, .inl (cA 7, 8, .inr (.inr (.inr (.inr (fun _ => none))))))] H := hP
  have hD : va_D A [(h0, .inr (5, [.ref q363, .ref q366, .ref q369, .ref q372, .ref q375, .null, .null, .int 0, .int 0, .int 0, .int 0, .int 0, .int 0])), (q363, .inl (cA 3, 10, .inr (.inr (.inr (.inr (fun _ => none)))))), (q366, .inl (cA 4, 20, .inr (.inr (.inr (.inr (fun _ => none)))))), (q369, .inl (cA 5, 20, .inr (.inr (.inr (.inr (fun _ => none)))))), (q372, .inl (cA 6, 20, .inr (.inr (.inr (.inr (fun _ => none)))))), (q375, .inl (cA 7, 8, .inr (.inr (.inr (.inr (fun _ => none))))))] := hD
  refine lv_aload_n hx hb dX5_init_49 rfl (lv_at hl 0 rfl) ?_
  refine lv_iconst (v := 4) hx hb dX5_init_50 (by decide) ?_
  refine lv_bipush (v := 10) hx hb dX5_init_51 (by decide) ?_
  refine va_mna (X := [(h0, .inr (5, [.ref q363, .ref q366, .ref q369, .ref q372, .ref q375, .null, .null, .int 0, .int 0, .int 0, .int 0, .int 0, .int 0])), (q363, .inl (cA 3, 10, .inr (.inr (.inr (.inr (fun _ => none)))))), (q366, .inl (cA 4, 20, .inr (.inr (.inr (.inr (fun _ => none)))))), (q369, .inl (cA 5, 20, .inr (.inr (.inr (.inr (fun _ => none)))))), (q372, .inl (cA 6, 20, .inr (.inr (.inr (.inr (fun _ => none)))))), (q375, .inl (cA 7, 8, .inr (.inr (.inr (.inr (fun _ => none))))))]) (L := []) (f := fun _ => .inr (0, [])) (ty := .int) (cy := cA 0) (N' := 4) (K' := 10) (z := (10, .inl (fun _ => 0))) hx hb hown (hts (.classLink RX5 39 "[[I") (by decide +kernel)) (hX.2.2.2 .int (by decide +kernel)) (hts (.arrayClass .int) (by decide +kernel)) (hX.1.2 0 _ rfl).2 hX.1 hP hD hS hA (by decide) (by decide) (by decide) (by decide) (Nat.le_of_ble_eq_true rfl) (Nat.le_of_ble_eq_true rfl) (Nat.le_of_ble_eq_true rfl) rfl rfl (Nat.le_of_ble_eq_true rfl) (Nat.le_of_ble_eq_true rfl) (fun _ => rfl) dX5_init_53 (fun q378 g379 y380 H _ _ hK9 hP hD hS => ?_)
  obtain rfl : y380 = cA 2 := va_K_last (t0 := 2) hX.1 rfl hK9
  rw [vr_rowsN, vr_sel] at hP hD
  have hP : va_P D vwCl [(h0, .inr (5, [.ref q363, .ref q366, .ref q369, .ref q372, .ref q375, .null, .null, .int 0, .int 0, .int 0, .int 0, .int 0, .int 0])), (q363, .inl (cA 3, 10, .inr (.inr (.inr (.inr (fun _ => none)))))), (q366, .inl (cA 4, 20, .inr (.inr (.inr (.inr (fun _ => none)))))), (q369, .inl (cA 5, 20, .inr (.inr (.inr (.inr (fun _ => none)))))), (q372, .inl (cA 6, 20, .inr (.inr (.inr (.inr (fun _ => none)))))), (q375, .inl (cA 7, 8, .inr (.inr (.inr (.inr (fun _ => none)))))), (q378, .inl (cA 2, 4, .inr (.inr (.inr (.inr (fun i => ([(g379 0), (g379 1), (g379 2), (g379 3)] : List Nat)[i]?)))))), ((g379 0), .inl (cA 0, 10, .inl (fun _ => 0))), ((g379 1), .inl (cA 0, 10, .inl (fun _ => 0))), ((g379 2), .inl (cA 0, 10, .inl (fun _ => 0))), ((g379 3), .inl (cA 0, 10, .inl (fun _ => 0)))] H := hP
  have hD : va_D A [(h0, .inr (5, [.ref q363, .ref q366, .ref q369, .ref q372, .ref q375, .null, .null, .int 0, .int 0, .int 0, .int 0, .int 0, .int 0])), (q363, .inl (cA 3, 10, .inr (.inr (.inr (.inr (fun _ => none)))))), (q366, .inl (cA 4, 20, .inr (.inr (.inr (.inr (fun _ => none)))))), (q369, .inl (cA 5, 20, .inr (.inr (.inr (.inr (fun _ => none)))))), (q372, .inl (cA 6, 20, .inr (.inr (.inr (.inr (fun _ => none)))))), (q375, .inl (cA 7, 8, .inr (.inr (.inr (.inr (fun _ => none)))))), (q378, .inl (cA 2, 4, .inr (.inr (.inr (.inr (fun i => ([(g379 0), (g379 1), (g379 2), (g379 3)] : List Nat)[i]?)))))), ((g379 0), .inl (cA 0, 10, .inl (fun _ => 0))), ((g379 1), .inl (cA 0, 10, .inl (fun _ => 0))), ((g379 2), .inl (cA 0, 10, .inl (fun _ => 0))), ((g379 3), .inl (cA 0, 10, .inl (fun _ => 0)))] := hD
  generalize g379 0 = q386 at hP hD
  generalize g379 1 = q387 at hP hD
  generalize g379 2 = q388 at hP hD
  generalize g379 3 = q389 at hP hD
  have hP : va_P D vwCl [(h0, .inr (5, [.ref q363, .ref q366, .ref q369, .ref q372, .ref q375, .null, .null, .int 0, .int 0, .int 0, .int 0, .int 0, .int 0])), (q363, .inl (cA 3, 10, .inr (.inr (.inr (.inr (fun _ => none)))))), (q366, .inl (cA 4, 20, .inr (.inr (.inr (.inr (fun _ => none)))))), (q369, .inl (cA 5, 20, .inr (.inr (.inr (.inr (fun _ => none)))))), (q372, .inl (cA 6, 20, .inr (.inr (.inr (.inr (fun _ => none)))))), (q375, .inl (cA 7, 8, .inr (.inr (.inr (.inr (fun _ => none)))))), (q378, .inl (cA 2, 4, .inr (.inr (.inr (.inr (fun i => ([q386, q387, q388, q389] : List Nat)[i]?)))))), (q386, .inl (cA 0, 10, .inl (fun _ => 0))), (q387, .inl (cA 0, 10, .inl (fun _ => 0))), (q388, .inl (cA 0, 10, .inl (fun _ => 0))), (q389, .inl (cA 0, 10, .inl (fun _ => 0)))] H := hP
  have hD : va_D A [(h0, .inr (5, [.ref q363, .ref q366, .ref q369, .ref q372, .ref q375, .null, .null, .int 0, .int 0, .int 0, .int 0, .int 0, .int 0])), (q363, .inl (cA 3, 10, .inr (.inr (.inr (.inr (fun _ => none)))))), (q366, .inl (cA 4, 20, .inr (.inr (.inr (.inr (fun _ => none)))))), (q369, .inl (cA 5, 20, .inr (.inr (.inr (.inr (fun _ => none)))))), (q372, .inl (cA 6, 20, .inr (.inr (.inr (.inr (fun _ => none)))))), (q375, .inl (cA 7, 8, .inr (.inr (.inr (.inr (fun _ => none)))))), (q378, .inl (cA 2, 4, .inr (.inr (.inr (.inr (fun i => ([q386, q387, q388, q389] : List Nat)[i]?)))))), (q386, .inl (cA 0, 10, .inl (fun _ => 0))), (q387, .inl (cA 0, 10, .inl (fun _ => 0))), (q388, .inl (cA 0, 10, .inl (fun _ => 0))), (q389, .inl (cA 0, 10, .inl (fun _ => 0)))] := hD
  refine W.widen (k := 10) (n := 122) (Nat.le_of_ble_eq_true rfl) (Nat.le_of_ble_eq_true rfl) ?_
  refine va_putF (D := D) (ci := 5) (v := .ref q378) (ty := .array (.array .int)) (C := RX5) (T := TX5) (N := 13) hx hb hts (by decide +kernel) tyX5 tyX5_ok nmX5 hown hX.1 hP hD hS 0 rfl rfl 5 (by decide) (hts (.fieldLink RX5 41 "DraftsmanOffice" "crewHas" "[[I") (by decide +kernel)) (fun _ h9 => h9) rfl hin rfl (by decide +kernel) rfl rfl (Nat.le_of_ble_eq_true rfl) dX5_init_57 (fun H locs hP hD hS => ?_)
  have hP : va_P D vwCl [(h0, .inr (5, [.ref q363, .ref q366, .ref q369, .ref q372, .ref q375, .ref q378, .null, .int 0, .int 0, .int 0, .int 0, .int 0, .int 0])), (q363, .inl (cA 3, 10, .inr (.inr (.inr (.inr (fun _ => none)))))), (q366, .inl (cA 4, 20, .inr (.inr (.inr (.inr (fun _ => none)))))), (q369, .inl (cA 5, 20, .inr (.inr (.inr (.inr (fun _ => none)))))), (q372, .inl (cA 6, 20, .inr (.inr (.inr (.inr (fun _ => none)))))), (q375, .inl (cA 7, 8, .inr (.inr (.inr (.inr (fun _ => none)))))), (q378, .inl (cA 2, 4, .inr (.inr (.inr (.inr (fun i => ([q386, q387, q388, q389] : List Nat)[i]?)))))), (q386, .inl (cA 0, 10, .inl (fun _ => 0))), (q387, .inl (cA 0, 10, .inl (fun _ => 0))), (q388, .inl (cA 0, 10, .inl (fun _ => 0))), (q389, .inl (cA 0, 10, .inl (fun _ => 0)))] H := hP
  have hD : va_D A [(h0, .inr (5, [.ref q363, .ref q366, .ref q369, .ref q372, .ref q375, .ref q378, .null, .int 0, .int 0, .int 0, .int 0, .int 0, .int 0])), (q363, .inl (cA 3, 10, .inr (.inr (.inr (.inr (fun _ => none)))))), (q366, .inl (cA 4, 20, .inr (.inr (.inr (.inr (fun _ => none)))))), (q369, .inl (cA 5, 20, .inr (.inr (.inr (.inr (fun _ => none)))))), (q372, .inl (cA 6, 20, .inr (.inr (.inr (.inr (fun _ => none)))))), (q375, .inl (cA 7, 8, .inr (.inr (.inr (.inr (fun _ => none)))))), (q378, .inl (cA 2, 4, .inr (.inr (.inr (.inr (fun i => ([q386, q387, q388, q389] : List Nat)[i]?)))))), (q386, .inl (cA 0, 10, .inl (fun _ => 0))), (q387, .inl (cA 0, 10, .inl (fun _ => 0))), (q388, .inl (cA 0, 10, .inl (fun _ => 0))), (q389, .inl (cA 0, 10, .inl (fun _ => 0)))] := hD
  refine lv_aload_n hx hb dX5_init_60 rfl (lv_at hl 0 rfl) ?_
  refine lv_bipush (v := 10) hx hb dX5_init_61 (by decide) ?_
  refine va_newa (atype := .int) (ty := .int) (N' := 10) (a0 := (10, .inl (fun _ => 0))) hx hb (hts (.arrayClass .int) (by decide +kernel)) rfl hX.1 hP hD hS hA (fun _ => rfl) (by decide) (by decide) (Nat.le_of_ble_eq_true rfl) (Nat.le_of_ble_eq_true rfl) (Nat.le_of_ble_eq_true rfl) dX5_init_63 (fun q390 y391 H hK9 hP hD hS => ?_)
  obtain rfl : y391 = cA 0 := va_K_last (t0 := 0) hX.1 rfl hK9
  have hP : va_P D vwCl [(h0, .inr (5, [.ref q363, .ref q366, .ref q369, .ref q372, .ref q375, .ref q378, .null, .int 0, .int 0, .int 0, .int 0, .int 0, .int 0])), (q363, .inl (cA 3, 10, .inr (.inr (.inr (.inr (fun _ => none)))))), (q366, .inl (cA 4, 20, .inr (.inr (.inr (.inr (fun _ => none)))))), (q369, .inl (cA 5, 20, .inr (.inr (.inr (.inr (fun _ => none)))))), (q372, .inl (cA 6, 20, .inr (.inr (.inr (.inr (fun _ => none)))))), (q375, .inl (cA 7, 8, .inr (.inr (.inr (.inr (fun _ => none)))))), (q378, .inl (cA 2, 4, .inr (.inr (.inr (.inr (fun i => ([q386, q387, q388, q389] : List Nat)[i]?)))))), (q386, .inl (cA 0, 10, .inl (fun _ => 0))), (q387, .inl (cA 0, 10, .inl (fun _ => 0))), (q388, .inl (cA 0, 10, .inl (fun _ => 0))), (q389, .inl (cA 0, 10, .inl (fun _ => 0))), (q390, .inl (cA 0, 10, .inl (fun _ => 0)))] H := hP
  have hD : va_D A [(h0, .inr (5, [.ref q363, .ref q366, .ref q369, .ref q372, .ref q375, .ref q378, .null, .int 0, .int 0, .int 0, .int 0, .int 0, .int 0])), (q363, .inl (cA 3, 10, .inr (.inr (.inr (.inr (fun _ => none)))))), (q366, .inl (cA 4, 20, .inr (.inr (.inr (.inr (fun _ => none)))))), (q369, .inl (cA 5, 20, .inr (.inr (.inr (.inr (fun _ => none)))))), (q372, .inl (cA 6, 20, .inr (.inr (.inr (.inr (fun _ => none)))))), (q375, .inl (cA 7, 8, .inr (.inr (.inr (.inr (fun _ => none)))))), (q378, .inl (cA 2, 4, .inr (.inr (.inr (.inr (fun i => ([q386, q387, q388, q389] : List Nat)[i]?)))))), (q386, .inl (cA 0, 10, .inl (fun _ => 0))), (q387, .inl (cA 0, 10, .inl (fun _ => 0))), (q388, .inl (cA 0, 10, .inl (fun _ => 0))), (q389, .inl (cA 0, 10, .inl (fun _ => 0))), (q390, .inl (cA 0, 10, .inl (fun _ => 0)))] := hD
  refine W.widen (k := 11) (n := 132) (Nat.le_of_ble_eq_true rfl) (Nat.le_of_ble_eq_true rfl) ?_
  refine va_putF (D := D) (ci := 5) (v := .ref q390) (ty := .array .int) (C := RX5) (T := TX5) (N := 13) hx hb hts (by decide +kernel) tyX5 tyX5_ok nmX5 hown hX.1 hP hD hS 0 rfl rfl 6 (by decide) (hts (.fieldLink RX5 44 "DraftsmanOffice" "wouldHave" "[I") (by decide +kernel)) (fun _ h9 => h9) rfl hin rfl (by decide +kernel) rfl rfl (Nat.le_of_ble_eq_true rfl) dX5_init_65 (fun H locs hP hD hS => ?_)
  have hP : va_P D vwCl [(h0, .inr (5, [.ref q363, .ref q366, .ref q369, .ref q372, .ref q375, .ref q378, .ref q390, .int 0, .int 0, .int 0, .int 0, .int 0, .int 0])), (q363, .inl (cA 3, 10, .inr (.inr (.inr (.inr (fun _ => none)))))), (q366, .inl (cA 4, 20, .inr (.inr (.inr (.inr (fun _ => none)))))), (q369, .inl (cA 5, 20, .inr (.inr (.inr (.inr (fun _ => none)))))), (q372, .inl (cA 6, 20, .inr (.inr (.inr (.inr (fun _ => none)))))), (q375, .inl (cA 7, 8, .inr (.inr (.inr (.inr (fun _ => none)))))), (q378, .inl (cA 2, 4, .inr (.inr (.inr (.inr (fun i => ([q386, q387, q388, q389] : List Nat)[i]?)))))), (q386, .inl (cA 0, 10, .inl (fun _ => 0))), (q387, .inl (cA 0, 10, .inl (fun _ => 0))), (q388, .inl (cA 0, 10, .inl (fun _ => 0))), (q389, .inl (cA 0, 10, .inl (fun _ => 0))), (q390, .inl (cA 0, 10, .inl (fun _ => 0)))] H := hP
  have hD : va_D A [(h0, .inr (5, [.ref q363, .ref q366, .ref q369, .ref q372, .ref q375, .ref q378, .ref q390, .int 0, .int 0, .int 0, .int 0, .int 0, .int 0])), (q363, .inl (cA 3, 10, .inr (.inr (.inr (.inr (fun _ => none)))))), (q366, .inl (cA 4, 20, .inr (.inr (.inr (.inr (fun _ => none)))))), (q369, .inl (cA 5, 20, .inr (.inr (.inr (.inr (fun _ => none)))))), (q372, .inl (cA 6, 20, .inr (.inr (.inr (.inr (fun _ => none)))))), (q375, .inl (cA 7, 8, .inr (.inr (.inr (.inr (fun _ => none)))))), (q378, .inl (cA 2, 4, .inr (.inr (.inr (.inr (fun i => ([q386, q387, q388, q389] : List Nat)[i]?)))))), (q386, .inl (cA 0, 10, .inl (fun _ => 0))), (q387, .inl (cA 0, 10, .inl (fun _ => 0))), (q388, .inl (cA 0, 10, .inl (fun _ => 0))), (q389, .inl (cA 0, 10, .inl (fun _ => 0))), (q390, .inl (cA 0, 10, .inl (fun _ => 0)))] := hD
  refine lv_aload_n hx hb dX5_init_68 rfl (lv_at hl 0 rfl) ?_
  refine lv_iconst (v := 0) hx hb dX5_init_69 (by decide) ?_
  refine va_put (D := D) (ci := 5) (v := .int 0) (ty := .int) (C := RX5) (T := TX5) (N := 13) hx hb hts (by decide +kernel) tyX5 tyX5_ok nmX5 hown hX.1 hP hD hS 0 rfl rfl 7 (by decide) (hts (.fieldLink RX5 48 "DraftsmanOffice" "sheetCount" "I") (by decide +kernel)) (fun _ h9 => h9) rfl (by decide +kernel) rfl rfl (Nat.le_of_ble_eq_true rfl) dX5_init_70 (fun H locs hP hD hS => ?_)
  have hP : va_P D vwCl [(h0, .inr (5, [.ref q363, .ref q366, .ref q369, .ref q372, .ref q375, .ref q378, .ref q390, .int 0, .int 0, .int 0, .int 0, .int 0, .int 0])), (q363, .inl (cA 3, 10, .inr (.inr (.inr (.inr (fun _ => none)))))), (q366, .inl (cA 4, 20, .inr (.inr (.inr (.inr (fun _ => none)))))), (q369, .inl (cA 5, 20, .inr (.inr (.inr (.inr (fun _ => none)))))), (q372, .inl (cA 6, 20, .inr (.inr (.inr (.inr (fun _ => none)))))), (q375, .inl (cA 7, 8, .inr (.inr (.inr (.inr (fun _ => none)))))), (q378, .inl (cA 2, 4, .inr (.inr (.inr (.inr (fun i => ([q386, q387, q388, q389] : List Nat)[i]?)))))), (q386, .inl (cA 0, 10, .inl (fun _ => 0))), (q387, .inl (cA 0, 10, .inl (fun _ => 0))), (q388, .inl (cA 0, 10, .inl (fun _ => 0))), (q389, .inl (cA 0, 10, .inl (fun _ => 0))), (q390, .inl (cA 0, 10, .inl (fun _ => 0)))] H := hP
  have hD : va_D A [(h0, .inr (5, [.ref q363, .ref q366, .ref q369, .ref q372, .ref q375, .ref q378, .ref q390, .int 0, .int 0, .int 0, .int 0, .int 0, .int 0])), (q363, .inl (cA 3, 10, .inr (.inr (.inr (.inr (fun _ => none)))))), (q366, .inl (cA 4, 20, .inr (.inr (.inr (.inr (fun _ => none)))))), (q369, .inl (cA 5, 20, .inr (.inr (.inr (.inr (fun _ => none)))))), (q372, .inl (cA 6, 20, .inr (.inr (.inr (.inr (fun _ => none)))))), (q375, .inl (cA 7, 8, .inr (.inr (.inr (.inr (fun _ => none)))))), (q378, .inl (cA 2, 4, .inr (.inr (.inr (.inr (fun i => ([q386, q387, q388, q389] : List Nat)[i]?)))))), (q386, .inl (cA 0, 10, .inl (fun _ => 0))), (q387, .inl (cA 0, 10, .inl (fun _ => 0))), (q388, .inl (cA 0, 10, .inl (fun _ => 0))), (q389, .inl (cA 0, 10, .inl (fun _ => 0))), (q390, .inl (cA 0, 10, .inl (fun _ => 0)))] := hD
  refine lv_aload_n hx hb dX5_init_73 rfl (lv_at hl 0 rfl) ?_
  refine lv_iconst (v := 0) hx hb dX5_init_74 (by decide) ?_
  refine va_put (D := D) (ci := 5) (v := .int 0) (ty := .int) (C := RX5) (T := TX5) (N := 13) hx hb hts (by decide +kernel) tyX5 tyX5_ok nmX5 hown hX.1 hP hD hS 0 rfl rfl 8 (by decide) (hts (.fieldLink RX5 52 "DraftsmanOffice" "referenceCount" "I") (by decide +kernel)) (fun _ h9 => h9) rfl (by decide +kernel) rfl rfl (Nat.le_of_ble_eq_true rfl) dX5_init_75 (fun H locs hP hD hS => ?_)
  have hP : va_P D vwCl [(h0, .inr (5, [.ref q363, .ref q366, .ref q369, .ref q372, .ref q375, .ref q378, .ref q390, .int 0, .int 0, .int 0, .int 0, .int 0, .int 0])), (q363, .inl (cA 3, 10, .inr (.inr (.inr (.inr (fun _ => none)))))), (q366, .inl (cA 4, 20, .inr (.inr (.inr (.inr (fun _ => none)))))), (q369, .inl (cA 5, 20, .inr (.inr (.inr (.inr (fun _ => none)))))), (q372, .inl (cA 6, 20, .inr (.inr (.inr (.inr (fun _ => none)))))), (q375, .inl (cA 7, 8, .inr (.inr (.inr (.inr (fun _ => none)))))), (q378, .inl (cA 2, 4, .inr (.inr (.inr (.inr (fun i => ([q386, q387, q388, q389] : List Nat)[i]?)))))), (q386, .inl (cA 0, 10, .inl (fun _ => 0))), (q387, .inl (cA 0, 10, .inl (fun _ => 0))), (q388, .inl (cA 0, 10, .inl (fun _ => 0))), (q389, .inl (cA 0, 10, .inl (fun _ => 0))), (q390, .inl (cA 0, 10, .inl (fun _ => 0)))] H := hP
  have hD : va_D A [(h0, .inr (5, [.ref q363, .ref q366, .ref q369, .ref q372, .ref q375, .ref q378, .ref q390, .int 0, .int 0, .int 0, .int 0, .int 0, .int 0])), (q363, .inl (cA 3, 10, .inr (.inr (.inr (.inr (fun _ => none)))))), (q366, .inl (cA 4, 20, .inr (.inr (.inr (.inr (fun _ => none)))))), (q369, .inl (cA 5, 20, .inr (.inr (.inr (.inr (fun _ => none)))))), (q372, .inl (cA 6, 20, .inr (.inr (.inr (.inr (fun _ => none)))))), (q375, .inl (cA 7, 8, .inr (.inr (.inr (.inr (fun _ => none)))))), (q378, .inl (cA 2, 4, .inr (.inr (.inr (.inr (fun i => ([q386, q387, q388, q389] : List Nat)[i]?)))))), (q386, .inl (cA 0, 10, .inl (fun _ => 0))), (q387, .inl (cA 0, 10, .inl (fun _ => 0))), (q388, .inl (cA 0, 10, .inl (fun _ => 0))), (q389, .inl (cA 0, 10, .inl (fun _ => 0))), (q390, .inl (cA 0, 10, .inl (fun _ => 0)))] := hD
  refine lv_aload_n hx hb dX5_init_78 rfl (lv_at hl 0 rfl) ?_
  refine lv_iconst (v := 0) hx hb dX5_init_79 (by decide) ?_
  refine va_put (D := D) (ci := 5) (v := .int 0) (ty := .int) (C := RX5) (T := TX5) (N := 13) hx hb hts (by decide +kernel) tyX5 tyX5_ok nmX5 hown hX.1 hP hD hS 0 rfl rfl 9 (by decide) (hts (.fieldLink RX5 55 "DraftsmanOffice" "sendingCount" "I") (by decide +kernel)) (fun _ h9 => h9) rfl (by decide +kernel) rfl rfl (Nat.le_of_ble_eq_true rfl) dX5_init_80 (fun H locs hP hD hS => ?_)
  have hP : va_P D vwCl [(h0, .inr (5, [.ref q363, .ref q366, .ref q369, .ref q372, .ref q375, .ref q378, .ref q390, .int 0, .int 0, .int 0, .int 0, .int 0, .int 0])), (q363, .inl (cA 3, 10, .inr (.inr (.inr (.inr (fun _ => none)))))), (q366, .inl (cA 4, 20, .inr (.inr (.inr (.inr (fun _ => none)))))), (q369, .inl (cA 5, 20, .inr (.inr (.inr (.inr (fun _ => none)))))), (q372, .inl (cA 6, 20, .inr (.inr (.inr (.inr (fun _ => none)))))), (q375, .inl (cA 7, 8, .inr (.inr (.inr (.inr (fun _ => none)))))), (q378, .inl (cA 2, 4, .inr (.inr (.inr (.inr (fun i => ([q386, q387, q388, q389] : List Nat)[i]?)))))), (q386, .inl (cA 0, 10, .inl (fun _ => 0))), (q387, .inl (cA 0, 10, .inl (fun _ => 0))), (q388, .inl (cA 0, 10, .inl (fun _ => 0))), (q389, .inl (cA 0, 10, .inl (fun _ => 0))), (q390, .inl (cA 0, 10, .inl (fun _ => 0)))] H := hP
  have hD : va_D A [(h0, .inr (5, [.ref q363, .ref q366, .ref q369, .ref q372, .ref q375, .ref q378, .ref q390, .int 0, .int 0, .int 0, .int 0, .int 0, .int 0])), (q363, .inl (cA 3, 10, .inr (.inr (.inr (.inr (fun _ => none)))))), (q366, .inl (cA 4, 20, .inr (.inr (.inr (.inr (fun _ => none)))))), (q369, .inl (cA 5, 20, .inr (.inr (.inr (.inr (fun _ => none)))))), (q372, .inl (cA 6, 20, .inr (.inr (.inr (.inr (fun _ => none)))))), (q375, .inl (cA 7, 8, .inr (.inr (.inr (.inr (fun _ => none)))))), (q378, .inl (cA 2, 4, .inr (.inr (.inr (.inr (fun i => ([q386, q387, q388, q389] : List Nat)[i]?)))))), (q386, .inl (cA 0, 10, .inl (fun _ => 0))), (q387, .inl (cA 0, 10, .inl (fun _ => 0))), (q388, .inl (cA 0, 10, .inl (fun _ => 0))), (q389, .inl (cA 0, 10, .inl (fun _ => 0))), (q390, .inl (cA 0, 10, .inl (fun _ => 0)))] := hD
  refine lv_aload_n hx hb dX5_init_83 rfl (lv_at hl 0 rfl) ?_
  refine lv_iconst (v := 0) hx hb dX5_init_84 (by decide) ?_
  refine va_put (D := D) (ci := 5) (v := .int 0) (ty := .int) (C := RX5) (T := TX5) (N := 13) hx hb hts (by decide +kernel) tyX5 tyX5_ok nmX5 hown hX.1 hP hD hS 0 rfl rfl 10 (by decide) (hts (.fieldLink RX5 58 "DraftsmanOffice" "queryCount" "I") (by decide +kernel)) (fun _ h9 => h9) rfl (by decide +kernel) rfl rfl (Nat.le_of_ble_eq_true rfl) dX5_init_85 (fun H locs hP hD hS => ?_)
  have hP : va_P D vwCl [(h0, .inr (5, [.ref q363, .ref q366, .ref q369, .ref q372, .ref q375, .ref q378, .ref q390, .int 0, .int 0, .int 0, .int 0, .int 0, .int 0])), (q363, .inl (cA 3, 10, .inr (.inr (.inr (.inr (fun _ => none)))))), (q366, .inl (cA 4, 20, .inr (.inr (.inr (.inr (fun _ => none)))))), (q369, .inl (cA 5, 20, .inr (.inr (.inr (.inr (fun _ => none)))))), (q372, .inl (cA 6, 20, .inr (.inr (.inr (.inr (fun _ => none)))))), (q375, .inl (cA 7, 8, .inr (.inr (.inr (.inr (fun _ => none)))))), (q378, .inl (cA 2, 4, .inr (.inr (.inr (.inr (fun i => ([q386, q387, q388, q389] : List Nat)[i]?)))))), (q386, .inl (cA 0, 10, .inl (fun _ => 0))), (q387, .inl (cA 0, 10, .inl (fun _ => 0))), (q388, .inl (cA 0, 10, .inl (fun _ => 0))), (q389, .inl (cA 0, 10, .inl (fun _ => 0))), (q390, .inl (cA 0, 10, .inl (fun _ => 0)))] H := hP
  have hD : va_D A [(h0, .inr (5, [.ref q363, .ref q366, .ref q369, .ref q372, .ref q375, .ref q378, .ref q390, .int 0, .int 0, .int 0, .int 0, .int 0, .int 0])), (q363, .inl (cA 3, 10, .inr (.inr (.inr (.inr (fun _ => none)))))), (q366, .inl (cA 4, 20, .inr (.inr (.inr (.inr (fun _ => none)))))), (q369, .inl (cA 5, 20, .inr (.inr (.inr (.inr (fun _ => none)))))), (q372, .inl (cA 6, 20, .inr (.inr (.inr (.inr (fun _ => none)))))), (q375, .inl (cA 7, 8, .inr (.inr (.inr (.inr (fun _ => none)))))), (q378, .inl (cA 2, 4, .inr (.inr (.inr (.inr (fun i => ([q386, q387, q388, q389] : List Nat)[i]?)))))), (q386, .inl (cA 0, 10, .inl (fun _ => 0))), (q387, .inl (cA 0, 10, .inl (fun _ => 0))), (q388, .inl (cA 0, 10, .inl (fun _ => 0))), (q389, .inl (cA 0, 10, .inl (fun _ => 0))), (q390, .inl (cA 0, 10, .inl (fun _ => 0)))] := hD
  refine lv_aload_n hx hb dX5_init_88 rfl (lv_at hl 0 rfl) ?_
  refine lv_iconst (v := 0) hx hb dX5_init_89 (by decide) ?_
  refine va_put (D := D) (ci := 5) (v := .int 0) (ty := .int) (C := RX5) (T := TX5) (N := 13) hx hb hts (by decide +kernel) tyX5 tyX5_ok nmX5 hown hX.1 hP hD hS 0 rfl rfl 11 (by decide) (hts (.fieldLink RX5 61 "DraftsmanOffice" "packageCount" "I") (by decide +kernel)) (fun _ h9 => h9) rfl (by decide +kernel) rfl rfl (Nat.le_of_ble_eq_true rfl) dX5_init_90 (fun H locs hP hD hS => ?_)
  have hP : va_P D vwCl [(h0, .inr (5, [.ref q363, .ref q366, .ref q369, .ref q372, .ref q375, .ref q378, .ref q390, .int 0, .int 0, .int 0, .int 0, .int 0, .int 0])), (q363, .inl (cA 3, 10, .inr (.inr (.inr (.inr (fun _ => none)))))), (q366, .inl (cA 4, 20, .inr (.inr (.inr (.inr (fun _ => none)))))), (q369, .inl (cA 5, 20, .inr (.inr (.inr (.inr (fun _ => none)))))), (q372, .inl (cA 6, 20, .inr (.inr (.inr (.inr (fun _ => none)))))), (q375, .inl (cA 7, 8, .inr (.inr (.inr (.inr (fun _ => none)))))), (q378, .inl (cA 2, 4, .inr (.inr (.inr (.inr (fun i => ([q386, q387, q388, q389] : List Nat)[i]?)))))), (q386, .inl (cA 0, 10, .inl (fun _ => 0))), (q387, .inl (cA 0, 10, .inl (fun _ => 0))), (q388, .inl (cA 0, 10, .inl (fun _ => 0))), (q389, .inl (cA 0, 10, .inl (fun _ => 0))), (q390, .inl (cA 0, 10, .inl (fun _ => 0)))] H := hP
  have hD : va_D A [(h0, .inr (5, [.ref q363, .ref q366, .ref q369, .ref q372, .ref q375, .ref q378, .ref q390, .int 0, .int 0, .int 0, .int 0, .int 0, .int 0])), (q363, .inl (cA 3, 10, .inr (.inr (.inr (.inr (fun _ => none)))))), (q366, .inl (cA 4, 20, .inr (.inr (.inr (.inr (fun _ => none)))))), (q369, .inl (cA 5, 20, .inr (.inr (.inr (.inr (fun _ => none)))))), (q372, .inl (cA 6, 20, .inr (.inr (.inr (.inr (fun _ => none)))))), (q375, .inl (cA 7, 8, .inr (.inr (.inr (.inr (fun _ => none)))))), (q378, .inl (cA 2, 4, .inr (.inr (.inr (.inr (fun i => ([q386, q387, q388, q389] : List Nat)[i]?)))))), (q386, .inl (cA 0, 10, .inl (fun _ => 0))), (q387, .inl (cA 0, 10, .inl (fun _ => 0))), (q388, .inl (cA 0, 10, .inl (fun _ => 0))), (q389, .inl (cA 0, 10, .inl (fun _ => 0))), (q390, .inl (cA 0, 10, .inl (fun _ => 0)))] := hD
  refine lv_aload_n hx hb dX5_init_93 rfl (lv_at hl 0 rfl) ?_
  refine lv_iconst (v := 0) hx hb dX5_init_94 (by decide) ?_
  refine va_put (D := D) (ci := 5) (v := .int 0) (ty := .int) (C := RX5) (T := TX5) (N := 13) hx hb hts (by decide +kernel) tyX5 tyX5_ok nmX5 hown hX.1 hP hD hS 0 rfl rfl 12 (by decide) (hts (.fieldLink RX5 64 "DraftsmanOffice" "today" "I") (by decide +kernel)) (fun _ h9 => h9) rfl (by decide +kernel) rfl rfl (Nat.le_of_ble_eq_true rfl) dX5_init_95 (fun H locs hP hD hS => ?_)
  have hP : va_P D vwCl [(h0, .inr (5, [.ref q363, .ref q366, .ref q369, .ref q372, .ref q375, .ref q378, .ref q390, .int 0, .int 0, .int 0, .int 0, .int 0, .int 0])), (q363, .inl (cA 3, 10, .inr (.inr (.inr (.inr (fun _ => none)))))), (q366, .inl (cA 4, 20, .inr (.inr (.inr (.inr (fun _ => none)))))), (q369, .inl (cA 5, 20, .inr (.inr (.inr (.inr (fun _ => none)))))), (q372, .inl (cA 6, 20, .inr (.inr (.inr (.inr (fun _ => none)))))), (q375, .inl (cA 7, 8, .inr (.inr (.inr (.inr (fun _ => none)))))), (q378, .inl (cA 2, 4, .inr (.inr (.inr (.inr (fun i => ([q386, q387, q388, q389] : List Nat)[i]?)))))), (q386, .inl (cA 0, 10, .inl (fun _ => 0))), (q387, .inl (cA 0, 10, .inl (fun _ => 0))), (q388, .inl (cA 0, 10, .inl (fun _ => 0))), (q389, .inl (cA 0, 10, .inl (fun _ => 0))), (q390, .inl (cA 0, 10, .inl (fun _ => 0)))] H := hP
  have hD : va_D A [(h0, .inr (5, [.ref q363, .ref q366, .ref q369, .ref q372, .ref q375, .ref q378, .ref q390, .int 0, .int 0, .int 0, .int 0, .int 0, .int 0])), (q363, .inl (cA 3, 10, .inr (.inr (.inr (.inr (fun _ => none)))))), (q366, .inl (cA 4, 20, .inr (.inr (.inr (.inr (fun _ => none)))))), (q369, .inl (cA 5, 20, .inr (.inr (.inr (.inr (fun _ => none)))))), (q372, .inl (cA 6, 20, .inr (.inr (.inr (.inr (fun _ => none)))))), (q375, .inl (cA 7, 8, .inr (.inr (.inr (.inr (fun _ => none)))))), (q378, .inl (cA 2, 4, .inr (.inr (.inr (.inr (fun i => ([q386, q387, q388, q389] : List Nat)[i]?)))))), (q386, .inl (cA 0, 10, .inl (fun _ => 0))), (q387, .inl (cA 0, 10, .inl (fun _ => 0))), (q388, .inl (cA 0, 10, .inl (fun _ => 0))), (q389, .inl (cA 0, 10, .inl (fun _ => 0))), (q390, .inl (cA 0, 10, .inl (fun _ => 0)))] := hD
  refine lv_iconst (v := 0) hx hb dX5_init_98 (by decide) ?_
  refine lv_istore_n (lv' := [(1, .int 0), (0, .ref h0)]) hx hb dX5_init_99 rfl hl (by decide) rfl (fun ls hl => ?_)
  refine lv_iload_n hx hb dX5_init_100 rfl (lv_at hl 0 rfl) ?_
  refine lv_iconst (v := 4) hx hb dX5_init_101 (by decide) ?_
  refine lv_icmp_ge (tgt := 121) hx hb dX5_init_102 (by decide) (fun c393 => absurd c393 (by decide)) (fun _ => ?_)
  refine lv_aload_n hx hb dX5_init_105 rfl (lv_at hl 1 rfl) ?_
  refine va_get (D := D) (ci := 5) (v := .ref q378) (C := RX5) (T := TX5) (N := 13) hx hb hts (by decide +kernel) hown hX.1 hP 0 rfl rfl 5 (by decide) (hts (.fieldLink RX5 41 "DraftsmanOffice" "crewHas" "[[I") (by decide +kernel)) (fun _ h9 => h9) rfl dX5_init_106 ?_
  refine lv_iload_n hx hb dX5_init_109 rfl (lv_at hl 0 rfl) ?_
  refine ll_aald (r := .ref q386) hx hb hX.1 hP 6 2 rfl rfl rfl (vp_in_nI (n := 0) (by decide) (by decide)) rfl dX5_init_110 ?_
  refine lv_iconst (v := -1) hx hb dX5_init_111 (by decide) ?_
  have hPc := hP.sub (ws' := [(q386, .inl (cA 0, 10, .inl (fun _ => 0)))]) [7] rfl
  have hDc := (hD.sub (ws' := [(q386, .inl (cA 0, 10, .inl (fun _ => 0)))]) [7] (by decide) rfl).self (sz := H.size)
  have hFc := va_free (wc := [(q386, .inl (cA 0, 10, .inl (fun _ => 0)))]) hD hS hA [7] rfl
  refine va_callv (va_runS (As := [.ref q386, .int (-1)]) (rest := []) ⟨hx, hb, hml, hown, hts⟩ (l_J7_fill_53178 l D cA (va_A [(q386, .inl (cA 0, 10, .inl (fun _ => 0)))] H.size) q386 10 (fun _ => 0) (-1) (by decide)) (va_cwS 2 hts gX5_init_J7_fill_53178 rfl rfl rfl (by decide +kernel) ⟨Nat.le_of_ble_eq_true rfl, Nat.le_of_ble_eq_true rfl⟩) (pc_preS pcN_ok hX ⟨hPc, hDc, fun q h => Or.inr h⟩) rfl rfl hl.1 rfl (lv_room (Nat.le_of_ble_eq_true rfl)) dX5_init_112 ⟨Nat.le_of_ble_eq_true rfl, Nat.le_of_ble_eq_true rfl⟩) hS (fun q _ h => hFc q h) hFc (fun u394 t H1 locs ht hvm hw hB hz1 hk1 hS => ?_)
  obtain ⟨hP1, hD1⟩ := hB
  rw [ht] at hP1
  obtain ⟨hP, hD⟩ := va_join (wr := [(h0, .inr (5, [.ref q363, .ref q366, .ref q369, .ref q372, .ref q375, .ref q378, .ref q390, .int 0, .int 0, .int 0, .int 0, .int 0, .int 0])), (q363, .inl (cA 3, 10, .inr (.inr (.inr (.inr (fun _ => none)))))), (q366, .inl (cA 4, 20, .inr (.inr (.inr (.inr (fun _ => none)))))), (q369, .inl (cA 5, 20, .inr (.inr (.inr (.inr (fun _ => none)))))), (q372, .inl (cA 6, 20, .inr (.inr (.inr (.inr (fun _ => none)))))), (q375, .inl (cA 7, 8, .inr (.inr (.inr (.inr (fun _ => none)))))), (q378, .inl (cA 2, 4, .inr (.inr (.inr (.inr (fun i => ([q386, q387, q388, q389] : List Nat)[i]?)))))), (q387, .inl (cA 0, 10, .inl (fun _ => 0))), (q388, .inl (cA 0, 10, .inl (fun _ => 0))), (q389, .inl (cA 0, 10, .inl (fun _ => 0))), (q390, .inl (cA 0, 10, .inl (fun _ => 0)))]) (w1 := [(q386, .inl (cA 0, 10, .inl u394))]) hP hD [7] [0, 1, 2, 3, 4, 5, 6, 8, 9, 10, 11] rfl rfl (by decide) (by decide) hk1 hFc hP1 hD1
  generalize H1 = H at hP hS ⊢
  have hP : va_P D vwCl [(h0, .inr (5, [.ref q363, .ref q366, .ref q369, .ref q372, .ref q375, .ref q378, .ref q390, .int 0, .int 0, .int 0, .int 0, .int 0, .int 0])), (q363, .inl (cA 3, 10, .inr (.inr (.inr (.inr (fun _ => none)))))), (q366, .inl (cA 4, 20, .inr (.inr (.inr (.inr (fun _ => none)))))), (q369, .inl (cA 5, 20, .inr (.inr (.inr (.inr (fun _ => none)))))), (q372, .inl (cA 6, 20, .inr (.inr (.inr (.inr (fun _ => none)))))), (q375, .inl (cA 7, 8, .inr (.inr (.inr (.inr (fun _ => none)))))), (q378, .inl (cA 2, 4, .inr (.inr (.inr (.inr (fun i => ([q386, q387, q388, q389] : List Nat)[i]?)))))), (q387, .inl (cA 0, 10, .inl (fun _ => 0))), (q388, .inl (cA 0, 10, .inl (fun _ => 0))), (q389, .inl (cA 0, 10, .inl (fun _ => 0))), (q390, .inl (cA 0, 10, .inl (fun _ => 0))), (q386, .inl (cA 0, 10, .inl u394))] H := hP
  have hD : va_D A [(h0, .inr (5, [.ref q363, .ref q366, .ref q369, .ref q372, .ref q375, .ref q378, .ref q390, .int 0, .int 0, .int 0, .int 0, .int 0, .int 0])), (q363, .inl (cA 3, 10, .inr (.inr (.inr (.inr (fun _ => none)))))), (q366, .inl (cA 4, 20, .inr (.inr (.inr (.inr (fun _ => none)))))), (q369, .inl (cA 5, 20, .inr (.inr (.inr (.inr (fun _ => none)))))), (q372, .inl (cA 6, 20, .inr (.inr (.inr (.inr (fun _ => none)))))), (q375, .inl (cA 7, 8, .inr (.inr (.inr (.inr (fun _ => none)))))), (q378, .inl (cA 2, 4, .inr (.inr (.inr (.inr (fun i => ([q386, q387, q388, q389] : List Nat)[i]?)))))), (q387, .inl (cA 0, 10, .inl (fun _ => 0))), (q388, .inl (cA 0, 10, .inl (fun _ => 0))), (q389, .inl (cA 0, 10, .inl (fun _ => 0))), (q390, .inl (cA 0, 10, .inl (fun _ => 0))), (q386, .inl (cA 0, 10, .inl u394))] := hD
  refine W.widen (k := 11) (n := 132) (Nat.le_of_ble_eq_true rfl) (Nat.le_of_ble_eq_true rfl) ?_
  have hP := va_P_row hP 11 (g := (fun _ => (-1))) rfl hw
  have hD := va_D_row hD 11 (e2 := .inl (cA 0, 10, .inl (fun _ => (-1)))) rfl
  have hP : va_P D vwCl [(h0, .inr (5, [.ref q363, .ref q366, .ref q369, .ref q372, .ref q375, .ref q378, .ref q390, .int 0, .int 0, .int 0, .int 0, .int 0, .int 0])), (q363, .inl (cA 3, 10, .inr (.inr (.inr (.inr (fun _ => none)))))), (q366, .inl (cA 4, 20, .inr (.inr (.inr (.inr (fun _ => none)))))), (q369, .inl (cA 5, 20, .inr (.inr (.inr (.inr (fun _ => none)))))), (q372, .inl (cA 6, 20, .inr (.inr (.inr (.inr (fun _ => none)))))), (q375, .inl (cA 7, 8, .inr (.inr (.inr (.inr (fun _ => none)))))), (q378, .inl (cA 2, 4, .inr (.inr (.inr (.inr (fun i => ([q386, q387, q388, q389] : List Nat)[i]?)))))), (q387, .inl (cA 0, 10, .inl (fun _ => 0))), (q388, .inl (cA 0, 10, .inl (fun _ => 0))), (q389, .inl (cA 0, 10, .inl (fun _ => 0))), (q390, .inl (cA 0, 10, .inl (fun _ => 0))), (q386, .inl (cA 0, 10, .inl (fun _ => (-1))))] H := hP
  have hD : va_D A [(h0, .inr (5, [.ref q363, .ref q366, .ref q369, .ref q372, .ref q375, .ref q378, .ref q390, .int 0, .int 0, .int 0, .int 0, .int 0, .int 0])), (q363, .inl (cA 3, 10, .inr (.inr (.inr (.inr (fun _ => none)))))), (q366, .inl (cA 4, 20, .inr (.inr (.inr (.inr (fun _ => none)))))), (q369, .inl (cA 5, 20, .inr (.inr (.inr (.inr (fun _ => none)))))), (q372, .inl (cA 6, 20, .inr (.inr (.inr (.inr (fun _ => none)))))), (q375, .inl (cA 7, 8, .inr (.inr (.inr (.inr (fun _ => none)))))), (q378, .inl (cA 2, 4, .inr (.inr (.inr (.inr (fun i => ([q386, q387, q388, q389] : List Nat)[i]?)))))), (q387, .inl (cA 0, 10, .inl (fun _ => 0))), (q388, .inl (cA 0, 10, .inl (fun _ => 0))), (q389, .inl (cA 0, 10, .inl (fun _ => 0))), (q390, .inl (cA 0, 10, .inl (fun _ => 0))), (q386, .inl (cA 0, 10, .inl (fun _ => (-1))))] := hD
  refine lv_iinc (v := 1) (lv' := [(1, .int 1), (0, .ref h0)]) hx hb dX5_init_115 hl (k := 0) rfl (by decide) (by decide) rfl (fun ls hl => ?_)
  refine lv_goto (tgt := 100) hx hb dX5_init_118 (by decide) ?_
  refine lv_iload_n hx hb dX5_init_100 rfl (lv_at hl 0 rfl) ?_
  refine lv_iconst (v := 4) hx hb dX5_init_101 (by decide) ?_
  refine lv_icmp_ge (tgt := 121) hx hb dX5_init_102 (by decide) (fun c398 => absurd c398 (by decide)) (fun _ => ?_)
  refine lv_aload_n hx hb dX5_init_105 rfl (lv_at hl 1 rfl) ?_
  refine va_get (D := D) (ci := 5) (v := .ref q378) (C := RX5) (T := TX5) (N := 13) hx hb hts (by decide +kernel) hown hX.1 hP 0 rfl rfl 5 (by decide) (hts (.fieldLink RX5 41 "DraftsmanOffice" "crewHas" "[[I") (by decide +kernel)) (fun _ h9 => h9) rfl dX5_init_106 ?_
  refine lv_iload_n hx hb dX5_init_109 rfl (lv_at hl 0 rfl) ?_
  refine ll_aald (r := .ref q387) hx hb hX.1 hP 6 2 rfl rfl rfl (vp_in_nI (n := 1) (by decide) (by decide)) rfl dX5_init_110 ?_
  refine lv_iconst (v := -1) hx hb dX5_init_111 (by decide) ?_
  have hPc := hP.sub (ws' := [(q387, .inl (cA 0, 10, .inl (fun _ => 0)))]) [7] rfl
  have hDc := (hD.sub (ws' := [(q387, .inl (cA 0, 10, .inl (fun _ => 0)))]) [7] (by decide) rfl).self (sz := H.size)
  have hFc := va_free (wc := [(q387, .inl (cA 0, 10, .inl (fun _ => 0)))]) hD hS hA [7] rfl
  refine va_callv (va_runS (As := [.ref q387, .int (-1)]) (rest := []) ⟨hx, hb, hml, hown, hts⟩ (l_J7_fill_53178 l D cA (va_A [(q387, .inl (cA 0, 10, .inl (fun _ => 0)))] H.size) q387 10 (fun _ => 0) (-1) (by decide)) (va_cwS 2 hts gX5_init_J7_fill_53178 rfl rfl rfl (by decide +kernel) ⟨Nat.le_of_ble_eq_true rfl, Nat.le_of_ble_eq_true rfl⟩) (pc_preS pcN_ok hX ⟨hPc, hDc, fun q h => Or.inr h⟩) rfl rfl hl.1 rfl (lv_room (Nat.le_of_ble_eq_true rfl)) dX5_init_112 ⟨Nat.le_of_ble_eq_true rfl, Nat.le_of_ble_eq_true rfl⟩) hS (fun q _ h => hFc q h) hFc (fun u399 t H1 locs ht hvm hw hB hz1 hk1 hS => ?_)
  obtain ⟨hP1, hD1⟩ := hB
  rw [ht] at hP1
  obtain ⟨hP, hD⟩ := va_join (wr := [(h0, .inr (5, [.ref q363, .ref q366, .ref q369, .ref q372, .ref q375, .ref q378, .ref q390, .int 0, .int 0, .int 0, .int 0, .int 0, .int 0])), (q363, .inl (cA 3, 10, .inr (.inr (.inr (.inr (fun _ => none)))))), (q366, .inl (cA 4, 20, .inr (.inr (.inr (.inr (fun _ => none)))))), (q369, .inl (cA 5, 20, .inr (.inr (.inr (.inr (fun _ => none)))))), (q372, .inl (cA 6, 20, .inr (.inr (.inr (.inr (fun _ => none)))))), (q375, .inl (cA 7, 8, .inr (.inr (.inr (.inr (fun _ => none)))))), (q378, .inl (cA 2, 4, .inr (.inr (.inr (.inr (fun i => ([q386, q387, q388, q389] : List Nat)[i]?)))))), (q388, .inl (cA 0, 10, .inl (fun _ => 0))), (q389, .inl (cA 0, 10, .inl (fun _ => 0))), (q390, .inl (cA 0, 10, .inl (fun _ => 0))), (q386, .inl (cA 0, 10, .inl (fun _ => (-1))))]) (w1 := [(q387, .inl (cA 0, 10, .inl u399))]) hP hD [7] [0, 1, 2, 3, 4, 5, 6, 8, 9, 10, 11] rfl rfl (by decide) (by decide) hk1 hFc hP1 hD1
  generalize H1 = H at hP hS ⊢
  have hP : va_P D vwCl [(h0, .inr (5, [.ref q363, .ref q366, .ref q369, .ref q372, .ref q375, .ref q378, .ref q390, .int 0, .int 0, .int 0, .int 0, .int 0, .int 0])), (q363, .inl (cA 3, 10, .inr (.inr (.inr (.inr (fun _ => none)))))), (q366, .inl (cA 4, 20, .inr (.inr (.inr (.inr (fun _ => none)))))), (q369, .inl (cA 5, 20, .inr (.inr (.inr (.inr (fun _ => none)))))), (q372, .inl (cA 6, 20, .inr (.inr (.inr (.inr (fun _ => none)))))), (q375, .inl (cA 7, 8, .inr (.inr (.inr (.inr (fun _ => none)))))), (q378, .inl (cA 2, 4, .inr (.inr (.inr (.inr (fun i => ([q386, q387, q388, q389] : List Nat)[i]?)))))), (q388, .inl (cA 0, 10, .inl (fun _ => 0))), (q389, .inl (cA 0, 10, .inl (fun _ => 0))), (q390, .inl (cA 0, 10, .inl (fun _ => 0))), (q386, .inl (cA 0, 10, .inl (fun _ => (-1)))), (q387, .inl (cA 0, 10, .inl u399))] H := hP
  have hD : va_D A [(h0, .inr (5, [.ref q363, .ref q366, .ref q369, .ref q372, .ref q375, .ref q378, .ref q390, .int 0, .int 0, .int 0, .int 0, .int 0, .int 0])), (q363, .inl (cA 3, 10, .inr (.inr (.inr (.inr (fun _ => none)))))), (q366, .inl (cA 4, 20, .inr (.inr (.inr (.inr (fun _ => none)))))), (q369, .inl (cA 5, 20, .inr (.inr (.inr (.inr (fun _ => none)))))), (q372, .inl (cA 6, 20, .inr (.inr (.inr (.inr (fun _ => none)))))), (q375, .inl (cA 7, 8, .inr (.inr (.inr (.inr (fun _ => none)))))), (q378, .inl (cA 2, 4, .inr (.inr (.inr (.inr (fun i => ([q386, q387, q388, q389] : List Nat)[i]?)))))), (q388, .inl (cA 0, 10, .inl (fun _ => 0))), (q389, .inl (cA 0, 10, .inl (fun _ => 0))), (q390, .inl (cA 0, 10, .inl (fun _ => 0))), (q386, .inl (cA 0, 10, .inl (fun _ => (-1)))), (q387, .inl (cA 0, 10, .inl u399))] := hD
  refine W.widen (k := 11) (n := 132) (Nat.le_of_ble_eq_true rfl) (Nat.le_of_ble_eq_true rfl) ?_
  have hP := va_P_row hP 11 (g := (fun _ => (-1))) rfl hw
  have hD := va_D_row hD 11 (e2 := .inl (cA 0, 10, .inl (fun _ => (-1)))) rfl
  have hP : va_P D vwCl [(h0, .inr (5, [.ref q363, .ref q366, .ref q369, .ref q372, .ref q375, .ref q378, .ref q390, .int 0, .int 0, .int 0, .int 0, .int 0, .int 0])), (q363, .inl (cA 3, 10, .inr (.inr (.inr (.inr (fun _ => none)))))), (q366, .inl (cA 4, 20, .inr (.inr (.inr (.inr (fun _ => none)))))), (q369, .inl (cA 5, 20, .inr (.inr (.inr (.inr (fun _ => none)))))), (q372, .inl (cA 6, 20, .inr (.inr (.inr (.inr (fun _ => none)))))), (q375, .inl (cA 7, 8, .inr (.inr (.inr (.inr (fun _ => none)))))), (q378, .inl (cA 2, 4, .inr (.inr (.inr (.inr (fun i => ([q386, q387, q388, q389] : List Nat)[i]?)))))), (q388, .inl (cA 0, 10, .inl (fun _ => 0))), (q389, .inl (cA 0, 10, .inl (fun _ => 0))), (q390, .inl (cA 0, 10, .inl (fun _ => 0))), (q386, .inl (cA 0, 10, .inl (fun _ => (-1)))), (q387, .inl (cA 0, 10, .inl (fun _ => (-1))))] H := hP
  have hD : va_D A [(h0, .inr (5, [.ref q363, .ref q366, .ref q369, .ref q372, .ref q375, .ref q378, .ref q390, .int 0, .int 0, .int 0, .int 0, .int 0, .int 0])), (q363, .inl (cA 3, 10, .inr (.inr (.inr (.inr (fun _ => none)))))), (q366, .inl (cA 4, 20, .inr (.inr (.inr (.inr (fun _ => none)))))), (q369, .inl (cA 5, 20, .inr (.inr (.inr (.inr (fun _ => none)))))), (q372, .inl (cA 6, 20, .inr (.inr (.inr (.inr (fun _ => none)))))), (q375, .inl (cA 7, 8, .inr (.inr (.inr (.inr (fun _ => none)))))), (q378, .inl (cA 2, 4, .inr (.inr (.inr (.inr (fun i => ([q386, q387, q388, q389] : List Nat)[i]?)))))), (q388, .inl (cA 0, 10, .inl (fun _ => 0))), (q389, .inl (cA 0, 10, .inl (fun _ => 0))), (q390, .inl (cA 0, 10, .inl (fun _ => 0))), (q386, .inl (cA 0, 10, .inl (fun _ => (-1)))), (q387, .inl (cA 0, 10, .inl (fun _ => (-1))))] := hD
  refine lv_iinc (v := 2) (lv' := [(1, .int 2), (0, .ref h0)]) hx hb dX5_init_115 hl (k := 0) rfl (by decide) (by decide) rfl (fun ls hl => ?_)
  refine lv_goto (tgt := 100) hx hb dX5_init_118 (by decide) ?_
  refine lv_iload_n hx hb dX5_init_100 rfl (lv_at hl 0 rfl) ?_
  refine lv_iconst (v := 4) hx hb dX5_init_101 (by decide) ?_
  refine lv_icmp_ge (tgt := 121) hx hb dX5_init_102 (by decide) (fun c403 => absurd c403 (by decide)) (fun _ => ?_)
  refine lv_aload_n hx hb dX5_init_105 rfl (lv_at hl 1 rfl) ?_
  refine va_get (D := D) (ci := 5) (v := .ref q378) (C := RX5) (T := TX5) (N := 13) hx hb hts (by decide +kernel) hown hX.1 hP 0 rfl rfl 5 (by decide) (hts (.fieldLink RX5 41 "DraftsmanOffice" "crewHas" "[[I") (by decide +kernel)) (fun _ h9 => h9) rfl dX5_init_106 ?_
  refine lv_iload_n hx hb dX5_init_109 rfl (lv_at hl 0 rfl) ?_
  refine ll_aald (r := .ref q388) hx hb hX.1 hP 6 2 rfl rfl rfl (vp_in_nI (n := 2) (by decide) (by decide)) rfl dX5_init_110 ?_
  refine lv_iconst (v := -1) hx hb dX5_init_111 (by decide) ?_
  have hPc := hP.sub (ws' := [(q388, .inl (cA 0, 10, .inl (fun _ => 0)))]) [7] rfl
  have hDc := (hD.sub (ws' := [(q388, .inl (cA 0, 10, .inl (fun _ => 0)))]) [7] (by decide) rfl).self (sz := H.size)
  have hFc := va_free (wc := [(q388, .inl (cA 0, 10, .inl (fun _ => 0)))]) hD hS hA [7] rfl
  refine va_callv (va_runS (As := [.ref q388, .int (-1)]) (rest := []) ⟨hx, hb, hml, hown, hts⟩ (l_J7_fill_53178 l D cA (va_A [(q388, .inl (cA 0, 10, .inl (fun _ => 0)))] H.size) q388 10 (fun _ => 0) (-1) (by decide)) (va_cwS 2 hts gX5_init_J7_fill_53178 rfl rfl rfl (by decide +kernel) ⟨Nat.le_of_ble_eq_true rfl, Nat.le_of_ble_eq_true rfl⟩) (pc_preS pcN_ok hX ⟨hPc, hDc, fun q h => Or.inr h⟩) rfl rfl hl.1 rfl (lv_room (Nat.le_of_ble_eq_true rfl)) dX5_init_112 ⟨Nat.le_of_ble_eq_true rfl, Nat.le_of_ble_eq_true rfl⟩) hS (fun q _ h => hFc q h) hFc (fun u404 t H1 locs ht hvm hw hB hz1 hk1 hS => ?_)
  obtain ⟨hP1, hD1⟩ := hB
  rw [ht] at hP1
  obtain ⟨hP, hD⟩ := va_join (wr := [(h0, .inr (5, [.ref q363, .ref q366, .ref q369, .ref q372, .ref q375, .ref q378, .ref q390, .int 0, .int 0, .int 0, .int 0, .int 0, .int 0])), (q363, .inl (cA 3, 10, .inr (.inr (.inr (.inr (fun _ => none)))))), (q366, .inl (cA 4, 20, .inr (.inr (.inr (.inr (fun _ => none)))))), (q369, .inl (cA 5, 20, .inr (.inr (.inr (.inr (fun _ => none)))))), (q372, .inl (cA 6, 20, .inr (.inr (.inr (.inr (fun _ => none)))))), (q375, .inl (cA 7, 8, .inr (.inr (.inr (.inr (fun _ => none)))))), (q378, .inl (cA 2, 4, .inr (.inr (.inr (.inr (fun i => ([q386, q387, q388, q389] : List Nat)[i]?)))))), (q389, .inl (cA 0, 10, .inl (fun _ => 0))), (q390, .inl (cA 0, 10, .inl (fun _ => 0))), (q386, .inl (cA 0, 10, .inl (fun _ => (-1)))), (q387, .inl (cA 0, 10, .inl (fun _ => (-1))))]) (w1 := [(q388, .inl (cA 0, 10, .inl u404))]) hP hD [7] [0, 1, 2, 3, 4, 5, 6, 8, 9, 10, 11] rfl rfl (by decide) (by decide) hk1 hFc hP1 hD1
  generalize H1 = H at hP hS ⊢
  have hP : va_P D vwCl [(h0, .inr (5, [.ref q363, .ref q366, .ref q369, .ref q372, .ref q375, .ref q378, .ref q390, .int 0, .int 0, .int 0, .int 0, .int 0, .int 0])), (q363, .inl (cA 3, 10, .inr (.inr (.inr (.inr (fun _ => none)))))), (q366, .inl (cA 4, 20, .inr (.inr (.inr (.inr (fun _ => none)))))), (q369, .inl (cA 5, 20, .inr (.inr (.inr (.inr (fun _ => none)))))), (q372, .inl (cA 6, 20, .inr (.inr (.inr (.inr (fun _ => none)))))), (q375, .inl (cA 7, 8, .inr (.inr (.inr (.inr (fun _ => none)))))), (q378, .inl (cA 2, 4, .inr (.inr (.inr (.inr (fun i => ([q386, q387, q388, q389] : List Nat)[i]?)))))), (q389, .inl (cA 0, 10, .inl (fun _ => 0))), (q390, .inl (cA 0, 10, .inl (fun _ => 0))), (q386, .inl (cA 0, 10, .inl (fun _ => (-1)))), (q387, .inl (cA 0, 10, .inl (fun _ => (-1)))), (q388, .inl (cA 0, 10, .inl u404))] H := hP
  have hD : va_D A [(h0, .inr (5, [.ref q363, .ref q366, .ref q369, .ref q372, .ref q375, .ref q378, .ref q390, .int 0, .int 0, .int 0, .int 0, .int 0, .int 0])), (q363, .inl (cA 3, 10, .inr (.inr (.inr (.inr (fun _ => none)))))), (q366, .inl (cA 4, 20, .inr (.inr (.inr (.inr (fun _ => none)))))), (q369, .inl (cA 5, 20, .inr (.inr (.inr (.inr (fun _ => none)))))), (q372, .inl (cA 6, 20, .inr (.inr (.inr (.inr (fun _ => none)))))), (q375, .inl (cA 7, 8, .inr (.inr (.inr (.inr (fun _ => none)))))), (q378, .inl (cA 2, 4, .inr (.inr (.inr (.inr (fun i => ([q386, q387, q388, q389] : List Nat)[i]?)))))), (q389, .inl (cA 0, 10, .inl (fun _ => 0))), (q390, .inl (cA 0, 10, .inl (fun _ => 0))), (q386, .inl (cA 0, 10, .inl (fun _ => (-1)))), (q387, .inl (cA 0, 10, .inl (fun _ => (-1)))), (q388, .inl (cA 0, 10, .inl u404))] := hD
  refine W.widen (k := 11) (n := 132) (Nat.le_of_ble_eq_true rfl) (Nat.le_of_ble_eq_true rfl) ?_
  have hP := va_P_row hP 11 (g := (fun _ => (-1))) rfl hw
  have hD := va_D_row hD 11 (e2 := .inl (cA 0, 10, .inl (fun _ => (-1)))) rfl
  have hP : va_P D vwCl [(h0, .inr (5, [.ref q363, .ref q366, .ref q369, .ref q372, .ref q375, .ref q378, .ref q390, .int 0, .int 0, .int 0, .int 0, .int 0, .int 0])), (q363, .inl (cA 3, 10, .inr (.inr (.inr (.inr (fun _ => none)))))), (q366, .inl (cA 4, 20, .inr (.inr (.inr (.inr (fun _ => none)))))), (q369, .inl (cA 5, 20, .inr (.inr (.inr (.inr (fun _ => none)))))), (q372, .inl (cA 6, 20, .inr (.inr (.inr (.inr (fun _ => none)))))), (q375, .inl (cA 7, 8, .inr (.inr (.inr (.inr (fun _ => none)))))), (q378, .inl (cA 2, 4, .inr (.inr (.inr (.inr (fun i => ([q386, q387, q388, q389] : List Nat)[i]?)))))), (q389, .inl (cA 0, 10, .inl (fun _ => 0))), (q390, .inl (cA 0, 10, .inl (fun _ => 0))), (q386, .inl (cA 0, 10, .inl (fun _ => (-1)))), (q387, .inl (cA 0, 10, .inl (fun _ => (-1)))), (q388, .inl (cA 0, 10, .inl (fun _ => (-1))))] H := hP
  have hD : va_D A [(h0, .inr (5, [.ref q363, .ref q366, .ref q369, .ref q372, .ref q375, .ref q378, .ref q390, .int 0, .int 0, .int 0, .int 0, .int 0, .int 0])), (q363, .inl (cA 3, 10, .inr (.inr (.inr (.inr (fun _ => none)))))), (q366, .inl (cA 4, 20, .inr (.inr (.inr (.inr (fun _ => none)))))), (q369, .inl (cA 5, 20, .inr (.inr (.inr (.inr (fun _ => none)))))), (q372, .inl (cA 6, 20, .inr (.inr (.inr (.inr (fun _ => none)))))), (q375, .inl (cA 7, 8, .inr (.inr (.inr (.inr (fun _ => none)))))), (q378, .inl (cA 2, 4, .inr (.inr (.inr (.inr (fun i => ([q386, q387, q388, q389] : List Nat)[i]?)))))), (q389, .inl (cA 0, 10, .inl (fun _ => 0))), (q390, .inl (cA 0, 10, .inl (fun _ => 0))), (q386, .inl (cA 0, 10, .inl (fun _ => (-1)))), (q387, .inl (cA 0, 10, .inl (fun _ => (-1)))), (q388, .inl (cA 0, 10, .inl (fun _ => (-1))))] := hD
  refine lv_iinc (v := 3) (lv' := [(1, .int 3), (0, .ref h0)]) hx hb dX5_init_115 hl (k := 0) rfl (by decide) (by decide) rfl (fun ls hl => ?_)
  refine lv_goto (tgt := 100) hx hb dX5_init_118 (by decide) ?_
  refine lv_iload_n hx hb dX5_init_100 rfl (lv_at hl 0 rfl) ?_
  refine lv_iconst (v := 4) hx hb dX5_init_101 (by decide) ?_
  refine lv_icmp_ge (tgt := 121) hx hb dX5_init_102 (by decide) (fun c408 => absurd c408 (by decide)) (fun _ => ?_)
  refine lv_aload_n hx hb dX5_init_105 rfl (lv_at hl 1 rfl) ?_
  refine va_get (D := D) (ci := 5) (v := .ref q378) (C := RX5) (T := TX5) (N := 13) hx hb hts (by decide +kernel) hown hX.1 hP 0 rfl rfl 5 (by decide) (hts (.fieldLink RX5 41 "DraftsmanOffice" "crewHas" "[[I") (by decide +kernel)) (fun _ h9 => h9) rfl dX5_init_106 ?_
  refine lv_iload_n hx hb dX5_init_109 rfl (lv_at hl 0 rfl) ?_
  refine ll_aald (r := .ref q389) hx hb hX.1 hP 6 2 rfl rfl rfl (vp_in_nI (n := 3) (by decide) (by decide)) rfl dX5_init_110 ?_
  refine lv_iconst (v := -1) hx hb dX5_init_111 (by decide) ?_
  have hPc := hP.sub (ws' := [(q389, .inl (cA 0, 10, .inl (fun _ => 0)))]) [7] rfl
  have hDc := (hD.sub (ws' := [(q389, .inl (cA 0, 10, .inl (fun _ => 0)))]) [7] (by decide) rfl).self (sz := H.size)
  have hFc := va_free (wc := [(q389, .inl (cA 0, 10, .inl (fun _ => 0)))]) hD hS hA [7] rfl
  refine va_callv (va_runS (As := [.ref q389, .int (-1)]) (rest := []) ⟨hx, hb, hml, hown, hts⟩ (l_J7_fill_53178 l D cA (va_A [(q389, .inl (cA 0, 10, .inl (fun _ => 0)))] H.size) q389 10 (fun _ => 0) (-1) (by decide)) (va_cwS 2 hts gX5_init_J7_fill_53178 rfl rfl rfl (by decide +kernel) ⟨Nat.le_of_ble_eq_true rfl, Nat.le_of_ble_eq_true rfl⟩) (pc_preS pcN_ok hX ⟨hPc, hDc, fun q h => Or.inr h⟩) rfl rfl hl.1 rfl (lv_room (Nat.le_of_ble_eq_true rfl)) dX5_init_112 ⟨Nat.le_of_ble_eq_true rfl, Nat.le_of_ble_eq_true rfl⟩) hS (fun q _ h => hFc q h) hFc (fun u409 t H1 locs ht hvm hw hB hz1 hk1 hS => ?_)
  obtain ⟨hP1, hD1⟩ := hB
  rw [ht] at hP1
  obtain ⟨hP, hD⟩ := va_join (wr := [(h0, .inr (5, [.ref q363, .ref q366, .ref q369, .ref q372, .ref q375, .ref q378, .ref q390, .int 0, .int 0, .int 0, .int 0, .int 0, .int 0])), (q363, .inl (cA 3, 10, .inr (.inr (.inr (.inr (fun _ => none)))))), (q366, .inl (cA 4, 20, .inr (.inr (.inr (.inr (fun _ => none)))))), (q369, .inl (cA 5, 20, .inr (.inr (.inr (.inr (fun _ => none)))))), (q372, .inl (cA 6, 20, .inr (.inr (.inr (.inr (fun _ => none)))))), (q375, .inl (cA 7, 8, .inr (.inr (.inr (.inr (fun _ => none)))))), (q378, .inl (cA 2, 4, .inr (.inr (.inr (.inr (fun i => ([q386, q387, q388, q389] : List Nat)[i]?)))))), (q390, .inl (cA 0, 10, .inl (fun _ => 0))), (q386, .inl (cA 0, 10, .inl (fun _ => (-1)))), (q387, .inl (cA 0, 10, .inl (fun _ => (-1)))), (q388, .inl (cA 0, 10, .inl (fun _ => (-1))))]) (w1 := [(q389, .inl (cA 0, 10, .inl u409))]) hP hD [7] [0, 1, 2, 3, 4, 5, 6, 8, 9, 10, 11] rfl rfl (by decide) (by decide) hk1 hFc hP1 hD1
  generalize H1 = H at hP hS ⊢
  have hP : va_P D vwCl [(h0, .inr (5, [.ref q363, .ref q366, .ref q369, .ref q372, .ref q375, .ref q378, .ref q390, .int 0, .int 0, .int 0, .int 0, .int 0, .int 0])), (q363, .inl (cA 3, 10, .inr (.inr (.inr (.inr (fun _ => none)))))), (q366, .inl (cA 4, 20, .inr (.inr (.inr (.inr (fun _ => none)))))), (q369, .inl (cA 5, 20, .inr (.inr (.inr (.inr (fun _ => none)))))), (q372, .inl (cA 6, 20, .inr (.inr (.inr (.inr (fun _ => none)))))), (q375, .inl (cA 7, 8, .inr (.inr (.inr (.inr (fun _ => none)))))), (q378, .inl (cA 2, 4, .inr (.inr (.inr (.inr (fun i => ([q386, q387, q388, q389] : List Nat)[i]?)))))), (q390, .inl (cA 0, 10, .inl (fun _ => 0))), (q386, .inl (cA 0, 10, .inl (fun _ => (-1)))), (q387, .inl (cA 0, 10, .inl (fun _ => (-1)))), (q388, .inl (cA 0, 10, .inl (fun _ => (-1)))), (q389, .inl (cA 0, 10, .inl u409))] H := hP
  have hD : va_D A [(h0, .inr (5, [.ref q363, .ref q366, .ref q369, .ref q372, .ref q375, .ref q378, .ref q390, .int 0, .int 0, .int 0, .int 0, .int 0, .int 0])), (q363, .inl (cA 3, 10, .inr (.inr (.inr (.inr (fun _ => none)))))), (q366, .inl (cA 4, 20, .inr (.inr (.inr (.inr (fun _ => none)))))), (q369, .inl (cA 5, 20, .inr (.inr (.inr (.inr (fun _ => none)))))), (q372, .inl (cA 6, 20, .inr (.inr (.inr (.inr (fun _ => none)))))), (q375, .inl (cA 7, 8, .inr (.inr (.inr (.inr (fun _ => none)))))), (q378, .inl (cA 2, 4, .inr (.inr (.inr (.inr (fun i => ([q386, q387, q388, q389] : List Nat)[i]?)))))), (q390, .inl (cA 0, 10, .inl (fun _ => 0))), (q386, .inl (cA 0, 10, .inl (fun _ => (-1)))), (q387, .inl (cA 0, 10, .inl (fun _ => (-1)))), (q388, .inl (cA 0, 10, .inl (fun _ => (-1)))), (q389, .inl (cA 0, 10, .inl u409))] := hD
  refine W.widen (k := 11) (n := 132) (Nat.le_of_ble_eq_true rfl) (Nat.le_of_ble_eq_true rfl) ?_
  have hP := va_P_row hP 11 (g := (fun _ => (-1))) rfl hw
  have hD := va_D_row hD 11 (e2 := .inl (cA 0, 10, .inl (fun _ => (-1)))) rfl
  have hP : va_P D vwCl [(h0, .inr (5, [.ref q363, .ref q366, .ref q369, .ref q372, .ref q375, .ref q378, .ref q390, .int 0, .int 0, .int 0, .int 0, .int 0, .int 0])), (q363, .inl (cA 3, 10, .inr (.inr (.inr (.inr (fun _ => none)))))), (q366, .inl (cA 4, 20, .inr (.inr (.inr (.inr (fun _ => none)))))), (q369, .inl (cA 5, 20, .inr (.inr (.inr (.inr (fun _ => none)))))), (q372, .inl (cA 6, 20, .inr (.inr (.inr (.inr (fun _ => none)))))), (q375, .inl (cA 7, 8, .inr (.inr (.inr (.inr (fun _ => none)))))), (q378, .inl (cA 2, 4, .inr (.inr (.inr (.inr (fun i => ([q386, q387, q388, q389] : List Nat)[i]?)))))), (q390, .inl (cA 0, 10, .inl (fun _ => 0))), (q386, .inl (cA 0, 10, .inl (fun _ => (-1)))), (q387, .inl (cA 0, 10, .inl (fun _ => (-1)))), (q388, .inl (cA 0, 10, .inl (fun _ => (-1)))), (q389, .inl (cA 0, 10, .inl (fun _ => (-1))))] H := hP
  have hD : va_D A [(h0, .inr (5, [.ref q363, .ref q366, .ref q369, .ref q372, .ref q375, .ref q378, .ref q390, .int 0, .int 0, .int 0, .int 0, .int 0, .int 0])), (q363, .inl (cA 3, 10, .inr (.inr (.inr (.inr (fun _ => none)))))), (q366, .inl (cA 4, 20, .inr (.inr (.inr (.inr (fun _ => none)))))), (q369, .inl (cA 5, 20, .inr (.inr (.inr (.inr (fun _ => none)))))), (q372, .inl (cA 6, 20, .inr (.inr (.inr (.inr (fun _ => none)))))), (q375, .inl (cA 7, 8, .inr (.inr (.inr (.inr (fun _ => none)))))), (q378, .inl (cA 2, 4, .inr (.inr (.inr (.inr (fun i => ([q386, q387, q388, q389] : List Nat)[i]?)))))), (q390, .inl (cA 0, 10, .inl (fun _ => 0))), (q386, .inl (cA 0, 10, .inl (fun _ => (-1)))), (q387, .inl (cA 0, 10, .inl (fun _ => (-1)))), (q388, .inl (cA 0, 10, .inl (fun _ => (-1)))), (q389, .inl (cA 0, 10, .inl (fun _ => (-1))))] := hD
  refine lv_iinc (v := 4) (lv' := [(1, .int 4), (0, .ref h0)]) hx hb dX5_init_115 hl (k := 0) rfl (by decide) (by decide) rfl (fun ls hl => ?_)
  refine lv_goto (tgt := 100) hx hb dX5_init_118 (by decide) ?_
  refine lv_iload_n hx hb dX5_init_100 rfl (lv_at hl 0 rfl) ?_
  refine lv_iconst (v := 4) hx hb dX5_init_101 (by decide) ?_
  refine lv_icmp_ge (tgt := 121) hx hb dX5_init_102 (by decide) (fun _ => ?_) (fun c413 => absurd (by decide) c413)
  have hP9 := hP.sub (ws' := [(h0, .inr (5, [.ref q363, .ref q366, .ref q369, .ref q372, .ref q375, .ref q378, .ref q390, .int 0, .int 0, .int 0, .int 0, .int 0, .int 0])), (q363, .inl (cA 3, 10, .inr (.inr (.inr (.inr (fun _ => none)))))), (q366, .inl (cA 4, 20, .inr (.inr (.inr (.inr (fun _ => none)))))), (q369, .inl (cA 5, 20, .inr (.inr (.inr (.inr (fun _ => none)))))), (q372, .inl (cA 6, 20, .inr (.inr (.inr (.inr (fun _ => none)))))), (q375, .inl (cA 7, 8, .inr (.inr (.inr (.inr (fun _ => none)))))), (q378, .inl (cA 2, 4, .inr (.inr (.inr (.inr (fun i => ([q386, q387, q388, q389] : List Nat)[i]?)))))), (q390, .inl (cA 0, 10, .inl (fun _ => 0))), (q386, .inl (cA 0, 10, .inl (fun _ => (-1)))), (q387, .inl (cA 0, 10, .inl (fun _ => (-1)))), (q388, .inl (cA 0, 10, .inl (fun _ => (-1)))), (q389, .inl (cA 0, 10, .inl (fun _ => (-1))))]) [0, 1, 2, 3, 4, 5, 6, 7, 8, 9, 10, 11] rfl
  have hD9 := hD.sub (ws' := [(h0, .inr (5, [.ref q363, .ref q366, .ref q369, .ref q372, .ref q375, .ref q378, .ref q390, .int 0, .int 0, .int 0, .int 0, .int 0, .int 0])), (q363, .inl (cA 3, 10, .inr (.inr (.inr (.inr (fun _ => none)))))), (q366, .inl (cA 4, 20, .inr (.inr (.inr (.inr (fun _ => none)))))), (q369, .inl (cA 5, 20, .inr (.inr (.inr (.inr (fun _ => none)))))), (q372, .inl (cA 6, 20, .inr (.inr (.inr (.inr (fun _ => none)))))), (q375, .inl (cA 7, 8, .inr (.inr (.inr (.inr (fun _ => none)))))), (q378, .inl (cA 2, 4, .inr (.inr (.inr (.inr (fun i => ([q386, q387, q388, q389] : List Nat)[i]?)))))), (q390, .inl (cA 0, 10, .inl (fun _ => 0))), (q386, .inl (cA 0, 10, .inl (fun _ => (-1)))), (q387, .inl (cA 0, 10, .inl (fun _ => (-1)))), (q388, .inl (cA 0, 10, .inl (fun _ => (-1)))), (q389, .inl (cA 0, 10, .inl (fun _ => (-1))))]) [0, 1, 2, 3, 4, 5, 6, 7, 8, 9, 10, 11] (by decide) rfl
  refine W.widen (k := 11) (n := 132) (Nat.le_of_ble_eq_true rfl) (Nat.le_of_ble_eq_true rfl) ?_
  exact W.vret hx hb hr (fun t ht hW9 => ⟨⟨(), rfl, trivial, ⟨q363, q366, q369, q372, q375, q378, q390, q386, q387, q388, q389, by show va_P _ _ _ t.heap; rw [ht]; exact hP9, hD9⟩⟩, hS.F ht⟩) hS.2.2 dX5_init_121

