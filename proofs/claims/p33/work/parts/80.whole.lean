theorem oa_C {s : State} {C : String} (h : va_AO C s) : ∃ cA : ClassId, ArrOfT s cA (.object C) ∧ va_RA s cA (.object C) := by
  obtain ⟨comp, cA, kA, h1, -, h2, h3, h4⟩ := Cond.arrayOver_spec h
  exact ⟨cA, fun n z => ⟨(fun k h => by cases h), kA, h2, comp, h3⟩, kA, comp, h2, h3, h1, h4⟩
theorem oa_A {s : State} {ty : FieldType} (h : va_AOA ty s) : ∃ cA : ClassId, ArrOfT s cA (.array ty) ∧ va_RA s cA (.array ty) := by
  obtain ⟨comp, cA, kA, h1, -, h2, h3, h4⟩ := Jvm.Stand.arrayOver_specB h
  exact ⟨cA, fun n z => ⟨(fun k h => by cases h), kA, h2, comp, h3⟩, h4⟩
theorem oa_P {args : Array Value} {s : State} {ty : FieldType} (h : (Cond.arrayClass ty).before args s = true) : ∃ cA : ClassId, ArrOfT s cA ty ∧ s.vm.findClass ("[" ++ ty.toString) = some cA := by
  obtain ⟨cA, kA, comp, h1, h2, h3⟩ := Cond.arrayClass_spec h
  exact ⟨cA, fun n z => ⟨(fun k h => by cases h), kA, h2, comp, h3⟩, h1⟩
theorem pcN_tbl : ∀ w ∈ pcN, w ∈ lw_tbl ∧ w.onTables = true := by decide +kernel
theorem pcAO_tbl : ∀ C ∈ pcAO, Cond.arrayOver (.object C) ∈ lw_tbl := by decide +kernel
theorem pcBA_tbl : ∀ ty ∈ pcBA, Cond.arrayOver (.array ty) ∈ lw_tbl := by decide +kernel
set_option maxHeartbeats 4000000 in
set_option maxRecDepth 100000 in
theorem whole_start {p : Program} {e : Env} {s : State} {m : MethodId} {below : List Frame} {meth : Method} {c : Code} (l : Launch) (hflags : l.flags = flags0) {b L : Nat} {xs : Nat → Int32} (hL : L ≤ 260) (C0 : lw_At p s m meth c b L xs) : W p l e room_1 s m #[Value.ref b] below meth c s.heap [] 0 0 (lw_Z below #[Value.ref b] s) (entryFrame m ([Value.ref b] : List Value).toArray 13) := by
  obtain ⟨hx, hb, hr, hml, hown, hts0, hsc, hbl, hlocks, hgv⟩ := id C0
  have hAO : ∀ C ∈ pcAO, va_AO C s := fun C hC => va_AO.of (hts0 _ (pcAO_tbl C hC))
  have hBA : ∀ ty ∈ pcBA, va_AOA ty s := fun ty hty => hts0 _ (pcBA_tbl ty hty)
  obtain ⟨c0, i0, h0⟩ := u_known (C := RX0) (T := TX0) (N := 3) (n := 3) hts0 inX0 (hts0 (.instantiable RX0 3) (by decide +kernel))
  obtain ⟨c1, i1, h1⟩ := u_known (C := RX1) (T := TX1) (N := 3) (n := 3) hts0 inX1 (hts0 (.instantiable RX1 3) (by decide +kernel))
  obtain ⟨c2, i2, h2⟩ := u_known (C := RX2) (T := TX2) (N := 3) (n := 3) hts0 inX2 (hts0 (.instantiable RX2 3) (by decide +kernel))
  obtain ⟨c3, i3, h3⟩ := u_known (C := RX3) (T := TX3) (N := 10) (n := 10) hts0 inX3 (hts0 (.instantiable RX3 10) (by decide +kernel))
  obtain ⟨c4, i4, h4⟩ := u_known (C := RX4) (T := TX4) (N := 6) (n := 6) hts0 inX4 (hts0 (.instantiable RX4 6) (by decide +kernel))
  obtain ⟨c5, i5, h5⟩ := u_known (C := RX5) (T := TX5) (N := 13) (n := 13) hts0 inX5 (hts0 (.instantiable RX5 13) (by decide +kernel))
  obtain ⟨y0, a0⟩ : ∃ cA : ClassId, ArrOfT s cA (.int) ∧ va_RA s cA (.int) := by
    obtain ⟨cA, h1, h2⟩ := oa_P (hts0 (.arrayClass .int) (by decide +kernel))
    exact ⟨cA, h1, h2⟩
  obtain ⟨y1, a1⟩ : ∃ cA : ClassId, ArrOfT s cA (.long) ∧ va_RA s cA (.long) := by
    obtain ⟨cA, h1, h2⟩ := oa_P (hts0 (.arrayClass .long) (by decide +kernel))
    exact ⟨cA, h1, h2⟩
  obtain ⟨y2, a2⟩ := oa_A (ty := .int) (hBA _ (by decide +kernel))
  obtain ⟨y3, a3⟩ := oa_C (C := RX3) (hAO _ (by decide +kernel))
  obtain ⟨y4, a4⟩ := oa_C (C := RX1) (hAO _ (by decide +kernel))
  obtain ⟨y5, a5⟩ := oa_C (C := RX2) (hAO _ (by decide +kernel))
  obtain ⟨y6, a6⟩ := oa_C (C := RX0) (hAO _ (by decide +kernel))
  obtain ⟨y7, a7⟩ := oa_C (C := RX4) (hAO _ (by decide +kernel))
  have hK : va_K (fun k => if k = 0 then c0 else if k = 1 then c1 else if k = 2 then c2 else if k = 3 then c3 else if k = 4 then c4 else c5, fun k => if k = 0 then i0 else if k = 1 then i1 else if k = 2 then i2 else if k = 3 then i3 else if k = 4 then i4 else i5) vwCl (tyL (fun k => if k = 0 then y0 else if k = 1 then y1 else if k = 2 then y2 else if k = 3 then y3 else if k = 4 then y4 else if k = 5 then y5 else if k = 6 then y6 else y7)) s := by
    refine ⟨fun k q hq => ?_, fun k q hq => ?_⟩
    · match k, hq with
      | 0, hq => cases hq; exact h0
      | 1, hq => cases hq; exact h1
      | 2, hq => cases hq; exact h2
      | 3, hq => cases hq; exact h3
      | 4, hq => cases hq; exact h4
      | 5, hq => cases hq; exact h5
      | k + 6, hq => simp [vwCl] at hq
    · match k, hq with
      | 0, hq => cases hq; exact a0
      | 1, hq => cases hq; exact a1
      | 2, hq => cases hq; exact a2
      | 3, hq => cases hq; exact a3
      | 4, hq => cases hq; exact a4
      | 5, hq => cases hq; exact a5
      | 6, hq => cases hq; exact a6
      | 7, hq => cases hq; exact a7
      | k + 8, hq => simp [tyL] at hq
  have hX : pcX _ vwCl (tyL _) s := ⟨hK, fun w hw => va_Nw.of (pcN_tbl w hw).2 (hts0 w (pcN_tbl w hw).1), hAO, hBA⟩
  exact law_start ⟨hx, hb, hr, hml, hown, fun w h => hts0 w (wsL_law_in w h), hlocks, hX, hsc, hbl, by omega⟩

