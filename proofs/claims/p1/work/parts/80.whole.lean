abbrev FLc : List Cond := flatC (Jvm.Cond.and given_1 narrow_1)
theorem oa_C {s : State} {C : String} (h : va_AO C s) : ∃ cA : ClassId, ArrOfT s cA (.object C) ∧ va_RA s cA (.object C) := by
  obtain ⟨comp, cA, kA, h1, -, h2, h3, h4⟩ := Cond.arrayOver_spec h
  exact ⟨cA, fun n z => ⟨(fun k h => by cases h), kA, h2, comp, h3⟩, kA, comp, h2, h3, h1, h4⟩
theorem oa_A {s : State} {ty : FieldType} (h : va_AOA ty s) : ∃ cA : ClassId, ArrOfT s cA (.array ty) ∧ va_RA s cA (.array ty) := by
  obtain ⟨comp, cA, kA, h1, -, h2, h3, h4⟩ := Jvm.Stand.arrayOver_specB h
  exact ⟨cA, fun n z => ⟨(fun k h => by cases h), kA, h2, comp, h3⟩, h4⟩
theorem oa_P {args : Array Value} {s : State} {ty : FieldType} (h : (Cond.arrayClass ty).before args s = true) : ∃ cA : ClassId, ArrOfT s cA ty ∧ s.vm.findClass ("[" ++ ty.toString) = some cA := by
  obtain ⟨cA, kA, comp, h1, h2, h3⟩ := Cond.arrayClass_spec h
  exact ⟨cA, fun n z => ⟨(fun k h => by cases h), kA, h2, comp, h3⟩, h1⟩
theorem str_of {args : Array Value} {s : State} {own tx : String} {k : Nat} (h1 : (Cond.stringRef own k tx).before args s = true) (h2 : (Cond.exactly (.string own k) "java/lang/String").before args s = true) : ∃ a : Nat, vk_R own k tx a s := by
  obtain ⟨a, c, cell, kA, q1, -⟩ := Cond.exactly_spec (args := args) (first := s) (o := none) (s := s) (idx := []) h2
  exact ⟨a, vk_R.of h1 q1⟩
theorem pcN_tbl : ∀ w ∈ pcN, w ∈ lw_tbl ∧ w.onTables = true := by decide +kernel
theorem pcC_tbl : ∀ w ∈ pcC, w ∈ lw_tbl ∧ w.onTables = true := by decide +kernel
theorem pcAO_tbl : ∀ C ∈ pcAO, Cond.arrayOver (.object C) ∈ lw_tbl := by decide +kernel
theorem pcBA_tbl : ∀ ty ∈ pcBA, Cond.arrayOver (.array ty) ∈ lw_tbl := by decide +kernel
theorem pcSL_tbl : ∀ q ∈ pcSL, Cond.stringRef q.1 q.2.1 q.2.2 ∈ lw_tbl := by decide +kernel
theorem pcSL_nar : ∀ q ∈ pcSL, Cond.exactly (.string q.1 q.2.1) "java/lang/String" ∈ FLc := by decide +kernel
set_option maxHeartbeats 4000000 in
set_option maxRecDepth 100000 in
theorem whole_start {p : Program} {e : Env} {s : State} {m : MethodId} {below : List Frame} {meth : Method} {c : Code} (l : Launch) (hflags : l.flags = flags0) {b L : Nat} {xs : Nat → Int32} (hL : L ≤ 7) (C0 : lw_At p s m meth c b L xs) : W p l e room_1 s m #[Value.ref b] below meth c s.heap [] 0 0 (lw_Z below #[Value.ref b] s) (entryFrame m ([Value.ref b] : List Value).toArray 9) := by
  obtain ⟨hx, hb, hr, hml, hown, hts0, hsc, hbl, hlocks, hgv⟩ := id C0
  have hfl : ∀ w ∈ FLc, w.before #[Value.ref b] s = true := flat_of_before _ hgv
  have hl0 : l.stackTraces = false := by
    unfold Jvm.Launch.stackTraces
    rw [hflags]
    decide +kernel
  have hout : ∀ a : Nat, a < s.heap.size → ¬ (fun q : Nat => s.heap.size ≤ q) a := fun a h => Nat.not_le.mpr h
  have hAO : ∀ C ∈ pcAO, va_AO C s := fun C hC => va_AO.of (hts0 _ (pcAO_tbl C hC))
  have hBA : ∀ ty ∈ pcBA, va_AOA ty s := fun ty hty => hts0 _ (pcBA_tbl ty hty)
  obtain ⟨c0, i0, h0⟩ := u_known (C := RJx4a65c) (T := TJx4a65c) (N := 3) (n := 3) hts0 inJx4a65c (hts0 (.instantiable RJx4a65c 3) (by decide +kernel))
  obtain ⟨c1, i1, h1⟩ := u_known (C := RX0) (T := TX0) (N := 3) (n := 3) hts0 inX0 (hts0 (.instantiable RX0 3) (by decide +kernel))
  obtain ⟨c2, i2, h2⟩ := u_known (C := RX1) (T := TX1) (N := 3) (n := 3) hts0 inX1 (hts0 (.instantiable RX1 3) (by decide +kernel))
  obtain ⟨c3, i3, h3⟩ := u_known (C := RX2) (T := TX2) (N := 3) (n := 3) hts0 inX2 (hts0 (.instantiable RX2 3) (by decide +kernel))
  obtain ⟨c4, i4, h4⟩ := u_known (C := RX3) (T := TX3) (N := 10) (n := 10) hts0 inX3 (hts0 (.instantiable RX3 10) (by decide +kernel))
  obtain ⟨c5, i5, h5⟩ := u_known (C := RX4) (T := TX4) (N := 6) (n := 6) hts0 inX4 (hts0 (.instantiable RX4 6) (by decide +kernel))
  obtain ⟨c6, i6, h6⟩ := u_known (C := RX5) (T := TX5) (N := 13) (n := 13) hts0 inX5 (hts0 (.instantiable RX5 13) (by decide +kernel))
  obtain ⟨c7, i7, h7⟩ := u_known (C := RX6) (T := TX6) (N := 10) (n := 10) hts0 inX6 (hts0 (.instantiable RX6 10) (by decide +kernel))
  obtain ⟨c8, i8, h8⟩ := u_known (C := RX7) (T := TX7) (N := 6) (n := 6) hts0 inX7 (hts0 (.instantiable RX7 6) (by decide +kernel))
  obtain ⟨c9, i9, h9⟩ := u_known (C := RX8) (T := TX8) (N := 4) (n := 4) hts0 inX8 (hts0 (.instantiable RX8 4) (by decide +kernel))
  obtain ⟨c10, i10, h10⟩ := u_known (C := RX9) (T := TX9) (N := 3) (n := 3) hts0 inX9 (hts0 (.instantiable RX9 3) (by decide +kernel))
  obtain ⟨c11, i11, h11⟩ := u_known (C := RX10) (T := TX10) (N := 3) (n := 3) hts0 inX10 (hts0 (.instantiable RX10 3) (by decide +kernel))
  obtain ⟨c12, i12, h12⟩ := u_known (C := RX11) (T := TX11) (N := 2) (n := 2) hts0 inX11 (hts0 (.instantiable RX11 2) (by decide +kernel))
  obtain ⟨y0, a0⟩ : ∃ cA : ClassId, ArrOfT s cA (.int) ∧ va_RA s cA (.int) := by
    obtain ⟨cA, h1, h2⟩ := oa_P (hts0 (.arrayClass .int) (by decide +kernel))
    exact ⟨cA, h1, h2⟩
  obtain ⟨y1, a1⟩ : ∃ cA : ClassId, ArrOfT s cA (.long) ∧ va_RA s cA (.long) := by
    obtain ⟨cA, h1, h2⟩ := oa_P (hts0 (.arrayClass .long) (by decide +kernel))
    exact ⟨cA, h1, h2⟩
  obtain ⟨y2, a2⟩ : ∃ cA : ClassId, ArrOfT s cA (.boolean) ∧ va_RA s cA (.boolean) := by
    obtain ⟨cA, h1, h2⟩ := oa_P (hts0 (.arrayClass .boolean) (by decide +kernel))
    exact ⟨cA, h1, h2⟩
  obtain ⟨y3, a3⟩ := oa_C (C := RX3) (hAO _ (by decide +kernel))
  obtain ⟨y4, a4⟩ := oa_C (C := RX1) (hAO _ (by decide +kernel))
  obtain ⟨y5, a5⟩ := oa_C (C := RX2) (hAO _ (by decide +kernel))
  obtain ⟨y6, a6⟩ := oa_C (C := RX0) (hAO _ (by decide +kernel))
  obtain ⟨y7, a7⟩ := oa_C (C := RX4) (hAO _ (by decide +kernel))
  obtain ⟨y8, a8⟩ := oa_C (C := "java/lang/Object") (hAO _ (by decide +kernel))
  obtain ⟨y9, a9⟩ := oa_A (ty := .int) (hBA _ (by decide +kernel))
  obtain ⟨y10, a10⟩ := oa_A (ty := .boolean) (hBA _ (by decide +kernel))
  have hK : va_K (fun k => if k = 0 then c0 else if k = 1 then c1 else if k = 2 then c2 else if k = 3 then c3 else if k = 4 then c4 else if k = 5 then c5 else if k = 6 then c6 else if k = 7 then c7 else if k = 8 then c8 else if k = 9 then c9 else if k = 10 then c10 else if k = 11 then c11 else c12, fun k => if k = 0 then i0 else if k = 1 then i1 else if k = 2 then i2 else if k = 3 then i3 else if k = 4 then i4 else if k = 5 then i5 else if k = 6 then i6 else if k = 7 then i7 else if k = 8 then i8 else if k = 9 then i9 else if k = 10 then i10 else if k = 11 then i11 else i12) vwCl (tyL (fun k => if k = 0 then y0 else if k = 1 then y1 else if k = 2 then y2 else if k = 3 then y3 else if k = 4 then y4 else if k = 5 then y5 else if k = 6 then y6 else if k = 7 then y7 else if k = 8 then y8 else if k = 9 then y9 else y10)) s := by
    refine ⟨fun k q hq => ?_, fun k q hq => ?_⟩
    · match k, hq with
      | 0, hq => cases hq; exact h0
      | 1, hq => cases hq; exact h1
      | 2, hq => cases hq; exact h2
      | 3, hq => cases hq; exact h3
      | 4, hq => cases hq; exact h4
      | 5, hq => cases hq; exact h5
      | 6, hq => cases hq; exact h6
      | 7, hq => cases hq; exact h7
      | 8, hq => cases hq; exact h8
      | 9, hq => cases hq; exact h9
      | 10, hq => cases hq; exact h10
      | 11, hq => cases hq; exact h11
      | 12, hq => cases hq; exact h12
      | k + 13, hq => simp [vwCl] at hq
    · match k, hq with
      | 0, hq => cases hq; exact a0
      | 1, hq => cases hq; exact a1
      | 2, hq => cases hq; exact a2
      | 3, hq => cases hq; exact a3
      | 4, hq => cases hq; exact a4
      | 5, hq => cases hq; exact a5
      | 6, hq => cases hq; exact a6
      | 7, hq => cases hq; exact a7
      | 8, hq => cases hq; exact a8
      | 9, hq => cases hq; exact a9
      | 10, hq => cases hq; exact a10
      | k + 11, hq => simp [tyL] at hq
  have hX : pcX _ vwCl (tyL _) s := ⟨hK, fun w hw => va_Nw.of (pcN_tbl w hw).2 (hts0 w (pcN_tbl w hw).1), hAO, hBA⟩
  have hT : pcT s := ⟨fun w hw => va_Nw.of (pcC_tbl w hw).2 (hts0 w (pcC_tbl w hw).1), va_Nc.of (hfl _ (by decide +kernel)), fun q hq => str_of (hts0 _ (pcSL_tbl q hq)) (hfl _ (pcSL_nar q hq))⟩
  have hZ : pcZ s.heap.size s s.heap := ⟨vx_Zqof (hts0 _ (by decide +kernel)) (hts0 (.initialized Bundle.tN) (by decide +kernel)) (hfl _ (by decide +kernel)) hout, vx_Zqof (hts0 _ (by decide +kernel)) (hts0 (.initialized Bundle.tN) (by decide +kernel)) (hfl _ (by decide +kernel)) hout⟩
  obtain ⟨mi, hM⟩ := va_Mi.of (C := "[Ljava/lang/Object;") (hfl _ (by decide +kernel))
  have hF : pcF mi s := ⟨hM, va_Dc.of (hts0 _ (by decide +kernel)), va_Fw.of (hts0 _ (by decide +kernel)) (hts0 _ (by decide +kernel)) (hts0 _ (by decide +kernel)) (hts0 _ (by decide +kernel)) (hts0 _ (by decide +kernel)), va_Nw.of rfl (hts0 _ (by decide +kernel)), va_Nw.of rfl (hts0 _ (by decide +kernel))⟩
  obtain ⟨em, he, hTa⟩ := va_Tof (tm := .static "java/util/ArrayList" "DEFAULTCAPACITY_EMPTY_ELEMENTDATA" "[Ljava/lang/Object;") (ty := .object "java/lang/Object") (N := 0) (f := fun _ => .null) (A := fun q : Nat => s.heap.size ≤ q) (by decide) (hfl _ (by decide +kernel)) (va_eqt (hfl (.eq (.length (.static "java/util/ArrayList" "DEFAULTCAPACITY_EMPTY_ELEMENTDATA" "[Ljava/lang/Object;")) (.int 0)) (by decide +kernel))) (fun j hj => absurd hj (Nat.not_lt_zero j)) hout
  have hE : pcE s.heap.size em s s.heap := ⟨va_Zof (hts0 _ (by decide +kernel)) (hts0 (.initialized "java/util/ArrayList") (by decide +kernel)) he hout, hTa, va_Oof (hfl (.exactly (.static "java/util/ArrayList" "DEFAULTCAPACITY_EMPTY_ELEMENTDATA" "[Ljava/lang/Object;") "[Ljava/lang/Object;") (by decide +kernel)) he hout⟩
  exact law_start hL ⟨hx, hb, hr, hml, hown, fun w h => hts0 w (wsL_law_in w h), hlocks, hl0, hX, hT, hZ, Nat.le_refl _, hF, hE, fun _ h => h, hsc, hbl⟩
