theorem pc_new2 {p : Program} {l : Launch} {e : Env} {R : Room} {s : State} {m : MethodId} {args : Array Value} {below : List Frame} {meth : Method} {c : Code} {H : Heap} {locs : List Loc} {cells slots : Nat} {Q : State → Prop}
    {cc : ByteArray} {pc : Nat} {ls : Array Slot} {rest : List Value} {D : va_G} {cl : List vw_C} {A : Nat → Prop} {tys : List (ClassId × FieldType)} {H0 : Heap} {NL : List (Nat × Nat)} {ad : Nat → Nat → Nat} {ct : Nat → Nat → va_E}
    (hexec : p.tables.exec = Jvm.exec) (hb : c.code = cc) {own C : String} {T : u_T} {N ci index : Nat} {Ts : List Cond} (hts : ∀ w ∈ Ts, w.before args s = true) (hin : ∀ w ∈ u_ws C T N, w ∈ Ts) (ty : Nat → FieldType) (hty : ∀ k, k < N → parseFieldDescriptor (T k).2.2.1 = some (ty k)) (hown : s.vm.findClass own = some m.cls) (hcl : (Cond.classLink own index C).before args s = true) (hinst : (Cond.instantiable C N).before args s = true) (hini : (Cond.initialized C).before args s = true)
    (hK : va_K D cl tys s) (hW : pcS D cl A H0 NL ad ct H locs) (hA : ∀ q, H0.size ≤ q → A q) (k0 i0 : Nat) (hm : (k0, i0) ∉ NL) (hc : cl[ci]? = some (C, T, N)) {fs : List Value} (hfs : ∀ j, j < N → defaultValue (ty j) = vp_V fs j) (hcells : cells + 1 ≤ R.cells) (hslots : slots + N ≤ R.slots) (hdg : decode cc pc = .ok (.new index, 3))
    (kk : ∀ (q : Nat) (H1 : Heap), pcS D cl A H0 (NL ++ [(k0, i0)]) (pcV ad k0 i0 q) (pcU ct k0 i0 (.inr (ci, fs))) H1 locs →
      W p l e R s m args below meth c H1 locs (cells + 1) (slots + N) Q (F0 m (pc + 3) ls (.ref (pcV ad k0 i0 q k0 i0) :: rest))) : W p l e R s m args below meth c H locs cells slots Q (F0 m pc ls rest) :=
  pc_new hexec hb hts hin ty hty hown hcl hinst hini hK hW hA k0 i0 hm hc hfs hcells hslots hdg (fun q H1 h => by have h2 := kk q H1 h; rw [pcV_self] at h2; exact h2)
theorem pcU_twice {ct : Nat → Nat → va_E} {k i : Nat} {e e2 : va_E} : pcU (pcU ct k i e) k i e2 = pcU ct k i e2 := by
  funext a b
  by_cases h : a = k ∧ b = i <;> simp [pcU, h]
theorem va_D_one {x : Nat × va_E} {sz : Nat} : va_D (va_A [x] sz) [x] := by
  refine ⟨fun i j p q hi hj _ => ?_, fun k q hk => va_A.in hk⟩
  have h1 := (List.getElem?_eq_some_iff.mp hi).1
  have h2 := (List.getElem?_eq_some_iff.mp hj).1
  simp only [List.length_cons, List.length_nil] at h1 h2
  omega
theorem pc_one {D : va_G} {cl : List vw_C} {NL : List (Nat × Nat)} {ad : Nat → Nat → Nat} {ct : Nat → Nat → va_E} {H : Heap} (hP : va_P D cl (pcW NL ad ct) H) {k i : Nat} (hm : (k, i) ∈ NL) {e0 : va_E} (he : ct k i = e0) : va_P D cl [(ad k i, e0)] H := by
  intro j q hj
  have h1 := (List.getElem?_eq_some_iff.mp hj).1
  simp only [List.length_cons, List.length_nil] at h1
  obtain rfl : j = 0 := by omega
  obtain rfl := Option.some.inj hj
  rw [← he]
  exact pcP_at hP hm
theorem pc_oneF {D : va_G} {cl : List vw_C} {A : Nat → Prop} {H0 H : Heap} {locs : List Loc} {NL : List (Nat × Nat)} {ad : Nat → Nat → Nat} {ct : Nat → Nat → va_E} (hW : pcS D cl A H0 NL ad ct H locs) (hA : ∀ q, H0.size ≤ q → A q) {k i : Nat} (hm : (k, i) ∈ NL) {e0 : va_E} : ∀ q, va_A [(ad k i, e0)] H.size q → A q := by
  rintro q (⟨j, e, hj⟩ | h)
  · have h1 := (List.getElem?_eq_some_iff.mp hj).1
    simp only [List.length_cons, List.length_nil] at h1
    obtain rfl : j = 0 := by omega
    have h2 := Option.some.inj hj
    rw [← show ad k i = q from congrArg Prod.fst h2]
    exact pcD_in hW.2.1 hm
  · exact hA q (Nat.le_trans hW.2.2.1 h)
/-- behind a call that had one cell and may have made others: back among the names -/
theorem pc_join1 {D : va_G} {cl : List vw_C} {A : Nat → Prop} {H0 H H1 : Heap} {locs : List Loc} {NL : List (Nat × Nat)} {ad : Nat → Nat → Nat} {ct : Nat → Nat → va_E} (hW : pcS D cl A H0 NL ad ct H locs) (hA : ∀ q, H0.size ≤ q → A q) (k i : Nat) (hm : (k, i) ∈ NL) {e0 e1 : va_E} {ws1 : va_W}
    (hk : ∀ q : Nat, q < H.size → ¬ va_A [(ad k i, e0)] H.size q → H1[q]? = H[q]?) (hP1 : va_P D cl ((ad k i, e1) :: ws1) H1) (hD1 : va_D (va_A [(ad k i, e0)] H.size) ((ad k i, e1) :: ws1)) : va_P D cl (pcW NL ad (pcU ct k i e1) ++ ws1) H1 ∧ va_D A (pcW NL ad (pcU ct k i e1) ++ ws1) := by
  have hF := pc_oneF (e0 := e0) hW hA hm
  have hD2 := pcD_ct (ct' := pcU ct k i e1) hW.2.1
  have hlt : ∀ k' i', (k', i') ∈ NL → ad k' i' < H.size := by
    intro k' i' h
    obtain ⟨j, -, hj⟩ := pc_place (ad := ad) (ct := ct) h
    exact (hW.1 j _ hj).lt
  have hnew : ∀ (b : Nat) (q : Nat × va_E), ws1[b]? = some q → va_A [(ad k i, e0)] H.size q.1 ∧ q.1 ≠ ad k i := by
    intro b q hb
    refine ⟨hD1.2 (b + 1) q hb, fun he => ?_⟩
    have := hD1.1 (b + 1) 0 q (ad k i, e1) hb rfl he
    omega
  have hap : ∀ k' i', (k', i') ∈ NL → ¬ (k' = k ∧ i' = i) → ¬ va_A [(ad k i, e0)] H.size (ad k' i') := by
    rintro k' i' h hne (⟨j, e, hj⟩ | h2)
    · have h1 := (List.getElem?_eq_some_iff.mp hj).1
      simp only [List.length_cons, List.length_nil] at h1
      obtain rfl : j = 0 := by omega
      have h3 := congrArg Prod.fst (Option.some.inj hj)
      exact hne (pcD_inj hW.2.1 h hm h3.symm)
    · exact absurd (hlt k' i' h) (Nat.not_lt.mpr h2)
  have hmix : ∀ (a b : Nat) (p q : Nat × va_E), (pcW NL ad (pcU ct k i e1))[a]? = some p → ws1[b]? = some q → p.1 = q.1 → False := by
    intro a b p q ha hb he
    obtain ⟨k', i', h, -, rfl⟩ := pc_mem ha
    obtain ⟨h1, h2⟩ := hnew b q hb
    by_cases hne : k' = k ∧ i' = i
    · obtain ⟨rfl, rfl⟩ := hne
      exact h2 he.symm
    · exact hap k' i' h hne (by rw [show ad k' i' = q.1 from he]; exact h1)
  refine ⟨fun j q hj => ?_, fun a b p q ha hb he => ?_, fun j q hj => ?_⟩
  · rcases Nat.lt_or_ge j (pcW NL ad (pcU ct k i e1)).length with h | h
    · rw [List.getElem?_append_left h] at hj
      obtain ⟨k', i', hm', -, rfl⟩ := pc_mem hj
      by_cases hne : k' = k ∧ i' = i
      · obtain ⟨rfl, rfl⟩ := hne
        show va_at D cl (ad k' i', pcU ct k' i' e1 k' i') H1
        rw [pcU_self]
        exact hP1 0 _ rfl
      · have e2 : pcU ct k i e1 k' i' = ct k' i' := by simp [pcU, hne]
        show va_at D cl (ad k' i', pcU ct k i e1 k' i') H1
        rw [e2]
        have h3 : va_P D cl [(ad k' i', ct k' i')] H := pc_one hW.1 hm' rfl
        exact (h3.kept (H1 := H1) (fun j q hj => by
          have h1 := (List.getElem?_eq_some_iff.mp hj).1
          simp only [List.length_cons, List.length_nil] at h1
          obtain rfl : j = 0 := by omega
          obtain rfl := Option.some.inj hj
          exact hk _ (hlt k' i' hm') (hap k' i' hm' hne))) 0 _ rfl
    · rw [List.getElem?_append_right h] at hj
      exact hP1 (j - (pcW NL ad (pcU ct k i e1)).length + 1) q hj
  · rcases Nat.lt_or_ge a (pcW NL ad (pcU ct k i e1)).length with h | h <;> rcases Nat.lt_or_ge b (pcW NL ad (pcU ct k i e1)).length with h' | h'
    · rw [List.getElem?_append_left h] at ha
      rw [List.getElem?_append_left h'] at hb
      exact hD2.1 a b p q ha hb he
    · rw [List.getElem?_append_left h] at ha
      rw [List.getElem?_append_right h'] at hb
      exact (hmix _ _ p q ha hb he).elim
    · rw [List.getElem?_append_right h] at ha
      rw [List.getElem?_append_left h'] at hb
      exact (hmix _ _ q p hb ha he.symm).elim
    · rw [List.getElem?_append_right h] at ha
      rw [List.getElem?_append_right h'] at hb
      have := hD1.1 (a - (pcW NL ad (pcU ct k i e1)).length + 1) (b - (pcW NL ad (pcU ct k i e1)).length + 1) p q ha hb he
      omega
  · rcases Nat.lt_or_ge j (pcW NL ad (pcU ct k i e1)).length with h | h
    · rw [List.getElem?_append_left h] at hj
      exact hD2.2 j q hj
    · rw [List.getElem?_append_right h] at hj
      exact hF _ (hD1.2 (j - (pcW NL ad (pcU ct k i e1)).length + 1) q hj)
theorem pcS_push0 {D : va_G} {cl : List vw_C} {A : Nat → Prop} {H0 H : Heap} {locs : List Loc} {NL : List (Nat × Nat)} {ad : Nat → Nat → Nat} {ct : Nat → Nat → va_E} (h : va_P D cl (pcW NL ad ct ++ []) H ∧ va_D A (pcW NL ad ct ++ [])) (hS : va_S A H0 H locs) : pcS D cl A H0 NL ad ct H locs := by
  rw [List.append_nil] at h
  exact ⟨h.1, h.2, hS⟩
theorem pcS_push1 {D : va_G} {cl : List vw_C} {A : Nat → Prop} {H0 H : Heap} {locs : List Loc} {NL : List (Nat × Nat)} {ad : Nat → Nat → Nat} {ct : Nat → Nat → va_E} {k1 i1 q1 : Nat} {a1 : va_E} (h1 : (k1, i1) ∉ NL) (h : va_P D cl (pcW NL ad ct ++ [(q1, a1)]) H ∧ va_D A (pcW NL ad ct ++ [(q1, a1)])) (hS : va_S A H0 H locs) : pcS D cl A H0 (NL ++ [(k1, i1)]) (pcV ad k1 i1 q1) (pcU ct k1 i1 a1) H locs := by
  rw [pc_push h1] at h
  exact ⟨h.1, h.2, hS⟩
theorem pcS_push2 {D : va_G} {cl : List vw_C} {A : Nat → Prop} {H0 H : Heap} {locs : List Loc} {NL : List (Nat × Nat)} {ad : Nat → Nat → Nat} {ct : Nat → Nat → va_E} {k1 i1 q1 k2 i2 q2 : Nat} {a1 a2 : va_E} (h1 : (k1, i1) ∉ NL) (h2 : (k2, i2) ∉ NL ++ [(k1, i1)]) (h : va_P D cl (pcW NL ad ct ++ [(q1, a1), (q2, a2)]) H ∧ va_D A (pcW NL ad ct ++ [(q1, a1), (q2, a2)])) (hS : va_S A H0 H locs) : pcS D cl A H0 (NL ++ [(k1, i1)] ++ [(k2, i2)]) (pcV (pcV ad k1 i1 q1) k2 i2 q2) (pcU (pcU ct k1 i1 a1) k2 i2 a2) H locs := by
  have e : pcW NL ad ct ++ [(q1, a1), (q2, a2)] = (pcW NL ad ct ++ [(q1, a1)]) ++ [(q2, a2)] := by simp
  rw [e, pc_push h1, pc_push h2] at h
  exact ⟨h.1, h.2, hS⟩
theorem MEM_app {c : SC} {NL L : List (Nat × Nat)} (h : MEM c NL) : MEM c (NL ++ L) := by
  have hm : ∀ p, p ∈ NL → p ∈ NL ++ L := fun p hp => List.mem_append_left _ hp
  exact ⟨hm _ h.1, fun k a b => hm _ (h.2.1 k a b), fun i hi => hm _ (h.2.2.1 i hi), fun i hi => ⟨hm _ (h.2.2.2.1 i hi).1, hm _ (h.2.2.2.1 i hi).2.1, hm _ (h.2.2.2.1 i hi).2.2⟩, fun i hi => hm _ (h.2.2.2.2.1 i hi), fun i hi => ⟨hm _ (h.2.2.2.2.2.1 i hi).1, hm _ (h.2.2.2.2.2.1 i hi).2⟩, fun i hi => hm _ (h.2.2.2.2.2.2.1 i hi), fun i hi => hm _ (h.2.2.2.2.2.2.2 i hi)⟩
theorem nmem_app {NL : List (Nat × Nat)} {a b : Nat × Nat} (h : a ∉ NL) (hne : a ≠ b) : a ∉ NL ++ [b] := by
  intro hm
  rcases List.mem_append.mp hm with h1 | h1
  · exact h h1
  · exact hne (List.mem_singleton.mp h1)
theorem uC_lt {c : SC} {k i : Nat} (h : i < uC c k (c k + 1) k) : i < c k ∨ i = c k := by
  have h2 : i < c k + 1 := by simpa [uC] using h
  omega
theorem sRf_up {n : Nat} {f : Nat → Nat} {q : Nat} (hq : f n = q) : va_up (sRf n f) n (some q) = sRf (n + 1) f := by
  funext j
  unfold va_up sRf
  by_cases h : j = n
  · subst h
    simp [hq]
  · by_cases h2 : j < n
    · simp [h, h2, Nat.lt_succ_of_lt h2]
    · have h3 : ¬ j < n + 1 := by omega
      simp [h, h2, h3]
theorem pcV_f {ad : Nat → Nat → Nat} {k n q k2 : Nat} (h : k2 ≠ k) : pcV ad k n q k2 = ad k2 := by
  funext j
  simp [pcV, h]
theorem sRf_V {n : Nat} {ad : Nat → Nat → Nat} {k q : Nat} : sRf n (pcV ad k n q k) = sRf n (ad k) := by
  funext j
  unfold sRf
  by_cases h : j < n
  · rw [if_pos h, if_pos h, pcV_i (by omega)]
  · rw [if_neg h, if_neg h]

def newV_1 (v : SV) (n : Nat) (x1 : Int32) : SV := fun a b d => if b = n ∧ (a = 1 ∨ a = 12) then (if a = 1 then (if d = 0 then x1 else if d = 3 then -1 else 0) else 0) else v a b d
def newW_1 (w : SW) (n : Nat) : SW := fun a b d => if b = n ∧ (a = 1 ∨ a = 11) then (if a = 11 then vp_updL (fun _ => 0) 0 1048577 d else 0) else w a b d
set_option maxHeartbeats 4000000 in
theorem ctO_new_1 {cA : Nat → ClassId} {c : SC} {v : SV} {w : SW} {u : Nat → Int32} {ad : Nat → Nat → Nat} {n q q1 q2 : Nat} {x1 : Int32} (hn : n = c 0) : (pcU (pcU (pcU (ctO cA c v w u ad) 1 n (.inr (3, [.int x1, .ref q1, .ref q2, .int 0, .int 0, .int (-1), .long 0, .int 0, .int 0, .int 0]))) 11 n (.inl (cA 1, 6, .inr (.inl (vp_updL (fun _ => 0) 0 1048577))))) 12 n (.inl (cA 0, 6, .inl (fun _ => 0)))) = ctO cA c (newV_1 v n x1) (newW_1 w n) u (pcV (pcV (pcV ad 1 n q) 11 n q1) 12 n q2) := by
  funext a b
  by_cases h12 : a = 12 ∧ b = n
  · obtain ⟨rfl, rfl⟩ := h12
    first | (simp [pcU, pcV, ctO, newV_1, newW_1, vp_updL]; done) | (simp [pcU, pcV, ctO, newV_1, newW_1, vp_updL]; funext d; simp [newV_1, newW_1, vp_updL])
  by_cases h11 : a = 11 ∧ b = n
  · obtain ⟨rfl, rfl⟩ := h11
    first | (simp [pcU, pcV, ctO, newV_1, newW_1, vp_updL]; done) | (simp [pcU, pcV, ctO, newV_1, newW_1, vp_updL]; funext d; simp [newV_1, newW_1, vp_updL])
  by_cases h1 : a = 1 ∧ b = n
  · obtain ⟨rfl, rfl⟩ := h1
    first | (simp [pcU, pcV, ctO, newV_1, newW_1, vp_updL]; done) | (simp [pcU, pcV, ctO, newV_1, newW_1, vp_updL]; funext d; simp [newV_1, newW_1, vp_updL])
  have e : (pcU (pcU (pcU (ctO cA c v w u ad) 1 n (.inr (3, [.int x1, .ref q1, .ref q2, .int 0, .int 0, .int (-1), .long 0, .int 0, .int 0, .int 0]))) 11 n (.inl (cA 1, 6, .inr (.inl (vp_updL (fun _ => 0) 0 1048577))))) 12 n (.inl (cA 0, 6, .inl (fun _ => 0)))) a b = (ctO cA c v w u ad) a b := by simp [pcU, h1, h11, h12]
  rw [e]
  by_cases g1 : a = 1
  · subst g1
    first | (simp [pcV, pcV_f, ctO, newV_1, newW_1, vp_updL, show b ≠ n from fun hb => h1 ⟨rfl, hb⟩]; done) | (simp [pcV, pcV_f, ctO, newV_1, newW_1, vp_updL, show b ≠ n from fun hb => h1 ⟨rfl, hb⟩]; funext d; simp [newV_1, newW_1, vp_updL, show b ≠ n from fun hb => h1 ⟨rfl, hb⟩])
  by_cases g11 : a = 11
  · subst g11
    first | (simp [pcV, pcV_f, ctO, newV_1, newW_1, vp_updL, show b ≠ n from fun hb => h11 ⟨rfl, hb⟩]; done) | (simp [pcV, pcV_f, ctO, newV_1, newW_1, vp_updL, show b ≠ n from fun hb => h11 ⟨rfl, hb⟩]; funext d; simp [newV_1, newW_1, vp_updL, show b ≠ n from fun hb => h11 ⟨rfl, hb⟩])
  by_cases g12 : a = 12
  · subst g12
    first | (simp [pcV, pcV_f, ctO, newV_1, newW_1, vp_updL, show b ≠ n from fun hb => h12 ⟨rfl, hb⟩]; done) | (simp [pcV, pcV_f, ctO, newV_1, newW_1, vp_updL, show b ≠ n from fun hb => h12 ⟨rfl, hb⟩]; funext d; simp [newV_1, newW_1, vp_updL, show b ≠ n from fun hb => h12 ⟨rfl, hb⟩])
  by_cases g2 : a = 2
  · subst g2
    first | (simp [pcV, pcV_f, ctO, newV_1, newW_1, vp_updL]; done) | (simp [pcV, pcV_f, ctO, newV_1, newW_1, vp_updL]; funext d; simp [newV_1, newW_1, vp_updL])
  by_cases g3 : a = 3
  · subst g3
    first | (simp [pcV, pcV_f, ctO, newV_1, newW_1, vp_updL]; done) | (simp [pcV, pcV_f, ctO, newV_1, newW_1, vp_updL]; funext d; simp [newV_1, newW_1, vp_updL])
  by_cases g13 : a = 13
  · subst g13
    first | (simp [pcV, pcV_f, ctO, newV_1, newW_1, vp_updL]; done) | (simp [pcV, pcV_f, ctO, newV_1, newW_1, vp_updL]; funext d; simp [newV_1, newW_1, vp_updL])
  by_cases g4 : a = 4
  · subst g4
    first | (simp [pcV, pcV_f, ctO, newV_1, newW_1, vp_updL]; done) | (simp [pcV, pcV_f, ctO, newV_1, newW_1, vp_updL]; funext d; simp [newV_1, newW_1, vp_updL])
  by_cases g7 : a = 7
  · subst g7
    first | (simp [pcV, pcV_f, ctO, newV_1, newW_1, vp_updL]; done) | (simp [pcV, pcV_f, ctO, newV_1, newW_1, vp_updL]; funext d; simp [newV_1, newW_1, vp_updL])
  by_cases g57 : a = 57
  · subst g57
    first | (simp [pcV, pcV_f, ctO, newV_1, newW_1, vp_updL]; done) | (simp [pcV, pcV_f, ctO, newV_1, newW_1, vp_updL]; funext d; simp [newV_1, newW_1, vp_updL])
  by_cases g56 : a = 56
  · subst g56
    first | (simp [pcV, pcV_f, ctO, newV_1, newW_1, vp_updL]; done) | (simp [pcV, pcV_f, ctO, newV_1, newW_1, vp_updL]; funext d; simp [newV_1, newW_1, vp_updL])
  by_cases g55 : a = 55
  · subst g55
    first | (simp [pcV, pcV_f, ctO, newV_1, newW_1, vp_updL]; done) | (simp [pcV, pcV_f, ctO, newV_1, newW_1, vp_updL]; funext d; simp [newV_1, newW_1, vp_updL])
  by_cases g50 : a = 50
  · subst g50
    have e2 : sRf (c 0) ((pcV (pcV (pcV ad 1 n q) 11 n q1) 12 n q2) 1) = sRf (c 0) (ad 1) := by
      subst hn
      exact sRf_V
    rw [ctO_50, ctO_50, e2]
  by_cases g51 : a = 51
  · subst g51
    first | (simp [pcV, pcV_f, ctO, newV_1, newW_1, vp_updL]; done) | (simp [pcV, pcV_f, ctO, newV_1, newW_1, vp_updL]; funext d; simp [newV_1, newW_1, vp_updL])
  by_cases g52 : a = 52
  · subst g52
    first | (simp [pcV, pcV_f, ctO, newV_1, newW_1, vp_updL]; done) | (simp [pcV, pcV_f, ctO, newV_1, newW_1, vp_updL]; funext d; simp [newV_1, newW_1, vp_updL])
  by_cases g53 : a = 53
  · subst g53
    first | (simp [pcV, pcV_f, ctO, newV_1, newW_1, vp_updL]; done) | (simp [pcV, pcV_f, ctO, newV_1, newW_1, vp_updL]; funext d; simp [newV_1, newW_1, vp_updL])
  by_cases g54 : a = 54
  · subst g54
    first | (simp [pcV, pcV_f, ctO, newV_1, newW_1, vp_updL]; done) | (simp [pcV, pcV_f, ctO, newV_1, newW_1, vp_updL]; funext d; simp [newV_1, newW_1, vp_updL])
  by_cases g5 : a = 5 ∧ b = 0
  · obtain ⟨rfl, rfl⟩ := g5
    simp [ctO, pcV]
  simp [ctO, g1, g11, g12, g2, g3, g13, g4, g7, g57, g56, g55, g50, g51, g52, g53, g54, g5]
set_option maxHeartbeats 4000000 in
theorem ctO_add_1 {cA : Nat → ClassId} {c : SC} {v : SV} {w : SW} {u : Nat → Int32} {ad : Nat → Nat → Nat} : pcU (pcU (ctO cA c v w u ad) 50 0 (.inl (cA 3, 10, .inr (.inr (.inr (.inr (va_up (sRf (c 0) (ad 1)) (c 0) (some (ad 1 (c 0)))))))))) 5 0 (.inr (5, [.ref (ad 50 0), .ref (ad 51 0), .ref (ad 52 0), .ref (ad 53 0), .ref (ad 54 0), .ref (ad 55 0), .ref (ad 56 0), .int (nI (c 0 + 1)), .int (nI (c 1)), .int (nI (c 2)), .int (nI (c 3)), .int (nI (c 4)), .int (nI (c 5))])) = ctO cA (uC c 0 (c 0 + 1)) v w u ad := by
  funext a b
  by_cases h5 : a = 5 ∧ b = 0
  · obtain ⟨rfl, rfl⟩ := h5
    simp [pcU, ctO, uC]
  by_cases hk : a = 50 ∧ b = 0
  · obtain ⟨rfl, rfl⟩ := hk
    simp [pcU, ctO, uC, sRf_up]
  have e : pcU (pcU (ctO cA c v w u ad) 50 0 (.inl (cA 3, 10, .inr (.inr (.inr (.inr (va_up (sRf (c 0) (ad 1)) (c 0) (some (ad 1 (c 0)))))))))) 5 0 (.inr (5, [.ref (ad 50 0), .ref (ad 51 0), .ref (ad 52 0), .ref (ad 53 0), .ref (ad 54 0), .ref (ad 55 0), .ref (ad 56 0), .int (nI (c 0 + 1)), .int (nI (c 1)), .int (nI (c 2)), .int (nI (c 3)), .int (nI (c 4)), .int (nI (c 5))])) a b = (ctO cA c v w u ad) a b := by simp [pcU, h5, hk]
  rw [e]
  by_cases g1 : a = 1
  · subst g1
    simp [ctO, uC]
  by_cases g11 : a = 11
  · subst g11
    simp [ctO, uC]
  by_cases g12 : a = 12
  · subst g12
    simp [ctO, uC]
  by_cases g2 : a = 2
  · subst g2
    simp [ctO, uC]
  by_cases g3 : a = 3
  · subst g3
    simp [ctO, uC]
  by_cases g13 : a = 13
  · subst g13
    simp [ctO, uC]
  by_cases g4 : a = 4
  · subst g4
    simp [ctO, uC]
  by_cases g7 : a = 7
  · subst g7
    simp [ctO, uC]
  by_cases g57 : a = 57
  · subst g57
    simp [ctO, uC]
  by_cases g56 : a = 56
  · subst g56
    simp [ctO, uC]
  by_cases g55 : a = 55
  · subst g55
    simp [ctO, uC]
  by_cases g50 : a = 50
  · subst g50
    simp [ctO, uC, show b ≠ 0 from fun hb => hk ⟨rfl, hb⟩]
  by_cases g51 : a = 51
  · subst g51
    simp [ctO, uC]
  by_cases g52 : a = 52
  · subst g52
    simp [ctO, uC]
  by_cases g53 : a = 53
  · subst g53
    simp [ctO, uC]
  by_cases g54 : a = 54
  · subst g54
    simp [ctO, uC]
  simp [ctO, g1, g11, g12, g2, g3, g13, g4, g7, g57, g56, g55, g50, g51, g52, g53, g54, h5]
theorem MEM_add_1 {c : SC} {NL : List (Nat × Nat)} (h : MEM c NL) : MEM (uC c 0 (c 0 + 1)) (NL ++ [(1, c 0)] ++ [(11, c 0)] ++ [(12, c 0)]) := by
  have hm : ∀ p, p ∈ NL → p ∈ (NL ++ [(1, c 0)] ++ [(11, c 0)] ++ [(12, c 0)]) := fun p hp => by simp [hp]
  exact ⟨hm _ h.1, fun k a b => hm _ (h.2.1 k a b), fun i hi => hm _ (h.2.2.1 i hi), fun i hi => (uC_lt hi).elim (fun hi => ⟨hm _ (h.2.2.2.1 i hi).1, hm _ (h.2.2.2.1 i hi).2.1, hm _ (h.2.2.2.1 i hi).2.2⟩) (fun e => by subst e; simp), fun i hi => hm _ (h.2.2.2.2.1 i hi), fun i hi => ⟨hm _ (h.2.2.2.2.2.1 i hi).1, hm _ (h.2.2.2.2.2.1 i hi).2⟩, fun i hi => hm _ (h.2.2.2.2.2.2.1 i hi), fun i hi => hm _ (h.2.2.2.2.2.2.2 i hi)⟩
theorem NMEM_add_1 {c : SC} {NL : List (Nat × Nat)} (h : NMEM c NL) : NMEM (uC c 0 (c 0 + 1)) (NL ++ [(1, c 0)] ++ [(11, c 0)] ++ [(12, c 0)]) := by
  obtain ⟨h1, h2, h3, h4, h7⟩ := h
  refine ⟨fun k i hk hi => ?_, fun i hi => ?_, fun k i hk hi => ?_, fun i hi => ?_, fun i hi => ?_⟩
  · have := h1 k i hk
    rcases hk with rfl | rfl | rfl <;> (simp [uC] at hi ⊢; first | omega | (rcases hi with hi | hi <;> first | (have := this hi; omega) | omega) | (exact this hi))
  · have := h2 i
    simp [uC] at hi ⊢
    first | omega | (rcases hi with hi | hi <;> first | (have := this hi; omega) | omega) | (exact this hi)
  · have := h3 k i hk
    rcases hk with rfl | rfl <;> (simp [uC] at hi ⊢; first | omega | (rcases hi with hi | hi <;> first | (have := this hi; omega) | omega) | (exact this hi))
  · have := h4 i
    simp [uC] at hi ⊢
    first | omega | (rcases hi with hi | hi <;> first | (have := this hi; omega) | omega) | (exact this hi)
  · have := h7 i
    simp [uC] at hi ⊢
    first | omega | (rcases hi with hi | hi <;> first | (have := this hi; omega) | omega) | (exact this hi)
def newV_2 (v : SV) (n : Nat) (x1 : Int32) (x2 : Int32) (x3 : Int32) : SV := fun a b d => if b = n ∧ a = 2 then (if d = 0 then x1 else if d = 1 then x2 else x3) else v a b d
set_option maxHeartbeats 4000000 in
theorem ctO_new_2 {cA : Nat → ClassId} {c : SC} {v : SV} {w : SW} {u : Nat → Int32} {ad : Nat → Nat → Nat} {n q : Nat} {x1 : Int32} {x2 : Int32} {x3 : Int32} (hn : n = c 1) : (pcU (ctO cA c v w u ad) 2 n (.inr (1, [.int x1, .int x2, .int x3]))) = ctO cA c (newV_2 v n x1 x2 x3) w u (pcV ad 2 n q) := by
  funext a b
  by_cases h2 : a = 2 ∧ b = n
  · obtain ⟨rfl, rfl⟩ := h2
    first | (simp [pcU, pcV, ctO, newV_2, vp_updL]; done) | (simp [pcU, pcV, ctO, newV_2, vp_updL]; funext d; simp [newV_2, vp_updL])
  have e : (pcU (ctO cA c v w u ad) 2 n (.inr (1, [.int x1, .int x2, .int x3]))) a b = (ctO cA c v w u ad) a b := by simp [pcU, h2]
  rw [e]
  by_cases g1 : a = 1
  · subst g1
    first | (simp [pcV, pcV_f, ctO, newV_2, vp_updL]; done) | (simp [pcV, pcV_f, ctO, newV_2, vp_updL]; funext d; simp [newV_2, vp_updL])
  by_cases g11 : a = 11
  · subst g11
    first | (simp [pcV, pcV_f, ctO, newV_2, vp_updL]; done) | (simp [pcV, pcV_f, ctO, newV_2, vp_updL]; funext d; simp [newV_2, vp_updL])
  by_cases g12 : a = 12
  · subst g12
    first | (simp [pcV, pcV_f, ctO, newV_2, vp_updL]; done) | (simp [pcV, pcV_f, ctO, newV_2, vp_updL]; funext d; simp [newV_2, vp_updL])
  by_cases g2 : a = 2
  · subst g2
    first | (simp [pcV, pcV_f, ctO, newV_2, vp_updL, show b ≠ n from fun hb => h2 ⟨rfl, hb⟩]; done) | (simp [pcV, pcV_f, ctO, newV_2, vp_updL, show b ≠ n from fun hb => h2 ⟨rfl, hb⟩]; funext d; simp [newV_2, vp_updL, show b ≠ n from fun hb => h2 ⟨rfl, hb⟩])
  by_cases g3 : a = 3
  · subst g3
    first | (simp [pcV, pcV_f, ctO, newV_2, vp_updL]; done) | (simp [pcV, pcV_f, ctO, newV_2, vp_updL]; funext d; simp [newV_2, vp_updL])
  by_cases g13 : a = 13
  · subst g13
    first | (simp [pcV, pcV_f, ctO, newV_2, vp_updL]; done) | (simp [pcV, pcV_f, ctO, newV_2, vp_updL]; funext d; simp [newV_2, vp_updL])
  by_cases g4 : a = 4
  · subst g4
    first | (simp [pcV, pcV_f, ctO, newV_2, vp_updL]; done) | (simp [pcV, pcV_f, ctO, newV_2, vp_updL]; funext d; simp [newV_2, vp_updL])
  by_cases g7 : a = 7
  · subst g7
    first | (simp [pcV, pcV_f, ctO, newV_2, vp_updL]; done) | (simp [pcV, pcV_f, ctO, newV_2, vp_updL]; funext d; simp [newV_2, vp_updL])
  by_cases g57 : a = 57
  · subst g57
    first | (simp [pcV, pcV_f, ctO, newV_2, vp_updL]; done) | (simp [pcV, pcV_f, ctO, newV_2, vp_updL]; funext d; simp [newV_2, vp_updL])
  by_cases g56 : a = 56
  · subst g56
    first | (simp [pcV, pcV_f, ctO, newV_2, vp_updL]; done) | (simp [pcV, pcV_f, ctO, newV_2, vp_updL]; funext d; simp [newV_2, vp_updL])
  by_cases g55 : a = 55
  · subst g55
    first | (simp [pcV, pcV_f, ctO, newV_2, vp_updL]; done) | (simp [pcV, pcV_f, ctO, newV_2, vp_updL]; funext d; simp [newV_2, vp_updL])
  by_cases g50 : a = 50
  · subst g50
    first | (simp [pcV, pcV_f, ctO, newV_2, vp_updL]; done) | (simp [pcV, pcV_f, ctO, newV_2, vp_updL]; funext d; simp [newV_2, vp_updL])
  by_cases g51 : a = 51
  · subst g51
    have e2 : sRf (c 1) ((pcV ad 2 n q) 2) = sRf (c 1) (ad 2) := by
      subst hn
      exact sRf_V
    rw [ctO_51, ctO_51, e2]
  by_cases g52 : a = 52
  · subst g52
    first | (simp [pcV, pcV_f, ctO, newV_2, vp_updL]; done) | (simp [pcV, pcV_f, ctO, newV_2, vp_updL]; funext d; simp [newV_2, vp_updL])
  by_cases g53 : a = 53
  · subst g53
    first | (simp [pcV, pcV_f, ctO, newV_2, vp_updL]; done) | (simp [pcV, pcV_f, ctO, newV_2, vp_updL]; funext d; simp [newV_2, vp_updL])
  by_cases g54 : a = 54
  · subst g54
    first | (simp [pcV, pcV_f, ctO, newV_2, vp_updL]; done) | (simp [pcV, pcV_f, ctO, newV_2, vp_updL]; funext d; simp [newV_2, vp_updL])
  by_cases g5 : a = 5 ∧ b = 0
  · obtain ⟨rfl, rfl⟩ := g5
    simp [ctO, pcV]
  simp [ctO, g1, g11, g12, g2, g3, g13, g4, g7, g57, g56, g55, g50, g51, g52, g53, g54, g5]
set_option maxHeartbeats 4000000 in
theorem ctO_add_2 {cA : Nat → ClassId} {c : SC} {v : SV} {w : SW} {u : Nat → Int32} {ad : Nat → Nat → Nat} : pcU (pcU (ctO cA c v w u ad) 51 0 (.inl (cA 4, 20, .inr (.inr (.inr (.inr (va_up (sRf (c 1) (ad 2)) (c 1) (some (ad 2 (c 1)))))))))) 5 0 (.inr (5, [.ref (ad 50 0), .ref (ad 51 0), .ref (ad 52 0), .ref (ad 53 0), .ref (ad 54 0), .ref (ad 55 0), .ref (ad 56 0), .int (nI (c 0)), .int (nI (c 1 + 1)), .int (nI (c 2)), .int (nI (c 3)), .int (nI (c 4)), .int (nI (c 5))])) = ctO cA (uC c 1 (c 1 + 1)) v w u ad := by
  funext a b
  by_cases h5 : a = 5 ∧ b = 0
  · obtain ⟨rfl, rfl⟩ := h5
    simp [pcU, ctO, uC]
  by_cases hk : a = 51 ∧ b = 0
  · obtain ⟨rfl, rfl⟩ := hk
    simp [pcU, ctO, uC, sRf_up]
  have e : pcU (pcU (ctO cA c v w u ad) 51 0 (.inl (cA 4, 20, .inr (.inr (.inr (.inr (va_up (sRf (c 1) (ad 2)) (c 1) (some (ad 2 (c 1)))))))))) 5 0 (.inr (5, [.ref (ad 50 0), .ref (ad 51 0), .ref (ad 52 0), .ref (ad 53 0), .ref (ad 54 0), .ref (ad 55 0), .ref (ad 56 0), .int (nI (c 0)), .int (nI (c 1 + 1)), .int (nI (c 2)), .int (nI (c 3)), .int (nI (c 4)), .int (nI (c 5))])) a b = (ctO cA c v w u ad) a b := by simp [pcU, h5, hk]
  rw [e]
  by_cases g1 : a = 1
  · subst g1
    simp [ctO, uC]
  by_cases g11 : a = 11
  · subst g11
    simp [ctO, uC]
  by_cases g12 : a = 12
  · subst g12
    simp [ctO, uC]
  by_cases g2 : a = 2
  · subst g2
    simp [ctO, uC]
  by_cases g3 : a = 3
  · subst g3
    simp [ctO, uC]
  by_cases g13 : a = 13
  · subst g13
    simp [ctO, uC]
  by_cases g4 : a = 4
  · subst g4
    simp [ctO, uC]
  by_cases g7 : a = 7
  · subst g7
    simp [ctO, uC]
  by_cases g57 : a = 57
  · subst g57
    simp [ctO, uC]
  by_cases g56 : a = 56
  · subst g56
    simp [ctO, uC]
  by_cases g55 : a = 55
  · subst g55
    simp [ctO, uC]
  by_cases g50 : a = 50
  · subst g50
    simp [ctO, uC]
  by_cases g51 : a = 51
  · subst g51
    simp [ctO, uC, show b ≠ 0 from fun hb => hk ⟨rfl, hb⟩]
  by_cases g52 : a = 52
  · subst g52
    simp [ctO, uC]
  by_cases g53 : a = 53
  · subst g53
    simp [ctO, uC]
  by_cases g54 : a = 54
  · subst g54
    simp [ctO, uC]
  simp [ctO, g1, g11, g12, g2, g3, g13, g4, g7, g57, g56, g55, g50, g51, g52, g53, g54, h5]
theorem MEM_add_2 {c : SC} {NL : List (Nat × Nat)} (h : MEM c NL) : MEM (uC c 1 (c 1 + 1)) (NL ++ [(2, c 1)]) := by
  have hm : ∀ p, p ∈ NL → p ∈ (NL ++ [(2, c 1)]) := fun p hp => by simp [hp]
  exact ⟨hm _ h.1, fun k a b => hm _ (h.2.1 k a b), fun i hi => hm _ (h.2.2.1 i hi), fun i hi => ⟨hm _ (h.2.2.2.1 i hi).1, hm _ (h.2.2.2.1 i hi).2.1, hm _ (h.2.2.2.1 i hi).2.2⟩, fun i hi => (uC_lt hi).elim (fun hi => hm _ (h.2.2.2.2.1 i hi)) (fun e => by subst e; simp), fun i hi => ⟨hm _ (h.2.2.2.2.2.1 i hi).1, hm _ (h.2.2.2.2.2.1 i hi).2⟩, fun i hi => hm _ (h.2.2.2.2.2.2.1 i hi), fun i hi => hm _ (h.2.2.2.2.2.2.2 i hi)⟩
theorem NMEM_add_2 {c : SC} {NL : List (Nat × Nat)} (h : NMEM c NL) : NMEM (uC c 1 (c 1 + 1)) (NL ++ [(2, c 1)]) := by
  obtain ⟨h1, h2, h3, h4, h7⟩ := h
  refine ⟨fun k i hk hi => ?_, fun i hi => ?_, fun k i hk hi => ?_, fun i hi => ?_, fun i hi => ?_⟩
  · have := h1 k i hk
    rcases hk with rfl | rfl | rfl <;> (simp [uC] at hi ⊢; first | omega | (rcases hi with hi | hi <;> first | (have := this hi; omega) | omega) | (exact this hi))
  · have := h2 i
    simp [uC] at hi ⊢
    first | omega | (rcases hi with hi | hi <;> first | (have := this hi; omega) | omega) | (exact this hi)
  · have := h3 k i hk
    rcases hk with rfl | rfl <;> (simp [uC] at hi ⊢; first | omega | (rcases hi with hi | hi <;> first | (have := this hi; omega) | omega) | (exact this hi))
  · have := h4 i
    simp [uC] at hi ⊢
    first | omega | (rcases hi with hi | hi <;> first | (have := this hi; omega) | omega) | (exact this hi)
  · have := h7 i
    simp [uC] at hi ⊢
    first | omega | (rcases hi with hi | hi <;> first | (have := this hi; omega) | omega) | (exact this hi)
def newV_3 (v : SV) (n : Nat) (x1 : Int32) (x2 : Int32) : SV := fun a b d => if b = n ∧ (a = 3 ∨ a = 13) then (if a = 3 then (if d = 0 then x2 else x1) else -1) else v a b d
set_option maxHeartbeats 4000000 in
theorem ctO_new_3 {cA : Nat → ClassId} {c : SC} {v : SV} {w : SW} {u : Nat → Int32} {ad : Nat → Nat → Nat} {n q q1 : Nat} {x1 : Int32} {x2 : Int32} (hn : n = c 2) : (pcU (pcU (ctO cA c v w u ad) 3 n (.inr (2, [.int x2, .ref q1, .int x1]))) 13 n (.inl (cA 0, 10, .inl (fun _ => (-1))))) = ctO cA c (newV_3 v n x1 x2) w u (pcV (pcV ad 3 n q) 13 n q1) := by
  funext a b
  by_cases h13 : a = 13 ∧ b = n
  · obtain ⟨rfl, rfl⟩ := h13
    first | (simp [pcU, pcV, ctO, newV_3, vp_updL]; done) | (simp [pcU, pcV, ctO, newV_3, vp_updL]; funext d; simp [newV_3, vp_updL])
  by_cases h3 : a = 3 ∧ b = n
  · obtain ⟨rfl, rfl⟩ := h3
    first | (simp [pcU, pcV, ctO, newV_3, vp_updL]; done) | (simp [pcU, pcV, ctO, newV_3, vp_updL]; funext d; simp [newV_3, vp_updL])
  have e : (pcU (pcU (ctO cA c v w u ad) 3 n (.inr (2, [.int x2, .ref q1, .int x1]))) 13 n (.inl (cA 0, 10, .inl (fun _ => (-1))))) a b = (ctO cA c v w u ad) a b := by simp [pcU, h3, h13]
  rw [e]
  by_cases g1 : a = 1
  · subst g1
    first | (simp [pcV, pcV_f, ctO, newV_3, vp_updL]; done) | (simp [pcV, pcV_f, ctO, newV_3, vp_updL]; funext d; simp [newV_3, vp_updL])
  by_cases g11 : a = 11
  · subst g11
    first | (simp [pcV, pcV_f, ctO, newV_3, vp_updL]; done) | (simp [pcV, pcV_f, ctO, newV_3, vp_updL]; funext d; simp [newV_3, vp_updL])
  by_cases g12 : a = 12
  · subst g12
    first | (simp [pcV, pcV_f, ctO, newV_3, vp_updL]; done) | (simp [pcV, pcV_f, ctO, newV_3, vp_updL]; funext d; simp [newV_3, vp_updL])
  by_cases g2 : a = 2
  · subst g2
    first | (simp [pcV, pcV_f, ctO, newV_3, vp_updL]; done) | (simp [pcV, pcV_f, ctO, newV_3, vp_updL]; funext d; simp [newV_3, vp_updL])
  by_cases g3 : a = 3
  · subst g3
    first | (simp [pcV, pcV_f, ctO, newV_3, vp_updL, show b ≠ n from fun hb => h3 ⟨rfl, hb⟩]; done) | (simp [pcV, pcV_f, ctO, newV_3, vp_updL, show b ≠ n from fun hb => h3 ⟨rfl, hb⟩]; funext d; simp [newV_3, vp_updL, show b ≠ n from fun hb => h3 ⟨rfl, hb⟩])
  by_cases g13 : a = 13
  · subst g13
    first | (simp [pcV, pcV_f, ctO, newV_3, vp_updL, show b ≠ n from fun hb => h13 ⟨rfl, hb⟩]; done) | (simp [pcV, pcV_f, ctO, newV_3, vp_updL, show b ≠ n from fun hb => h13 ⟨rfl, hb⟩]; funext d; simp [newV_3, vp_updL, show b ≠ n from fun hb => h13 ⟨rfl, hb⟩])
  by_cases g4 : a = 4
  · subst g4
    first | (simp [pcV, pcV_f, ctO, newV_3, vp_updL]; done) | (simp [pcV, pcV_f, ctO, newV_3, vp_updL]; funext d; simp [newV_3, vp_updL])
  by_cases g7 : a = 7
  · subst g7
    first | (simp [pcV, pcV_f, ctO, newV_3, vp_updL]; done) | (simp [pcV, pcV_f, ctO, newV_3, vp_updL]; funext d; simp [newV_3, vp_updL])
  by_cases g57 : a = 57
  · subst g57
    first | (simp [pcV, pcV_f, ctO, newV_3, vp_updL]; done) | (simp [pcV, pcV_f, ctO, newV_3, vp_updL]; funext d; simp [newV_3, vp_updL])
  by_cases g56 : a = 56
  · subst g56
    first | (simp [pcV, pcV_f, ctO, newV_3, vp_updL]; done) | (simp [pcV, pcV_f, ctO, newV_3, vp_updL]; funext d; simp [newV_3, vp_updL])
  by_cases g55 : a = 55
  · subst g55
    first | (simp [pcV, pcV_f, ctO, newV_3, vp_updL]; done) | (simp [pcV, pcV_f, ctO, newV_3, vp_updL]; funext d; simp [newV_3, vp_updL])
  by_cases g50 : a = 50
  · subst g50
    first | (simp [pcV, pcV_f, ctO, newV_3, vp_updL]; done) | (simp [pcV, pcV_f, ctO, newV_3, vp_updL]; funext d; simp [newV_3, vp_updL])
  by_cases g51 : a = 51
  · subst g51
    first | (simp [pcV, pcV_f, ctO, newV_3, vp_updL]; done) | (simp [pcV, pcV_f, ctO, newV_3, vp_updL]; funext d; simp [newV_3, vp_updL])
  by_cases g52 : a = 52
  · subst g52
    have e2 : sRf (c 2) ((pcV (pcV ad 3 n q) 13 n q1) 3) = sRf (c 2) (ad 3) := by
      subst hn
      exact sRf_V
    rw [ctO_52, ctO_52, e2]
  by_cases g53 : a = 53
  · subst g53
    first | (simp [pcV, pcV_f, ctO, newV_3, vp_updL]; done) | (simp [pcV, pcV_f, ctO, newV_3, vp_updL]; funext d; simp [newV_3, vp_updL])
  by_cases g54 : a = 54
  · subst g54
    first | (simp [pcV, pcV_f, ctO, newV_3, vp_updL]; done) | (simp [pcV, pcV_f, ctO, newV_3, vp_updL]; funext d; simp [newV_3, vp_updL])
  by_cases g5 : a = 5 ∧ b = 0
  · obtain ⟨rfl, rfl⟩ := g5
    simp [ctO, pcV]
  simp [ctO, g1, g11, g12, g2, g3, g13, g4, g7, g57, g56, g55, g50, g51, g52, g53, g54, g5]
set_option maxHeartbeats 4000000 in
theorem ctO_add_3 {cA : Nat → ClassId} {c : SC} {v : SV} {w : SW} {u : Nat → Int32} {ad : Nat → Nat → Nat} : pcU (pcU (ctO cA c v w u ad) 52 0 (.inl (cA 5, 20, .inr (.inr (.inr (.inr (va_up (sRf (c 2) (ad 3)) (c 2) (some (ad 3 (c 2)))))))))) 5 0 (.inr (5, [.ref (ad 50 0), .ref (ad 51 0), .ref (ad 52 0), .ref (ad 53 0), .ref (ad 54 0), .ref (ad 55 0), .ref (ad 56 0), .int (nI (c 0)), .int (nI (c 1)), .int (nI (c 2 + 1)), .int (nI (c 3)), .int (nI (c 4)), .int (nI (c 5))])) = ctO cA (uC c 2 (c 2 + 1)) v w u ad := by
  funext a b
  by_cases h5 : a = 5 ∧ b = 0
  · obtain ⟨rfl, rfl⟩ := h5
    simp [pcU, ctO, uC]
  by_cases hk : a = 52 ∧ b = 0
  · obtain ⟨rfl, rfl⟩ := hk
    simp [pcU, ctO, uC, sRf_up]
  have e : pcU (pcU (ctO cA c v w u ad) 52 0 (.inl (cA 5, 20, .inr (.inr (.inr (.inr (va_up (sRf (c 2) (ad 3)) (c 2) (some (ad 3 (c 2)))))))))) 5 0 (.inr (5, [.ref (ad 50 0), .ref (ad 51 0), .ref (ad 52 0), .ref (ad 53 0), .ref (ad 54 0), .ref (ad 55 0), .ref (ad 56 0), .int (nI (c 0)), .int (nI (c 1)), .int (nI (c 2 + 1)), .int (nI (c 3)), .int (nI (c 4)), .int (nI (c 5))])) a b = (ctO cA c v w u ad) a b := by simp [pcU, h5, hk]
  rw [e]
  by_cases g1 : a = 1
  · subst g1
    simp [ctO, uC]
  by_cases g11 : a = 11
  · subst g11
    simp [ctO, uC]
  by_cases g12 : a = 12
  · subst g12
    simp [ctO, uC]
  by_cases g2 : a = 2
  · subst g2
    simp [ctO, uC]
  by_cases g3 : a = 3
  · subst g3
    simp [ctO, uC]
  by_cases g13 : a = 13
  · subst g13
    simp [ctO, uC]
  by_cases g4 : a = 4
  · subst g4
    simp [ctO, uC]
  by_cases g7 : a = 7
  · subst g7
    simp [ctO, uC]
  by_cases g57 : a = 57
  · subst g57
    simp [ctO, uC]
  by_cases g56 : a = 56
  · subst g56
    simp [ctO, uC]
  by_cases g55 : a = 55
  · subst g55
    simp [ctO, uC]
  by_cases g50 : a = 50
  · subst g50
    simp [ctO, uC]
  by_cases g51 : a = 51
  · subst g51
    simp [ctO, uC]
  by_cases g52 : a = 52
  · subst g52
    simp [ctO, uC, show b ≠ 0 from fun hb => hk ⟨rfl, hb⟩]
  by_cases g53 : a = 53
  · subst g53
    simp [ctO, uC]
  by_cases g54 : a = 54
  · subst g54
    simp [ctO, uC]
  simp [ctO, g1, g11, g12, g2, g3, g13, g4, g7, g57, g56, g55, g50, g51, g52, g53, g54, h5]
theorem MEM_add_3 {c : SC} {NL : List (Nat × Nat)} (h : MEM c NL) : MEM (uC c 2 (c 2 + 1)) (NL ++ [(3, c 2)] ++ [(13, c 2)]) := by
  have hm : ∀ p, p ∈ NL → p ∈ (NL ++ [(3, c 2)] ++ [(13, c 2)]) := fun p hp => by simp [hp]
  exact ⟨hm _ h.1, fun k a b => hm _ (h.2.1 k a b), fun i hi => hm _ (h.2.2.1 i hi), fun i hi => ⟨hm _ (h.2.2.2.1 i hi).1, hm _ (h.2.2.2.1 i hi).2.1, hm _ (h.2.2.2.1 i hi).2.2⟩, fun i hi => hm _ (h.2.2.2.2.1 i hi), fun i hi => (uC_lt hi).elim (fun hi => ⟨hm _ (h.2.2.2.2.2.1 i hi).1, hm _ (h.2.2.2.2.2.1 i hi).2⟩) (fun e => by subst e; simp), fun i hi => hm _ (h.2.2.2.2.2.2.1 i hi), fun i hi => hm _ (h.2.2.2.2.2.2.2 i hi)⟩
theorem NMEM_add_3 {c : SC} {NL : List (Nat × Nat)} (h : NMEM c NL) : NMEM (uC c 2 (c 2 + 1)) (NL ++ [(3, c 2)] ++ [(13, c 2)]) := by
  obtain ⟨h1, h2, h3, h4, h7⟩ := h
  refine ⟨fun k i hk hi => ?_, fun i hi => ?_, fun k i hk hi => ?_, fun i hi => ?_, fun i hi => ?_⟩
  · have := h1 k i hk
    rcases hk with rfl | rfl | rfl <;> (simp [uC] at hi ⊢; first | omega | (rcases hi with hi | hi <;> first | (have := this hi; omega) | omega) | (exact this hi))
  · have := h2 i
    simp [uC] at hi ⊢
    first | omega | (rcases hi with hi | hi <;> first | (have := this hi; omega) | omega) | (exact this hi)
  · have := h3 k i hk
    rcases hk with rfl | rfl <;> (simp [uC] at hi ⊢; first | omega | (rcases hi with hi | hi <;> first | (have := this hi; omega) | omega) | (exact this hi))
  · have := h4 i
    simp [uC] at hi ⊢
    first | omega | (rcases hi with hi | hi <;> first | (have := this hi; omega) | omega) | (exact this hi)
  · have := h7 i
    simp [uC] at hi ⊢
    first | omega | (rcases hi with hi | hi <;> first | (have := this hi; omega) | omega) | (exact this hi)
def newV_4 (v : SV) (n : Nat) (x1 : Int32) (x2 : Int64) : SV := fun a b d => if b = n ∧ a = 4 then (if d = 0 then x1 else 0) else v a b d
def newW_4 (w : SW) (n : Nat) (x2 : Int64) : SW := fun a b d => if b = n ∧ a = 4 then x2 else w a b d
set_option maxHeartbeats 4000000 in
theorem ctO_new_4 {cA : Nat → ClassId} {c : SC} {v : SV} {w : SW} {u : Nat → Int32} {ad : Nat → Nat → Nat} {n q : Nat} {x1 : Int32} {x2 : Int64} (hn : n = c 3) : (pcU (ctO cA c v w u ad) 4 n (.inr (0, [.int x1, .long x2, .int 0]))) = ctO cA c (newV_4 v n x1 x2) (newW_4 w n x2) u (pcV ad 4 n q) := by
  funext a b
  by_cases h4 : a = 4 ∧ b = n
  · obtain ⟨rfl, rfl⟩ := h4
    first | (simp [pcU, pcV, ctO, newV_4, newW_4, vp_updL]; done) | (simp [pcU, pcV, ctO, newV_4, newW_4, vp_updL]; funext d; simp [newV_4, newW_4, vp_updL])
  have e : (pcU (ctO cA c v w u ad) 4 n (.inr (0, [.int x1, .long x2, .int 0]))) a b = (ctO cA c v w u ad) a b := by simp [pcU, h4]
  rw [e]
  by_cases g1 : a = 1
  · subst g1
    first | (simp [pcV, pcV_f, ctO, newV_4, newW_4, vp_updL]; done) | (simp [pcV, pcV_f, ctO, newV_4, newW_4, vp_updL]; funext d; simp [newV_4, newW_4, vp_updL])
  by_cases g11 : a = 11
  · subst g11
    first | (simp [pcV, pcV_f, ctO, newV_4, newW_4, vp_updL]; done) | (simp [pcV, pcV_f, ctO, newV_4, newW_4, vp_updL]; funext d; simp [newV_4, newW_4, vp_updL])
  by_cases g12 : a = 12
  · subst g12
    first | (simp [pcV, pcV_f, ctO, newV_4, newW_4, vp_updL]; done) | (simp [pcV, pcV_f, ctO, newV_4, newW_4, vp_updL]; funext d; simp [newV_4, newW_4, vp_updL])
  by_cases g2 : a = 2
  · subst g2
    first | (simp [pcV, pcV_f, ctO, newV_4, newW_4, vp_updL]; done) | (simp [pcV, pcV_f, ctO, newV_4, newW_4, vp_updL]; funext d; simp [newV_4, newW_4, vp_updL])
  by_cases g3 : a = 3
  · subst g3
    first | (simp [pcV, pcV_f, ctO, newV_4, newW_4, vp_updL]; done) | (simp [pcV, pcV_f, ctO, newV_4, newW_4, vp_updL]; funext d; simp [newV_4, newW_4, vp_updL])
  by_cases g13 : a = 13
  · subst g13
    first | (simp [pcV, pcV_f, ctO, newV_4, newW_4, vp_updL]; done) | (simp [pcV, pcV_f, ctO, newV_4, newW_4, vp_updL]; funext d; simp [newV_4, newW_4, vp_updL])
  by_cases g4 : a = 4
  · subst g4
    first | (simp [pcV, pcV_f, ctO, newV_4, newW_4, vp_updL, show b ≠ n from fun hb => h4 ⟨rfl, hb⟩]; done) | (simp [pcV, pcV_f, ctO, newV_4, newW_4, vp_updL, show b ≠ n from fun hb => h4 ⟨rfl, hb⟩]; funext d; simp [newV_4, newW_4, vp_updL, show b ≠ n from fun hb => h4 ⟨rfl, hb⟩])
  by_cases g7 : a = 7
  · subst g7
    first | (simp [pcV, pcV_f, ctO, newV_4, newW_4, vp_updL]; done) | (simp [pcV, pcV_f, ctO, newV_4, newW_4, vp_updL]; funext d; simp [newV_4, newW_4, vp_updL])
  by_cases g57 : a = 57
  · subst g57
    first | (simp [pcV, pcV_f, ctO, newV_4, newW_4, vp_updL]; done) | (simp [pcV, pcV_f, ctO, newV_4, newW_4, vp_updL]; funext d; simp [newV_4, newW_4, vp_updL])
  by_cases g56 : a = 56
  · subst g56
    first | (simp [pcV, pcV_f, ctO, newV_4, newW_4, vp_updL]; done) | (simp [pcV, pcV_f, ctO, newV_4, newW_4, vp_updL]; funext d; simp [newV_4, newW_4, vp_updL])
  by_cases g55 : a = 55
  · subst g55
    first | (simp [pcV, pcV_f, ctO, newV_4, newW_4, vp_updL]; done) | (simp [pcV, pcV_f, ctO, newV_4, newW_4, vp_updL]; funext d; simp [newV_4, newW_4, vp_updL])
  by_cases g50 : a = 50
  · subst g50
    first | (simp [pcV, pcV_f, ctO, newV_4, newW_4, vp_updL]; done) | (simp [pcV, pcV_f, ctO, newV_4, newW_4, vp_updL]; funext d; simp [newV_4, newW_4, vp_updL])
  by_cases g51 : a = 51
  · subst g51
    first | (simp [pcV, pcV_f, ctO, newV_4, newW_4, vp_updL]; done) | (simp [pcV, pcV_f, ctO, newV_4, newW_4, vp_updL]; funext d; simp [newV_4, newW_4, vp_updL])
  by_cases g52 : a = 52
  · subst g52
    first | (simp [pcV, pcV_f, ctO, newV_4, newW_4, vp_updL]; done) | (simp [pcV, pcV_f, ctO, newV_4, newW_4, vp_updL]; funext d; simp [newV_4, newW_4, vp_updL])
  by_cases g53 : a = 53
  · subst g53
    have e2 : sRf (c 3) ((pcV ad 4 n q) 4) = sRf (c 3) (ad 4) := by
      subst hn
      exact sRf_V
    rw [ctO_53, ctO_53, e2]
  by_cases g54 : a = 54
  · subst g54
    first | (simp [pcV, pcV_f, ctO, newV_4, newW_4, vp_updL]; done) | (simp [pcV, pcV_f, ctO, newV_4, newW_4, vp_updL]; funext d; simp [newV_4, newW_4, vp_updL])
  by_cases g5 : a = 5 ∧ b = 0
  · obtain ⟨rfl, rfl⟩ := g5
    simp [ctO, pcV]
  simp [ctO, g1, g11, g12, g2, g3, g13, g4, g7, g57, g56, g55, g50, g51, g52, g53, g54, g5]
set_option maxHeartbeats 4000000 in
theorem ctO_add_4 {cA : Nat → ClassId} {c : SC} {v : SV} {w : SW} {u : Nat → Int32} {ad : Nat → Nat → Nat} : pcU (pcU (ctO cA c v w u ad) 53 0 (.inl (cA 6, 20, .inr (.inr (.inr (.inr (va_up (sRf (c 3) (ad 4)) (c 3) (some (ad 4 (c 3)))))))))) 5 0 (.inr (5, [.ref (ad 50 0), .ref (ad 51 0), .ref (ad 52 0), .ref (ad 53 0), .ref (ad 54 0), .ref (ad 55 0), .ref (ad 56 0), .int (nI (c 0)), .int (nI (c 1)), .int (nI (c 2)), .int (nI (c 3 + 1)), .int (nI (c 4)), .int (nI (c 5))])) = ctO cA (uC c 3 (c 3 + 1)) v w u ad := by
  funext a b
  by_cases h5 : a = 5 ∧ b = 0
  · obtain ⟨rfl, rfl⟩ := h5
    simp [pcU, ctO, uC]
  by_cases hk : a = 53 ∧ b = 0
  · obtain ⟨rfl, rfl⟩ := hk
    simp [pcU, ctO, uC, sRf_up]
  have e : pcU (pcU (ctO cA c v w u ad) 53 0 (.inl (cA 6, 20, .inr (.inr (.inr (.inr (va_up (sRf (c 3) (ad 4)) (c 3) (some (ad 4 (c 3)))))))))) 5 0 (.inr (5, [.ref (ad 50 0), .ref (ad 51 0), .ref (ad 52 0), .ref (ad 53 0), .ref (ad 54 0), .ref (ad 55 0), .ref (ad 56 0), .int (nI (c 0)), .int (nI (c 1)), .int (nI (c 2)), .int (nI (c 3 + 1)), .int (nI (c 4)), .int (nI (c 5))])) a b = (ctO cA c v w u ad) a b := by simp [pcU, h5, hk]
  rw [e]
  by_cases g1 : a = 1
  · subst g1
    simp [ctO, uC]
  by_cases g11 : a = 11
  · subst g11
    simp [ctO, uC]
  by_cases g12 : a = 12
  · subst g12
    simp [ctO, uC]
  by_cases g2 : a = 2
  · subst g2
    simp [ctO, uC]
  by_cases g3 : a = 3
  · subst g3
    simp [ctO, uC]
  by_cases g13 : a = 13
  · subst g13
    simp [ctO, uC]
  by_cases g4 : a = 4
  · subst g4
    simp [ctO, uC]
  by_cases g7 : a = 7
  · subst g7
    simp [ctO, uC]
  by_cases g57 : a = 57
  · subst g57
    simp [ctO, uC]
  by_cases g56 : a = 56
  · subst g56
    simp [ctO, uC]
  by_cases g55 : a = 55
  · subst g55
    simp [ctO, uC]
  by_cases g50 : a = 50
  · subst g50
    simp [ctO, uC]
  by_cases g51 : a = 51
  · subst g51
    simp [ctO, uC]
  by_cases g52 : a = 52
  · subst g52
    simp [ctO, uC]
  by_cases g53 : a = 53
  · subst g53
    simp [ctO, uC, show b ≠ 0 from fun hb => hk ⟨rfl, hb⟩]
  by_cases g54 : a = 54
  · subst g54
    simp [ctO, uC]
  simp [ctO, g1, g11, g12, g2, g3, g13, g4, g7, g57, g56, g55, g50, g51, g52, g53, g54, h5]
theorem MEM_add_4 {c : SC} {NL : List (Nat × Nat)} (h : MEM c NL) : MEM (uC c 3 (c 3 + 1)) (NL ++ [(4, c 3)]) := by
  have hm : ∀ p, p ∈ NL → p ∈ (NL ++ [(4, c 3)]) := fun p hp => by simp [hp]
  exact ⟨hm _ h.1, fun k a b => hm _ (h.2.1 k a b), fun i hi => hm _ (h.2.2.1 i hi), fun i hi => ⟨hm _ (h.2.2.2.1 i hi).1, hm _ (h.2.2.2.1 i hi).2.1, hm _ (h.2.2.2.1 i hi).2.2⟩, fun i hi => hm _ (h.2.2.2.2.1 i hi), fun i hi => ⟨hm _ (h.2.2.2.2.2.1 i hi).1, hm _ (h.2.2.2.2.2.1 i hi).2⟩, fun i hi => (uC_lt hi).elim (fun hi => hm _ (h.2.2.2.2.2.2.1 i hi)) (fun e => by subst e; simp), fun i hi => hm _ (h.2.2.2.2.2.2.2 i hi)⟩
theorem NMEM_add_4 {c : SC} {NL : List (Nat × Nat)} (h : NMEM c NL) : NMEM (uC c 3 (c 3 + 1)) (NL ++ [(4, c 3)]) := by
  obtain ⟨h1, h2, h3, h4, h7⟩ := h
  refine ⟨fun k i hk hi => ?_, fun i hi => ?_, fun k i hk hi => ?_, fun i hi => ?_, fun i hi => ?_⟩
  · have := h1 k i hk
    rcases hk with rfl | rfl | rfl <;> (simp [uC] at hi ⊢; first | omega | (rcases hi with hi | hi <;> first | (have := this hi; omega) | omega) | (exact this hi))
  · have := h2 i
    simp [uC] at hi ⊢
    first | omega | (rcases hi with hi | hi <;> first | (have := this hi; omega) | omega) | (exact this hi)
  · have := h3 k i hk
    rcases hk with rfl | rfl <;> (simp [uC] at hi ⊢; first | omega | (rcases hi with hi | hi <;> first | (have := this hi; omega) | omega) | (exact this hi))
  · have := h4 i
    simp [uC] at hi ⊢
    first | omega | (rcases hi with hi | hi <;> first | (have := this hi; omega) | omega) | (exact this hi)
  · have := h7 i
    simp [uC] at hi ⊢
    first | omega | (rcases hi with hi | hi <;> first | (have := this hi; omega) | omega) | (exact this hi)
def newV_7 (v : SV) (n : Nat) (x1 : Int32) (x2 : Int32) (x3 : Int32) : SV := fun a b d => if b = n ∧ a = 7 then (if d = 0 then x1 else if d = 1 then x2 else if d = 2 then x3 else 0) else v a b d
def newW_7 (w : SW) (n : Nat) : SW := fun a b d => if b = n ∧ a = 7 then 1099511627775 else w a b d
set_option maxHeartbeats 4000000 in
theorem ctO_new_7 {cA : Nat → ClassId} {c : SC} {v : SV} {w : SW} {u : Nat → Int32} {ad : Nat → Nat → Nat} {n q : Nat} {x1 : Int32} {x2 : Int32} {x3 : Int32} (hn : n = c 4) : (pcU (ctO cA c v w u ad) 7 n (.inr (4, [.int x1, .int x2, .int x3, .long 1099511627775, .int 0, .int 0]))) = ctO cA c (newV_7 v n x1 x2 x3) (newW_7 w n) u (pcV ad 7 n q) := by
  funext a b
  by_cases h7 : a = 7 ∧ b = n
  · obtain ⟨rfl, rfl⟩ := h7
    first | (simp [pcU, pcV, ctO, newV_7, newW_7, vp_updL]; done) | (simp [pcU, pcV, ctO, newV_7, newW_7, vp_updL]; funext d; simp [newV_7, newW_7, vp_updL])
  have e : (pcU (ctO cA c v w u ad) 7 n (.inr (4, [.int x1, .int x2, .int x3, .long 1099511627775, .int 0, .int 0]))) a b = (ctO cA c v w u ad) a b := by simp [pcU, h7]
  rw [e]
  by_cases g1 : a = 1
  · subst g1
    first | (simp [pcV, pcV_f, ctO, newV_7, newW_7, vp_updL]; done) | (simp [pcV, pcV_f, ctO, newV_7, newW_7, vp_updL]; funext d; simp [newV_7, newW_7, vp_updL])
  by_cases g11 : a = 11
  · subst g11
    first | (simp [pcV, pcV_f, ctO, newV_7, newW_7, vp_updL]; done) | (simp [pcV, pcV_f, ctO, newV_7, newW_7, vp_updL]; funext d; simp [newV_7, newW_7, vp_updL])
  by_cases g12 : a = 12
  · subst g12
    first | (simp [pcV, pcV_f, ctO, newV_7, newW_7, vp_updL]; done) | (simp [pcV, pcV_f, ctO, newV_7, newW_7, vp_updL]; funext d; simp [newV_7, newW_7, vp_updL])
  by_cases g2 : a = 2
  · subst g2
    first | (simp [pcV, pcV_f, ctO, newV_7, newW_7, vp_updL]; done) | (simp [pcV, pcV_f, ctO, newV_7, newW_7, vp_updL]; funext d; simp [newV_7, newW_7, vp_updL])
  by_cases g3 : a = 3
  · subst g3
    first | (simp [pcV, pcV_f, ctO, newV_7, newW_7, vp_updL]; done) | (simp [pcV, pcV_f, ctO, newV_7, newW_7, vp_updL]; funext d; simp [newV_7, newW_7, vp_updL])
  by_cases g13 : a = 13
  · subst g13
    first | (simp [pcV, pcV_f, ctO, newV_7, newW_7, vp_updL]; done) | (simp [pcV, pcV_f, ctO, newV_7, newW_7, vp_updL]; funext d; simp [newV_7, newW_7, vp_updL])
  by_cases g4 : a = 4
  · subst g4
    first | (simp [pcV, pcV_f, ctO, newV_7, newW_7, vp_updL]; done) | (simp [pcV, pcV_f, ctO, newV_7, newW_7, vp_updL]; funext d; simp [newV_7, newW_7, vp_updL])
  by_cases g7 : a = 7
  · subst g7
    first | (simp [pcV, pcV_f, ctO, newV_7, newW_7, vp_updL, show b ≠ n from fun hb => h7 ⟨rfl, hb⟩]; done) | (simp [pcV, pcV_f, ctO, newV_7, newW_7, vp_updL, show b ≠ n from fun hb => h7 ⟨rfl, hb⟩]; funext d; simp [newV_7, newW_7, vp_updL, show b ≠ n from fun hb => h7 ⟨rfl, hb⟩])
  by_cases g57 : a = 57
  · subst g57
    first | (simp [pcV, pcV_f, ctO, newV_7, newW_7, vp_updL]; done) | (simp [pcV, pcV_f, ctO, newV_7, newW_7, vp_updL]; funext d; simp [newV_7, newW_7, vp_updL])
  by_cases g56 : a = 56
  · subst g56
    first | (simp [pcV, pcV_f, ctO, newV_7, newW_7, vp_updL]; done) | (simp [pcV, pcV_f, ctO, newV_7, newW_7, vp_updL]; funext d; simp [newV_7, newW_7, vp_updL])
  by_cases g55 : a = 55
  · subst g55
    first | (simp [pcV, pcV_f, ctO, newV_7, newW_7, vp_updL]; done) | (simp [pcV, pcV_f, ctO, newV_7, newW_7, vp_updL]; funext d; simp [newV_7, newW_7, vp_updL])
  by_cases g50 : a = 50
  · subst g50
    first | (simp [pcV, pcV_f, ctO, newV_7, newW_7, vp_updL]; done) | (simp [pcV, pcV_f, ctO, newV_7, newW_7, vp_updL]; funext d; simp [newV_7, newW_7, vp_updL])
  by_cases g51 : a = 51
  · subst g51
    first | (simp [pcV, pcV_f, ctO, newV_7, newW_7, vp_updL]; done) | (simp [pcV, pcV_f, ctO, newV_7, newW_7, vp_updL]; funext d; simp [newV_7, newW_7, vp_updL])
  by_cases g52 : a = 52
  · subst g52
    first | (simp [pcV, pcV_f, ctO, newV_7, newW_7, vp_updL]; done) | (simp [pcV, pcV_f, ctO, newV_7, newW_7, vp_updL]; funext d; simp [newV_7, newW_7, vp_updL])
  by_cases g53 : a = 53
  · subst g53
    first | (simp [pcV, pcV_f, ctO, newV_7, newW_7, vp_updL]; done) | (simp [pcV, pcV_f, ctO, newV_7, newW_7, vp_updL]; funext d; simp [newV_7, newW_7, vp_updL])
  by_cases g54 : a = 54
  · subst g54
    have e2 : sRf (c 4) ((pcV ad 7 n q) 7) = sRf (c 4) (ad 7) := by
      subst hn
      exact sRf_V
    rw [ctO_54, ctO_54, e2]
  by_cases g5 : a = 5 ∧ b = 0
  · obtain ⟨rfl, rfl⟩ := g5
    simp [ctO, pcV]
  simp [ctO, g1, g11, g12, g2, g3, g13, g4, g7, g57, g56, g55, g50, g51, g52, g53, g54, g5]
set_option maxHeartbeats 4000000 in
theorem ctO_add_7 {cA : Nat → ClassId} {c : SC} {v : SV} {w : SW} {u : Nat → Int32} {ad : Nat → Nat → Nat} : pcU (pcU (ctO cA c v w u ad) 54 0 (.inl (cA 7, 8, .inr (.inr (.inr (.inr (va_up (sRf (c 4) (ad 7)) (c 4) (some (ad 7 (c 4)))))))))) 5 0 (.inr (5, [.ref (ad 50 0), .ref (ad 51 0), .ref (ad 52 0), .ref (ad 53 0), .ref (ad 54 0), .ref (ad 55 0), .ref (ad 56 0), .int (nI (c 0)), .int (nI (c 1)), .int (nI (c 2)), .int (nI (c 3)), .int (nI (c 4 + 1)), .int (nI (c 5))])) = ctO cA (uC c 4 (c 4 + 1)) v w u ad := by
  funext a b
  by_cases h5 : a = 5 ∧ b = 0
  · obtain ⟨rfl, rfl⟩ := h5
    simp [pcU, ctO, uC]
  by_cases hk : a = 54 ∧ b = 0
  · obtain ⟨rfl, rfl⟩ := hk
    simp [pcU, ctO, uC, sRf_up]
  have e : pcU (pcU (ctO cA c v w u ad) 54 0 (.inl (cA 7, 8, .inr (.inr (.inr (.inr (va_up (sRf (c 4) (ad 7)) (c 4) (some (ad 7 (c 4)))))))))) 5 0 (.inr (5, [.ref (ad 50 0), .ref (ad 51 0), .ref (ad 52 0), .ref (ad 53 0), .ref (ad 54 0), .ref (ad 55 0), .ref (ad 56 0), .int (nI (c 0)), .int (nI (c 1)), .int (nI (c 2)), .int (nI (c 3)), .int (nI (c 4 + 1)), .int (nI (c 5))])) a b = (ctO cA c v w u ad) a b := by simp [pcU, h5, hk]
  rw [e]
  by_cases g1 : a = 1
  · subst g1
    simp [ctO, uC]
  by_cases g11 : a = 11
  · subst g11
    simp [ctO, uC]
  by_cases g12 : a = 12
  · subst g12
    simp [ctO, uC]
  by_cases g2 : a = 2
  · subst g2
    simp [ctO, uC]
  by_cases g3 : a = 3
  · subst g3
    simp [ctO, uC]
  by_cases g13 : a = 13
  · subst g13
    simp [ctO, uC]
  by_cases g4 : a = 4
  · subst g4
    simp [ctO, uC]
  by_cases g7 : a = 7
  · subst g7
    simp [ctO, uC]
  by_cases g57 : a = 57
  · subst g57
    simp [ctO, uC]
  by_cases g56 : a = 56
  · subst g56
    simp [ctO, uC]
  by_cases g55 : a = 55
  · subst g55
    simp [ctO, uC]
  by_cases g50 : a = 50
  · subst g50
    simp [ctO, uC]
  by_cases g51 : a = 51
  · subst g51
    simp [ctO, uC]
  by_cases g52 : a = 52
  · subst g52
    simp [ctO, uC]
  by_cases g53 : a = 53
  · subst g53
    simp [ctO, uC]
  by_cases g54 : a = 54
  · subst g54
    simp [ctO, uC, show b ≠ 0 from fun hb => hk ⟨rfl, hb⟩]
  simp [ctO, g1, g11, g12, g2, g3, g13, g4, g7, g57, g56, g55, g50, g51, g52, g53, g54, h5]
theorem MEM_add_7 {c : SC} {NL : List (Nat × Nat)} (h : MEM c NL) : MEM (uC c 4 (c 4 + 1)) (NL ++ [(7, c 4)]) := by
  have hm : ∀ p, p ∈ NL → p ∈ (NL ++ [(7, c 4)]) := fun p hp => by simp [hp]
  exact ⟨hm _ h.1, fun k a b => hm _ (h.2.1 k a b), fun i hi => hm _ (h.2.2.1 i hi), fun i hi => ⟨hm _ (h.2.2.2.1 i hi).1, hm _ (h.2.2.2.1 i hi).2.1, hm _ (h.2.2.2.1 i hi).2.2⟩, fun i hi => hm _ (h.2.2.2.2.1 i hi), fun i hi => ⟨hm _ (h.2.2.2.2.2.1 i hi).1, hm _ (h.2.2.2.2.2.1 i hi).2⟩, fun i hi => hm _ (h.2.2.2.2.2.2.1 i hi), fun i hi => (uC_lt hi).elim (fun hi => hm _ (h.2.2.2.2.2.2.2 i hi)) (fun e => by subst e; simp)⟩
theorem NMEM_add_7 {c : SC} {NL : List (Nat × Nat)} (h : NMEM c NL) : NMEM (uC c 4 (c 4 + 1)) (NL ++ [(7, c 4)]) := by
  obtain ⟨h1, h2, h3, h4, h7⟩ := h
  refine ⟨fun k i hk hi => ?_, fun i hi => ?_, fun k i hk hi => ?_, fun i hi => ?_, fun i hi => ?_⟩
  · have := h1 k i hk
    rcases hk with rfl | rfl | rfl <;> (simp [uC] at hi ⊢; first | omega | (rcases hi with hi | hi <;> first | (have := this hi; omega) | omega) | (exact this hi))
  · have := h2 i
    simp [uC] at hi ⊢
    first | omega | (rcases hi with hi | hi <;> first | (have := this hi; omega) | omega) | (exact this hi)
  · have := h3 k i hk
    rcases hk with rfl | rfl <;> (simp [uC] at hi ⊢; first | omega | (rcases hi with hi | hi <;> first | (have := this hi; omega) | omega) | (exact this hi))
  · have := h4 i
    simp [uC] at hi ⊢
    first | omega | (rcases hi with hi | hi <;> first | (have := this hi; omega) | omega) | (exact this hi)
  · have := h7 i
    simp [uC] at hi ⊢
    first | omega | (rcases hi with hi | hi <;> first | (have := this hi; omega) | omega) | (exact this hi)
theorem nI_lt8 {i : Nat} (h : i < 8) : nI i < 8 := nI_lt h (by decide)
theorem nI_lt10 {i : Nat} (h : i < 10) : nI i < 10 := nI_lt h (by decide)
theorem nI_lt20 {i : Nat} (h : i < 20) : nI i < 20 := nI_lt h (by decide)
theorem BND_0 {c : SC} (h : BND c) (hk : c 0 < 10) : BND (uC c 0 (c 0 + 1)) := ⟨(show c 0 + 1 ≤ 10 by omega), h.2.1, h.2.2.1, h.2.2.2.1, h.2.2.2.2⟩
theorem BND_1 {c : SC} (h : BND c) (hk : c 1 < 20) : BND (uC c 1 (c 1 + 1)) := ⟨h.1, (show c 1 + 1 ≤ 20 by omega), h.2.2.1, h.2.2.2.1, h.2.2.2.2⟩
theorem BND_2 {c : SC} (h : BND c) (hk : c 2 < 20) : BND (uC c 2 (c 2 + 1)) := ⟨h.1, h.2.1, (show c 2 + 1 ≤ 20 by omega), h.2.2.2.1, h.2.2.2.2⟩
theorem BND_3 {c : SC} (h : BND c) (hk : c 3 < 20) : BND (uC c 3 (c 3 + 1)) := ⟨h.1, h.2.1, h.2.2.1, (show c 3 + 1 ≤ 20 by omega), h.2.2.2.2⟩
theorem BND_4 {c : SC} (h : BND c) (hk : c 4 < 8) : BND (uC c 4 (c 4 + 1)) := ⟨h.1, h.2.1, h.2.2.1, h.2.2.2.1, (show c 4 + 1 ≤ 8 by omega)⟩
theorem WF_add_2 {c : SC} {v : SV} {x1 x2 x3 : Int32} (h : WF c v) (hn : ¬ x2 < 0) (h2 : x2.toNatClampNeg < c 0) : WF (uC c 1 (c 1 + 1)) (newV_2 v (c 1) x1 x2 x3) := by
  refine ⟨fun i hi => ?_, fun i hi => ?_, fun i hi => ?_⟩
  · by_cases e : i = c 1
    · subst e
      have e2 : newV_2 v (c 1) x1 x2 x3 2 (c 1) 1 = x2 := by simp [newV_2]
      rw [e2]; exact ⟨hn, h2⟩
    · have e2 : newV_2 v (c 1) x1 x2 x3 2 i 1 = v 2 i 1 := by simp [newV_2, e]
      rw [e2]; exact h.1 i ((uC_lt hi).elim id (fun q => absurd q e))
  · have e2 : newV_2 v (c 1) x1 x2 x3 7 i 0 = v 7 i 0 := by simp [newV_2]
    rw [e2]; exact h.2.1 i hi
  · have e2 : newV_2 v (c 1) x1 x2 x3 1 i 1 = v 1 i 1 := by simp [newV_2]
    rw [e2]; exact h.2.2 i hi
theorem WF_add_4 {c : SC} {v : SV} {x1 : Int32} {x2 : Int64} (h : WF c v) : WF (uC c 3 (c 3 + 1)) (newV_4 v (c 3) x1 x2) := by
  refine ⟨fun i hi => ?_, fun i hi => ?_, fun i hi => ?_⟩
  · have e2 : newV_4 v (c 3) x1 x2 2 i 1 = v 2 i 1 := by simp [newV_4]
    rw [e2]; exact h.1 i hi
  · have e2 : newV_4 v (c 3) x1 x2 7 i 0 = v 7 i 0 := by simp [newV_4]
    rw [e2]; exact h.2.1 i hi
  · have e2 : newV_4 v (c 3) x1 x2 1 i 1 = v 1 i 1 := by simp [newV_4]
    rw [e2]; exact h.2.2 i hi

