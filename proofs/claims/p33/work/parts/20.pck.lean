/-! THE PICTURE BY NAMES: a world is a list of names (kind, number); where each lies: ad; what it holds: ct. Rows over it, each out of the kit's row by the name's place. -/
def pcW (NL : List (Nat × Nat)) (ad : Nat → Nat → Nat) (ct : Nat → Nat → va_E) : va_W := NL.map (fun n => (ad n.1 n.2, ct n.1 n.2))
def pcU (ct : Nat → Nat → va_E) (k i : Nat) (e : va_E) : Nat → Nat → va_E := fun k' i' => if k' = k ∧ i' = i then e else ct k' i'
def pcV (ad : Nat → Nat → Nat) (k i q : Nat) : Nat → Nat → Nat := fun k' i' => if k' = k ∧ i' = i then q else ad k' i'
theorem pcU_self (ct : Nat → Nat → va_E) (k i : Nat) (e : va_E) : pcU ct k i e k i = e := by simp [pcU]
theorem pcU_k {ct : Nat → Nat → va_E} {k i k' i' : Nat} {e : va_E} (h : k' ≠ k) : pcU ct k i e k' i' = ct k' i' := by simp [pcU, h]
theorem pcU_i {ct : Nat → Nat → va_E} {k i k' i' : Nat} {e : va_E} (h : i' ≠ i) : pcU ct k i e k' i' = ct k' i' := by simp [pcU, h]
theorem pcV_self (ad : Nat → Nat → Nat) (k i q : Nat) : pcV ad k i q k i = q := by simp [pcV]
theorem pcV_k {ad : Nat → Nat → Nat} {k i k' i' q : Nat} (h : k' ≠ k) : pcV ad k i q k' i' = ad k' i' := by simp [pcV, h]
theorem pcV_i {ad : Nat → Nat → Nat} {k i k' i' q : Nat} (h : i' ≠ i) : pcV ad k i q k' i' = ad k' i' := by simp [pcV, h]
theorem pc_place {NL : List (Nat × Nat)} {ad : Nat → Nat → Nat} {ct : Nat → Nat → va_E} {k i : Nat} (h : (k, i) ∈ NL) : ∃ j : Nat, NL[j]? = some (k, i) ∧ (pcW NL ad ct)[j]? = some (ad k i, ct k i) := by
  obtain ⟨j, hj⟩ := List.getElem?_of_mem h
  exact ⟨j, hj, by simp [pcW, hj]⟩
theorem pc_mem {NL : List (Nat × Nat)} {ad : Nat → Nat → Nat} {ct : Nat → Nat → va_E} {j : Nat} {q : Nat × va_E} (h : (pcW NL ad ct)[j]? = some q) : ∃ k i, (k, i) ∈ NL ∧ NL[j]? = some (k, i) ∧ q = (ad k i, ct k i) := by
  unfold pcW at h
  rw [List.getElem?_map] at h
  cases hn : NL[j]? with
  | none => rw [hn] at h; cases h
  | some n =>
    rw [hn] at h
    obtain ⟨k, i⟩ := n
    exact ⟨k, i, List.mem_of_getElem? hn, rfl, (Option.some.inj h).symm⟩
theorem pc_set {A : Nat → Prop} {NL : List (Nat × Nat)} {ad : Nat → Nat → Nat} {ct : Nat → Nat → va_E} {j k i : Nat} (hD : va_D A (pcW NL ad ct)) (hj : NL[j]? = some (k, i)) (e : va_E) : (pcW NL ad ct).set j (ad k i, e) = pcW NL ad (pcU ct k i e) := by
  have hlen : j < (pcW NL ad ct).length := by
    have := (List.getElem?_eq_some_iff.mp hj).1
    simpa [pcW] using this
  apply List.ext_getElem?
  intro q
  by_cases hq : q = j
  · subst hq
    rw [List.getElem?_set_self hlen]
    simp [pcW, hj, pcU]
  · rw [List.getElem?_set_ne (Ne.symm hq)]
    cases hn : NL[q]? with
    | none => simp [pcW, hn]
    | some n =>
      obtain ⟨a, b⟩ := n
      have hne : ¬ (a = k ∧ b = i) := by
        rintro ⟨rfl, rfl⟩
        exact hq (hD.1 q j (ad a b, ct a b) (ad a b, ct a b) (by simp [pcW, hn]) (by simp [pcW, hj]) rfl)
      simp [pcW, hn, pcU, hne]
theorem pc_push {NL : List (Nat × Nat)} {ad : Nat → Nat → Nat} {ct : Nat → Nat → va_E} {k i q : Nat} {e : va_E} (h : (k, i) ∉ NL) : pcW NL ad ct ++ [(q, e)] = pcW (NL ++ [(k, i)]) (pcV ad k i q) (pcU ct k i e) := by
  unfold pcW
  rw [List.map_append]
  congr 1
  · apply List.map_congr_left
    rintro ⟨a, b⟩ hm
    have hne : ¬ (a = k ∧ b = i) := by rintro ⟨rfl, rfl⟩; exact h hm
    simp [pcV, pcU, hne]
  · simp [pcV, pcU]
theorem pc_congr {NL : List (Nat × Nat)} {ad ad' : Nat → Nat → Nat} {ct ct' : Nat → Nat → va_E} (h : ∀ k i, (k, i) ∈ NL → ad k i = ad' k i ∧ ct k i = ct' k i) : pcW NL ad ct = pcW NL ad' ct' := by
  unfold pcW
  apply List.map_congr_left
  rintro ⟨a, b⟩ hm
  obtain ⟨h1, h2⟩ := h a b hm
  simp [h1, h2]
theorem pcP_at {D : va_G} {cl : List vw_C} {NL : List (Nat × Nat)} {ad : Nat → Nat → Nat} {ct : Nat → Nat → va_E} {H : Heap} (hP : va_P D cl (pcW NL ad ct) H) {k i : Nat} (hm : (k, i) ∈ NL) : va_at D cl (ad k i, ct k i) H := by
  obtain ⟨j, -, hj⟩ := pc_place (ad := ad) (ct := ct) hm
  exact hP j _ hj
theorem pcP_of {D : va_G} {cl : List vw_C} {NL : List (Nat × Nat)} {ad : Nat → Nat → Nat} {ct : Nat → Nat → va_E} {H : Heap} (h : ∀ k i, (k, i) ∈ NL → va_at D cl (ad k i, ct k i) H) : va_P D cl (pcW NL ad ct) H := by
  intro j q hj
  obtain ⟨k, i, hm, -, rfl⟩ := pc_mem hj
  exact h k i hm
theorem pcP_sub {D : va_G} {cl : List vw_C} {NL NL' : List (Nat × Nat)} {ad ad' : Nat → Nat → Nat} {ct ct' : Nat → Nat → va_E} {H : Heap} (hP : va_P D cl (pcW NL ad ct) H) (h : ∀ k i, (k, i) ∈ NL' → (k, i) ∈ NL ∧ ad' k i = ad k i ∧ ct' k i = ct k i) : va_P D cl (pcW NL' ad' ct') H :=
  pcP_of (fun k i hm => by obtain ⟨h1, h2, h3⟩ := h k i hm; rw [h2, h3]; exact pcP_at hP h1)
theorem pcP_keep {D : va_G} {cl : List vw_C} {NL : List (Nat × Nat)} {ad : Nat → Nat → Nat} {ct : Nat → Nat → va_E} {H H1 : Heap} (hP : va_P D cl (pcW NL ad ct) H) (hk : ∀ q : Nat, q < H.size → H1[q]? = H[q]?) : va_P D cl (pcW NL ad ct) H1 :=
  hP.kept (fun j q hj => hk q.1 ((hP j q hj).lt))
theorem pcD_inj {A : Nat → Prop} {NL : List (Nat × Nat)} {ad : Nat → Nat → Nat} {ct : Nat → Nat → va_E} (hD : va_D A (pcW NL ad ct)) {k i k' i' : Nat} (h : (k, i) ∈ NL) (h' : (k', i') ∈ NL) (e : ad k i = ad k' i') : k = k' ∧ i = i' := by
  obtain ⟨j, h1, h2⟩ := pc_place (ad := ad) (ct := ct) h
  obtain ⟨j', h3, h4⟩ := pc_place (ad := ad) (ct := ct) h'
  have hj := hD.1 j j' _ _ h2 h4 e
  subst hj
  have h5 := Option.some.inj (h1.symm.trans h3)
  exact ⟨congrArg Prod.fst h5, congrArg Prod.snd h5⟩
theorem pcD_in {A : Nat → Prop} {NL : List (Nat × Nat)} {ad : Nat → Nat → Nat} {ct : Nat → Nat → va_E} (hD : va_D A (pcW NL ad ct)) {k i : Nat} (h : (k, i) ∈ NL) : A (ad k i) := by
  obtain ⟨j, -, h2⟩ := pc_place (ad := ad) (ct := ct) h
  exact hD.2 j _ h2
/-- where the names lie doesn't speak of what they hold -/
theorem pcD_ct {A : Nat → Prop} {NL : List (Nat × Nat)} {ad : Nat → Nat → Nat} {ct ct' : Nat → Nat → va_E} (hD : va_D A (pcW NL ad ct)) : va_D A (pcW NL ad ct') := by
  have key : ∀ (j : Nat) (q : Nat × va_E), (pcW NL ad ct')[j]? = some q → ∃ q0, (pcW NL ad ct)[j]? = some q0 ∧ q0.1 = q.1 := by
    intro j q hj
    obtain ⟨k, i, hm, hn, rfl⟩ := pc_mem hj
    exact ⟨(ad k i, ct k i), by simp [pcW, hn], rfl⟩
  refine ⟨fun i j x y hi hj hxy => ?_, fun k q hk => ?_⟩
  · obtain ⟨x0, h1, h2⟩ := key i x hi
    obtain ⟨y0, h3, h4⟩ := key j y hj
    exact hD.1 i j x0 y0 h1 h3 (h2.trans (hxy.trans h4.symm))
  · obtain ⟨q0, h1, h2⟩ := key k q hk
    rw [← h2]
    exact hD.2 k q0 h1
theorem pcD_of {A : Nat → Prop} {NL : List (Nat × Nat)} {ad : Nat → Nat → Nat} {ct : Nat → Nat → va_E} (hn : NL.Nodup) (h : ∀ k i k' i', (k, i) ∈ NL → (k', i') ∈ NL → ad k i = ad k' i' → k = k' ∧ i = i') (hA : ∀ k i, (k, i) ∈ NL → A (ad k i)) : va_D A (pcW NL ad ct) := by
  refine ⟨fun i j x y hi hj hxy => ?_, fun k q hk => ?_⟩
  · obtain ⟨k, a, hm, h1, rfl⟩ := pc_mem hi
    obtain ⟨k', a', hm', h1', rfl⟩ := pc_mem hj
    obtain ⟨rfl, rfl⟩ := h k a k' a' hm hm' hxy
    obtain ⟨li, ei⟩ := List.getElem?_eq_some_iff.mp h1
    obtain ⟨lj, ej⟩ := List.getElem?_eq_some_iff.mp h1'
    have hp := List.pairwise_iff_getElem.mp hn
    rcases Nat.lt_trichotomy i j with h9 | h9 | h9
    · exact absurd (ei.trans ej.symm) (hp i j li lj h9)
    · exact h9
    · exact absurd (ej.trans ei.symm) (hp j i lj li h9)
  · obtain ⟨k', a, hm, -, rfl⟩ := pc_mem hk
    exact hA k' a hm
/-- the picture of a walk: it lies in the heap, its places are apart and free to write, and what isn't free stands as at the start -/
def pcS (D : va_G) (cl : List vw_C) (A : Nat → Prop) (H0 : Heap) (NL : List (Nat × Nat)) (ad : Nat → Nat → Nat) (ct : Nat → Nat → va_E) (H : Heap) (locs : List Loc) : Prop := va_P D cl (pcW NL ad ct) H ∧ va_D A (pcW NL ad ct) ∧ va_S A H0 H locs
theorem pcS_ct {D : va_G} {cl : List vw_C} {A : Nat → Prop} {H0 : Heap} {NL : List (Nat × Nat)} {ad : Nat → Nat → Nat} {ct ct' : Nat → Nat → va_E} {H : Heap} {locs : List Loc} (hW : pcS D cl A H0 NL ad ct H locs) (h : ∀ k i, (k, i) ∈ NL → ct k i = ct' k i) : pcS D cl A H0 NL ad ct' H locs := by
  have e : pcW NL ad ct = pcW NL ad ct' := pc_congr (fun k i hm => ⟨rfl, h k i hm⟩)
  unfold pcS at hW ⊢
  rw [← e]
  exact hW
/-- the class of an array of that type is one -/
theorem va_RA_inj {U : State} {c1 c2 : ClassId} {ty : FieldType} (h1 : va_RA U c1 ty) (h2 : va_RA U c2 ty) : c1 = c2 := by
  cases ty with
  | object C =>
    obtain ⟨-, -, -, -, -, e1⟩ := h1
    obtain ⟨-, -, -, -, -, e2⟩ := h2
    exact Option.some.inj (e1.symm.trans e2)
  | _ =>
    exact Option.some.inj ((show U.vm.findClass _ = some c1 from h1).symm.trans (show U.vm.findClass _ = some c2 from h2))
theorem va_K_last {D : va_G} {cl : List vw_C} {tys : List (ClassId × FieldType)} {s : State} {c0 c1 : ClassId} {ty : FieldType} {t0 : Nat} (hK : va_K D cl tys s) (ht : tys[t0]? = some (c0, ty)) (h : va_K D cl (tys ++ [(c1, ty)]) s) : c1 = c0 :=
  va_RA_inj (h.2 tys.length (c1, ty) (by simp)).2 (hK.2 t0 (c0, ty) ht).2
section PCR
variable {p : Program} {l : Launch} {e : Env} {R : Room} {s : State} {m : MethodId} {args : Array Value} {below : List Frame} {meth : Method} {c : Code} {H : Heap} {locs : List Loc} {cells slots : Nat} {Q : State → Prop}
variable {cc : ByteArray} {pc : Nat} {ls : Array Slot} {rest : List Value} {D : va_G} {cl : List vw_C} {A : Nat → Prop} {tys : List (ClassId × FieldType)} {H0 : Heap} {NL : List (Nat × Nat)} {ad : Nat → Nat → Nat} {ct : Nat → Nat → va_E}
theorem pc_get (hexec : p.tables.exec = Jvm.exec) (hb : c.code = cc) {own ref C : String} {T : u_T} {N ci index : Nat} {Ts : List Cond} (hts : ∀ w ∈ Ts, w.before args s = true) (hin : ∀ w ∈ u_ws C T N, w ∈ Ts) (hown : s.vm.findClass own = some m.cls) (hK : va_K D cl tys s) (hP : va_P D cl (pcW NL ad ct) H) (k0 i0 : Nat) (hm : (k0, i0) ∈ NL) {fs : List Value} (he : ct k0 i0 = .inr (ci, fs)) (hc : cl[ci]? = some (C, T, N)) (k : Nat) (hk : k < N) (hlink : (Cond.fieldLink own index ref (T k).2.1 (T k).2.2.1).before args s = true) (hsame : ∀ x, s.fieldFound? (T k).1 (T k).2.1 (T k).2.2.1 = some x → s.fieldFound? ref (T k).2.1 (T k).2.2.1 = some x) {v : Value} (hv : fs[k]? = some v) (hdg : decode cc pc = .ok (.getfield index, 3))
    (kk : W p l e R s m args below meth c H locs cells slots Q (F0 m (pc + 3) ls (v :: rest))) : W p l e R s m args below meth c H locs cells slots Q (F0 m pc ls (.ref (ad k0 i0) :: rest)) := by
  obtain ⟨j, -, hj⟩ := pc_place (ad := ad) (ct := ct) hm
  rw [he] at hj
  exact va_get hexec hb hts hin hown hK hP j hj hc k hk hlink hsame hv hdg kk
theorem pc_getN (hexec : p.tables.exec = Jvm.exec) (hb : c.code = cc) {own ref C host : String} {T : u_T} {N ci index : Nat} {Ts : List Cond} (hts : ∀ w ∈ Ts, w.before args s = true) (hin : ∀ w ∈ u_ws C T N, w ∈ Ts) (hown : s.vm.findClass own = some m.cls) (hK : va_K D cl tys s) (hP : va_P D cl (pcW NL ad ct) H) (k0 i0 : Nat) (hm : (k0, i0) ∈ NL) {fs : List Value} (he : ct k0 i0 = .inr (ci, fs)) (hc : cl[ci]? = some (C, T, N)) (k : Nat) (hk : k < N) (hlink : va_Nw (.fieldLinkNest own index ref (T k).2.1 (T k).2.2.1 host) s) (hsame : ∀ x, s.fieldFound? (T k).1 (T k).2.1 (T k).2.2.1 = some x → s.fieldFound? ref (T k).2.1 (T k).2.2.1 = some x) {v : Value} (hv : fs[k]? = some v) (hdg : decode cc pc = .ok (.getfield index, 3))
    (kk : W p l e R s m args below meth c H locs cells slots Q (F0 m (pc + 3) ls (v :: rest))) : W p l e R s m args below meth c H locs cells slots Q (F0 m pc ls (.ref (ad k0 i0) :: rest)) := by
  obtain ⟨j, -, hj⟩ := pc_place (ad := ad) (ct := ct) hm
  rw [he] at hj
  exact va_getN hexec hb hts hin hown hK hP j hj hc k hk (va_Nw.use rfl hlink) hsame hv hdg kk
theorem pc_put (hexec : p.tables.exec = Jvm.exec) (hb : c.code = cc) {own ref C : String} {T : u_T} {N ci index : Nat} {Ts : List Cond} (hts : ∀ w ∈ Ts, w.before args s = true) (hin : ∀ w ∈ u_ws C T N, w ∈ Ts) (ty0 : Nat → FieldType) (hty : ∀ k, k < N → parseFieldDescriptor (T k).2.2.1 = some (ty0 k)) (hnm : ∀ a, a < N → ∀ b, b < N → a ≠ b → (T a).2.1 ≠ (T b).2.1) (hown : s.vm.findClass own = some m.cls) (hK : va_K D cl tys s) (hW : pcS D cl A H0 NL ad ct H locs) (k0 i0 : Nat) (hm : (k0, i0) ∈ NL) {fs : List Value} (he : ct k0 i0 = .inr (ci, fs)) (hc : cl[ci]? = some (C, T, N)) (k : Nat) (hk : k < N) (hlink : (Cond.fieldLink own index ref (T k).2.1 (T k).2.2.1).before args s = true) (hsame : ∀ x, s.fieldFound? (T k).1 (T k).2.1 (T k).2.2.1 = some x → s.fieldFound? ref (T k).2.1 (T k).2.2.1 = some x) (hfin : (T k).2.2.2 = false) {ty : FieldType} {v : Value} (hd : parseFieldDescriptor (T k).2.2.1 = some ty) (hn : narrow ty v = v) (hfit : fits ty v = true) (hl : k < fs.length)
    (hdg : decode cc pc = .ok (.putfield index, 3)) (kk : ∀ (H1 : Heap) (locs1 : List Loc), pcS D cl A H0 NL ad (pcU ct k0 i0 (.inr (ci, fs.set k v))) H1 locs1 → W p l e R s m args below meth c H1 locs1 cells slots Q (F0 m (pc + 3) ls rest)) : W p l e R s m args below meth c H locs cells slots Q (F0 m pc ls (v :: .ref (ad k0 i0) :: rest)) := by
  obtain ⟨hP, hD, hS⟩ := hW
  obtain ⟨j, hn0, hj⟩ := pc_place (ad := ad) (ct := ct) hm
  rw [he] at hj
  refine va_put hexec hb hts hin ty0 hty hnm hown hK hP hD hS j hj hc k hk hlink hsame hfin hd hn hfit hl hdg (fun H1 locs1 a b d => ?_)
  rw [pc_set hD hn0] at a b
  exact kk H1 locs1 ⟨a, b, d⟩
theorem pc_putN (hexec : p.tables.exec = Jvm.exec) (hb : c.code = cc) {own ref C host : String} {T : u_T} {N ci index : Nat} {Ts : List Cond} (hts : ∀ w ∈ Ts, w.before args s = true) (hin : ∀ w ∈ u_ws C T N, w ∈ Ts) (ty0 : Nat → FieldType) (hty : ∀ k, k < N → parseFieldDescriptor (T k).2.2.1 = some (ty0 k)) (hnm : ∀ a, a < N → ∀ b, b < N → a ≠ b → (T a).2.1 ≠ (T b).2.1) (hown : s.vm.findClass own = some m.cls) (hK : va_K D cl tys s) (hW : pcS D cl A H0 NL ad ct H locs) (k0 i0 : Nat) (hm : (k0, i0) ∈ NL) {fs : List Value} (he : ct k0 i0 = .inr (ci, fs)) (hc : cl[ci]? = some (C, T, N)) (k : Nat) (hk : k < N) (hlink : va_Nw (.fieldLinkNest own index ref (T k).2.1 (T k).2.2.1 host) s) (hsame : ∀ x, s.fieldFound? (T k).1 (T k).2.1 (T k).2.2.1 = some x → s.fieldFound? ref (T k).2.1 (T k).2.2.1 = some x) (hfin : (T k).2.2.2 = false) {ty : FieldType} {v : Value} (hd : parseFieldDescriptor (T k).2.2.1 = some ty) (hn : narrow ty v = v) (hfit : fits ty v = true) (hl : k < fs.length)
    (hdg : decode cc pc = .ok (.putfield index, 3)) (kk : ∀ (H1 : Heap) (locs1 : List Loc), pcS D cl A H0 NL ad (pcU ct k0 i0 (.inr (ci, fs.set k v))) H1 locs1 → W p l e R s m args below meth c H1 locs1 cells slots Q (F0 m (pc + 3) ls rest)) : W p l e R s m args below meth c H locs cells slots Q (F0 m pc ls (v :: .ref (ad k0 i0) :: rest)) := by
  obtain ⟨hP, hD, hS⟩ := hW
  obtain ⟨j, hn0, hj⟩ := pc_place (ad := ad) (ct := ct) hm
  rw [he] at hj
  refine va_putN hexec hb hts hin ty0 hty hnm hown hK hP hD hS j hj hc k hk (va_Nw.use rfl hlink) hsame hfin hd hn hfit hl hdg (fun H1 locs1 a b d => ?_)
  rw [pc_set hD hn0] at a b
  exact kk H1 locs1 ⟨a, b, d⟩
theorem pc_putF (hexec : p.tables.exec = Jvm.exec) (hb : c.code = cc) {own ref C : String} {T : u_T} {N ci index : Nat} {Ts : List Cond} (hts : ∀ w ∈ Ts, w.before args s = true) (hin : ∀ w ∈ u_ws C T N, w ∈ Ts) (ty0 : Nat → FieldType) (hty : ∀ k, k < N → parseFieldDescriptor (T k).2.2.1 = some (ty0 k)) (hnm : ∀ a, a < N → ∀ b, b < N → a ≠ b → (T a).2.1 ≠ (T b).2.1) (hown : s.vm.findClass own = some m.cls) (hK : va_K D cl tys s) (hW : pcS D cl A H0 NL ad ct H locs) (k0 i0 : Nat) (hm : (k0, i0) ∈ NL) {fs : List Value} (he : ct k0 i0 = .inr (ci, fs)) (hc : cl[ci]? = some (C, T, N)) (k : Nat) (hk : k < N) (hlink : (Cond.fieldLink own index ref (T k).2.1 (T k).2.2.1).before args s = true) (hsame : ∀ x, s.fieldFound? (T k).1 (T k).2.1 (T k).2.2.1 = some x → s.fieldFound? ref (T k).2.1 (T k).2.2.1 = some x) (hfin : (T k).2.2.2 = true) (hin2 : meth.name = "<init>") (hdecl : (T k).1 = own) {ty : FieldType} {v : Value} (hd : parseFieldDescriptor (T k).2.2.1 = some ty) (hn : narrow ty v = v) (hfit : fits ty v = true) (hl : k < fs.length)
    (hdg : decode cc pc = .ok (.putfield index, 3)) (kk : ∀ (H1 : Heap) (locs1 : List Loc), pcS D cl A H0 NL ad (pcU ct k0 i0 (.inr (ci, fs.set k v))) H1 locs1 → W p l e R s m args below meth c H1 locs1 cells slots Q (F0 m (pc + 3) ls rest)) : W p l e R s m args below meth c H locs cells slots Q (F0 m pc ls (v :: .ref (ad k0 i0) :: rest)) := by
  obtain ⟨hP, hD, hS⟩ := hW
  obtain ⟨j, hn0, hj⟩ := pc_place (ad := ad) (ct := ct) hm
  rw [he] at hj
  refine va_putF hexec hb hts hin ty0 hty hnm hown hK hP hD hS j hj hc k hk hlink hsame hfin hin2 hdecl hd hn hfit hl hdg (fun H1 locs1 a b d => ?_)
  rw [pc_set hD hn0] at a b
  exact kk H1 locs1 ⟨a, b, d⟩
theorem pc_iald (hexec : p.tables.exec = Jvm.exec) (hb : c.code = cc) (hK : va_K D cl tys s) (hP : va_P D cl (pcW NL ad ct) H) (k0 i0 t0 : Nat) (hm : (k0, i0) ∈ NL) {cA : ClassId} {n : Nat} {f : Nat → Int32} (he : ct k0 i0 = .inl (cA, n, .inl f)) (ht : tys[t0]? = some (cA, .int)) {i : Int32} (hin : vp_in i n) (hdg : decode cc pc = .ok (.iaload, 1))
    (kk : W p l e R s m args below meth c H locs cells slots Q (F0 m (pc + 1) ls (.int (f i.toNatClampNeg) :: rest))) : W p l e R s m args below meth c H locs cells slots Q (F0 m pc ls (.int i :: .ref (ad k0 i0) :: rest)) := by
  obtain ⟨j, -, hj⟩ := pc_place (ad := ad) (ct := ct) hm
  rw [he] at hj
  exact va_iald hexec hb hK hP j t0 hj ht hin hdg kk
theorem pc_lald (hexec : p.tables.exec = Jvm.exec) (hb : c.code = cc) (hK : va_K D cl tys s) (hP : va_P D cl (pcW NL ad ct) H) (k0 i0 t0 : Nat) (hm : (k0, i0) ∈ NL) {cA : ClassId} {n : Nat} {f : Nat → Int64} (he : ct k0 i0 = .inl (cA, n, .inr (.inl f))) (ht : tys[t0]? = some (cA, .long)) {i : Int32} (hin : vp_in i n) (hdg : decode cc pc = .ok (.laload, 1))
    (kk : W p l e R s m args below meth c H locs cells slots Q (F0 m (pc + 1) ls (.long (f i.toNatClampNeg) :: rest))) : W p l e R s m args below meth c H locs cells slots Q (F0 m pc ls (.int i :: .ref (ad k0 i0) :: rest)) := by
  obtain ⟨j, -, hj⟩ := pc_place (ad := ad) (ct := ct) hm
  rw [he] at hj
  exact va_lald hexec hb hK hP j t0 hj ht hin hdg kk
theorem pc_iast (hexec : p.tables.exec = Jvm.exec) (hb : c.code = cc) (hK : va_K D cl tys s) (hW : pcS D cl A H0 NL ad ct H locs) (k0 i0 t0 : Nat) (hm : (k0, i0) ∈ NL) {cA : ClassId} {n : Nat} {f : Nat → Int32} (he : ct k0 i0 = .inl (cA, n, .inl f)) (ht : tys[t0]? = some (cA, .int)) {i x : Int32} (hin : vp_in i n) (hdg : decode cc pc = .ok (.iastore, 1))
    (kk : ∀ (H1 : Heap) (locs1 : List Loc), pcS D cl A H0 NL ad (pcU ct k0 i0 (.inl (cA, n, .inl (upd f i.toNatClampNeg x)))) H1 locs1 → W p l e R s m args below meth c H1 locs1 cells slots Q (F0 m (pc + 1) ls rest)) : W p l e R s m args below meth c H locs cells slots Q (F0 m pc ls (.int x :: .int i :: .ref (ad k0 i0) :: rest)) := by
  obtain ⟨hP, hD, hS⟩ := hW
  obtain ⟨j, hn0, hj⟩ := pc_place (ad := ad) (ct := ct) hm
  rw [he] at hj
  refine va_iast hexec hb hK hP hD hS j t0 hj ht hin hdg (fun H1 locs1 a b d => ?_)
  rw [pc_set hD hn0] at a b
  exact kk H1 locs1 ⟨a, b, d⟩
theorem pc_last (hexec : p.tables.exec = Jvm.exec) (hb : c.code = cc) (hK : va_K D cl tys s) (hW : pcS D cl A H0 NL ad ct H locs) (k0 i0 t0 : Nat) (hm : (k0, i0) ∈ NL) {cA : ClassId} {n : Nat} {f : Nat → Int64} (he : ct k0 i0 = .inl (cA, n, .inr (.inl f))) (ht : tys[t0]? = some (cA, .long)) {i : Int32} {x : Int64} (hin : vp_in i n) (hdg : decode cc pc = .ok (.lastore, 1))
    (kk : ∀ (H1 : Heap) (locs1 : List Loc), pcS D cl A H0 NL ad (pcU ct k0 i0 (.inl (cA, n, .inr (.inl (vp_updL f i.toNatClampNeg x))))) H1 locs1 → W p l e R s m args below meth c H1 locs1 cells slots Q (F0 m (pc + 1) ls rest)) : W p l e R s m args below meth c H locs cells slots Q (F0 m pc ls (.long x :: .int i :: .ref (ad k0 i0) :: rest)) := by
  obtain ⟨hP, hD, hS⟩ := hW
  obtain ⟨j, hn0, hj⟩ := pc_place (ad := ad) (ct := ct) hm
  rw [he] at hj
  refine va_last hexec hb hK hP hD hS j t0 hj ht hin hdg (fun H1 locs1 a b d => ?_)
  rw [pc_set hD hn0] at a b
  exact kk H1 locs1 ⟨a, b, d⟩
theorem pc_alen (hexec : p.tables.exec = Jvm.exec) (hb : c.code = cc) (hK : va_K D cl tys s) (hP : va_P D cl (pcW NL ad ct) H) (k0 i0 t0 : Nat) (hm : (k0, i0) ∈ NL) {cA : ClassId} {x : vp_A} (he : ct k0 i0 = .inl (cA, x)) {ty : FieldType} (ht : tys[t0]? = some (cA, ty)) {v : Int32} (hv : Int32.ofNat x.1 = v) (hdg : decode cc pc = .ok (.arraylength, 1))
    (kk : W p l e R s m args below meth c H locs cells slots Q (F0 m (pc + 1) ls (.int v :: rest))) : W p l e R s m args below meth c H locs cells slots Q (F0 m pc ls (.ref (ad k0 i0) :: rest)) := by
  obtain ⟨j, -, hj⟩ := pc_place (ad := ad) (ct := ct) hm
  rw [he] at hj
  exact va_alen hexec hb hK hP j t0 hj ht hv hdg kk
/-- an element of an array of references, of objects or of arrays -/
theorem pc_aald (hexec : p.tables.exec = Jvm.exec) (hb : c.code = cc) (hK : va_K D cl tys s) (hP : va_P D cl (pcW NL ad ct) H) (k0 i0 t0 : Nat) (hm : (k0, i0) ∈ NL) {cA : ClassId} {ty : FieldType} {n : Nat} {f : Nat → Option Nat} (he : ct k0 i0 = .inl (cA, n, .inr (.inr (.inr (.inr f))))) (ht : tys[t0]? = some (cA, ty)) (hr : refKind ty = true) {i : Int32} (hin : vp_in i n) {r : Value} (hv : va_rf (f i.toNatClampNeg) = r) (hdg : decode cc pc = .ok (.aaload, 1))
    (kk : W p l e R s m args below meth c H locs cells slots Q (F0 m (pc + 1) ls (r :: rest))) : W p l e R s m args below meth c H locs cells slots Q (F0 m pc ls (.int i :: .ref (ad k0 i0) :: rest)) := by
  subst hv
  have ha := pcP_at hP hm
  rw [he] at ha
  have hlt : i.toNatClampNeg < n := Nat.not_le.mp fun q => hin (Or.inr q)
  exact W.aald (v := va_rf (f i.toNatClampNeg)) (ty := ty) hexec hb ha ((hK.2 t0 _ ht).1 n (fun j => va_rf (f j))) hr (fun q => by cases q) (by show ¬ (i < 0 ∨ (arrV _ _ _).slots.size ≤ _); rw [arrV_size]; exact hin) (by show (arrV _ _ _).slots[_]? = _; rw [arrV_read _ _ hlt]) rfl rfl hdg kk
theorem pc_aast (hexec : p.tables.exec = Jvm.exec) (hb : c.code = cc) (hK : va_K D cl tys s) (hW : pcS D cl A H0 NL ad ct H locs) (k0 i0 t0 k1 i1 ci : Nat) (hm : (k0, i0) ∈ NL) (hm1 : (k1, i1) ∈ NL) {cA : ClassId} {r : vw_C} {n : Nat} {vs : List Value} {f : Nat → Option Nat} (he : ct k0 i0 = .inl (cA, n, .inr (.inr (.inr (.inr f))))) (ht : tys[t0]? = some (cA, .object r.1)) (he1 : ct k1 i1 = .inr (ci, vs)) (hc : cl[ci]? = some r) {i : Int32} (hin : vp_in i n) (hdg : decode cc pc = .ok (.aastore, 1))
    (kk : ∀ (H1 : Heap) (locs1 : List Loc), pcS D cl A H0 NL ad (pcU ct k0 i0 (.inl (cA, n, .inr (.inr (.inr (.inr (va_up f i.toNatClampNeg (some (ad k1 i1)))))))))  H1 locs1 → W p l e R s m args below meth c H1 locs1 cells slots Q (F0 m (pc + 1) ls rest)) : W p l e R s m args below meth c H locs cells slots Q (F0 m pc ls (.ref (ad k1 i1) :: .int i :: .ref (ad k0 i0) :: rest)) := by
  obtain ⟨hP, hD, hS⟩ := hW
  obtain ⟨j, hn0, hj⟩ := pc_place (ad := ad) (ct := ct) hm
  obtain ⟨j1, -, hj1⟩ := pc_place (ad := ad) (ct := ct) hm1
  rw [he] at hj
  rw [he1] at hj1
  refine va_astq hexec hb hK hP hD hS j t0 j1 ci hj ht hj1 hc hin hdg (fun H1 locs1 a b d => ?_)
  rw [pc_set hD hn0] at a b
  exact kk H1 locs1 ⟨a, b, d⟩
theorem pc_new (hexec : p.tables.exec = Jvm.exec) (hb : c.code = cc) {own C : String} {T : u_T} {N ci index : Nat} {Ts : List Cond} (hts : ∀ w ∈ Ts, w.before args s = true) (hin : ∀ w ∈ u_ws C T N, w ∈ Ts) (ty : Nat → FieldType) (hty : ∀ k, k < N → parseFieldDescriptor (T k).2.2.1 = some (ty k)) (hown : s.vm.findClass own = some m.cls) (hcl : (Cond.classLink own index C).before args s = true) (hinst : (Cond.instantiable C N).before args s = true) (hini : (Cond.initialized C).before args s = true)
    (hK : va_K D cl tys s) (hW : pcS D cl A H0 NL ad ct H locs) (hA : ∀ q, H0.size ≤ q → A q) (k0 i0 : Nat) (hm : (k0, i0) ∉ NL) (hc : cl[ci]? = some (C, T, N)) {fs : List Value} (hfs : ∀ j, j < N → defaultValue (ty j) = vp_V fs j) (hcells : cells + 1 ≤ R.cells) (hslots : slots + N ≤ R.slots) (hdg : decode cc pc = .ok (.new index, 3))
    (kk : ∀ (q : Nat) (H1 : Heap), pcS D cl A H0 (NL ++ [(k0, i0)]) (pcV ad k0 i0 q) (pcU ct k0 i0 (.inr (ci, fs))) H1 locs →
      W p l e R s m args below meth c H1 locs (cells + 1) (slots + N) Q (F0 m (pc + 3) ls (.ref q :: rest))) : W p l e R s m args below meth c H locs cells slots Q (F0 m pc ls rest) := by
  obtain ⟨hP, hD, hS⟩ := hW
  refine va_new hexec hb hts hin ty hty hown hcl hinst hini hK hP hD hS hA hc hfs hcells hslots hdg (fun q H1 a b d => ?_)
  rw [pc_push hm] at a b
  exact kk q H1 ⟨a, b, d⟩
theorem pc_newa (hexec : p.tables.exec = Jvm.exec) (hb : c.code = cc) {atype : ArrayType} (harr : (Cond.arrayClass (newarray.typeOf atype)).before args s = true) {ty : FieldType} (hty : newarray.typeOf atype = ty) (hK : va_K D cl tys s) (hW : pcS D cl A H0 NL ad ct H locs) (hA : ∀ q, H0.size ≤ q → A q) (k0 i0 t0 : Nat) (hm : (k0, i0) ∉ NL) {c0 : ClassId} (ht : tys[t0]? = some (c0, ty))
    {n : Int32} {N' : Nat} {a0 : vp_A} (ha : ∀ cA : ClassId, vp_cell cA a0 = arrV cA N' (fun _ => defaultValue ty)) (hn : ¬ n < 0) (hN : n.toNatClampNeg = N') (hbytes : N' * componentBytes ty ≤ 536870912) (hcells : cells + 1 ≤ R.cells) (hslots : slots + N' ≤ R.slots) (hdg : decode cc pc = .ok (.newarray atype, 2))
    (kk : ∀ (q : Nat) (H1 : Heap), pcS D cl A H0 (NL ++ [(k0, i0)]) (pcV ad k0 i0 q) (pcU ct k0 i0 (.inl (c0, a0))) H1 locs →
      W p l e R s m args below meth c H1 locs (cells + 1) (slots + N') Q (F0 m (pc + 2) ls (.ref q :: rest))) : W p l e R s m args below meth c H locs cells slots Q (F0 m pc ls (.int n :: rest)) := by
  obtain ⟨hP, hD, hS⟩ := hW
  refine va_newa hexec hb harr hty hK hP hD hS hA ha hn hN hbytes hcells hslots hdg (fun q cA H1 z a b d => ?_)
  have ec := va_K_last hK ht z
  subst ec
  rw [pc_push hm] at a b
  exact kk q H1 ⟨a, b, d⟩
theorem pc_newq (hexec : p.tables.exec = Jvm.exec) (hb : c.code = cc) {own C : String} {index : Nat} (hown : s.vm.findClass own = some m.cls) (hclink : (Cond.classLink own index C).before args s = true) (hover : va_AO C s) (hK : va_K D cl tys s) (hW : pcS D cl A H0 NL ad ct H locs) (hA : ∀ q, H0.size ≤ q → A q) (k0 i0 t0 : Nat) (hm : (k0, i0) ∉ NL) {c0 : ClassId} (ht : tys[t0]? = some (c0, .object C))
    {n : Int32} {N' : Nat} (hn : ¬ n < 0) (hN : n.toNatClampNeg = N') (hbytes : N' * 4 ≤ 536870912) (hcells : cells + 1 ≤ R.cells) (hslots : slots + N' ≤ R.slots) (hdg : decode cc pc = .ok (.anewarray index, 3))
    (kk : ∀ (q : Nat) (H1 : Heap), pcS D cl A H0 (NL ++ [(k0, i0)]) (pcV ad k0 i0 q) (pcU ct k0 i0 (.inl (c0, N', .inr (.inr (.inr (.inr (fun _ => none))))))) H1 locs →
      W p l e R s m args below meth c H1 locs (cells + 1) (slots + N') Q (F0 m (pc + 3) ls (.ref q :: rest))) : W p l e R s m args below meth c H locs cells slots Q (F0 m pc ls (.int n :: rest)) := by
  obtain ⟨hP, hD, hS⟩ := hW
  refine va_newq hexec hb hown hclink hover hK hP hD hS hA hn hN hbytes hcells hslots hdg (fun q cA H1 z a b d => ?_)
  have ec := va_K_last hK ht z
  subst ec
  rw [pc_push hm] at a b
  exact kk q H1 ⟨a, b, d⟩
/-- new T[n][k]: the outer array is the name (k0, i0), its rows (k1, 0), (k1, 1) .. -/
theorem pc_mna (hexec : p.tables.exec = Jvm.exec) (hb : c.code = cc) {own : String} {index : Nat} {ty : FieldType} {cy : ClassId} (hown : s.vm.findClass own = some m.cls) (hclink : (Cond.classLink own index ("[" ++ (FieldType.array ty).toString)).before args s = true) (hover : va_AOA ty s) (harr : (Cond.arrayClass ty).before args s = true) (hcy : s.vm.findClass (FieldType.array ty).toString = some cy)
    (hK : va_K D cl tys s) (hW : pcS D cl A H0 NL ad ct H locs) (hA : ∀ q, H0.size ≤ q → A q) (k0 i0 k1 t0 : Nat) (hm : (k0, i0) ∉ NL) (hm1 : ∀ i, (k1, i) ∉ NL) (hkk : k0 ≠ k1) {c0 : ClassId} (ht : tys[t0]? = some (c0, .array ty)) {n k : Int32} {N' K' : Nat} {z : vp_A} (hn : ¬ n < 0) (hk : ¬ k < 0) (hN : n.toNatClampNeg = N') (hM : k.toNatClampNeg = K')
    (hb1 : N' * 4 ≤ 536870912) (hb2 : K' * componentBytes ty ≤ 536870912) (hb3 : K' ≤ 536870912) (hdf : fits ty (defaultValue ty) = true) (hdd : (defaultValue ty).isDefault = true) (hcells : cells + (1 + N') ≤ R.cells) (hslots : slots + (N' + N' * K') ≤ R.slots) (hz : ∀ c : ClassId, Jvm.Free.Multi.innerC c K' (defaultValue ty) = vp_cell c z) (hdg : decode cc pc = .ok (.multianewarray index 2, 4))
    (kk : ∀ (ad' : Nat → Nat → Nat) (H1 : Heap), (∀ a b, a ≠ k1 → ¬ (a = k0 ∧ b = i0) → ad' a b = ad a b) →
      pcS D cl A H0 (NL ++ [(k0, i0)] ++ (List.range N').map (fun i => (k1, i))) ad' (fun a b => if a = k1 then .inl (cy, z) else if a = k0 ∧ b = i0 then .inl (c0, N', .inr (.inr (.inr (.inr (fun i => if i < N' then some (ad' k1 i) else none))))) else ct a b) H1 locs →
      W p l e R s m args below meth c H1 locs (cells + 1 + N') (slots + N' + N' * K') Q (F0 m (pc + 4) ls (.ref (ad' k0 i0) :: rest))) : W p l e R s m args below meth c H locs cells slots Q (F0 m pc ls (.int k :: .int n :: rest)) := by
  obtain ⟨hP, hD, hS⟩ := hW
  have e0 : pcW NL ad ct = pcW NL ad ct ++ va_pl [] (fun _ => .inr (0, [])) := by simp [va_pl]
  rw [e0] at hP hD
  refine va_mna hexec hb hown hclink hover harr hcy hK hP hD hS hA hn hk hN hM hb1 hb2 hb3 hdf hdd hcells hslots hz hdg (fun q r cA H1 hr _ hK' a b d => ?_)
  have ec := va_K_last hK ht hK'
  subst ec
  have hq := kk (fun x y => if x = k1 then r y else if x = k0 ∧ y = i0 then q else ad x y) H1 (fun x y h1 h2 => by simp [h1, h2])
  rw [show (if k0 = k1 then r i0 else if k0 = k0 ∧ i0 = i0 then q else ad k0 i0) = q by simp [hkk]] at hq
  refine hq ?_
  have e1 : pcW (NL ++ [(k0, i0)] ++ (List.range N').map (fun i => (k1, i))) (fun x y => if x = k1 then r y else if x = k0 ∧ y = i0 then q else ad x y) (fun a b => if a = k1 then .inl (cy, z) else if a = k0 ∧ b = i0 then .inl (cA, N', .inr (.inr (.inr (.inr (fun i => if i < N' then some (if k1 = k1 then r i else if k1 = k0 ∧ i = i0 then q else ad k1 i) else none))))) else ct a b)
      = (pcW NL ad ct ++ [(q, .inl (cA, N', .inr (.inr (.inr (.inr (fun i => if i < N' then some (r i) else none))))))]) ++ va_pl ([] ++ (List.range N').map r) (vr_up (fun _ => .inr (0, [])) ((List.range N').map r) (.inl (cy, z))) := by
    unfold pcW
    rw [List.map_append, List.map_append]
    congr 1
    · congr 1
      · apply List.map_congr_left
        rintro ⟨x, y⟩ hxy
        have h1 : x ≠ k1 := fun h => hm1 y (h ▸ hxy)
        have h2 : ¬ (x = k0 ∧ y = i0) := by rintro ⟨rfl, rfl⟩; exact hm hxy
        simp [h1, h2]
      · simp [hkk]
    · unfold va_pl
      rw [List.nil_append, List.map_map, List.map_map]
      apply List.map_congr_left
      intro y hy
      have h9 : r y ∈ (List.range N').map r := List.mem_map.mpr ⟨y, hy, rfl⟩
      simp only [Function.comp_apply, if_true]
      rw [vr_up_in h9]
  unfold pcS
  rw [e1]
  exact ⟨a, b, d⟩
theorem pc_copyi (hexec : p.tables.exec = Jvm.exec) (hb : c.code = cc) (hml : c.maxLocals = ls.size) {own : String} {index : Nat} (hown : s.vm.findClass own = some m.cls) (hlink : (Cond.methodLink own index arraycopyName).before args s = true) (hnat : (Cond.native arraycopyName).before args s = true) (hstat : (Cond.static arraycopyName).before args s = true) (hini : (Cond.initialized "java/lang/System").before args s = true)
    (hK : va_K D cl tys s) (hW : pcS D cl A H0 NL ad ct H locs) (k0 i0 k1 i1 t0 : Nat) (hm : (k0, i0) ∈ NL) (hm1 : (k1, i1) ∈ NL) {c0 : ClassId} {n0 n1 : Nat} {f g : Nat → Int32} {ty : FieldType} (he : ct k0 i0 = .inl (c0, n0, .inl f)) (he1 : ct k1 i1 = .inl (c0, n1, .inl g)) (ht : tys[t0]? = some (c0, ty)) (hprim : refKind ty = false)
    {sp dp n : Int32} (h1 : ¬ sp < 0) (h2 : ¬ dp < 0) (h3 : ¬ n < 0) (h4 : sp.toNatClampNeg + n.toNatClampNeg ≤ n0) (h5 : dp.toNatClampNeg + n.toNatClampNeg ≤ n1) (hfit : ∀ i, i < n.toNatClampNeg → fits ty (.int (f (sp.toNatClampNeg + i))) = true)
    (hframes : 1 ≤ R.frames) (hlocals : (rest.map fun v => v.category).sum + (nativeFrameWords "java/lang/System" "arraycopy" 5 + 11) ≤ R.locals) (hdg : decode cc pc = .ok (.invokestatic index, 3))
    (kk : ∀ (H1 : Heap) (locs1 : List Loc), pcS D cl A H0 NL ad (pcU ct k1 i1 (.inl (c0, n1, .inl (va_cpy f g sp.toNatClampNeg dp.toNatClampNeg n.toNatClampNeg)))) H1 locs1 → W p l e R s m args below meth c H1 locs1 cells slots Q (F0 m (pc + 3) ls rest)) : W p l e R s m args below meth c H locs cells slots Q (F0 m pc ls (.int n :: .int dp :: .ref (ad k1 i1) :: .int sp :: .ref (ad k0 i0) :: rest)) := by
  obtain ⟨hP, hD, hS⟩ := hW
  obtain ⟨j, -, hj⟩ := pc_place (ad := ad) (ct := ct) hm
  obtain ⟨j1, hn1, hj1⟩ := pc_place (ad := ad) (ct := ct) hm1
  rw [he] at hj
  rw [he1] at hj1
  refine va_copyi hexec hb hml hown hlink hnat hstat hini hK hP hD hS j j1 t0 t0 hj hj1 ht ht hprim h1 h2 h3 h4 h5 hfit hframes hlocals hdg (fun H1 locs1 a b d => ?_)
  rw [pc_set hD hn1] at a b
  exact kk H1 locs1 ⟨a, b, d⟩
end PCR
/-! CALLS: what a method may take as given: the tables (pcX), and what it says of the heap (B). -/
theorem va_AOA.moved {ty : FieldType} {u U : State} (hvm : u.vm.Alike U.vm) (h : va_AOA ty u) : va_AOA ty U := Jvm.Stand.arrayOver_alikeB hvm h
def pcX (D : va_G) (cl : List vw_C) (tys : List (ClassId × FieldType)) (U : State) : Prop := va_K D cl tys U ∧ (∀ w ∈ pcN, va_Nw w U) ∧ (∀ C ∈ pcAO, va_AO C U) ∧ ∀ ty ∈ pcBA, va_AOA ty U
def pcNest (w : Cond) : Bool := match w with
  | .fieldLinkNest _ _ _ _ _ _ => true
  | .methodLinkNest _ _ _ _ => true
  | _ => false
theorem pcX_moved {D : va_G} {cl : List vw_C} {tys : List (ClassId × FieldType)} {s U : State} (hn : pcN.all pcNest = true) (hW : s.WarmedH U.vm) (h : pcX D cl tys s) : pcX D cl tys U := by
  refine ⟨va_K.moved hW.alike h.1, fun w hw => ?_, fun C hC => (h.2.2.1 C hC).moved hW.alike, fun ty hty => (h.2.2.2 ty hty).moved hW.alike⟩
  have h1 := List.all_eq_true.mp hn w hw
  have h2 := h.2.1 w hw
  cases w <;> first | exact va_Nw.warmF hW h2 | exact va_Nw.warmM hW h2 | (exact absurd h1 (by simp [pcNest]))
theorem pcX_same {D : va_G} {cl : List vw_C} {tys : List (ClassId × FieldType)} {s U : State} (hn : pcN.all pcNest = true) (hv : s.vm = U.vm) (h : pcX D cl tys s) : pcX D cl tys U := by
  refine ⟨va_K.moved (hv ▸ Vm.Alike.refl _) h.1, fun w hw => ?_, fun C hC => (h.2.2.1 C hC).moved (hv ▸ Vm.Alike.refl _), fun ty hty => (h.2.2.2 ty hty).moved (hv ▸ Vm.Alike.refl _)⟩
  have h1 := List.all_eq_true.mp hn w hw
  have h2 := h.2.1 w hw
  refine va_Nw.same ?_ hv h2
  cases w <;> first | rfl | (exact absurd h1 (by simp [pcNest]))
def pcPre (D : va_G) (cl : List vw_C) (tys : List (ClassId × FieldType)) (as : List Value) (B : Heap → Prop) : Array Value → State → Prop := va_Pc as (fun U => pcX D cl tys U ∧ B U.heap)
theorem pc_blind {D : va_G} {cl : List vw_C} {tys : List (ClassId × FieldType)} {as : List Value} {B : Heap → Prop} (hn : pcN.all pcNest = true) : FrameBlind (pcPre D cl tys as B) := fun a U g mk h => ⟨h.1, pcX_same (s := U) hn rfl h.2.1, h.2.2⟩
theorem pc_preS {D : va_G} {cl : List vw_C} {tys : List (ClassId × FieldType)} {As : List Value} {B : Heap → Prop} {s : State} {H : Heap} (hn : pcN.all pcNest = true) (hX : pcX D cl tys s) (hB : B H) : PreS s H (pcPre D cl tys As B) As :=
  ⟨pc_blind hn, fun U hU hW => ⟨rfl, pcX_moved hn hW hX, by rw [hU]; exact hB⟩⟩
theorem pc_preV {D : va_G} {cl : List vw_C} {tys : List (ClassId × FieldType)} {As : List Value} {B : Heap → Prop} {s : State} {H : Heap} {NL : List (Nat × Nat)} {ad : Nat → Nat → Nat} {ct : Nat → Nat → va_E} {k i ci : Nat} {fs : List Value} {r : vw_C} (hn : pcN.all pcNest = true) (hX : pcX D cl tys s) (hP : va_P D cl (pcW NL ad ct) H) (hm : (k, i) ∈ NL) (he : ct k i = .inr (ci, fs)) (hc : cl[ci]? = some r) (hB : B H) : PreV s H r.1 (ad k i) (pcPre D cl tys (.ref (ad k i) :: As) B) As := by
  refine ⟨pc_blind hn, ?_, fun U hU hW => ⟨rfl, pcX_moved hn hW hX, by rw [hU]; exact hB⟩⟩
  obtain ⟨j, -, hj⟩ := pc_place (ad := ad) (ct := ct) hm
  rw [he] at hj
  exact va_recv hX.1 hP hc hj
section PCC
variable {p : Program} {l : Launch} {e : Env} {R : Room} {s : State} {m : MethodId} {args : Array Value} {below : List Frame} {meth : Method} {c : Code} {H : Heap} {locs : List Loc} {cells slots : Nat} {Q : State → Prop}
variable {pc : Nat} {ls : Array Slot} {rest st0 : List Value} {a : Array Value} {D : va_G} {cl : List vw_C} {A : Nat → Prop} {H0 : Heap} {NL : List (Nat × Nat)} {ad : Nat → Nat → Nat} {ct : Nat → Nat → va_E}
/-- behind a call that changes nothing and makes nothing -/
theorem pc_keepS {H1 : Heap} {locs1 : List Loc} (hW : pcS D cl A H0 NL ad ct H locs) (hk : ∀ q : Nat, q < H.size → H1[q]? = H[q]?) (hS : va_S A H0 H1 locs1) : pcS D cl A H0 NL ad ct H1 locs1 := ⟨pcP_keep hW.1 hk, hW.2.1, hS⟩
/-- the same, of a walk that writes nothing (A: what may be new) -/
def pcQ (D : va_G) (cl : List vw_C) (A : Nat → Prop) (H0 : Heap) (NL : List (Nat × Nat)) (ad : Nat → Nat → Nat) (ct : Nat → Nat → va_E) (H : Heap) (locs : List Loc) : Prop := va_P D cl (pcW NL ad ct) H ∧ va_S A H0 H locs
theorem pc_qcalli {post : Int32 → Prop} (hr : va_Run p l e R s m args below meth c H locs cells slots 0 0 (F0 m pc ls st0) rest (va_Qi (fun r (_ : Unit) => post r) (fun _ _ => True) (fun _ => False) a) (fun _ => False)) (hW : pcQ D cl A H0 NL ad ct H locs)
    (kk : ∀ (r : Int32) (H1 : Heap) (locs1 : List Loc), post r → pcQ D cl A H0 NL ad ct H1 locs1 → W p l e R s m args below meth c H1 locs1 cells slots Q (F0 m (pc + 3) ls (.int r :: rest))) : W p l e R s m args below meth c H locs cells slots Q (F0 m pc ls st0) :=
  va_calli hr hW.2 (fun _ _ h => h.elim) (fun _ h => h.elim) (fun r _ _ H1 locs1 _ _ hw _ _ hk hS => kk r H1 locs1 hw ⟨pcP_keep hW.1 (fun q hq => hk q hq id), hS⟩)
theorem pc_qcalll {post : Int64 → Prop} (hr : va_Run p l e R s m args below meth c H locs cells slots 0 0 (F0 m pc ls st0) rest (va_Ql (fun r (_ : Unit) => post r) (fun _ _ => True) (fun _ => False) a) (fun _ => False)) (hW : pcQ D cl A H0 NL ad ct H locs)
    (kk : ∀ (r : Int64) (H1 : Heap) (locs1 : List Loc), post r → pcQ D cl A H0 NL ad ct H1 locs1 → W p l e R s m args below meth c H1 locs1 cells slots Q (F0 m (pc + 3) ls (.long r :: rest))) : W p l e R s m args below meth c H locs cells slots Q (F0 m pc ls st0) :=
  va_calll hr hW.2 (fun _ _ h => h.elim) (fun _ h => h.elim) (fun r _ _ H1 locs1 _ _ hw _ _ hk hS => kk r H1 locs1 hw ⟨pcP_keep hW.1 (fun q hq => hk q hq id), hS⟩)
theorem pc_rcalli {post : Int32 → Prop} (hr : va_Run p l e R s m args below meth c H locs cells slots 0 0 (F0 m pc ls st0) rest (va_Qi (fun r (_ : Unit) => post r) (fun _ _ => True) (fun _ => False) a) (fun _ => False)) (hW : pcS D cl A H0 NL ad ct H locs)
    (kk : ∀ (r : Int32) (H1 : Heap) (locs1 : List Loc), post r → pcS D cl A H0 NL ad ct H1 locs1 → W p l e R s m args below meth c H1 locs1 cells slots Q (F0 m (pc + 3) ls (.int r :: rest))) : W p l e R s m args below meth c H locs cells slots Q (F0 m pc ls st0) :=
  va_calli hr hW.2.2 (fun _ _ h => h.elim) (fun _ h => h.elim) (fun r _ _ H1 locs1 _ _ hw _ _ hk hS => kk r H1 locs1 hw (pc_keepS hW (fun q hq => hk q hq id) hS))
theorem pc_rcalll {post : Int64 → Prop} (hr : va_Run p l e R s m args below meth c H locs cells slots 0 0 (F0 m pc ls st0) rest (va_Ql (fun r (_ : Unit) => post r) (fun _ _ => True) (fun _ => False) a) (fun _ => False)) (hW : pcS D cl A H0 NL ad ct H locs)
    (kk : ∀ (r : Int64) (H1 : Heap) (locs1 : List Loc), post r → pcS D cl A H0 NL ad ct H1 locs1 → W p l e R s m args below meth c H1 locs1 cells slots Q (F0 m (pc + 3) ls (.long r :: rest))) : W p l e R s m args below meth c H locs cells slots Q (F0 m pc ls st0) :=
  va_calll hr hW.2.2 (fun _ _ h => h.elim) (fun _ h => h.elim) (fun r _ _ H1 locs1 _ _ hw _ _ hk hS => kk r H1 locs1 hw (pc_keepS hW (fun q hq => hk q hq id) hS))
theorem pc_rcallv {post : Prop} (hr : va_Run p l e R s m args below meth c H locs cells slots 0 0 (F0 m pc ls st0) rest (va_Qv (fun (_ : Unit) => post) (fun _ _ => True) (fun _ => False) a) (fun _ => False)) (hW : pcS D cl A H0 NL ad ct H locs)
    (kk : ∀ (H1 : Heap) (locs1 : List Loc), post → pcS D cl A H0 NL ad ct H1 locs1 → W p l e R s m args below meth c H1 locs1 cells slots Q (F0 m (pc + 3) ls rest)) : W p l e R s m args below meth c H locs cells slots Q (F0 m pc ls st0) :=
  va_callv hr hW.2.2 (fun _ _ h => h.elim) (fun _ h => h.elim) (fun _ _ H1 locs1 _ _ hw _ _ hk hS => kk H1 locs1 hw (pc_keepS hW (fun q hq => hk q hq id) hS))
/-- behind a call that may change what A holds -/
theorem pc_mcalli {S : Type} {mc ms : Nat} {post : Int32 → S → Prop} {B : S → Heap → Prop} (hr : va_Run p l e R s m args below meth c H locs cells slots mc ms (F0 m pc ls st0) rest (va_Qi post (fun u t => B u t.heap) A a) A) (hS : va_S A H0 H locs)
    (kk : ∀ (r : Int32) (u : S) (H1 : Heap) (locs1 : List Loc), post r u → B u H1 → va_S A H0 H1 locs1 → W p l e R s m args below meth c H1 locs1 (cells + mc) (slots + ms) Q (F0 m (pc + 3) ls (.int r :: rest))) : W p l e R s m args below meth c H locs cells slots Q (F0 m pc ls st0) :=
  va_calli hr hS (fun _ _ h => h) (fun _ h => h) (fun r u t H1 locs1 ht _ hw hB _ _ hS => kk r u H1 locs1 hw (ht ▸ hB) hS)
theorem pc_mcallv {S : Type} {mc ms : Nat} {post : S → Prop} {B : S → Heap → Prop} (hr : va_Run p l e R s m args below meth c H locs cells slots mc ms (F0 m pc ls st0) rest (va_Qv post (fun u t => B u t.heap) A a) A) (hS : va_S A H0 H locs)
    (kk : ∀ (u : S) (H1 : Heap) (locs1 : List Loc), post u → B u H1 → va_S A H0 H1 locs1 → W p l e R s m args below meth c H1 locs1 (cells + mc) (slots + ms) Q (F0 m (pc + 3) ls rest)) : W p l e R s m args below meth c H locs cells slots Q (F0 m pc ls st0) :=
  va_callv hr hS (fun _ _ h => h) (fun _ h => h) (fun u t H1 locs1 ht _ hw hB _ _ hS => kk u H1 locs1 hw (ht ▸ hB) hS)
end PCC
