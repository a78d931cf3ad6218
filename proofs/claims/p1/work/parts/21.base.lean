/-- the array classes, in the order of the places -/
abbrev tyL (cA : Nat → ClassId) : List (ClassId × FieldType) := [(cA 0, .int), (cA 1, .long), (cA 2, .boolean), (cA 3, .object RX3), (cA 4, .object RX1), (cA 5, .object RX2), (cA 6, .object RX0), (cA 7, .object RX4), (cA 8, .object "java/lang/Object"), (cA 9, .array .int), (cA 10, .array .boolean)]
abbrev R_IO : String := "java/lang/IndexOutOfBoundsException"
abbrev R_IA : String := "java/lang/IllegalArgumentException"
abbrev R_IS : String := "java/lang/IllegalStateException"
def pcC : List Cond := [.castable R_IO R_IO, .castable R_IA R_IA, .castable R_IS R_IS, .declares (Bundle.initS "java/lang/RuntimeException"), .declares (Bundle.initS "java/lang/Exception"), .declares (Bundle.initS Bundle.tN), .classLink RL 13 R_IA]
def pcSL : List (String × Nat × String) := [(RX5, 315, "what is not 0 to 12"), (RX5, 369, "there is no such sheet"), (RX5, 175, "what is not 0 to 9"), (RX5, 179, "there is no such revision"), (RX5, 377, "there is no such crew"), (RX5, 373, "there is no such query"), (RX5, 375, "there is no such package"), (RX5, 301, "what is not 0 to 6"), (RX5, 75, "the trade is not 0 to 3"), (RX5, 82, "there are 10 sheets"), (RX5, 379, "the region is none"), (RX5, 95, "the details are not 0 to 255"), (RX5, 101, "the last revision is no draft"), (RX5, 118, "the last revision is not issued, or there are 6"), (RX5, 135, "the last revision is not checked, or a reference is broken"), (RX5, 146, "a sheet refers to itself, or the detail is not 0 to 7"), (RX5, 148, "there are 20 references, or the last revision is no draft"), (RX5, 185, "there is no such reference"), (RX5, 194, "the crews are not 1 to 15, or the sheets are no set of sheets"), (RX5, 199, "there are 20 sendings, or a sheet has no issued revision"), (RX5, 208, "there is no such sending"), (RX5, 220, "it was not sent to the crew, or the crew did receive it"), (RX5, 229, "there are 20 queries, or the sheet has no issued revision"), (RX5, 240, "the query is not open"), (RX5, 371, "the sheets are the same"), (RX5, 256, "the sheets are no set of sheets, or the days are not 1 to 9"), (RX5, 258, "there are 8 packages"), (RX5, 265, "the package is done"), (RX5, 281, "the package is running or done, or a sheet is not good")]
/-- what throwing takes from the tables: classes castable to themselves, the texts -/
def pcT (U : State) : Prop := (∀ w ∈ pcC, va_Nw w U) ∧ va_Nc R_IA R_IO U ∧ ∀ q ∈ pcSL, ∃ a : Nat, vk_R q.1 q.2.1 q.2.2 a U
theorem pcT_moved {s U : State} (hW : s.WarmedH U.vm) (h : pcT s) : pcT U := by
  refine ⟨fun w hw => ?_, va_Nc.moved hW.alike h.2.1, fun q hq => ?_⟩
  · have h2 := h.1 w hw
    have h1 : w = .castable R_IO R_IO ∨ w = .castable R_IA R_IA ∨ w = .castable R_IS R_IS ∨ w = .declares (Bundle.initS "java/lang/RuntimeException") ∨ w = .declares (Bundle.initS "java/lang/Exception") ∨ w = .declares (Bundle.initS Bundle.tN) ∨ w = .classLink RL 13 R_IA := by simpa [pcC] using hw
    rcases h1 with rfl | rfl | rfl | rfl | rfl | rfl | rfl <;> first | exact va_Nw.warmC hW h2 | exact va_Nw.warmD hW h2 | exact word_at hW (good_of_word rfl) h2
  · obtain ⟨a, ha⟩ := h.2.2 q hq
    exact ⟨a, vk_R.warm hW ha⟩
theorem pcT_same {s U : State} (hv : s.vm = U.vm) (h : pcT s) : pcT U := by
  refine ⟨fun w hw => ?_, va_Nc.moved (hv ▸ Vm.Alike.refl _) h.2.1, fun q hq => ?_⟩
  · have h2 := h.1 w hw
    have h1 : w = .castable R_IO R_IO ∨ w = .castable R_IA R_IA ∨ w = .castable R_IS R_IS ∨ w = .declares (Bundle.initS "java/lang/RuntimeException") ∨ w = .declares (Bundle.initS "java/lang/Exception") ∨ w = .declares (Bundle.initS Bundle.tN) ∨ w = .classLink RL 13 R_IA := by simpa [pcC] using hw
    rcases h1 with rfl | rfl | rfl | rfl | rfl | rfl | rfl <;> exact va_Nw.same rfl hv h2
  · obtain ⟨a, ha⟩ := h.2.2 q hq
    exact ⟨a, vk_R.same hv.symm ha⟩
/-- the two statics of Throwable that a constructor reads: below z, where the run writes nothing -/
def pcZ (z : Nat) (U : State) (H : Heap) : Prop := vx_Zq Bundle.tN "UNASSIGNED_STACK" Bundle.steD (fun q => z ≤ q) U H ∧ vx_Zq Bundle.tN "SUPPRESSED_SENTINEL" Bundle.listD (fun q => z ≤ q) U H
theorem pcZ_moved {z : Nat} {s U : State} {H : Heap} (hvm : s.vm.Alike U.vm) (h : pcZ z s H) : pcZ z U H := ⟨vx_Zq.moved hvm h.1, vx_Zq.moved hvm h.2⟩
theorem pcZ_kept {z : Nat} {A : Nat → Prop} {s : State} {H0 H : Heap} {locs : List Loc} (h : pcZ z s H0) (hA : ∀ q, A q → z ≤ q) (hS : va_S A H0 H locs) : pcZ z s H :=
  ⟨h.1.kept (fun a h1 h2 => hS.2.1 a h1 (fun q => h2 (hA a q))), h.2.kept (fun a h1 h2 => hS.2.1 a h1 (fun q => h2 (hA a q)))⟩
def pcPreT (D : va_G) (cl : List vw_C) (tys : List (ClassId × FieldType)) (z : Nat) (as : List Value) (B : Heap → Prop) : Array Value → State → Prop := va_Pc as (fun U => pcX D cl tys U ∧ pcT U ∧ (pcZ z U U.heap ∧ z ≤ U.heap.size) ∧ B U.heap)
theorem pcN_ok : pcN.all pcNest = true := by decide +kernel
theorem pcT_blind {D : va_G} {cl : List vw_C} {tys : List (ClassId × FieldType)} {z : Nat} {as : List Value} {B : Heap → Prop} : FrameBlind (pcPreT D cl tys z as B) := fun a U g mk h => ⟨h.1, pcX_same (s := U) pcN_ok rfl h.2.1, pcT_same (s := U) rfl h.2.2.1, ⟨pcZ_moved (s := U) (Vm.Alike.refl _) h.2.2.2.1.1, h.2.2.2.1.2⟩, h.2.2.2.2⟩
theorem pcT_preS {D : va_G} {cl : List vw_C} {tys : List (ClassId × FieldType)} {z : Nat} {As : List Value} {B : Heap → Prop} {s : State} {H : Heap} (hX : pcX D cl tys s) (hT : pcT s) (hZ : pcZ z s H) (hz : z ≤ H.size) (hB : B H) : PreS s H (pcPreT D cl tys z As B) As :=
  ⟨pcT_blind, fun U hU hW => ⟨rfl, pcX_moved pcN_ok hW hX, pcT_moved hW hT, ⟨by rw [hU]; exact pcZ_moved hW.alike hZ, by rw [hU]; exact hz⟩, by rw [hU]; exact hB⟩⟩
theorem pcT_preV {D : va_G} {cl : List vw_C} {tys : List (ClassId × FieldType)} {z : Nat} {As : List Value} {B : Heap → Prop} {s : State} {H : Heap} {NL : List (Nat × Nat)} {ad : Nat → Nat → Nat} {ct : Nat → Nat → va_E} {k i ci : Nat} {fs : List Value} {r : vw_C} (hX : pcX D cl tys s) (hT : pcT s) (hZ : pcZ z s H) (hz : z ≤ H.size) (hP : va_P D cl (pcW NL ad ct) H) (hm : (k, i) ∈ NL) (he : ct k i = .inr (ci, fs)) (hc : cl[ci]? = some r) (hB : B H) : PreV s H r.1 (ad k i) (pcPreT D cl tys z (.ref (ad k i) :: As) B) As := by
  refine ⟨pcT_blind, ?_, fun U hU hW => ⟨rfl, pcX_moved pcN_ok hW hX, pcT_moved hW hT, ⟨by rw [hU]; exact pcZ_moved hW.alike hZ, by rw [hU]; exact hz⟩, by rw [hU]; exact hB⟩⟩
  obtain ⟨j, -, hj⟩ := pc_place (ad := ad) (ct := ct) hm
  rw [he] at hj
  exact va_recv hX.1 hP hc hj
theorem sw_cases {x : Int32} {k : Int} (n : Nat) (hk : (n : Int) = k) (h : ¬ (x.toInt < 0 ∨ k < x.toInt)) : ∃ j : Nat, j ≤ n ∧ x = nI j := by
  have h0 : ¬ x < 0 := by rw [Int32.lt_iff_toInt_lt, Int32.toInt_zero]; omega
  obtain ⟨j, hj, rfl⟩ := nI_of h0
  rw [nI_toInt hj] at h
  exact ⟨j, by omega, rfl⟩
theorem vaS_mono {A : Nat → Prop} {H0 H : Heap} {locs : List Loc} (h : va_S (fun _ => False) H0 H locs) : va_S A H0 H locs := ⟨h.1, fun q a _ => h.2.1 q a id, fun l hl => (h.2.2 l hl).elim⟩
theorem pcT_preVL {D : va_G} {cl : List vw_C} {tys : List (ClassId × FieldType)} {z : Nat} {As : List Value} {B : Heap → Prop} {s : State} {H : Heap} {C : String} {b : Nat} (hX : pcX D cl tys s) (hT : pcT s) (hZ : pcZ z s H) (hz : z ≤ H.size) (hr : ∃ cell : Cell, H[b]? = some cell ∧ cell.vm.isStatics = false ∧ s.vm.findClass C = some cell.cls) (hB : B H) : PreV s H C b (pcPreT D cl tys z (.ref b :: As) B) As :=
  ⟨pcT_blind, hr, fun U hU hW => ⟨rfl, pcX_moved pcN_ok hW hX, pcT_moved hW hT, ⟨by rw [hU]; exact pcZ_moved hW.alike hZ, by rw [hU]; exact hz⟩, by rw [hU]; exact hB⟩⟩
theorem pc_preVL {D : va_G} {cl : List vw_C} {tys : List (ClassId × FieldType)} {As : List Value} {B : Heap → Prop} {s : State} {H : Heap} {C : String} {b : Nat} (hn : pcN.all pcNest = true) (hX : pcX D cl tys s) (hr : ∃ cell : Cell, H[b]? = some cell ∧ cell.vm.isStatics = false ∧ s.vm.findClass C = some cell.cls) (hB : B H) : PreV s H C b (pcPre D cl tys (.ref b :: As) B) As := ⟨pc_blind hn, hr, fun U hU hW => ⟨rfl, pcX_moved hn hW hX, by rw [hU]; exact hB⟩⟩
theorem vr_rowsN {r : Nat → Nat} {e : va_E} {f : Nat → va_E} (n : Nat) : va_pl ([] ++ (List.range n).map r) (vr_up f ((List.range n).map r) e) = (List.range n).map (fun i => (r i, e)) := by
  unfold va_pl
  rw [List.nil_append, List.map_map]
  apply List.map_congr_left
  intro i hi
  simp only [Function.comp_apply]
  rw [vr_up_in (List.mem_map.mpr ⟨i, hi, rfl⟩)]
theorem vr_sel (r : Nat → Nat) (n : Nat) : (fun i => if i < n then some (r i) else none) = (fun i => ((List.range n).map r)[i]?) := by
  funext i
  rw [List.getElem?_map]
  by_cases h : i < n
  · rw [if_pos h, List.getElem?_range h]
    rfl
  · rw [if_neg h, List.getElem?_eq_none (by rw [List.length_range]; omega)]
    rfl
section LLA
variable {p : Program} {l : Launch} {e : Env} {R : Room} {s : State} {m : MethodId} {args : Array Value} {below : List Frame} {meth : Method} {c : Code} {H : Heap} {locs : List Loc} {cells slots : Nat} {Q : State → Prop}
variable {cc : ByteArray} {pc : Nat} {ls : Array Slot} {rest : List Value} {D : va_G} {cl : List vw_C} {a : Nat} {tys : List (ClassId × FieldType)} {ws : va_W}
theorem ll_aald (hexec : p.tables.exec = Jvm.exec) (hb : c.code = cc) (hK : va_K D cl tys s) (hP : va_P D cl ws H) (q0 t0 : Nat) {cA : ClassId} {ty : FieldType} {n : Nat} {f : Nat → Option Nat} (ha : ws[q0]? = some (a, .inl (cA, n, .inr (.inr (.inr (.inr f)))))) (ht : tys[t0]? = some (cA, ty)) (hr : refKind ty = true) {i : Int32} (hin : vp_in i n) {r : Value} (hv : va_rf (f i.toNatClampNeg) = r) (hdg : decode cc pc = .ok (.aaload, 1))
    (kk : W p l e R s m args below meth c H locs cells slots Q (F0 m (pc + 1) ls (r :: rest))) : W p l e R s m args below meth c H locs cells slots Q (F0 m pc ls (.int i :: .ref a :: rest)) := by
  subst hv
  have h1 := hP q0 _ ha
  have hlt : i.toNatClampNeg < n := Nat.not_le.mp fun q => hin (Or.inr q)
  exact W.aald (v := va_rf (f i.toNatClampNeg)) (ty := ty) hexec hb h1 ((hK.2 t0 _ ht).1 n (fun j => va_rf (f j))) hr (fun q => by cases q) (by show ¬ (i < 0 ∨ (arrV _ _ _).slots.size ≤ _); rw [arrV_size]; exact hin) (by show (arrV _ _ _).slots[_]? = _; rw [arrV_read _ _ hlt]) rfl rfl hdg kk
end LLA
theorem crew_cases {x : Int32} (h : ¬ x < 0 ∧ x < 4) : ∃ j : Nat, j < 4 ∧ x = nI j := by
  obtain ⟨j, hj, rfl⟩ := nI_of h.1
  have h2 := h.2
  rw [Int32.lt_iff_toInt_lt, nI_toInt hj] at h2
  have h4 : (4 : Int32).toInt = 4 := by decide
  exact ⟨j, by omega, rfl⟩
theorem vaS_F {s t : State} {H : Heap} (h : va_S (fun _ => False) s.heap H []) (ht : t.heap = H) : va_F (fun _ => False) s t := h.F ht
theorem noIn {x : Int32} (h1 : ¬ x < 0) (h2 : ¬ (-1 : Int32) < x) : False := absurd (Int32.le_trans (Int32.not_lt.mp h1) (Int32.not_lt.mp h2)) (by decide)
theorem lt4 {x : Int32} (h : ¬ (3 : Int32) < x) : x < 4 := by
  rw [Int32.lt_iff_toInt_lt] at h ⊢
  have h1 : (3 : Int32).toInt = 3 := by decide
  have h2 : (4 : Int32).toInt = 4 := by decide
  omega
theorem nlt4 {x : Int32} (h : (3 : Int32) < x) : ¬ x < 4 := by
  rw [Int32.lt_iff_toInt_lt] at h ⊢
  have h1 : (3 : Int32).toInt = 3 := by decide
  have h2 : (4 : Int32).toInt = 4 := by decide
  omega
/-- the reference's picture: nothing in it, and what was thrown last -/
def frT (k : Int32) (ad : Nat → Nat → Nat) (em : Nat) (u : Nat → Nat → va_E) : Prop := u 11 0 = .inr (12, [.int k, .ref (ad 6 0)]) ∧ u 6 0 = .inr (7, [.ref (ad 60 0), .ref (ad 60 1), .ref (ad 60 2), .ref (ad 60 3), .ref (ad 61 0), .ref (ad 60 4), .ref (ad 60 5), .ref (ad 62 0), .ref (ad 60 6), .int 0]) ∧ ∀ j, j < 7 → u 60 j = .inr (0, [.int 0, .ref em, .int 0])
def inM (NL : List (Nat × Nat)) : Prop := (11, 0) ∈ NL ∧ (6, 0) ∈ NL ∧ ∀ j, j < 7 → (60, j) ∈ NL
/-- a method that returns, or throws and has changed nothing -/
abbrev pxX (P : String → Prop) : String → State → State → Prop := vx_X (fun _ : Unit => True) (fun E _ _ => P E) (fun _ => False)
