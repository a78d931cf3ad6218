/-- a list's empty row, below z -/
def pcE (z em : Nat) (U : State) (H : Heap) : Prop := va_Z "java/util/ArrayList" "DEFAULTCAPACITY_EMPTY_ELEMENTDATA" "[Ljava/lang/Object;" (.ref em) (fun q => z ≤ q) U H ∧ va_T (.object "java/lang/Object") em 0 (fun _ => .null) (fun q => z ≤ q) U H ∧ va_O "[Ljava/lang/Object;" em (fun q => z ≤ q) U H
abbrev y_toA : MethodName := ⟨"java/util/Collection", "toArray", "()[Ljava/lang/Object;"⟩
/-- the words that a list takes beside its own -/
def pcF (mi : Nat) (U : State) : Prop := va_Mi "[Ljava/lang/Object;" mi U ∧ va_Dc U ∧ va_Fw RJx4a65c y_toA yJx4a65c_toArray_d5877 U ∧ va_Nw (.castable RX9 "java/lang/Object") U ∧ va_Nw (.castable RX10 "java/lang/Object") U
theorem pcE_moved {z em : Nat} {s U : State} {H : Heap} (hvm : s.vm.Alike U.vm) (h : pcE z em s H) : pcE z em U H := ⟨va_Z.moved hvm h.1, va_T.moved hvm h.2.1, va_O.moved hvm h.2.2⟩
theorem pcE_kept {z em : Nat} {A : Nat → Prop} {s : State} {H0 H : Heap} {locs : List Loc} (h : pcE z em s H0) (hA : ∀ q, A q → z ≤ q) (hS : va_S A H0 H locs) : pcE z em s H :=
  ⟨h.1.kept (fun a h1 h2 => hS.2.1 a h1 (fun q => h2 (hA a q))), h.2.1.kept (fun a h1 h2 => hS.2.1 a h1 (fun q => h2 (hA a q))), h.2.2.kept (fun a h1 h2 => hS.2.1 a h1 (fun q => h2 (hA a q)))⟩
theorem pcF_moved {mi : Nat} {s U : State} (hW : s.WarmedH U.vm) (h : pcF mi s) : pcF mi U := ⟨h.1.moved hW.alike, h.2.1.moved hW.alike, va_Fw.moved (by decide) hW.alike h.2.2.1, va_Nw.warmC hW h.2.2.2.1, va_Nw.warmC hW h.2.2.2.2⟩
theorem pcF_same {mi : Nat} {s U : State} (hv : s.vm = U.vm) (h : pcF mi s) : pcF mi U := ⟨h.1.moved (hv ▸ Vm.Alike.refl _), h.2.1.moved (hv ▸ Vm.Alike.refl _), va_Fw.moved (by decide) (hv ▸ Vm.Alike.refl _) h.2.2.1, va_Nw.same rfl hv h.2.2.2.1, va_Nw.same rfl hv h.2.2.2.2⟩
def pcPreE (D : va_G) (cl : List vw_C) (tys : List (ClassId × FieldType)) (z em mi : Nat) (as : List Value) (B : Heap → Prop) : Array Value → State → Prop := va_Pc as (fun U => pcX D cl tys U ∧ pcF mi U ∧ (pcE z em U U.heap ∧ z ≤ U.heap.size) ∧ B U.heap)
theorem pcE_blind {D : va_G} {cl : List vw_C} {tys : List (ClassId × FieldType)} {z em mi : Nat} {as : List Value} {B : Heap → Prop} : FrameBlind (pcPreE D cl tys z em mi as B) := fun a U g mk h => ⟨h.1, pcX_same (s := U) pcN_ok rfl h.2.1, pcF_same (s := U) rfl h.2.2.1, ⟨pcE_moved (s := U) (Vm.Alike.refl _) h.2.2.2.1.1, h.2.2.2.1.2⟩, h.2.2.2.2⟩
theorem pcE_preS {D : va_G} {cl : List vw_C} {tys : List (ClassId × FieldType)} {z em mi : Nat} {As : List Value} {B : Heap → Prop} {s : State} {H : Heap} (hX : pcX D cl tys s) (hF : pcF mi s) (hE : pcE z em s H) (hz : z ≤ H.size) (hB : B H) : PreS s H (pcPreE D cl tys z em mi As B) As :=
  ⟨pcE_blind, fun U hU hW => ⟨rfl, pcX_moved pcN_ok hW hX, pcF_moved hW hF, ⟨by rw [hU]; exact pcE_moved hW.alike hE, by rw [hU]; exact hz⟩, by rw [hU]; exact hB⟩⟩
theorem pcE_preVL {D : va_G} {cl : List vw_C} {tys : List (ClassId × FieldType)} {z em mi : Nat} {As : List Value} {B : Heap → Prop} {s : State} {H : Heap} {C : String} {b : Nat} (hX : pcX D cl tys s) (hF : pcF mi s) (hE : pcE z em s H) (hz : z ≤ H.size) (hr : ∃ cell : Cell, H[b]? = some cell ∧ cell.vm.isStatics = false ∧ s.vm.findClass C = some cell.cls) (hB : B H) : PreV s H C b (pcPreE D cl tys z em mi (.ref b :: As) B) As :=
  ⟨pcE_blind, hr, fun U hU hW => ⟨rfl, pcX_moved pcN_ok hW hX, pcF_moved hW hF, ⟨by rw [hU]; exact pcE_moved hW.alike hE, by rw [hU]; exact hz⟩, by rw [hU]; exact hB⟩⟩
theorem va_cpy_none {a b c : Nat} : va_cpy (fun _ => (none : Option Nat)) (fun _ => none) a b c = fun _ => none := by
  funext i
  unfold va_cpy
  split <;> rfl
/-- the model's names, by its cells -/
abbrev nlM : List (Nat × Nat) := [(11, 0), (6, 0), (60, 0), (60, 1), (60, 2), (60, 3), (60, 4), (60, 5), (60, 6)]
def adM (m o b0 b1 b2 b3 b4 b5 b6 hs ex : Nat) : Nat → Nat → Nat := fun k i => if k = 11 then m else if k = 6 then o else if k = 61 then hs else if k = 62 then ex else if i = 0 then b0 else if i = 1 then b1 else if i = 2 then b2 else if i = 3 then b3 else if i = 4 then b4 else if i = 5 then b5 else b6
def ctM (th : Int32) (o b0 b1 b2 b3 b4 b5 b6 hs ex em : Nat) : Nat → Nat → va_E := fun k _ => if k = 11 then .inr (12, [.int th, .ref o]) else if k = 6 then .inr (7, [.ref b0, .ref b1, .ref b2, .ref b3, .ref hs, .ref b4, .ref b5, .ref ex, .ref b6, .int 0]) else .inr (0, [.int 0, .ref em, .int 0])
theorem inM_nlM : inM nlM := by
  refine ⟨by decide, by decide, fun j hj => ?_⟩
  rcases (show j = 0 ∨ j = 1 ∨ j = 2 ∨ j = 3 ∨ j = 4 ∨ j = 5 ∨ j = 6 by omega) with rfl | rfl | rfl | rfl | rfl | rfl | rfl <;> decide
theorem frT_ctM {th : Int32} {m o b0 b1 b2 b3 b4 b5 b6 hs ex em : Nat} : frT th (adM m o b0 b1 b2 b3 b4 b5 b6 hs ex) em (ctM th o b0 b1 b2 b3 b4 b5 b6 hs ex em) := ⟨rfl, rfl, fun _ _ => rfl⟩
theorem pcW_M {th : Int32} {m o b0 b1 b2 b3 b4 b5 b6 hs ex em : Nat} : pcW nlM (adM m o b0 b1 b2 b3 b4 b5 b6 hs ex) (ctM th o b0 b1 b2 b3 b4 b5 b6 hs ex em) = [(m, .inr (12, [.int th, .ref o])), (o, .inr (7, [.ref b0, .ref b1, .ref b2, .ref b3, .ref hs, .ref b4, .ref b5, .ref ex, .ref b6, .int 0])), (b0, .inr (0, [.int 0, .ref em, .int 0])), (b1, .inr (0, [.int 0, .ref em, .int 0])), (b2, .inr (0, [.int 0, .ref em, .int 0])), (b3, .inr (0, [.int 0, .ref em, .int 0])), (b4, .inr (0, [.int 0, .ref em, .int 0])), (b5, .inr (0, [.int 0, .ref em, .int 0])), (b6, .inr (0, [.int 0, .ref em, .int 0]))] := rfl
theorem pcW_Mu {th : Int32} {m o b0 b1 b2 b3 b4 b5 b6 hs ex em : Nat} {u : Nat → Nat → va_E} (h : frT th (adM m o b0 b1 b2 b3 b4 b5 b6 hs ex) em u) : pcW nlM (adM m o b0 b1 b2 b3 b4 b5 b6 hs ex) u = [(m, .inr (12, [.int th, .ref o])), (o, .inr (7, [.ref b0, .ref b1, .ref b2, .ref b3, .ref hs, .ref b4, .ref b5, .ref ex, .ref b6, .int 0])), (b0, .inr (0, [.int 0, .ref em, .int 0])), (b1, .inr (0, [.int 0, .ref em, .int 0])), (b2, .inr (0, [.int 0, .ref em, .int 0])), (b3, .inr (0, [.int 0, .ref em, .int 0])), (b4, .inr (0, [.int 0, .ref em, .int 0])), (b5, .inr (0, [.int 0, .ref em, .int 0])), (b6, .inr (0, [.int 0, .ref em, .int 0]))] := by
  rw [← pcW_M (th := th) (em := em)]
  refine pc_congr (fun k i hm => ⟨rfl, ?_⟩)
  have h1 : (k = 11 ∧ i = 0) ∨ (k = 6 ∧ i = 0) ∨ (k = 60 ∧ i < 7) := by
    simp only [nlM, List.mem_cons, Prod.mk.injEq, List.not_mem_nil, or_false] at hm
    omega
  rcases h1 with ⟨rfl, rfl⟩ | ⟨rfl, rfl⟩ | ⟨rfl, h2⟩
  · exact h.1
  · exact h.2.1
  · exact h.2.2 i h2
