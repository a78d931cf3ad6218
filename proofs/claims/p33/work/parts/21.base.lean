/-- the array classes, in the order of the places -/
abbrev tyL (cA : Nat → ClassId) : List (ClassId × FieldType) := [(cA 0, .int), (cA 1, .long), (cA 2, .array .int), (cA 3, .object RX3), (cA 4, .object RX1), (cA 5, .object RX2), (cA 6, .object RX0), (cA 7, .object RX4)]
theorem pcN_ok : pcN.all pcNest = true := by decide +kernel
section PQV
variable {p : Program} {l : Launch} {e : Env} {R : Room} {s : State} {m : MethodId} {args : Array Value} {below : List Frame} {meth : Method} {c : Code} {H : Heap} {locs : List Loc} {cells slots : Nat} {Q : State → Prop}
variable {pc : Nat} {ls : Array Slot} {rest st0 : List Value} {a : Array Value} {D : va_G} {cl : List vw_C} {A : Nat → Prop} {H0 : Heap} {NL : List (Nat × Nat)} {ad : Nat → Nat → Nat} {ct : Nat → Nat → va_E}
theorem pc_qcallv {post : Prop} (hr : va_Run p l e R s m args below meth c H locs cells slots 0 0 (F0 m pc ls st0) rest (va_Qv (fun (_ : Unit) => post) (fun _ _ => True) (fun _ => False) a) (fun _ => False)) (hW : pcQ D cl A H0 NL ad ct H locs)
    (kk : ∀ (H1 : Heap) (locs1 : List Loc), post → pcQ D cl A H0 NL ad ct H1 locs1 → W p l e R s m args below meth c H1 locs1 cells slots Q (F0 m (pc + 3) ls rest)) : W p l e R s m args below meth c H locs cells slots Q (F0 m pc ls st0) :=
  va_callv hr hW.2 (fun _ _ h => h.elim) (fun _ h => h.elim) (fun _ _ H1 locs1 _ _ hw _ _ hk hS => kk H1 locs1 hw ⟨pcP_keep hW.1 (fun q hq => hk q hq id), hS⟩)
theorem pc_mcalll {S : Type} {mc ms : Nat} {post : Int64 → S → Prop} {B : S → Heap → Prop} (hr : va_Run p l e R s m args below meth c H locs cells slots mc ms (F0 m pc ls st0) rest (va_Ql post (fun u t => B u t.heap) A a) A) (hS : va_S A H0 H locs)
    (kk : ∀ (r : Int64) (u : S) (H1 : Heap) (locs1 : List Loc), post r u → B u H1 → va_S A H0 H1 locs1 → W p l e R s m args below meth c H1 locs1 (cells + mc) (slots + ms) Q (F0 m (pc + 3) ls (.long r :: rest))) : W p l e R s m args below meth c H locs cells slots Q (F0 m pc ls st0) :=
  va_calll hr hS (fun _ _ h => h) (fun _ h => h) (fun r u t H1 locs1 ht _ hw hB _ _ hS => kk r u H1 locs1 hw (ht ▸ hB) hS)
end PQV
