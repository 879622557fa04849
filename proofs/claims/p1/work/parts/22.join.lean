

section QHD
variable {p : Program} {l : Launch} {e : Env} {R : Room} {s : State} {m : MethodId} {args : Array Value} {below : List Frame} {meth : Method} {c : Code} {H : Heap} {locs : List Loc} {cells slots : Nat} {Q : State → Prop}
/-- roads that come together at pcJ with a number on the stack -/
theorem qh_join {ls : Array Slot} {pc pcJ : Nat} {st stJ : List Value} {E : Int32} (k : ∀ v : Int32, v = E → W p l e R s m args below meth c H locs cells slots Q (F0 m pcJ ls (.int v :: stJ))) (b : (∀ v : Int32, v = E → W p l e R s m args below meth c H locs cells slots Q (F0 m pcJ ls (.int v :: stJ))) → W p l e R s m args below meth c H locs cells slots Q (F0 m pc ls st)) : W p l e R s m args below meth c H locs cells slots Q (F0 m pc ls st) := b k
theorem qh_joinL {ls : Array Slot} {pc pcJ : Nat} {st stJ : List Value} {E : Int64} (k : ∀ v : Int64, v = E → W p l e R s m args below meth c H locs cells slots Q (F0 m pcJ ls (.long v :: stJ))) (b : (∀ v : Int64, v = E → W p l e R s m args below meth c H locs cells slots Q (F0 m pcJ ls (.long v :: stJ))) → W p l e R s m args below meth c H locs cells slots Q (F0 m pc ls st)) : W p l e R s m args below meth c H locs cells slots Q (F0 m pc ls st) := b k
/-- a loop, by a measure that falls -/
theorem qh_while {pc : Nat} {st : List Value} (I : Nat → Heap → List Loc → Array Slot → Prop) (step : ∀ (μ : Nat) (H : Heap) (locs : List Loc) (ls : Array Slot), I μ H locs ls → (∀ (μ' : Nat) (H' : Heap) (locs' : List Loc) (ls' : Array Slot), μ' < μ → I μ' H' locs' ls' → W p l e R s m args below meth c H' locs' cells slots Q (F0 m pc ls' st)) → W p l e R s m args below meth c H locs cells slots Q (F0 m pc ls st)) : ∀ (μ : Nat) {H : Heap} {locs : List Loc} {ls : Array Slot}, I μ H locs ls → W p l e R s m args below meth c H locs cells slots Q (F0 m pc ls st) := by
  intro μ
  induction μ using Nat.strongRecOn with
  | _ μ ih => exact fun {H locs ls} h => step μ H locs ls h (fun μ' H' locs' ls' hl h' => ih μ' hl h')
end QHD
