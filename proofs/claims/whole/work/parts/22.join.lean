

section QHD
variable {p : Program} {l : Launch} {e : Env} {R : Room} {s : State} {m : MethodId} {args : Array Value} {below : List Frame} {meth : Method} {c : Code} {H : Heap} {locs : List Loc} {cells slots : Nat} {Q : State → Prop}
/-- roads that come together at pcJ with a number on the stack -/
theorem qh_join {ls : Array Slot} {pc pcJ : Nat} {st stJ : List Value} {E : Int32} (k : ∀ v : Int32, v = E → W p l e R s m args below meth c H locs cells slots Q (F0 m pcJ ls (.int v :: stJ))) (b : (∀ v : Int32, v = E → W p l e R s m args below meth c H locs cells slots Q (F0 m pcJ ls (.int v :: stJ))) → W p l e R s m args below meth c H locs cells slots Q (F0 m pc ls st)) : W p l e R s m args below meth c H locs cells slots Q (F0 m pc ls st) := b k
theorem qh_joinL {ls : Array Slot} {pc pcJ : Nat} {st stJ : List Value} {E : Int64} (k : ∀ v : Int64, v = E → W p l e R s m args below meth c H locs cells slots Q (F0 m pcJ ls (.long v :: stJ))) (b : (∀ v : Int64, v = E → W p l e R s m args below meth c H locs cells slots Q (F0 m pcJ ls (.long v :: stJ))) → W p l e R s m args below meth c H locs cells slots Q (F0 m pc ls st)) : W p l e R s m args below meth c H locs cells slots Q (F0 m pc ls st) := b k
end QHD
