

/-- what a throw of E needs of the tables, beside a method's own words -/
def qh_E (E d : String) (U : State) : Prop := va_Nw (.castable E E) U ∧ va_Nw (.declares ⟨"java/lang/RuntimeException", "<init>", d⟩) U ∧ va_Nw (.declares ⟨"java/lang/Exception", "<init>", d⟩) U ∧ va_Nw (.declares ⟨"java/lang/Throwable", "<init>", d⟩) U
theorem qh_E.same {E d : String} {u U : State} (h : u.vm = U.vm) (hE : qh_E E d u) : qh_E E d U := ⟨va_Nw.same rfl h hE.1, va_Nw.same rfl h hE.2.1, va_Nw.same rfl h hE.2.2.1, va_Nw.same rfl h hE.2.2.2⟩
theorem qh_E.warm {E d : String} {s U : State} (hW : s.WarmedH U.vm) (hE : qh_E E d s) : qh_E E d U := ⟨va_Nw.warmC hW hE.1, va_Nw.warmD hW hE.2.1, va_Nw.warmD hW hE.2.2.1, va_Nw.warmD hW hE.2.2.2⟩
/-- the statics of Throwable -/
def qh_T (A : Nat → Prop) (U : State) (H : Heap) : Prop := vx_Zq Bundle.tN "UNASSIGNED_STACK" Bundle.steD A U H ∧ vx_Zq Bundle.tN "SUPPRESSED_SENTINEL" Bundle.listD A U H
theorem qh_T.moved {A : Nat → Prop} {u U : State} {H : Heap} (hvm : u.vm.Alike U.vm) (h : qh_T A u H) : qh_T A U H := ⟨vx_Zq.moved hvm h.1, vx_Zq.moved hvm h.2⟩
theorem qh_T.kept {A : Nat → Prop} {U : State} {H H1 : Heap} (h : qh_T A U H) (hq : ∀ a : Nat, a < H.size → ¬ A a → H1[a]? = H[a]?) : qh_T A U H1 := ⟨vx_Zq.kept h.1 hq, vx_Zq.kept h.2 hq⟩
theorem qh_T.narrow {A B : Nat → Prop} {U : State} {H : Heap} (h : qh_T A U H) (hAB : ∀ q, B q → A q) : qh_T B U H := ⟨vx_Zq.narrow h.1 hAB, vx_Zq.narrow h.2 hAB⟩
