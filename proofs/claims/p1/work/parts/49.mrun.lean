abbrev cX14_init : ByteArray := prog_17_method_1_code
def yX14_init : MethodName := ⟨RX14, "<init>", "(II)V"⟩
def wsX14_init : List Cond := .code yX14_init cX14_init 3 none :: ([.fieldLink RX14 7 "QueryHallModel$Fault" "kind" "I", .fieldLink RX14 13 "QueryHallModel$Fault" "place" "I"] ++ wsX140)
theorem dX14_init_0 : decode cX14_init 0 = .ok (.aload_n 0, 1) := by decide +kernel
theorem dX14_init_1 : decode cX14_init 1 = .ok (.invokespecial 1, 3) := by decide +kernel
theorem dX14_init_4 : decode cX14_init 4 = .ok (.aload_n 0, 1) := by decide +kernel
theorem dX14_init_5 : decode cX14_init 5 = .ok (.iload_n 1, 1) := by decide +kernel
theorem dX14_init_6 : decode cX14_init 6 = .ok (.putfield 7, 3) := by decide +kernel
theorem dX14_init_9 : decode cX14_init 9 = .ok (.aload_n 0, 1) := by decide +kernel
theorem dX14_init_10 : decode cX14_init 10 = .ok (.iload_n 2, 1) := by decide +kernel
theorem dX14_init_11 : decode cX14_init 11 = .ok (.putfield 13, 3) := by decide +kernel
theorem dX14_init_14 : decode cX14_init 14 = .ok (.return_, 1) := by decide +kernel

theorem qh_upd (f : Nat → Int32) (k : Nat) (v : Int32) : upd f k v k = v := by simp [upd]
/-- words beside a method's own, as a premise -/
def qh_Wd (L : List Cond) (U : State) : Prop := L.all goodWord = true ∧ ∀ w ∈ L, w.before #[] U = true
theorem qh_Wd.warm {L : List Cond} {s U : State} (hW : s.WarmedH U.vm) (h : qh_Wd L s) : qh_Wd L U := ⟨h.1, fun w hw => word_at hW (good_of_word (List.all_eq_true.mp h.1 w hw)) (h.2 w hw)⟩
theorem qh_Wd.get {L : List Cond} {s : State} {args : Array Value} (h : qh_Wd L s) : ∀ w ∈ L, w.before args s = true := fun w hw => word_at (State.WarmedH.refl s) (good_of_word (List.all_eq_true.mp h.1 w hw)) (h.2 w hw)
theorem qh_Mo.same {a : Nat} {u U : State} (h : U.heap = u.heap) (hm : qh_Mo a u) : qh_Mo a U := by
  intro cell h9
  rw [h] at h9
  exact hm cell h9
set_option maxHeartbeats 4000000 in
set_option maxRecDepth 100000 in
/-- Fault(kind, place) -/
theorem c_X14_init (l : Launch) (hl9 : l.stackTraces = false) (dC : Nat → ClassId) (dI : Nat → Nat → Nat) (sz : Nat) (h0 : Nat) (p0 p1 : Int32) : Met l yX14_init wsX14_init ({ frames := 6, cells := 0, slots := 0, locals := 90 }) (va_Pc [.ref h0, .int p0, .int p1] (fun U => U.heap.size = sz ∧ va_P (dC, dI) vwCl [(h0, .inr (19, [.null, .null, .null, .null, .null, .int 0, .int 0, .int 0]))] U.heap ∧ va_K (dC, dI) vwCl [] U ∧ va_D (fun _ => True) [(h0, .inr (19, [.null, .null, .null, .null, .null, .int 0, .int 0, .int 0]))] ∧ qh_Su RX14 1 U ∧ qh_Mo h0 U ∧ qh_T (va_A [(h0, .inr (19, [.null, .null, .null, .null, .null, .int 0, .int 0, .int 0]))] sz) U U.heap)) (va_Qv (fun (_ : Unit) => True) (fun (_ : Unit) (t : State) => ∃ (v_1 : Value) (v_2 : Value), va_P (dC, dI) vwCl [(h0, .inr (19, [.ref h0, v_1, v_2, .null, .null, .int 0, .int p0, .int p1]))] t.heap ∧ va_K (dC, dI) vwCl [] t ∧ va_D (va_A [(h0, .inr (19, [.null, .null, .null, .null, .null, .int 0, .int 0, .int 0]))] sz) [(h0, .inr (19, [.ref h0, v_1, v_2, .null, .null, .int 0, .int p0, .int p1]))]) (va_A [(h0, .inr (19, [.null, .null, .null, .null, .null, .int 0, .int 0, .int 0]))] sz)) 0 0 (va_A [(h0, .inr (19, [.null, .null, .null, .null, .null, .int 0, .int 0, .int 0]))] sz) := by
  refine Met.ofW (cc := cX14_init) (maxL := 3) (ret := none) (by decide) rfl ?_
  intro p e s m args below meth c s₁ B hml hv
  obtain ⟨rfl, hsz, hP, hK, hD0, hE0, hE1, hE2⟩ := hv
  have hx := B.exec
  have hb := B.bytes
  have hr := B.returns
  have hts := atoms_spec (ws := wsX14_init) B.pre
  have hown : s.vm.findClass RX14 = some m.cls := findClass_of_methodNamed B.named
  have hlocks := B.notSynchronized
  have hin : meth.name = "<init>" := (name_of_methodNamed B.named B.method).1
  subst hsz
  have hD := hD0.self (sz := s.heap.size)
  generalize hAe : va_A [(h0, .inr (19, [.null, .null, .null, .null, .null, .int 0, .int 0, .int 0]))] s.heap.size = A at hD hE2 ⊢
  have hA : ∀ q : Nat, s.heap.size ≤ q → A q := fun q h => by rw [← hAe]; exact Or.inr h
  have hS : va_S A s.heap s.heap [] := va_S.rf
  have hP : va_P (dC, dI) vwCl [(h0, .inr (19, [.null, .null, .null, .null, .null, .int 0, .int 0, .int 0]))] s.heap := hP
  have hl := lv_entry ([.ref h0, .int p0, .int p1]) (n := 3) (Nat.le_of_ble_eq_true rfl)
  rw [lg_entry_eq]
  generalize (lg_sl ([.ref h0, .int p0, .int p1]) ++ List.replicate (3 - (lg_sl ([.ref h0, .int p0, .int p1])).length) Slot.unset).toArray = ls at hl ⊢
  have hl : lv_has ls 3 [(0, .ref h0), (1, .int p0), (2, .int p1)] := hl
  refine lv_aload_n hx hb dX14_init_0 rfl (lv_at hl 0 rfl) ?_
  refine qh_super (ci := 19) (q0 := 0) hx hb hl9 hts (by decide +kernel) hown (qh_Su.get (by decide +kernel) hE0) hE2.1 hE2.2 hK hP hD hS rfl rfl hE1 (hl.1.trans hml.symm) dX14_init_1 (Nat.le_of_ble_eq_true rfl) (Nat.le_of_ble_eq_true rfl) (fun v_1 v_2 H locs hP hD hS => ?_)
  have hP : va_P (dC, dI) vwCl [(h0, .inr (19, [.ref h0, v_1, v_2, .null, .null, .int 0, .int 0, .int 0]))] H := hP
  have hD : va_D A [(h0, .inr (19, [.ref h0, v_1, v_2, .null, .null, .int 0, .int 0, .int 0]))] := hD
  refine lv_aload_n hx hb dX14_init_4 rfl (lv_at hl 0 rfl) ?_
  refine lv_iload_n hx hb dX14_init_5 rfl (lv_at hl 1 rfl) ?_
  refine va_putF (D := (dC, dI)) (ci := 19) (v := .int p0) (ty := .int) (C := RX14) (T := TX14) (N := 8) hx hb hts (by decide +kernel) tyX14 tyX14_ok nmX14 hown hK hP hD hS 0 rfl rfl 6 (by decide) (hts (.fieldLink RX14 7 "QueryHallModel$Fault" "kind" "I") (by decide +kernel)) (fun _ h9 => h9) rfl hin rfl (by decide +kernel) rfl rfl (Nat.le_of_ble_eq_true rfl) dX14_init_6 (fun H locs hP hD hS => ?_)
  have hP : va_P (dC, dI) vwCl [(h0, .inr (19, [.ref h0, v_1, v_2, .null, .null, .int 0, .int p0, .int 0]))] H := hP
  have hD : va_D A [(h0, .inr (19, [.ref h0, v_1, v_2, .null, .null, .int 0, .int p0, .int 0]))] := hD
  refine lv_aload_n hx hb dX14_init_9 rfl (lv_at hl 0 rfl) ?_
  refine lv_iload_n hx hb dX14_init_10 rfl (lv_at hl 2 rfl) ?_
  refine va_putF (D := (dC, dI)) (ci := 19) (v := .int p1) (ty := .int) (C := RX14) (T := TX14) (N := 8) hx hb hts (by decide +kernel) tyX14 tyX14_ok nmX14 hown hK hP hD hS 0 rfl rfl 7 (by decide) (hts (.fieldLink RX14 13 "QueryHallModel$Fault" "place" "I") (by decide +kernel)) (fun _ h9 => h9) rfl hin rfl (by decide +kernel) rfl rfl (Nat.le_of_ble_eq_true rfl) dX14_init_11 (fun H locs hP hD hS => ?_)
  have hP : va_P (dC, dI) vwCl [(h0, .inr (19, [.ref h0, v_1, v_2, .null, .null, .int 0, .int p0, .int p1]))] H := hP
  have hD : va_D A [(h0, .inr (19, [.ref h0, v_1, v_2, .null, .null, .int 0, .int p0, .int p1]))] := hD
  have hP9 := hP.sub (ws' := [(h0, .inr (19, [.ref h0, v_1, v_2, .null, .null, .int 0, .int p0, .int p1]))]) [0] rfl
  have hD9 := hD.sub (ws' := [(h0, .inr (19, [.ref h0, v_1, v_2, .null, .null, .int 0, .int p0, .int p1]))]) [0] (by decide) rfl
  have hK9 := hK.sub (tys' := []) [] rfl
  exact W.vret hx hb hr (fun t ht hW => ⟨⟨(), rfl, trivial, v_1, v_2, by rw [ht]; exact hP9, va_K.moved hW.alike hK9, hD9⟩, hS.F ht⟩) hS.2.2 dX14_init_14
