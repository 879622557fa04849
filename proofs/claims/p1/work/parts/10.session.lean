abbrev cX10_forgetStatement : ByteArray := prog_12_method_2_code
def yX10_forgetStatement : MethodName := ⟨RX10, "forgetStatement", "()V"⟩
abbrev cX10_forgetTransaction : ByteArray := prog_12_method_3_code
def yX10_forgetTransaction : MethodName := ⟨RX10, "forgetTransaction", "()V"⟩
abbrev cX10_beWrong : ByteArray := prog_12_method_5_code
def yX10_beWrong : MethodName := ⟨RX10, "beWrong", "(II)V"⟩
abbrev cX10_refuse : ByteArray := prog_12_method_6_code
def yX10_refuse : MethodName := ⟨RX10, "refuse", "(I)V"⟩
def wsX10_forgetStatement : List Cond := .code yX10_forgetStatement cX10_forgetStatement 1 none :: ([.fieldLink RX10 29 "QueryHall$Session" "outcome" "I", .fieldLink RX10 33 "QueryHall$Session" "reason" "I", .fieldLink RX10 36 "QueryHall$Session" "faultPlace" "I", .fieldLink RX10 39 "QueryHall$Session" "rows" "I", .fieldLink RX10 42 "QueryHall$Session" "columns" "I", .fieldLink RX10 48 "QueryHall$Session" "steps" "I"] ++ wsX100)
def wsX10_forgetTransaction : List Cond := .code yX10_forgetTransaction cX10_forgetTransaction 1 none :: ([.fieldLink RX10 45 "QueryHall$Session" "transaction" "I", .fieldLink RX10 51 "QueryHall$Session" "begun" "Z", .fieldLink RX10 55 "QueryHall$Session" "begin" "I", .fieldLink RX10 58 "QueryHall$Session" "lastRecord" "I", .fieldLink RX10 61 "QueryHall$Session" "openRecords" "I"] ++ wsX100)
def wsX10_beWrong : List Cond := .code yX10_beWrong cX10_beWrong 3 none :: ([.fieldLink RX10 29 "QueryHall$Session" "outcome" "I", .fieldLink RX10 33 "QueryHall$Session" "reason" "I", .fieldLink RX10 36 "QueryHall$Session" "faultPlace" "I"] ++ wsX100)
def wsX10_refuse : List Cond := .code yX10_refuse cX10_refuse 2 none :: ([.fieldLink RX10 29 "QueryHall$Session" "outcome" "I", .fieldLink RX10 33 "QueryHall$Session" "reason" "I"] ++ wsX100)
theorem dX10_forgetStatement_0 : decode cX10_forgetStatement 0 = .ok (.aload_n 0, 1) := by decide +kernel
theorem dX10_forgetStatement_1 : decode cX10_forgetStatement 1 = .ok (.iconst (-1), 1) := by decide +kernel
theorem dX10_forgetStatement_2 : decode cX10_forgetStatement 2 = .ok (.putfield 29, 3) := by decide +kernel
theorem dX10_forgetStatement_5 : decode cX10_forgetStatement 5 = .ok (.aload_n 0, 1) := by decide +kernel
theorem dX10_forgetStatement_6 : decode cX10_forgetStatement 6 = .ok (.iconst (-1), 1) := by decide +kernel
theorem dX10_forgetStatement_7 : decode cX10_forgetStatement 7 = .ok (.putfield 33, 3) := by decide +kernel
theorem dX10_forgetStatement_10 : decode cX10_forgetStatement 10 = .ok (.aload_n 0, 1) := by decide +kernel
theorem dX10_forgetStatement_11 : decode cX10_forgetStatement 11 = .ok (.iconst (-1), 1) := by decide +kernel
theorem dX10_forgetStatement_12 : decode cX10_forgetStatement 12 = .ok (.putfield 36, 3) := by decide +kernel
theorem dX10_forgetStatement_15 : decode cX10_forgetStatement 15 = .ok (.aload_n 0, 1) := by decide +kernel
theorem dX10_forgetStatement_16 : decode cX10_forgetStatement 16 = .ok (.iconst (-1), 1) := by decide +kernel
theorem dX10_forgetStatement_17 : decode cX10_forgetStatement 17 = .ok (.putfield 39, 3) := by decide +kernel
theorem dX10_forgetStatement_20 : decode cX10_forgetStatement 20 = .ok (.aload_n 0, 1) := by decide +kernel
theorem dX10_forgetStatement_21 : decode cX10_forgetStatement 21 = .ok (.iconst (-1), 1) := by decide +kernel
theorem dX10_forgetStatement_22 : decode cX10_forgetStatement 22 = .ok (.putfield 42, 3) := by decide +kernel
theorem dX10_forgetStatement_25 : decode cX10_forgetStatement 25 = .ok (.aload_n 0, 1) := by decide +kernel
theorem dX10_forgetStatement_26 : decode cX10_forgetStatement 26 = .ok (.iconst 0, 1) := by decide +kernel
theorem dX10_forgetStatement_27 : decode cX10_forgetStatement 27 = .ok (.putfield 48, 3) := by decide +kernel
theorem dX10_forgetStatement_30 : decode cX10_forgetStatement 30 = .ok (.return_, 1) := by decide +kernel
theorem dX10_forgetTransaction_0 : decode cX10_forgetTransaction 0 = .ok (.aload_n 0, 1) := by decide +kernel
theorem dX10_forgetTransaction_1 : decode cX10_forgetTransaction 1 = .ok (.iconst (-1), 1) := by decide +kernel
theorem dX10_forgetTransaction_2 : decode cX10_forgetTransaction 2 = .ok (.putfield 45, 3) := by decide +kernel
theorem dX10_forgetTransaction_5 : decode cX10_forgetTransaction 5 = .ok (.aload_n 0, 1) := by decide +kernel
theorem dX10_forgetTransaction_6 : decode cX10_forgetTransaction 6 = .ok (.iconst 0, 1) := by decide +kernel
theorem dX10_forgetTransaction_7 : decode cX10_forgetTransaction 7 = .ok (.putfield 51, 3) := by decide +kernel
theorem dX10_forgetTransaction_10 : decode cX10_forgetTransaction 10 = .ok (.aload_n 0, 1) := by decide +kernel
theorem dX10_forgetTransaction_11 : decode cX10_forgetTransaction 11 = .ok (.iconst 0, 1) := by decide +kernel
theorem dX10_forgetTransaction_12 : decode cX10_forgetTransaction 12 = .ok (.putfield 55, 3) := by decide +kernel
theorem dX10_forgetTransaction_15 : decode cX10_forgetTransaction 15 = .ok (.aload_n 0, 1) := by decide +kernel
theorem dX10_forgetTransaction_16 : decode cX10_forgetTransaction 16 = .ok (.iconst 0, 1) := by decide +kernel
theorem dX10_forgetTransaction_17 : decode cX10_forgetTransaction 17 = .ok (.putfield 58, 3) := by decide +kernel
theorem dX10_forgetTransaction_20 : decode cX10_forgetTransaction 20 = .ok (.aload_n 0, 1) := by decide +kernel
theorem dX10_forgetTransaction_21 : decode cX10_forgetTransaction 21 = .ok (.iconst 0, 1) := by decide +kernel
theorem dX10_forgetTransaction_22 : decode cX10_forgetTransaction 22 = .ok (.putfield 61, 3) := by decide +kernel
theorem dX10_forgetTransaction_25 : decode cX10_forgetTransaction 25 = .ok (.return_, 1) := by decide +kernel
theorem dX10_beWrong_0 : decode cX10_beWrong 0 = .ok (.aload_n 0, 1) := by decide +kernel
theorem dX10_beWrong_1 : decode cX10_beWrong 1 = .ok (.bipush (-4), 2) := by decide +kernel
theorem dX10_beWrong_3 : decode cX10_beWrong 3 = .ok (.putfield 29, 3) := by decide +kernel
theorem dX10_beWrong_6 : decode cX10_beWrong 6 = .ok (.aload_n 0, 1) := by decide +kernel
theorem dX10_beWrong_7 : decode cX10_beWrong 7 = .ok (.iload_n 1, 1) := by decide +kernel
theorem dX10_beWrong_8 : decode cX10_beWrong 8 = .ok (.putfield 33, 3) := by decide +kernel
theorem dX10_beWrong_11 : decode cX10_beWrong 11 = .ok (.aload_n 0, 1) := by decide +kernel
theorem dX10_beWrong_12 : decode cX10_beWrong 12 = .ok (.iload_n 2, 1) := by decide +kernel
theorem dX10_beWrong_13 : decode cX10_beWrong 13 = .ok (.putfield 36, 3) := by decide +kernel
theorem dX10_beWrong_16 : decode cX10_beWrong 16 = .ok (.return_, 1) := by decide +kernel
theorem dX10_refuse_0 : decode cX10_refuse 0 = .ok (.aload_n 0, 1) := by decide +kernel
theorem dX10_refuse_1 : decode cX10_refuse 1 = .ok (.bipush (-5), 2) := by decide +kernel
theorem dX10_refuse_3 : decode cX10_refuse 3 = .ok (.putfield 29, 3) := by decide +kernel
theorem dX10_refuse_6 : decode cX10_refuse 6 = .ok (.aload_n 0, 1) := by decide +kernel
theorem dX10_refuse_7 : decode cX10_refuse 7 = .ok (.iload_n 1, 1) := by decide +kernel
theorem dX10_refuse_8 : decode cX10_refuse 8 = .ok (.putfield 33, 3) := by decide +kernel
theorem dX10_refuse_11 : decode cX10_refuse 11 = .ok (.return_, 1) := by decide +kernel
set_option maxHeartbeats 4000000 in
set_option maxRecDepth 100000 in
/-- Session.forgetStatement() -/
theorem c_X10_forgetStatement (l : Launch) (dC : Nat → ClassId) (dI : Nat → Nat → Nat) (sz : Nat) (h0 tx cd ce pl : Nat) (f4 f5 f6 f7 f8 f9 f10 f11 f12 f13 f14 f15 : Int32) : Met l yX10_forgetStatement wsX10_forgetStatement ({ frames := 0, cells := 0, slots := 0, locals := 0 }) (va_Pc [.ref h0] (fun U => U.heap.size = sz ∧ va_P (dC, dI) vwCl [(h0, .inr (15, [.ref tx, .ref cd, .ref ce, .ref pl, .int f4, .int f5, .int f6, .int f7, .int f8, .int f9, .int f10, .int f11, .int f12, .int f13, .int f14, .int f15]))] U.heap ∧ va_K (dC, dI) vwCl [] U ∧ va_D (fun _ => True) [(h0, .inr (15, [.ref tx, .ref cd, .ref ce, .ref pl, .int f4, .int f5, .int f6, .int f7, .int f8, .int f9, .int f10, .int f11, .int f12, .int f13, .int f14, .int f15]))])) (va_Qv (fun (_ : Unit) => True) (fun (_ : Unit) (t : State) => va_P (dC, dI) vwCl [(h0, .inr (15, [.ref tx, .ref cd, .ref ce, .ref pl, .int f4, .int (-1), .int (-1), .int (-1), .int (-1), .int (-1), .int 0, .int f11, .int f12, .int f13, .int f14, .int f15]))] t.heap ∧ va_K (dC, dI) vwCl [] t ∧ va_D (va_A [(h0, .inr (15, [.ref tx, .ref cd, .ref ce, .ref pl, .int f4, .int f5, .int f6, .int f7, .int f8, .int f9, .int f10, .int f11, .int f12, .int f13, .int f14, .int f15]))] sz) [(h0, .inr (15, [.ref tx, .ref cd, .ref ce, .ref pl, .int f4, .int (-1), .int (-1), .int (-1), .int (-1), .int (-1), .int 0, .int f11, .int f12, .int f13, .int f14, .int f15]))]) (va_A [(h0, .inr (15, [.ref tx, .ref cd, .ref ce, .ref pl, .int f4, .int f5, .int f6, .int f7, .int f8, .int f9, .int f10, .int f11, .int f12, .int f13, .int f14, .int f15]))] sz)) 0 0 (va_A [(h0, .inr (15, [.ref tx, .ref cd, .ref ce, .ref pl, .int f4, .int f5, .int f6, .int f7, .int f8, .int f9, .int f10, .int f11, .int f12, .int f13, .int f14, .int f15]))] sz) := by
  refine Met.ofW (cc := cX10_forgetStatement) (maxL := 1) (ret := none) (by decide) rfl ?_
  intro p e s m args below meth c s₁ B hml hv
  obtain ⟨rfl, hsz, hP, hK, hD0⟩ := hv
  have hx := B.exec
  have hb := B.bytes
  have hr := B.returns
  have hts := atoms_spec (ws := wsX10_forgetStatement) B.pre
  have hown : s.vm.findClass RX10 = some m.cls := findClass_of_methodNamed B.named
  have hlocks := B.notSynchronized
  subst hsz
  have hD := hD0.self (sz := s.heap.size)
  generalize hAe : va_A [(h0, .inr (15, [.ref tx, .ref cd, .ref ce, .ref pl, .int f4, .int f5, .int f6, .int f7, .int f8, .int f9, .int f10, .int f11, .int f12, .int f13, .int f14, .int f15]))] s.heap.size = A at hD ⊢
  have hA : ∀ q : Nat, s.heap.size ≤ q → A q := fun q h => by rw [← hAe]; exact Or.inr h
  have hS : va_S A s.heap s.heap [] := va_S.rf
  have hP : va_P (dC, dI) vwCl [(h0, .inr (15, [.ref tx, .ref cd, .ref ce, .ref pl, .int f4, .int f5, .int f6, .int f7, .int f8, .int f9, .int f10, .int f11, .int f12, .int f13, .int f14, .int f15]))] s.heap := hP
  have hl := lv_entry ([.ref h0]) (n := 1) (Nat.le_of_ble_eq_true rfl)
  rw [lg_entry_eq]
  generalize (lg_sl ([.ref h0]) ++ List.replicate (1 - (lg_sl ([.ref h0])).length) Slot.unset).toArray = ls at hl ⊢
  have hl : lv_has ls 1 [(0, .ref h0)] := hl
  refine lv_aload_n hx hb dX10_forgetStatement_0 rfl (lv_at hl 0 rfl) ?_
  refine lv_iconst (v := -1) hx hb dX10_forgetStatement_1 (by decide) ?_
  refine va_put (D := (dC, dI)) (ci := 15) (v := .int (-1)) (ty := .int) (C := RX10) (T := TX10) (N := 16) hx hb hts (by decide +kernel) tyX10 tyX10_ok nmX10 hown hK hP hD hS 0 rfl rfl 5 (by decide) (hts (.fieldLink RX10 29 "QueryHall$Session" "outcome" "I") (by decide +kernel)) (fun _ h9 => h9) rfl (by decide +kernel) rfl rfl (Nat.le_of_ble_eq_true rfl) dX10_forgetStatement_2 (fun H locs hP hD hS => ?_)
  have hP : va_P (dC, dI) vwCl [(h0, .inr (15, [.ref tx, .ref cd, .ref ce, .ref pl, .int f4, .int (-1), .int f6, .int f7, .int f8, .int f9, .int f10, .int f11, .int f12, .int f13, .int f14, .int f15]))] H := hP
  have hD : va_D A [(h0, .inr (15, [.ref tx, .ref cd, .ref ce, .ref pl, .int f4, .int (-1), .int f6, .int f7, .int f8, .int f9, .int f10, .int f11, .int f12, .int f13, .int f14, .int f15]))] := hD
  refine lv_aload_n hx hb dX10_forgetStatement_5 rfl (lv_at hl 0 rfl) ?_
  refine lv_iconst (v := -1) hx hb dX10_forgetStatement_6 (by decide) ?_
  refine va_put (D := (dC, dI)) (ci := 15) (v := .int (-1)) (ty := .int) (C := RX10) (T := TX10) (N := 16) hx hb hts (by decide +kernel) tyX10 tyX10_ok nmX10 hown hK hP hD hS 0 rfl rfl 6 (by decide) (hts (.fieldLink RX10 33 "QueryHall$Session" "reason" "I") (by decide +kernel)) (fun _ h9 => h9) rfl (by decide +kernel) rfl rfl (Nat.le_of_ble_eq_true rfl) dX10_forgetStatement_7 (fun H locs hP hD hS => ?_)
  have hP : va_P (dC, dI) vwCl [(h0, .inr (15, [.ref tx, .ref cd, .ref ce, .ref pl, .int f4, .int (-1), .int (-1), .int f7, .int f8, .int f9, .int f10, .int f11, .int f12, .int f13, .int f14, .int f15]))] H := hP
  have hD : va_D A [(h0, .inr (15, [.ref tx, .ref cd, .ref ce, .ref pl, .int f4, .int (-1), .int (-1), .int f7, .int f8, .int f9, .int f10, .int f11, .int f12, .int f13, .int f14, .int f15]))] := hD
  refine lv_aload_n hx hb dX10_forgetStatement_10 rfl (lv_at hl 0 rfl) ?_
  refine lv_iconst (v := -1) hx hb dX10_forgetStatement_11 (by decide) ?_
  refine va_put (D := (dC, dI)) (ci := 15) (v := .int (-1)) (ty := .int) (C := RX10) (T := TX10) (N := 16) hx hb hts (by decide +kernel) tyX10 tyX10_ok nmX10 hown hK hP hD hS 0 rfl rfl 7 (by decide) (hts (.fieldLink RX10 36 "QueryHall$Session" "faultPlace" "I") (by decide +kernel)) (fun _ h9 => h9) rfl (by decide +kernel) rfl rfl (Nat.le_of_ble_eq_true rfl) dX10_forgetStatement_12 (fun H locs hP hD hS => ?_)
  have hP : va_P (dC, dI) vwCl [(h0, .inr (15, [.ref tx, .ref cd, .ref ce, .ref pl, .int f4, .int (-1), .int (-1), .int (-1), .int f8, .int f9, .int f10, .int f11, .int f12, .int f13, .int f14, .int f15]))] H := hP
  have hD : va_D A [(h0, .inr (15, [.ref tx, .ref cd, .ref ce, .ref pl, .int f4, .int (-1), .int (-1), .int (-1), .int f8, .int f9, .int f10, .int f11, .int f12, .int f13, .int f14, .int f15]))] := hD
  refine lv_aload_n hx hb dX10_forgetStatement_15 rfl (lv_at hl 0 rfl) ?_
  refine lv_iconst (v := -1) hx hb dX10_forgetStatement_16 (by decide) ?_
  refine va_put (D := (dC, dI)) (ci := 15) (v := .int (-1)) (ty := .int) (C := RX10) (T := TX10) (N := 16) hx hb hts (by decide +kernel) tyX10 tyX10_ok nmX10 hown hK hP hD hS 0 rfl rfl 8 (by decide) (hts (.fieldLink RX10 39 "QueryHall$Session" "rows" "I") (by decide +kernel)) (fun _ h9 => h9) rfl (by decide +kernel) rfl rfl (Nat.le_of_ble_eq_true rfl) dX10_forgetStatement_17 (fun H locs hP hD hS => ?_)
  have hP : va_P (dC, dI) vwCl [(h0, .inr (15, [.ref tx, .ref cd, .ref ce, .ref pl, .int f4, .int (-1), .int (-1), .int (-1), .int (-1), .int f9, .int f10, .int f11, .int f12, .int f13, .int f14, .int f15]))] H := hP
  have hD : va_D A [(h0, .inr (15, [.ref tx, .ref cd, .ref ce, .ref pl, .int f4, .int (-1), .int (-1), .int (-1), .int (-1), .int f9, .int f10, .int f11, .int f12, .int f13, .int f14, .int f15]))] := hD
  refine lv_aload_n hx hb dX10_forgetStatement_20 rfl (lv_at hl 0 rfl) ?_
  refine lv_iconst (v := -1) hx hb dX10_forgetStatement_21 (by decide) ?_
  refine va_put (D := (dC, dI)) (ci := 15) (v := .int (-1)) (ty := .int) (C := RX10) (T := TX10) (N := 16) hx hb hts (by decide +kernel) tyX10 tyX10_ok nmX10 hown hK hP hD hS 0 rfl rfl 9 (by decide) (hts (.fieldLink RX10 42 "QueryHall$Session" "columns" "I") (by decide +kernel)) (fun _ h9 => h9) rfl (by decide +kernel) rfl rfl (Nat.le_of_ble_eq_true rfl) dX10_forgetStatement_22 (fun H locs hP hD hS => ?_)
  have hP : va_P (dC, dI) vwCl [(h0, .inr (15, [.ref tx, .ref cd, .ref ce, .ref pl, .int f4, .int (-1), .int (-1), .int (-1), .int (-1), .int (-1), .int f10, .int f11, .int f12, .int f13, .int f14, .int f15]))] H := hP
  have hD : va_D A [(h0, .inr (15, [.ref tx, .ref cd, .ref ce, .ref pl, .int f4, .int (-1), .int (-1), .int (-1), .int (-1), .int (-1), .int f10, .int f11, .int f12, .int f13, .int f14, .int f15]))] := hD
  refine lv_aload_n hx hb dX10_forgetStatement_25 rfl (lv_at hl 0 rfl) ?_
  refine lv_iconst (v := 0) hx hb dX10_forgetStatement_26 (by decide) ?_
  refine va_put (D := (dC, dI)) (ci := 15) (v := .int 0) (ty := .int) (C := RX10) (T := TX10) (N := 16) hx hb hts (by decide +kernel) tyX10 tyX10_ok nmX10 hown hK hP hD hS 0 rfl rfl 10 (by decide) (hts (.fieldLink RX10 48 "QueryHall$Session" "steps" "I") (by decide +kernel)) (fun _ h9 => h9) rfl (by decide +kernel) rfl rfl (Nat.le_of_ble_eq_true rfl) dX10_forgetStatement_27 (fun H locs hP hD hS => ?_)
  have hP : va_P (dC, dI) vwCl [(h0, .inr (15, [.ref tx, .ref cd, .ref ce, .ref pl, .int f4, .int (-1), .int (-1), .int (-1), .int (-1), .int (-1), .int 0, .int f11, .int f12, .int f13, .int f14, .int f15]))] H := hP
  have hD : va_D A [(h0, .inr (15, [.ref tx, .ref cd, .ref ce, .ref pl, .int f4, .int (-1), .int (-1), .int (-1), .int (-1), .int (-1), .int 0, .int f11, .int f12, .int f13, .int f14, .int f15]))] := hD
  have hP9 := hP.sub (ws' := [(h0, .inr (15, [.ref tx, .ref cd, .ref ce, .ref pl, .int f4, .int (-1), .int (-1), .int (-1), .int (-1), .int (-1), .int 0, .int f11, .int f12, .int f13, .int f14, .int f15]))]) [0] rfl
  have hD9 := hD.sub (ws' := [(h0, .inr (15, [.ref tx, .ref cd, .ref ce, .ref pl, .int f4, .int (-1), .int (-1), .int (-1), .int (-1), .int (-1), .int 0, .int f11, .int f12, .int f13, .int f14, .int f15]))]) [0] (by decide) rfl
  have hK9 := hK.sub (tys' := []) [] rfl
  exact W.vret hx hb hr (fun t ht hW => ⟨⟨(), rfl, trivial, by rw [ht]; exact hP9, va_K.moved hW.alike hK9, hD9⟩, hS.F ht⟩) hS.2.2 dX10_forgetStatement_30
set_option maxHeartbeats 4000000 in
set_option maxRecDepth 100000 in
/-- Session.forgetTransaction() -/
theorem c_X10_forgetTransaction (l : Launch) (dC : Nat → ClassId) (dI : Nat → Nat → Nat) (sz : Nat) (h0 tx cd ce pl : Nat) (f4 f5 f6 f7 f8 f9 f10 f11 f12 f13 f14 f15 : Int32) : Met l yX10_forgetTransaction wsX10_forgetTransaction ({ frames := 0, cells := 0, slots := 0, locals := 0 }) (va_Pc [.ref h0] (fun U => U.heap.size = sz ∧ va_P (dC, dI) vwCl [(h0, .inr (15, [.ref tx, .ref cd, .ref ce, .ref pl, .int f4, .int f5, .int f6, .int f7, .int f8, .int f9, .int f10, .int f11, .int f12, .int f13, .int f14, .int f15]))] U.heap ∧ va_K (dC, dI) vwCl [] U ∧ va_D (fun _ => True) [(h0, .inr (15, [.ref tx, .ref cd, .ref ce, .ref pl, .int f4, .int f5, .int f6, .int f7, .int f8, .int f9, .int f10, .int f11, .int f12, .int f13, .int f14, .int f15]))])) (va_Qv (fun (_ : Unit) => True) (fun (_ : Unit) (t : State) => va_P (dC, dI) vwCl [(h0, .inr (15, [.ref tx, .ref cd, .ref ce, .ref pl, .int f4, .int f5, .int f6, .int f7, .int f8, .int f9, .int f10, .int (-1), .int 0, .int 0, .int 0, .int 0]))] t.heap ∧ va_K (dC, dI) vwCl [] t ∧ va_D (va_A [(h0, .inr (15, [.ref tx, .ref cd, .ref ce, .ref pl, .int f4, .int f5, .int f6, .int f7, .int f8, .int f9, .int f10, .int f11, .int f12, .int f13, .int f14, .int f15]))] sz) [(h0, .inr (15, [.ref tx, .ref cd, .ref ce, .ref pl, .int f4, .int f5, .int f6, .int f7, .int f8, .int f9, .int f10, .int (-1), .int 0, .int 0, .int 0, .int 0]))]) (va_A [(h0, .inr (15, [.ref tx, .ref cd, .ref ce, .ref pl, .int f4, .int f5, .int f6, .int f7, .int f8, .int f9, .int f10, .int f11, .int f12, .int f13, .int f14, .int f15]))] sz)) 0 0 (va_A [(h0, .inr (15, [.ref tx, .ref cd, .ref ce, .ref pl, .int f4, .int f5, .int f6, .int f7, .int f8, .int f9, .int f10, .int f11, .int f12, .int f13, .int f14, .int f15]))] sz) := by
  refine Met.ofW (cc := cX10_forgetTransaction) (maxL := 1) (ret := none) (by decide) rfl ?_
  intro p e s m args below meth c s₁ B hml hv
  obtain ⟨rfl, hsz, hP, hK, hD0⟩ := hv
  have hx := B.exec
  have hb := B.bytes
  have hr := B.returns
  have hts := atoms_spec (ws := wsX10_forgetTransaction) B.pre
  have hown : s.vm.findClass RX10 = some m.cls := findClass_of_methodNamed B.named
  have hlocks := B.notSynchronized
  subst hsz
  have hD := hD0.self (sz := s.heap.size)
  generalize hAe : va_A [(h0, .inr (15, [.ref tx, .ref cd, .ref ce, .ref pl, .int f4, .int f5, .int f6, .int f7, .int f8, .int f9, .int f10, .int f11, .int f12, .int f13, .int f14, .int f15]))] s.heap.size = A at hD ⊢
  have hA : ∀ q : Nat, s.heap.size ≤ q → A q := fun q h => by rw [← hAe]; exact Or.inr h
  have hS : va_S A s.heap s.heap [] := va_S.rf
  have hP : va_P (dC, dI) vwCl [(h0, .inr (15, [.ref tx, .ref cd, .ref ce, .ref pl, .int f4, .int f5, .int f6, .int f7, .int f8, .int f9, .int f10, .int f11, .int f12, .int f13, .int f14, .int f15]))] s.heap := hP
  have hl := lv_entry ([.ref h0]) (n := 1) (Nat.le_of_ble_eq_true rfl)
  rw [lg_entry_eq]
  generalize (lg_sl ([.ref h0]) ++ List.replicate (1 - (lg_sl ([.ref h0])).length) Slot.unset).toArray = ls at hl ⊢
  have hl : lv_has ls 1 [(0, .ref h0)] := hl
  refine lv_aload_n hx hb dX10_forgetTransaction_0 rfl (lv_at hl 0 rfl) ?_
  refine lv_iconst (v := -1) hx hb dX10_forgetTransaction_1 (by decide) ?_
  refine va_put (D := (dC, dI)) (ci := 15) (v := .int (-1)) (ty := .int) (C := RX10) (T := TX10) (N := 16) hx hb hts (by decide +kernel) tyX10 tyX10_ok nmX10 hown hK hP hD hS 0 rfl rfl 11 (by decide) (hts (.fieldLink RX10 45 "QueryHall$Session" "transaction" "I") (by decide +kernel)) (fun _ h9 => h9) rfl (by decide +kernel) rfl rfl (Nat.le_of_ble_eq_true rfl) dX10_forgetTransaction_2 (fun H locs hP hD hS => ?_)
  have hP : va_P (dC, dI) vwCl [(h0, .inr (15, [.ref tx, .ref cd, .ref ce, .ref pl, .int f4, .int f5, .int f6, .int f7, .int f8, .int f9, .int f10, .int (-1), .int f12, .int f13, .int f14, .int f15]))] H := hP
  have hD : va_D A [(h0, .inr (15, [.ref tx, .ref cd, .ref ce, .ref pl, .int f4, .int f5, .int f6, .int f7, .int f8, .int f9, .int f10, .int (-1), .int f12, .int f13, .int f14, .int f15]))] := hD
  refine lv_aload_n hx hb dX10_forgetTransaction_5 rfl (lv_at hl 0 rfl) ?_
  refine lv_iconst (v := 0) hx hb dX10_forgetTransaction_6 (by decide) ?_
  refine va_put (D := (dC, dI)) (ci := 15) (v := .int 0) (ty := .boolean) (C := RX10) (T := TX10) (N := 16) hx hb hts (by decide +kernel) tyX10 tyX10_ok nmX10 hown hK hP hD hS 0 rfl rfl 12 (by decide) (hts (.fieldLink RX10 51 "QueryHall$Session" "begun" "Z") (by decide +kernel)) (fun _ h9 => h9) rfl (by decide +kernel) rfl rfl (Nat.le_of_ble_eq_true rfl) dX10_forgetTransaction_7 (fun H locs hP hD hS => ?_)
  have hP : va_P (dC, dI) vwCl [(h0, .inr (15, [.ref tx, .ref cd, .ref ce, .ref pl, .int f4, .int f5, .int f6, .int f7, .int f8, .int f9, .int f10, .int (-1), .int 0, .int f13, .int f14, .int f15]))] H := hP
  have hD : va_D A [(h0, .inr (15, [.ref tx, .ref cd, .ref ce, .ref pl, .int f4, .int f5, .int f6, .int f7, .int f8, .int f9, .int f10, .int (-1), .int 0, .int f13, .int f14, .int f15]))] := hD
  refine lv_aload_n hx hb dX10_forgetTransaction_10 rfl (lv_at hl 0 rfl) ?_
  refine lv_iconst (v := 0) hx hb dX10_forgetTransaction_11 (by decide) ?_
  refine va_put (D := (dC, dI)) (ci := 15) (v := .int 0) (ty := .int) (C := RX10) (T := TX10) (N := 16) hx hb hts (by decide +kernel) tyX10 tyX10_ok nmX10 hown hK hP hD hS 0 rfl rfl 13 (by decide) (hts (.fieldLink RX10 55 "QueryHall$Session" "begin" "I") (by decide +kernel)) (fun _ h9 => h9) rfl (by decide +kernel) rfl rfl (Nat.le_of_ble_eq_true rfl) dX10_forgetTransaction_12 (fun H locs hP hD hS => ?_)
  have hP : va_P (dC, dI) vwCl [(h0, .inr (15, [.ref tx, .ref cd, .ref ce, .ref pl, .int f4, .int f5, .int f6, .int f7, .int f8, .int f9, .int f10, .int (-1), .int 0, .int 0, .int f14, .int f15]))] H := hP
  have hD : va_D A [(h0, .inr (15, [.ref tx, .ref cd, .ref ce, .ref pl, .int f4, .int f5, .int f6, .int f7, .int f8, .int f9, .int f10, .int (-1), .int 0, .int 0, .int f14, .int f15]))] := hD
  refine lv_aload_n hx hb dX10_forgetTransaction_15 rfl (lv_at hl 0 rfl) ?_
  refine lv_iconst (v := 0) hx hb dX10_forgetTransaction_16 (by decide) ?_
  refine va_put (D := (dC, dI)) (ci := 15) (v := .int 0) (ty := .int) (C := RX10) (T := TX10) (N := 16) hx hb hts (by decide +kernel) tyX10 tyX10_ok nmX10 hown hK hP hD hS 0 rfl rfl 14 (by decide) (hts (.fieldLink RX10 58 "QueryHall$Session" "lastRecord" "I") (by decide +kernel)) (fun _ h9 => h9) rfl (by decide +kernel) rfl rfl (Nat.le_of_ble_eq_true rfl) dX10_forgetTransaction_17 (fun H locs hP hD hS => ?_)
  have hP : va_P (dC, dI) vwCl [(h0, .inr (15, [.ref tx, .ref cd, .ref ce, .ref pl, .int f4, .int f5, .int f6, .int f7, .int f8, .int f9, .int f10, .int (-1), .int 0, .int 0, .int 0, .int f15]))] H := hP
  have hD : va_D A [(h0, .inr (15, [.ref tx, .ref cd, .ref ce, .ref pl, .int f4, .int f5, .int f6, .int f7, .int f8, .int f9, .int f10, .int (-1), .int 0, .int 0, .int 0, .int f15]))] := hD
  refine lv_aload_n hx hb dX10_forgetTransaction_20 rfl (lv_at hl 0 rfl) ?_
  refine lv_iconst (v := 0) hx hb dX10_forgetTransaction_21 (by decide) ?_
  refine va_put (D := (dC, dI)) (ci := 15) (v := .int 0) (ty := .int) (C := RX10) (T := TX10) (N := 16) hx hb hts (by decide +kernel) tyX10 tyX10_ok nmX10 hown hK hP hD hS 0 rfl rfl 15 (by decide) (hts (.fieldLink RX10 61 "QueryHall$Session" "openRecords" "I") (by decide +kernel)) (fun _ h9 => h9) rfl (by decide +kernel) rfl rfl (Nat.le_of_ble_eq_true rfl) dX10_forgetTransaction_22 (fun H locs hP hD hS => ?_)
  have hP : va_P (dC, dI) vwCl [(h0, .inr (15, [.ref tx, .ref cd, .ref ce, .ref pl, .int f4, .int f5, .int f6, .int f7, .int f8, .int f9, .int f10, .int (-1), .int 0, .int 0, .int 0, .int 0]))] H := hP
  have hD : va_D A [(h0, .inr (15, [.ref tx, .ref cd, .ref ce, .ref pl, .int f4, .int f5, .int f6, .int f7, .int f8, .int f9, .int f10, .int (-1), .int 0, .int 0, .int 0, .int 0]))] := hD
  have hP9 := hP.sub (ws' := [(h0, .inr (15, [.ref tx, .ref cd, .ref ce, .ref pl, .int f4, .int f5, .int f6, .int f7, .int f8, .int f9, .int f10, .int (-1), .int 0, .int 0, .int 0, .int 0]))]) [0] rfl
  have hD9 := hD.sub (ws' := [(h0, .inr (15, [.ref tx, .ref cd, .ref ce, .ref pl, .int f4, .int f5, .int f6, .int f7, .int f8, .int f9, .int f10, .int (-1), .int 0, .int 0, .int 0, .int 0]))]) [0] (by decide) rfl
  have hK9 := hK.sub (tys' := []) [] rfl
  exact W.vret hx hb hr (fun t ht hW => ⟨⟨(), rfl, trivial, by rw [ht]; exact hP9, va_K.moved hW.alike hK9, hD9⟩, hS.F ht⟩) hS.2.2 dX10_forgetTransaction_25
set_option maxHeartbeats 4000000 in
set_option maxRecDepth 100000 in
/-- Session.refuse(why) -/
theorem c_X10_refuse (l : Launch) (dC : Nat → ClassId) (dI : Nat → Nat → Nat) (sz : Nat) (h0 tx cd ce pl : Nat) (f4 f5 f6 f7 f8 f9 f10 f11 f12 f13 f14 f15 : Int32) (p0 : Int32) : Met l yX10_refuse wsX10_refuse ({ frames := 0, cells := 0, slots := 0, locals := 0 }) (va_Pc [.ref h0, .int p0] (fun U => U.heap.size = sz ∧ va_P (dC, dI) vwCl [(h0, .inr (15, [.ref tx, .ref cd, .ref ce, .ref pl, .int f4, .int f5, .int f6, .int f7, .int f8, .int f9, .int f10, .int f11, .int f12, .int f13, .int f14, .int f15]))] U.heap ∧ va_K (dC, dI) vwCl [] U ∧ va_D (fun _ => True) [(h0, .inr (15, [.ref tx, .ref cd, .ref ce, .ref pl, .int f4, .int f5, .int f6, .int f7, .int f8, .int f9, .int f10, .int f11, .int f12, .int f13, .int f14, .int f15]))])) (va_Qv (fun (_ : Unit) => True) (fun (_ : Unit) (t : State) => va_P (dC, dI) vwCl [(h0, .inr (15, [.ref tx, .ref cd, .ref ce, .ref pl, .int f4, .int (-5), .int p0, .int f7, .int f8, .int f9, .int f10, .int f11, .int f12, .int f13, .int f14, .int f15]))] t.heap ∧ va_K (dC, dI) vwCl [] t ∧ va_D (va_A [(h0, .inr (15, [.ref tx, .ref cd, .ref ce, .ref pl, .int f4, .int f5, .int f6, .int f7, .int f8, .int f9, .int f10, .int f11, .int f12, .int f13, .int f14, .int f15]))] sz) [(h0, .inr (15, [.ref tx, .ref cd, .ref ce, .ref pl, .int f4, .int (-5), .int p0, .int f7, .int f8, .int f9, .int f10, .int f11, .int f12, .int f13, .int f14, .int f15]))]) (va_A [(h0, .inr (15, [.ref tx, .ref cd, .ref ce, .ref pl, .int f4, .int f5, .int f6, .int f7, .int f8, .int f9, .int f10, .int f11, .int f12, .int f13, .int f14, .int f15]))] sz)) 0 0 (va_A [(h0, .inr (15, [.ref tx, .ref cd, .ref ce, .ref pl, .int f4, .int f5, .int f6, .int f7, .int f8, .int f9, .int f10, .int f11, .int f12, .int f13, .int f14, .int f15]))] sz) := by
  refine Met.ofW (cc := cX10_refuse) (maxL := 2) (ret := none) (by decide) rfl ?_
  intro p e s m args below meth c s₁ B hml hv
  obtain ⟨rfl, hsz, hP, hK, hD0⟩ := hv
  have hx := B.exec
  have hb := B.bytes
  have hr := B.returns
  have hts := atoms_spec (ws := wsX10_refuse) B.pre
  have hown : s.vm.findClass RX10 = some m.cls := findClass_of_methodNamed B.named
  have hlocks := B.notSynchronized
  subst hsz
  have hD := hD0.self (sz := s.heap.size)
  generalize hAe : va_A [(h0, .inr (15, [.ref tx, .ref cd, .ref ce, .ref pl, .int f4, .int f5, .int f6, .int f7, .int f8, .int f9, .int f10, .int f11, .int f12, .int f13, .int f14, .int f15]))] s.heap.size = A at hD ⊢
  have hA : ∀ q : Nat, s.heap.size ≤ q → A q := fun q h => by rw [← hAe]; exact Or.inr h
  have hS : va_S A s.heap s.heap [] := va_S.rf
  have hP : va_P (dC, dI) vwCl [(h0, .inr (15, [.ref tx, .ref cd, .ref ce, .ref pl, .int f4, .int f5, .int f6, .int f7, .int f8, .int f9, .int f10, .int f11, .int f12, .int f13, .int f14, .int f15]))] s.heap := hP
  have hl := lv_entry ([.ref h0, .int p0]) (n := 2) (Nat.le_of_ble_eq_true rfl)
  rw [lg_entry_eq]
  generalize (lg_sl ([.ref h0, .int p0]) ++ List.replicate (2 - (lg_sl ([.ref h0, .int p0])).length) Slot.unset).toArray = ls at hl ⊢
  have hl : lv_has ls 2 [(0, .ref h0), (1, .int p0)] := hl
  refine lv_aload_n hx hb dX10_refuse_0 rfl (lv_at hl 0 rfl) ?_
  refine lv_bipush (v := -5) hx hb dX10_refuse_1 (by decide) ?_
  refine va_put (D := (dC, dI)) (ci := 15) (v := .int (-5)) (ty := .int) (C := RX10) (T := TX10) (N := 16) hx hb hts (by decide +kernel) tyX10 tyX10_ok nmX10 hown hK hP hD hS 0 rfl rfl 5 (by decide) (hts (.fieldLink RX10 29 "QueryHall$Session" "outcome" "I") (by decide +kernel)) (fun _ h9 => h9) rfl (by decide +kernel) rfl rfl (Nat.le_of_ble_eq_true rfl) dX10_refuse_3 (fun H locs hP hD hS => ?_)
  have hP : va_P (dC, dI) vwCl [(h0, .inr (15, [.ref tx, .ref cd, .ref ce, .ref pl, .int f4, .int (-5), .int f6, .int f7, .int f8, .int f9, .int f10, .int f11, .int f12, .int f13, .int f14, .int f15]))] H := hP
  have hD : va_D A [(h0, .inr (15, [.ref tx, .ref cd, .ref ce, .ref pl, .int f4, .int (-5), .int f6, .int f7, .int f8, .int f9, .int f10, .int f11, .int f12, .int f13, .int f14, .int f15]))] := hD
  refine lv_aload_n hx hb dX10_refuse_6 rfl (lv_at hl 0 rfl) ?_
  refine lv_iload_n hx hb dX10_refuse_7 rfl (lv_at hl 1 rfl) ?_
  refine va_put (D := (dC, dI)) (ci := 15) (v := .int p0) (ty := .int) (C := RX10) (T := TX10) (N := 16) hx hb hts (by decide +kernel) tyX10 tyX10_ok nmX10 hown hK hP hD hS 0 rfl rfl 6 (by decide) (hts (.fieldLink RX10 33 "QueryHall$Session" "reason" "I") (by decide +kernel)) (fun _ h9 => h9) rfl (by decide +kernel) rfl rfl (Nat.le_of_ble_eq_true rfl) dX10_refuse_8 (fun H locs hP hD hS => ?_)
  have hP : va_P (dC, dI) vwCl [(h0, .inr (15, [.ref tx, .ref cd, .ref ce, .ref pl, .int f4, .int (-5), .int p0, .int f7, .int f8, .int f9, .int f10, .int f11, .int f12, .int f13, .int f14, .int f15]))] H := hP
  have hD : va_D A [(h0, .inr (15, [.ref tx, .ref cd, .ref ce, .ref pl, .int f4, .int (-5), .int p0, .int f7, .int f8, .int f9, .int f10, .int f11, .int f12, .int f13, .int f14, .int f15]))] := hD
  have hP9 := hP.sub (ws' := [(h0, .inr (15, [.ref tx, .ref cd, .ref ce, .ref pl, .int f4, .int (-5), .int p0, .int f7, .int f8, .int f9, .int f10, .int f11, .int f12, .int f13, .int f14, .int f15]))]) [0] rfl
  have hD9 := hD.sub (ws' := [(h0, .inr (15, [.ref tx, .ref cd, .ref ce, .ref pl, .int f4, .int (-5), .int p0, .int f7, .int f8, .int f9, .int f10, .int f11, .int f12, .int f13, .int f14, .int f15]))]) [0] (by decide) rfl
  have hK9 := hK.sub (tys' := []) [] rfl
  exact W.vret hx hb hr (fun t ht hW => ⟨⟨(), rfl, trivial, by rw [ht]; exact hP9, va_K.moved hW.alike hK9, hD9⟩, hS.F ht⟩) hS.2.2 dX10_refuse_11
set_option maxHeartbeats 4000000 in
set_option maxRecDepth 100000 in
/-- Session.beWrong(kind, place) -/
theorem c_X10_beWrong (l : Launch) (dC : Nat → ClassId) (dI : Nat → Nat → Nat) (sz : Nat) (h0 tx cd ce pl : Nat) (f4 f5 f6 f7 f8 f9 f10 f11 f12 f13 f14 f15 : Int32) (p0 p1 : Int32) : Met l yX10_beWrong wsX10_beWrong ({ frames := 0, cells := 0, slots := 0, locals := 0 }) (va_Pc [.ref h0, .int p0, .int p1] (fun U => U.heap.size = sz ∧ va_P (dC, dI) vwCl [(h0, .inr (15, [.ref tx, .ref cd, .ref ce, .ref pl, .int f4, .int f5, .int f6, .int f7, .int f8, .int f9, .int f10, .int f11, .int f12, .int f13, .int f14, .int f15]))] U.heap ∧ va_K (dC, dI) vwCl [] U ∧ va_D (fun _ => True) [(h0, .inr (15, [.ref tx, .ref cd, .ref ce, .ref pl, .int f4, .int f5, .int f6, .int f7, .int f8, .int f9, .int f10, .int f11, .int f12, .int f13, .int f14, .int f15]))])) (va_Qv (fun (_ : Unit) => True) (fun (_ : Unit) (t : State) => va_P (dC, dI) vwCl [(h0, .inr (15, [.ref tx, .ref cd, .ref ce, .ref pl, .int f4, .int (-4), .int p0, .int p1, .int f8, .int f9, .int f10, .int f11, .int f12, .int f13, .int f14, .int f15]))] t.heap ∧ va_K (dC, dI) vwCl [] t ∧ va_D (va_A [(h0, .inr (15, [.ref tx, .ref cd, .ref ce, .ref pl, .int f4, .int f5, .int f6, .int f7, .int f8, .int f9, .int f10, .int f11, .int f12, .int f13, .int f14, .int f15]))] sz) [(h0, .inr (15, [.ref tx, .ref cd, .ref ce, .ref pl, .int f4, .int (-4), .int p0, .int p1, .int f8, .int f9, .int f10, .int f11, .int f12, .int f13, .int f14, .int f15]))]) (va_A [(h0, .inr (15, [.ref tx, .ref cd, .ref ce, .ref pl, .int f4, .int f5, .int f6, .int f7, .int f8, .int f9, .int f10, .int f11, .int f12, .int f13, .int f14, .int f15]))] sz)) 0 0 (va_A [(h0, .inr (15, [.ref tx, .ref cd, .ref ce, .ref pl, .int f4, .int f5, .int f6, .int f7, .int f8, .int f9, .int f10, .int f11, .int f12, .int f13, .int f14, .int f15]))] sz) := by
  refine Met.ofW (cc := cX10_beWrong) (maxL := 3) (ret := none) (by decide) rfl ?_
  intro p e s m args below meth c s₁ B hml hv
  obtain ⟨rfl, hsz, hP, hK, hD0⟩ := hv
  have hx := B.exec
  have hb := B.bytes
  have hr := B.returns
  have hts := atoms_spec (ws := wsX10_beWrong) B.pre
  have hown : s.vm.findClass RX10 = some m.cls := findClass_of_methodNamed B.named
  have hlocks := B.notSynchronized
  subst hsz
  have hD := hD0.self (sz := s.heap.size)
  generalize hAe : va_A [(h0, .inr (15, [.ref tx, .ref cd, .ref ce, .ref pl, .int f4, .int f5, .int f6, .int f7, .int f8, .int f9, .int f10, .int f11, .int f12, .int f13, .int f14, .int f15]))] s.heap.size = A at hD ⊢
  have hA : ∀ q : Nat, s.heap.size ≤ q → A q := fun q h => by rw [← hAe]; exact Or.inr h
  have hS : va_S A s.heap s.heap [] := va_S.rf
  have hP : va_P (dC, dI) vwCl [(h0, .inr (15, [.ref tx, .ref cd, .ref ce, .ref pl, .int f4, .int f5, .int f6, .int f7, .int f8, .int f9, .int f10, .int f11, .int f12, .int f13, .int f14, .int f15]))] s.heap := hP
  have hl := lv_entry ([.ref h0, .int p0, .int p1]) (n := 3) (Nat.le_of_ble_eq_true rfl)
  rw [lg_entry_eq]
  generalize (lg_sl ([.ref h0, .int p0, .int p1]) ++ List.replicate (3 - (lg_sl ([.ref h0, .int p0, .int p1])).length) Slot.unset).toArray = ls at hl ⊢
  have hl : lv_has ls 3 [(0, .ref h0), (1, .int p0), (2, .int p1)] := hl
  refine lv_aload_n hx hb dX10_beWrong_0 rfl (lv_at hl 0 rfl) ?_
  refine lv_bipush (v := -4) hx hb dX10_beWrong_1 (by decide) ?_
  refine va_put (D := (dC, dI)) (ci := 15) (v := .int (-4)) (ty := .int) (C := RX10) (T := TX10) (N := 16) hx hb hts (by decide +kernel) tyX10 tyX10_ok nmX10 hown hK hP hD hS 0 rfl rfl 5 (by decide) (hts (.fieldLink RX10 29 "QueryHall$Session" "outcome" "I") (by decide +kernel)) (fun _ h9 => h9) rfl (by decide +kernel) rfl rfl (Nat.le_of_ble_eq_true rfl) dX10_beWrong_3 (fun H locs hP hD hS => ?_)
  have hP : va_P (dC, dI) vwCl [(h0, .inr (15, [.ref tx, .ref cd, .ref ce, .ref pl, .int f4, .int (-4), .int f6, .int f7, .int f8, .int f9, .int f10, .int f11, .int f12, .int f13, .int f14, .int f15]))] H := hP
  have hD : va_D A [(h0, .inr (15, [.ref tx, .ref cd, .ref ce, .ref pl, .int f4, .int (-4), .int f6, .int f7, .int f8, .int f9, .int f10, .int f11, .int f12, .int f13, .int f14, .int f15]))] := hD
  refine lv_aload_n hx hb dX10_beWrong_6 rfl (lv_at hl 0 rfl) ?_
  refine lv_iload_n hx hb dX10_beWrong_7 rfl (lv_at hl 1 rfl) ?_
  refine va_put (D := (dC, dI)) (ci := 15) (v := .int p0) (ty := .int) (C := RX10) (T := TX10) (N := 16) hx hb hts (by decide +kernel) tyX10 tyX10_ok nmX10 hown hK hP hD hS 0 rfl rfl 6 (by decide) (hts (.fieldLink RX10 33 "QueryHall$Session" "reason" "I") (by decide +kernel)) (fun _ h9 => h9) rfl (by decide +kernel) rfl rfl (Nat.le_of_ble_eq_true rfl) dX10_beWrong_8 (fun H locs hP hD hS => ?_)
  have hP : va_P (dC, dI) vwCl [(h0, .inr (15, [.ref tx, .ref cd, .ref ce, .ref pl, .int f4, .int (-4), .int p0, .int f7, .int f8, .int f9, .int f10, .int f11, .int f12, .int f13, .int f14, .int f15]))] H := hP
  have hD : va_D A [(h0, .inr (15, [.ref tx, .ref cd, .ref ce, .ref pl, .int f4, .int (-4), .int p0, .int f7, .int f8, .int f9, .int f10, .int f11, .int f12, .int f13, .int f14, .int f15]))] := hD
  refine lv_aload_n hx hb dX10_beWrong_11 rfl (lv_at hl 0 rfl) ?_
  refine lv_iload_n hx hb dX10_beWrong_12 rfl (lv_at hl 2 rfl) ?_
  refine va_put (D := (dC, dI)) (ci := 15) (v := .int p1) (ty := .int) (C := RX10) (T := TX10) (N := 16) hx hb hts (by decide +kernel) tyX10 tyX10_ok nmX10 hown hK hP hD hS 0 rfl rfl 7 (by decide) (hts (.fieldLink RX10 36 "QueryHall$Session" "faultPlace" "I") (by decide +kernel)) (fun _ h9 => h9) rfl (by decide +kernel) rfl rfl (Nat.le_of_ble_eq_true rfl) dX10_beWrong_13 (fun H locs hP hD hS => ?_)
  have hP : va_P (dC, dI) vwCl [(h0, .inr (15, [.ref tx, .ref cd, .ref ce, .ref pl, .int f4, .int (-4), .int p0, .int p1, .int f8, .int f9, .int f10, .int f11, .int f12, .int f13, .int f14, .int f15]))] H := hP
  have hD : va_D A [(h0, .inr (15, [.ref tx, .ref cd, .ref ce, .ref pl, .int f4, .int (-4), .int p0, .int p1, .int f8, .int f9, .int f10, .int f11, .int f12, .int f13, .int f14, .int f15]))] := hD
  have hP9 := hP.sub (ws' := [(h0, .inr (15, [.ref tx, .ref cd, .ref ce, .ref pl, .int f4, .int (-4), .int p0, .int p1, .int f8, .int f9, .int f10, .int f11, .int f12, .int f13, .int f14, .int f15]))]) [0] rfl
  have hD9 := hD.sub (ws' := [(h0, .inr (15, [.ref tx, .ref cd, .ref ce, .ref pl, .int f4, .int (-4), .int p0, .int p1, .int f8, .int f9, .int f10, .int f11, .int f12, .int f13, .int f14, .int f15]))]) [0] (by decide) rfl
  have hK9 := hK.sub (tys' := []) [] rfl
  exact W.vret hx hb hr (fun t ht hW => ⟨⟨(), rfl, trivial, by rw [ht]; exact hP9, va_K.moved hW.alike hK9, hD9⟩, hS.F ht⟩) hS.2.2 dX10_beWrong_16
