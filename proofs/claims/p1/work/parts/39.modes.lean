abbrev cX4_covers : ByteArray := prog_6_method_2_code
def yX4_covers : MethodName := ⟨RX4, "covers", "(II)Z"⟩
abbrev cX7_goTogether : ByteArray := prog_9_method_4_code
def yX7_goTogether : MethodName := ⟨RX7, "goTogether", "(II)Z"⟩
abbrev cX21_bothOf : ByteArray := prog_15_method_87_code
def yX21_bothOf : MethodName := ⟨RX21, "bothOf", "(II)I"⟩
def wsX4_covers : List Cond := .code yX4_covers cX4_covers 2 (some .boolean) :: ([] ++ (vx_atM "java/lang/ArrayIndexOutOfBoundsException" ["java/lang/IndexOutOfBoundsException", "java/lang/RuntimeException", "java/lang/Exception"]).filter goodWord)
def wsX7_goTogether : List Cond := .code yX7_goTogether cX7_goTogether 2 (some .boolean) :: ([] ++ (vx_atM "java/lang/ArrayIndexOutOfBoundsException" ["java/lang/IndexOutOfBoundsException", "java/lang/RuntimeException", "java/lang/Exception"]).filter goodWord)
def wsX21_bothOf : List Cond := .code yX21_bothOf cX21_bothOf 2 (some .int) :: ([.methodLink RX21 792 yX21_covers, .static yX21_covers, .initialized RX21, .code yX21_covers cX21_covers 2 (some .boolean)])
theorem dX4_covers_0 : decode cX4_covers 0 = .ok (.getstatic 55, 3) := by decide +kernel
theorem dX4_covers_3 : decode cX4_covers 3 = .ok (.iload_n 0, 1) := by decide +kernel
theorem dX4_covers_4 : decode cX4_covers 4 = .ok (.iaload, 1) := by decide +kernel
theorem dX4_covers_5 : decode cX4_covers 5 = .ok (.iload_n 1, 1) := by decide +kernel
theorem dX4_covers_6 : decode cX4_covers 6 = .ok (.ishr, 1) := by decide +kernel
theorem dX4_covers_7 : decode cX4_covers 7 = .ok (.iconst 1, 1) := by decide +kernel
theorem dX4_covers_8 : decode cX4_covers 8 = .ok (.iand, 1) := by decide +kernel
theorem dX4_covers_9 : decode cX4_covers 9 = .ok (.iconst 1, 1) := by decide +kernel
theorem dX4_covers_10 : decode cX4_covers 10 = .ok (.if_icmp .ne 7, 3) := by decide +kernel
theorem dX4_covers_13 : decode cX4_covers 13 = .ok (.iconst 1, 1) := by decide +kernel
theorem dX4_covers_14 : decode cX4_covers 14 = .ok (.goto 4, 3) := by decide +kernel
theorem dX4_covers_17 : decode cX4_covers 17 = .ok (.iconst 0, 1) := by decide +kernel
theorem dX4_covers_18 : decode cX4_covers 18 = .ok (.ireturn, 1) := by decide +kernel
theorem dX7_goTogether_0 : decode cX7_goTogether 0 = .ok (.iload_n 1, 1) := by decide +kernel
theorem dX7_goTogether_1 : decode cX7_goTogether 1 = .ok (.ifCond .eq 16, 3) := by decide +kernel
theorem dX7_goTogether_4 : decode cX7_goTogether 4 = .ok (.getstatic 44, 3) := by decide +kernel
theorem dX7_goTogether_7 : decode cX7_goTogether 7 = .ok (.iload_n 0, 1) := by decide +kernel
theorem dX7_goTogether_8 : decode cX7_goTogether 8 = .ok (.iaload, 1) := by decide +kernel
theorem dX7_goTogether_9 : decode cX7_goTogether 9 = .ok (.iload_n 1, 1) := by decide +kernel
theorem dX7_goTogether_10 : decode cX7_goTogether 10 = .ok (.ishr, 1) := by decide +kernel
theorem dX7_goTogether_11 : decode cX7_goTogether 11 = .ok (.iconst 1, 1) := by decide +kernel
theorem dX7_goTogether_12 : decode cX7_goTogether 12 = .ok (.iand, 1) := by decide +kernel
theorem dX7_goTogether_13 : decode cX7_goTogether 13 = .ok (.iconst 1, 1) := by decide +kernel
theorem dX7_goTogether_14 : decode cX7_goTogether 14 = .ok (.if_icmp .ne 7, 3) := by decide +kernel
theorem dX7_goTogether_17 : decode cX7_goTogether 17 = .ok (.iconst 1, 1) := by decide +kernel
theorem dX7_goTogether_18 : decode cX7_goTogether 18 = .ok (.goto 4, 3) := by decide +kernel
theorem dX7_goTogether_21 : decode cX7_goTogether 21 = .ok (.iconst 0, 1) := by decide +kernel
theorem dX7_goTogether_22 : decode cX7_goTogether 22 = .ok (.ireturn, 1) := by decide +kernel
set_option maxRecDepth 20000 in
theorem ggX21_bothOf_X21_covers : GoodIn wsX21_bothOf wsX21_covers := goodIn_r _ [4] (by decide +kernel) (by decide +kernel)
set_option maxRecDepth 20000 in
theorem gX21_bothOf_X21_covers : GoodIn wsX21_bothOf (va_wsS RX21 792 yX21_covers wsX21_covers) := goodIn_app (goodIn_of _ (by decide +kernel)) ggX21_bothOf_X21_covers
theorem dX21_bothOf_0 : decode cX21_bothOf 0 = .ok (.iload_n 0, 1) := by decide +kernel
theorem dX21_bothOf_1 : decode cX21_bothOf 1 = .ok (.iload_n 1, 1) := by decide +kernel
theorem dX21_bothOf_2 : decode cX21_bothOf 2 = .ok (.invokestatic 792, 3) := by decide +kernel
theorem dX21_bothOf_5 : decode cX21_bothOf 5 = .ok (.ifCond .eq 7, 3) := by decide +kernel
theorem dX21_bothOf_8 : decode cX21_bothOf 8 = .ok (.iload_n 0, 1) := by decide +kernel
theorem dX21_bothOf_9 : decode cX21_bothOf 9 = .ok (.goto 16, 3) := by decide +kernel
theorem dX21_bothOf_12 : decode cX21_bothOf 12 = .ok (.iload_n 1, 1) := by decide +kernel
theorem dX21_bothOf_13 : decode cX21_bothOf 13 = .ok (.iload_n 0, 1) := by decide +kernel
theorem dX21_bothOf_14 : decode cX21_bothOf 14 = .ok (.invokestatic 792, 3) := by decide +kernel
theorem dX21_bothOf_17 : decode cX21_bothOf 17 = .ok (.ifCond .eq 7, 3) := by decide +kernel
theorem dX21_bothOf_20 : decode cX21_bothOf 20 = .ok (.iload_n 1, 1) := by decide +kernel
theorem dX21_bothOf_21 : decode cX21_bothOf 21 = .ok (.goto 4, 3) := by decide +kernel
theorem dX21_bothOf_24 : decode cX21_bothOf 24 = .ok (.iconst 4, 1) := by decide +kernel
theorem dX21_bothOf_25 : decode cX21_bothOf 25 = .ok (.ireturn, 1) := by decide +kernel

def qh_tog : Nat → Int32 := fun j => ([62, 30, 6, 10, 2, 0] : List Int32).getD j 0
def qh_cov : Nat → Int32 := fun j => ([0, 2, 6, 10, 30, 62] : List Int32).getD j 0
set_option maxHeartbeats 4000000 in
set_option maxRecDepth 100000 in
/-- Place.goTogether(one, other) -/
theorem c_X7_goTogether (l : Launch) (dC : Nat → ClassId) (dI : Nat → Nat → Nat) (sz : Nat) (tg : Nat) (p0 p1 : Int32) (hin : vp_in p0 6) : Met l yX7_goTogether wsX7_goTogether ({ frames := 0, cells := 0, slots := 0, locals := 0 }) (va_Pc [.int p0, .int p1] (fun U => U.heap.size = sz ∧ va_P (dC, dI) vwCl [] U.heap ∧ va_K (dC, dI) vwCl [] U ∧ va_D (fun _ => True) [] ∧ va_Nw (.fieldLinkNest RX7 44 "QueryHall" "TOGETHER" "[I" "QueryHall") U ∧ va_Z "QueryHall" "TOGETHER" "[I" (.ref tg) (va_A [] sz) U U.heap ∧ va_T .int tg 6 (fun j => .int (qh_tog j)) (va_A [] sz) U U.heap)) (va_Qi (fun (r : Int32) (_ : Unit) => r = (if p1 = 0 then 1 else if (qh_tog p0.toNatClampNeg >>> (p1 &&& 31)) &&& 1 = 1 then 1 else 0)) (fun (_ : Unit) (t : State) => va_P (dC, dI) vwCl [] t.heap ∧ va_K (dC, dI) vwCl [] t ∧ va_D (va_A [] sz) []) (va_A [] sz)) 0 0 (va_A [] sz) := by
  refine Met.ofW (cc := cX7_goTogether) (maxL := 2) (ret := (some .boolean)) (by decide) rfl ?_
  intro p e s m args below meth c s₁ B hml hv
  obtain ⟨rfl, hsz, hP, hK, hD0, hE0, hE1, hE2⟩ := hv
  have hx := B.exec
  have hb := B.bytes
  have hr := B.returns
  have hts := atoms_spec (ws := wsX7_goTogether) B.pre
  have hown : s.vm.findClass RX7 = some m.cls := findClass_of_methodNamed B.named
  have hlocks := B.notSynchronized
  subst hsz
  have hD := hD0.self (sz := s.heap.size)
  generalize hAe : va_A [] s.heap.size = A at hD hE1 hE2 ⊢
  have hA : ∀ q : Nat, s.heap.size ≤ q → A q := fun q h => by rw [← hAe]; exact Or.inr h
  have hS : va_S A s.heap s.heap [] := va_S.rf
  have hP : va_P (dC, dI) vwCl [] s.heap := hP
  have hl := lv_entry ([.int p0, .int p1]) (n := 2) (Nat.le_of_ble_eq_true rfl)
  rw [lg_entry_eq]
  generalize (lg_sl ([.int p0, .int p1]) ++ List.replicate (2 - (lg_sl ([.int p0, .int p1])).length) Slot.unset).toArray = ls at hl ⊢
  have hl : lv_has ls 2 [(0, .int p0), (1, .int p1)] := hl
  refine lv_iload_n hx hb dX7_goTogether_0 rfl (lv_at hl 1 rfl) ?_
  refine lv_if_eq (tgt := 17) hx hb dX7_goTogether_1 (by decide) (fun c_1 => ?_) (fun c_1 => ?_)
  · skip
    refine lv_iconst (v := 1) hx hb dX7_goTogether_17 (by decide) ?_
    refine lv_goto (tgt := 22) hx hb dX7_goTogether_18 (by decide) ?_
    have hP9 := hP.sub (ws' := []) [] rfl
    have hD9 := hD.sub (ws' := []) [] (by decide) rfl
    have hK9 := hK.sub (tys' := []) [] rfl
    exact W.zret (v := 1) hx hb hr rfl (fun t ht hW => ⟨⟨1, (), rfl, (by show (_ : Int32) = _; (first | rw [if_pos c_1] | rw [if_neg c_1])), by rw [ht]; exact hP9, va_K.moved hW.alike hK9, hD9⟩, hS.F ht⟩) hS.2.2 dX7_goTogether_22
  · skip
    refine va_getsN hx hb hE1 hS hown (va_Nw.use rfl hE0) (fun _ h9 => h9) dX7_goTogether_4 ?_
    refine lv_iload_n hx hb dX7_goTogether_7 rfl (lv_at hl 0 rfl) ?_
    refine va_ti hx hb hE2 hS hin rfl dX7_goTogether_8 ?_
    refine lv_iload_n hx hb dX7_goTogether_9 rfl (lv_at hl 1 rfl) ?_
    refine lv_ishr hx hb dX7_goTogether_10 ?_
    refine lv_iconst (v := 1) hx hb dX7_goTogether_11 (by decide) ?_
    refine lv_iand hx hb dX7_goTogether_12 ?_
    refine lv_iconst (v := 1) hx hb dX7_goTogether_13 (by decide) ?_
    refine lv_icmp_ne (tgt := 21) hx hb dX7_goTogether_14 (by decide) (fun c_2 => ?_) (fun c_2 => ?_)
    · skip
      refine lv_iconst (v := 0) hx hb dX7_goTogether_21 (by decide) ?_
      have hP9 := hP.sub (ws' := []) [] rfl
      have hD9 := hD.sub (ws' := []) [] (by decide) rfl
      have hK9 := hK.sub (tys' := []) [] rfl
      exact W.zret (v := 0) hx hb hr rfl (fun t ht hW => ⟨⟨0, (), rfl, (by show (_ : Int32) = _; (first | rw [if_pos c_1] | rw [if_neg c_1]); (first | rw [if_pos c_2] | rw [if_neg c_2])), by rw [ht]; exact hP9, va_K.moved hW.alike hK9, hD9⟩, hS.F ht⟩) hS.2.2 dX7_goTogether_22
    · skip
      refine lv_iconst (v := 1) hx hb dX7_goTogether_17 (by decide) ?_
      refine lv_goto (tgt := 22) hx hb dX7_goTogether_18 (by decide) ?_
      have hP9 := hP.sub (ws' := []) [] rfl
      have hD9 := hD.sub (ws' := []) [] (by decide) rfl
      have hK9 := hK.sub (tys' := []) [] rfl
      exact W.zret (v := 1) hx hb hr rfl (fun t ht hW => ⟨⟨1, (), rfl, (by show (_ : Int32) = _; (first | rw [if_pos c_1] | rw [if_neg c_1]); (first | rw [if_pos c_2] | rw [if_neg c_2])), by rw [ht]; exact hP9, va_K.moved hW.alike hK9, hD9⟩, hS.F ht⟩) hS.2.2 dX7_goTogether_22
set_option maxHeartbeats 4000000 in
set_option maxRecDepth 100000 in
/-- Locks.covers(mode, other) -/
theorem c_X4_covers (l : Launch) (dC : Nat → ClassId) (dI : Nat → Nat → Nat) (sz : Nat) (cv : Nat) (p0 p1 : Int32) (hin : vp_in p0 6) : Met l yX4_covers wsX4_covers ({ frames := 0, cells := 0, slots := 0, locals := 0 }) (va_Pc [.int p0, .int p1] (fun U => U.heap.size = sz ∧ va_P (dC, dI) vwCl [] U.heap ∧ va_K (dC, dI) vwCl [] U ∧ va_D (fun _ => True) [] ∧ va_Nw (.fieldLinkNest RX4 55 "QueryHall" "COVERS" "[I" "QueryHall") U ∧ va_Z "QueryHall" "COVERS" "[I" (.ref cv) (va_A [] sz) U U.heap ∧ va_T .int cv 6 (fun j => .int (qh_cov j)) (va_A [] sz) U U.heap)) (va_Qi (fun (r : Int32) (_ : Unit) => r = (if (qh_cov p0.toNatClampNeg >>> (p1 &&& 31)) &&& 1 = 1 then 1 else 0)) (fun (_ : Unit) (t : State) => va_P (dC, dI) vwCl [] t.heap ∧ va_K (dC, dI) vwCl [] t ∧ va_D (va_A [] sz) []) (va_A [] sz)) 0 0 (va_A [] sz) := by
  refine Met.ofW (cc := cX4_covers) (maxL := 2) (ret := (some .boolean)) (by decide) rfl ?_
  intro p e s m args below meth c s₁ B hml hv
  obtain ⟨rfl, hsz, hP, hK, hD0, hE0, hE1, hE2⟩ := hv
  have hx := B.exec
  have hb := B.bytes
  have hr := B.returns
  have hts := atoms_spec (ws := wsX4_covers) B.pre
  have hown : s.vm.findClass RX4 = some m.cls := findClass_of_methodNamed B.named
  have hlocks := B.notSynchronized
  subst hsz
  have hD := hD0.self (sz := s.heap.size)
  generalize hAe : va_A [] s.heap.size = A at hD hE1 hE2 ⊢
  have hA : ∀ q : Nat, s.heap.size ≤ q → A q := fun q h => by rw [← hAe]; exact Or.inr h
  have hS : va_S A s.heap s.heap [] := va_S.rf
  have hP : va_P (dC, dI) vwCl [] s.heap := hP
  have hl := lv_entry ([.int p0, .int p1]) (n := 2) (Nat.le_of_ble_eq_true rfl)
  rw [lg_entry_eq]
  generalize (lg_sl ([.int p0, .int p1]) ++ List.replicate (2 - (lg_sl ([.int p0, .int p1])).length) Slot.unset).toArray = ls at hl ⊢
  have hl : lv_has ls 2 [(0, .int p0), (1, .int p1)] := hl
  refine va_getsN hx hb hE1 hS hown (va_Nw.use rfl hE0) (fun _ h9 => h9) dX4_covers_0 ?_
  refine lv_iload_n hx hb dX4_covers_3 rfl (lv_at hl 0 rfl) ?_
  refine va_ti hx hb hE2 hS hin rfl dX4_covers_4 ?_
  refine lv_iload_n hx hb dX4_covers_5 rfl (lv_at hl 1 rfl) ?_
  refine lv_ishr hx hb dX4_covers_6 ?_
  refine lv_iconst (v := 1) hx hb dX4_covers_7 (by decide) ?_
  refine lv_iand hx hb dX4_covers_8 ?_
  refine lv_iconst (v := 1) hx hb dX4_covers_9 (by decide) ?_
  refine lv_icmp_ne (tgt := 17) hx hb dX4_covers_10 (by decide) (fun c_1 => ?_) (fun c_1 => ?_)
  · skip
    refine lv_iconst (v := 0) hx hb dX4_covers_17 (by decide) ?_
    have hP9 := hP.sub (ws' := []) [] rfl
    have hD9 := hD.sub (ws' := []) [] (by decide) rfl
    have hK9 := hK.sub (tys' := []) [] rfl
    exact W.zret (v := 0) hx hb hr rfl (fun t ht hW => ⟨⟨0, (), rfl, (by show (_ : Int32) = _; (first | rw [if_pos c_1] | rw [if_neg c_1])), by rw [ht]; exact hP9, va_K.moved hW.alike hK9, hD9⟩, hS.F ht⟩) hS.2.2 dX4_covers_18
  · skip
    refine lv_iconst (v := 1) hx hb dX4_covers_13 (by decide) ?_
    refine lv_goto (tgt := 18) hx hb dX4_covers_14 (by decide) ?_
    have hP9 := hP.sub (ws' := []) [] rfl
    have hD9 := hD.sub (ws' := []) [] (by decide) rfl
    have hK9 := hK.sub (tys' := []) [] rfl
    exact W.zret (v := 1) hx hb hr rfl (fun t ht hW => ⟨⟨1, (), rfl, (by show (_ : Int32) = _; (first | rw [if_pos c_1] | rw [if_neg c_1])), by rw [ht]; exact hP9, va_K.moved hW.alike hK9, hD9⟩, hS.F ht⟩) hS.2.2 dX4_covers_18
set_option maxHeartbeats 4000000 in
set_option maxRecDepth 100000 in
/-- the reference: bothOf(a, b) -/
theorem c_X21_bothOf (l : Launch) (dC : Nat → ClassId) (dI : Nat → Nat → Nat) (sz : Nat) (p0 p1 : Int32) : Met l yX21_bothOf wsX21_bothOf ({ frames := 1, cells := 0, slots := 0, locals := 40 }) (va_Pc [.int p0, .int p1] (fun U => U.heap.size = sz ∧ va_P (dC, dI) vwCl [] U.heap ∧ va_K (dC, dI) vwCl [] U ∧ va_D (fun _ => True) [])) (va_Qi (fun (r : Int32) (_ : Unit) => r = (if (if p0 = p1 then 1 else if p0 = 5 then 1 else if p1 = 1 then (if 1 < p0 then 1 else (if p0 = 4 then (if 4 ≤ p1 then 0 else 1) else 0)) else (if p0 = 4 then (if 4 ≤ p1 then 0 else 1) else 0) : Int32) = 0 then (if (if p1 = p0 then 1 else if p1 = 5 then 1 else if p0 = 1 then (if 1 < p1 then 1 else (if p1 = 4 then (if 4 ≤ p0 then 0 else 1) else 0)) else (if p1 = 4 then (if 4 ≤ p0 then 0 else 1) else 0) : Int32) = 0 then 4 else p1) else p0)) (fun (_ : Unit) (t : State) => va_P (dC, dI) vwCl [] t.heap ∧ va_K (dC, dI) vwCl [] t ∧ va_D (va_A [] sz) []) (va_A [] sz)) 0 0 (va_A [] sz) := by
  refine Met.ofW (cc := cX21_bothOf) (maxL := 2) (ret := (some .int)) (by decide) rfl ?_
  intro p e s m args below meth c s₁ B hml hv
  obtain ⟨rfl, hsz, hP, hK, hD0⟩ := hv
  have hx := B.exec
  have hb := B.bytes
  have hr := B.returns
  have hts := atoms_spec (ws := wsX21_bothOf) B.pre
  have hown : s.vm.findClass RX21 = some m.cls := findClass_of_methodNamed B.named
  have hlocks := B.notSynchronized
  subst hsz
  have hD := hD0.self (sz := s.heap.size)
  generalize hAe : va_A [] s.heap.size = A at hD ⊢
  have hA : ∀ q : Nat, s.heap.size ≤ q → A q := fun q h => by rw [← hAe]; exact Or.inr h
  have hS : va_S A s.heap s.heap [] := va_S.rf
  have hP : va_P (dC, dI) vwCl [] s.heap := hP
  have hl := lv_entry ([.int p0, .int p1]) (n := 2) (Nat.le_of_ble_eq_true rfl)
  rw [lg_entry_eq]
  generalize (lg_sl ([.int p0, .int p1]) ++ List.replicate (2 - (lg_sl ([.int p0, .int p1])).length) Slot.unset).toArray = ls at hl ⊢
  have hl : lv_has ls 2 [(0, .int p0), (1, .int p1)] := hl
  refine lv_iload_n hx hb dX21_bothOf_0 rfl (lv_at hl 0 rfl) ?_
  refine lv_iload_n hx hb dX21_bothOf_1 rfl (lv_at hl 1 rfl) ?_
  have hPc := hP.sub (ws' := []) [] rfl
  have hDc := hD.sub (ws' := []) [] (by decide) rfl
  have hKc := hK.sub (tys' := []) [] rfl
  have hFc := va_free (wc := []) hD hS hA [] rfl
  refine va_calli (va_runS (As := [.int p0, .int p1]) (rest := []) ⟨hx, hb, hml, hown, hts⟩ (c_X21_covers l dC dI s.heap.size p0 p1) (va_cwS 2 hts gX21_bothOf_X21_covers rfl rfl rfl (by decide +kernel) ⟨Nat.le_of_ble_eq_true rfl, Nat.le_of_ble_eq_true rfl⟩) ⟨fun a U g mk q => by obtain ⟨q0, q1, qP, qK, qD⟩ := q; exact ⟨q0, q1, qP, va_K.moved (u := U) (U := U.calling g mk a) (Vm.Alike.refl U.vm) qK, qD⟩, fun U hU hW => ⟨rfl, by rw [hU], by rw [hU]; exact hPc, va_K.moved hW.alike hKc, hDc.weaken (fun _ _ _ _ => trivial)⟩⟩ rfl rfl hl.1 rfl (lv_room (Nat.le_of_ble_eq_true rfl)) dX21_bothOf_2 ⟨Nat.le_of_ble_eq_true rfl, Nat.le_of_ble_eq_true rfl⟩) hS (fun q _ h => hFc q h) hFc (fun r_1 u t H1 locs ht hvm hw hB hz1 hk1 hS => ?_)
  obtain ⟨hP1, hK1, hD1⟩ := hB
  rw [ht] at hP1
  obtain ⟨hP, hD⟩ := va_join (wr := []) (w1 := []) hP hD [] [] rfl rfl (by decide) (by decide) hk1 hFc hP1 hD1
  generalize H1 = H at hP hS ⊢
  have hP := hP.sub (ws' := []) [] rfl
  have hD := hD.sub (ws' := []) [] (by decide) rfl
  have hw : r_1 = (if p0 = p1 then 1 else if p0 = 5 then 1 else if p1 = 1 then (if 1 < p0 then 1 else (if p0 = 4 then (if 4 ≤ p1 then 0 else 1) else 0)) else (if p0 = 4 then (if 4 ≤ p1 then 0 else 1) else 0)) := hw
  subst hw
  refine lv_if_eq (tgt := 12) hx hb dX21_bothOf_5 (by decide) (fun c_2 => ?_) (fun c_2 => ?_)
  · skip
    refine lv_iload_n hx hb dX21_bothOf_12 rfl (lv_at hl 1 rfl) ?_
    refine lv_iload_n hx hb dX21_bothOf_13 rfl (lv_at hl 0 rfl) ?_
    have hPc := hP.sub (ws' := []) [] rfl
    have hDc := hD.sub (ws' := []) [] (by decide) rfl
    have hKc := hK.sub (tys' := []) [] rfl
    have hFc := va_free (wc := []) hD hS hA [] rfl
    refine va_calli (va_runS (As := [.int p1, .int p0]) (rest := []) ⟨hx, hb, hml, hown, hts⟩ (c_X21_covers l dC dI H.size p1 p0) (va_cwS 2 hts gX21_bothOf_X21_covers rfl rfl rfl (by decide +kernel) ⟨Nat.le_of_ble_eq_true rfl, Nat.le_of_ble_eq_true rfl⟩) ⟨fun a U g mk q => by obtain ⟨q0, q1, qP, qK, qD⟩ := q; exact ⟨q0, q1, qP, va_K.moved (u := U) (U := U.calling g mk a) (Vm.Alike.refl U.vm) qK, qD⟩, fun U hU hW => ⟨rfl, by rw [hU], by rw [hU]; exact hPc, va_K.moved hW.alike hKc, hDc.weaken (fun _ _ _ _ => trivial)⟩⟩ rfl rfl hl.1 rfl (lv_room (Nat.le_of_ble_eq_true rfl)) dX21_bothOf_14 ⟨Nat.le_of_ble_eq_true rfl, Nat.le_of_ble_eq_true rfl⟩) hS (fun q _ h => hFc q h) hFc (fun r_3 u t H1 locs ht hvm hw hB hz1 hk1 hS => ?_)
    obtain ⟨hP1, hK1, hD1⟩ := hB
    rw [ht] at hP1
    obtain ⟨hP, hD⟩ := va_join (wr := []) (w1 := []) hP hD [] [] rfl rfl (by decide) (by decide) hk1 hFc hP1 hD1
    generalize H1 = H at hP hS ⊢
    have hP := hP.sub (ws' := []) [] rfl
    have hD := hD.sub (ws' := []) [] (by decide) rfl
    have hw : r_3 = (if p1 = p0 then 1 else if p1 = 5 then 1 else if p0 = 1 then (if 1 < p1 then 1 else (if p1 = 4 then (if 4 ≤ p0 then 0 else 1) else 0)) else (if p1 = 4 then (if 4 ≤ p0 then 0 else 1) else 0)) := hw
    subst hw
    refine lv_if_eq (tgt := 24) hx hb dX21_bothOf_17 (by decide) (fun c_4 => ?_) (fun c_4 => ?_)
    · skip
      refine lv_iconst (v := 4) hx hb dX21_bothOf_24 (by decide) ?_
      have hP9 := hP.sub (ws' := []) [] rfl
      have hD9 := hD.sub (ws' := []) [] (by decide) rfl
      have hK9 := hK.sub (tys' := []) [] rfl
      exact W.iret (v := 4) hx hb hr (fun t ht hW => ⟨⟨4, (), rfl, (by show (_ : Int32) = _; (first | rw [if_pos c_2] | rw [if_neg c_2]); (first | rw [if_pos c_4] | rw [if_neg c_4])), by rw [ht]; exact hP9, va_K.moved hW.alike hK9, hD9⟩, hS.F ht⟩) hS.2.2 dX21_bothOf_25
    · skip
      refine lv_iload_n hx hb dX21_bothOf_20 rfl (lv_at hl 1 rfl) ?_
      refine lv_goto (tgt := 25) hx hb dX21_bothOf_21 (by decide) ?_
      have hP9 := hP.sub (ws' := []) [] rfl
      have hD9 := hD.sub (ws' := []) [] (by decide) rfl
      have hK9 := hK.sub (tys' := []) [] rfl
      exact W.iret (v := p1) hx hb hr (fun t ht hW => ⟨⟨p1, (), rfl, (by show (_ : Int32) = _; (first | rw [if_pos c_2] | rw [if_neg c_2]); (first | rw [if_pos c_4] | rw [if_neg c_4])), by rw [ht]; exact hP9, va_K.moved hW.alike hK9, hD9⟩, hS.F ht⟩) hS.2.2 dX21_bothOf_25
  · skip
    refine lv_iload_n hx hb dX21_bothOf_8 rfl (lv_at hl 0 rfl) ?_
    refine lv_goto (tgt := 25) hx hb dX21_bothOf_9 (by decide) ?_
    have hP9 := hP.sub (ws' := []) [] rfl
    have hD9 := hD.sub (ws' := []) [] (by decide) rfl
    have hK9 := hK.sub (tys' := []) [] rfl
    exact W.iret (v := p0) hx hb hr (fun t ht hW => ⟨⟨p0, (), rfl, (by show (_ : Int32) = _; (first | rw [if_pos c_2] | rw [if_neg c_2])), by rw [ht]; exact hP9, va_K.moved hW.alike hK9, hD9⟩, hS.F ht⟩) hS.2.2 dX21_bothOf_25
