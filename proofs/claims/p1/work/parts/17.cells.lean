abbrev cX11_letterOf : ByteArray := prog_13_method_7_code
def yX11_letterOf : MethodName := ⟨RX11, "letterOf", "([JII)I"⟩
abbrev cX11_lettersOf : ByteArray := prog_13_method_8_code
def yX11_lettersOf : MethodName := ⟨RX11, "lettersOf", "([JI)I"⟩
abbrev cX12_kind : ByteArray := prog_1_method_8_code
def yX12_kind : MethodName := ⟨RX12, "kind", "(III)I"⟩
def wsX11_letterOf : List Cond := .code yX11_letterOf cX11_letterOf 5 (some .int) :: ([.constantLong RX11 75 (255)] ++ (vx_atM "java/lang/ArrayIndexOutOfBoundsException" ["java/lang/IndexOutOfBoundsException", "java/lang/RuntimeException", "java/lang/Exception"]).filter goodWord)
def wsX11_lettersOf : List Cond := .code yX11_lettersOf cX11_lettersOf 3 (some .int) :: ([.methodLink RX11 77 yX11_letterOf, .static yX11_letterOf, .initialized RX11, .code yX11_letterOf cX11_letterOf 5 (some .int), .constantLong RX11 75 (255)] ++ (vx_atM "java/lang/ArrayIndexOutOfBoundsException" ["java/lang/IndexOutOfBoundsException", "java/lang/RuntimeException", "java/lang/Exception"]).filter goodWord)
def wsX12_kind : List Cond := .code yX12_kind cX12_kind 5 (some .int) :: ([.fieldLink RX12 11 "QueryHall" "sessions" "[LQueryHall$Session;", .fieldLink RX12 183 "QueryHall$Session" "cells" "[J", .methodLink RX12 179 yX12_cellOf, .instanceMethod yX12_cellOf, .selects RX12 yX12_cellOf yX12_cellOf, .initialized RX12, .code yX12_cellOf cX12_cellOf 5 (some .int), .classLink RX12 282 "java/lang/IndexOutOfBoundsException", .initialized "java/lang/IndexOutOfBoundsException", .fieldLink RX12 173 "QueryHall$Session" "rows" "I", .fieldLink RX12 176 "QueryHall$Session" "columns" "I", .methodLink RX12 83 yX12_needSession, .static yX12_needSession, .code yX12_needSession cX12_needSession 1 none] ++ wsX120 ++ wsX100 ++ (vx_atM "java/lang/ArrayIndexOutOfBoundsException" ["java/lang/IndexOutOfBoundsException", "java/lang/RuntimeException", "java/lang/Exception"]).filter goodWord ++ (vx_atS RX12 286 "java/lang/IndexOutOfBoundsException" ["java/lang/RuntimeException", "java/lang/Exception"]).filter goodWord)
theorem dX11_letterOf_0 : decode cX11_letterOf 0 = .ok (.iload_n 2, 1) := by decide +kernel
theorem dX11_letterOf_1 : decode cX11_letterOf 1 = .ok (.ifCond .lt 9, 3) := by decide +kernel
theorem dX11_letterOf_4 : decode cX11_letterOf 4 = .ok (.iload_n 2, 1) := by decide +kernel
theorem dX11_letterOf_5 : decode cX11_letterOf 5 = .ok (.bipush 12, 2) := by decide +kernel
theorem dX11_letterOf_7 : decode cX11_letterOf 7 = .ok (.if_icmp .lt 5, 3) := by decide +kernel
theorem dX11_letterOf_10 : decode cX11_letterOf 10 = .ok (.iconst 0, 1) := by decide +kernel
theorem dX11_letterOf_11 : decode cX11_letterOf 11 = .ok (.ireturn, 1) := by decide +kernel
theorem dX11_letterOf_12 : decode cX11_letterOf 12 = .ok (.iload_n 2, 1) := by decide +kernel
theorem dX11_letterOf_13 : decode cX11_letterOf 13 = .ok (.bipush 8, 2) := by decide +kernel
theorem dX11_letterOf_15 : decode cX11_letterOf 15 = .ok (.if_icmp .ge 19, 3) := by decide +kernel
theorem dX11_letterOf_18 : decode cX11_letterOf 18 = .ok (.aload_n 0, 1) := by decide +kernel
theorem dX11_letterOf_19 : decode cX11_letterOf 19 = .ok (.iload_n 1, 1) := by decide +kernel
theorem dX11_letterOf_20 : decode cX11_letterOf 20 = .ok (.iconst 1, 1) := by decide +kernel
theorem dX11_letterOf_21 : decode cX11_letterOf 21 = .ok (.iadd, 1) := by decide +kernel
theorem dX11_letterOf_22 : decode cX11_letterOf 22 = .ok (.laload, 1) := by decide +kernel
theorem dX11_letterOf_23 : decode cX11_letterOf 23 = .ok (.bipush 56, 2) := by decide +kernel
theorem dX11_letterOf_25 : decode cX11_letterOf 25 = .ok (.bipush 8, 2) := by decide +kernel
theorem dX11_letterOf_27 : decode cX11_letterOf 27 = .ok (.iload_n 2, 1) := by decide +kernel
theorem dX11_letterOf_28 : decode cX11_letterOf 28 = .ok (.imul, 1) := by decide +kernel
theorem dX11_letterOf_29 : decode cX11_letterOf 29 = .ok (.isub, 1) := by decide +kernel
theorem dX11_letterOf_30 : decode cX11_letterOf 30 = .ok (.lushr, 1) := by decide +kernel
theorem dX11_letterOf_31 : decode cX11_letterOf 31 = .ok (.goto 19, 3) := by decide +kernel
theorem dX11_letterOf_34 : decode cX11_letterOf 34 = .ok (.aload_n 0, 1) := by decide +kernel
theorem dX11_letterOf_35 : decode cX11_letterOf 35 = .ok (.iload_n 1, 1) := by decide +kernel
theorem dX11_letterOf_36 : decode cX11_letterOf 36 = .ok (.iconst 2, 1) := by decide +kernel
theorem dX11_letterOf_37 : decode cX11_letterOf 37 = .ok (.iadd, 1) := by decide +kernel
theorem dX11_letterOf_38 : decode cX11_letterOf 38 = .ok (.laload, 1) := by decide +kernel
theorem dX11_letterOf_39 : decode cX11_letterOf 39 = .ok (.bipush 56, 2) := by decide +kernel
theorem dX11_letterOf_41 : decode cX11_letterOf 41 = .ok (.bipush 8, 2) := by decide +kernel
theorem dX11_letterOf_43 : decode cX11_letterOf 43 = .ok (.iload_n 2, 1) := by decide +kernel
theorem dX11_letterOf_44 : decode cX11_letterOf 44 = .ok (.bipush 8, 2) := by decide +kernel
theorem dX11_letterOf_46 : decode cX11_letterOf 46 = .ok (.isub, 1) := by decide +kernel
theorem dX11_letterOf_47 : decode cX11_letterOf 47 = .ok (.imul, 1) := by decide +kernel
theorem dX11_letterOf_48 : decode cX11_letterOf 48 = .ok (.isub, 1) := by decide +kernel
theorem dX11_letterOf_49 : decode cX11_letterOf 49 = .ok (.lushr, 1) := by decide +kernel
theorem dX11_letterOf_50 : decode cX11_letterOf 50 = .ok (.lstore_n 3, 1) := by decide +kernel
theorem dX11_letterOf_51 : decode cX11_letterOf 51 = .ok (.lload_n 3, 1) := by decide +kernel
theorem dX11_letterOf_52 : decode cX11_letterOf 52 = .ok (.ldc2_w 75, 3) := by decide +kernel
theorem dX11_letterOf_55 : decode cX11_letterOf 55 = .ok (.land, 1) := by decide +kernel
theorem dX11_letterOf_56 : decode cX11_letterOf 56 = .ok (.l2i, 1) := by decide +kernel
theorem dX11_letterOf_57 : decode cX11_letterOf 57 = .ok (.ireturn, 1) := by decide +kernel
set_option maxRecDepth 20000 in
theorem ggX11_lettersOf_X11_letterOf : GoodIn wsX11_lettersOf wsX11_letterOf := goodIn_ca (goodIn_r _ [4, 5] (by decide +kernel) (by decide +kernel)) (goodIn_sub (fun _ h => List.mem_cons_of_mem _ (List.mem_append_right _ h)) (by decide +kernel))
set_option maxRecDepth 20000 in
theorem gX11_lettersOf_X11_letterOf : GoodIn wsX11_lettersOf (va_wsS RX11 77 yX11_letterOf wsX11_letterOf) := goodIn_app (goodIn_of _ (by decide +kernel)) ggX11_lettersOf_X11_letterOf
theorem dX11_lettersOf_0 : decode cX11_lettersOf 0 = .ok (.iconst 0, 1) := by decide +kernel
theorem dX11_lettersOf_1 : decode cX11_lettersOf 1 = .ok (.istore_n 2, 1) := by decide +kernel
theorem dX11_lettersOf_2 : decode cX11_lettersOf 2 = .ok (.iload_n 2, 1) := by decide +kernel
theorem dX11_lettersOf_3 : decode cX11_lettersOf 3 = .ok (.bipush 12, 2) := by decide +kernel
theorem dX11_lettersOf_5 : decode cX11_lettersOf 5 = .ok (.if_icmp .ge 18, 3) := by decide +kernel
theorem dX11_lettersOf_8 : decode cX11_lettersOf 8 = .ok (.aload_n 0, 1) := by decide +kernel
theorem dX11_lettersOf_9 : decode cX11_lettersOf 9 = .ok (.iload_n 1, 1) := by decide +kernel
theorem dX11_lettersOf_10 : decode cX11_lettersOf 10 = .ok (.iload_n 2, 1) := by decide +kernel
theorem dX11_lettersOf_11 : decode cX11_lettersOf 11 = .ok (.invokestatic 77, 3) := by decide +kernel
theorem dX11_lettersOf_14 : decode cX11_lettersOf 14 = .ok (.ifCond .eq 9, 3) := by decide +kernel
theorem dX11_lettersOf_17 : decode cX11_lettersOf 17 = .ok (.iinc 2 1, 3) := by decide +kernel
theorem dX11_lettersOf_20 : decode cX11_lettersOf 20 = .ok (.goto (-18), 3) := by decide +kernel
theorem dX11_lettersOf_23 : decode cX11_lettersOf 23 = .ok (.iload_n 2, 1) := by decide +kernel
theorem dX11_lettersOf_24 : decode cX11_lettersOf 24 = .ok (.ireturn, 1) := by decide +kernel
set_option maxRecDepth 20000 in
theorem ggX12_kind_X12_cellOf : GoodIn wsX12_kind wsX12_cellOf := goodIn_ca (goodIn_r _ [7, 8, 9, 1, 10, 11, 12, 13, 6, 14, 15, 16, 17, 18, 19, 20, 21, 22, 23, 24, 25, 26, 27, 28, 29, 30, 31, 32, 33, 34, 35, 36, 37, 38, 39, 40, 41, 42, 43, 44, 45, 46] (by decide +kernel) (by decide +kernel)) (goodIn_sub (fun _ h => List.mem_cons_of_mem _ (List.mem_append_right _ h)) (by decide +kernel))
set_option maxRecDepth 20000 in
theorem gX12_kind_X12_cellOf : GoodIn wsX12_kind (wsV RX12 179 RX12 yX12_cellOf wsX12_cellOf) := goodIn_app (goodIn_of _ (by decide +kernel)) ggX12_kind_X12_cellOf
theorem dX12_kind_0 : decode cX12_kind 0 = .ok (.aload_n 0, 1) := by decide +kernel
theorem dX12_kind_1 : decode cX12_kind 1 = .ok (.iload_n 1, 1) := by decide +kernel
theorem dX12_kind_2 : decode cX12_kind 2 = .ok (.iload_n 2, 1) := by decide +kernel
theorem dX12_kind_3 : decode cX12_kind 3 = .ok (.iload_n 3, 1) := by decide +kernel
theorem dX12_kind_4 : decode cX12_kind 4 = .ok (.invokevirtual 179, 3) := by decide +kernel
theorem dX12_kind_7 : decode cX12_kind 7 = .ok (.istore 4, 2) := by decide +kernel
theorem dX12_kind_9 : decode cX12_kind 9 = .ok (.aload_n 0, 1) := by decide +kernel
theorem dX12_kind_10 : decode cX12_kind 10 = .ok (.getfield 11, 3) := by decide +kernel
theorem dX12_kind_13 : decode cX12_kind 13 = .ok (.iload_n 1, 1) := by decide +kernel
theorem dX12_kind_14 : decode cX12_kind 14 = .ok (.aaload, 1) := by decide +kernel
theorem dX12_kind_15 : decode cX12_kind 15 = .ok (.getfield 183, 3) := by decide +kernel
theorem dX12_kind_18 : decode cX12_kind 18 = .ok (.iload 4, 2) := by decide +kernel
theorem dX12_kind_20 : decode cX12_kind 20 = .ok (.laload, 1) := by decide +kernel
theorem dX12_kind_21 : decode cX12_kind 21 = .ok (.l2i, 1) := by decide +kernel
theorem dX12_kind_22 : decode cX12_kind 22 = .ok (.ireturn, 1) := by decide +kernel

/-- byte i of the text in the cell at a place: two longs from the highest byte on -/
def qh_letter (f : Nat → Int64) (a i : Int32) : Int32 := if i < 0 then 0 else if i < 12 then (if 8 ≤ i then (((f (a + 2).toNatClampNeg).toUInt64 >>> ((56 - 8 * (i - 8)).toInt64.toUInt64 &&& Int64.toUInt64 63)).toInt64 &&& 255).toInt32 else (((f (a + 1).toNatClampNeg).toUInt64 >>> ((56 - 8 * i).toInt64.toUInt64 &&& Int64.toUInt64 63)).toInt64 &&& 255).toInt32) else 0
def qh_letters (f : Nat → Int64) (a : Int32) : Int32 := if qh_letter f a 0 = 0 then 0 else if qh_letter f a 1 = 0 then 1 else if qh_letter f a 2 = 0 then 2 else if qh_letter f a 3 = 0 then 3 else if qh_letter f a 4 = 0 then 4 else if qh_letter f a 5 = 0 then 5 else if qh_letter f a 6 = 0 then 6 else if qh_letter f a 7 = 0 then 7 else if qh_letter f a 8 = 0 then 8 else if qh_letter f a 9 = 0 then 9 else if qh_letter f a 10 = 0 then 10 else if qh_letter f a 11 = 0 then 11 else 12
set_option maxHeartbeats 4000000 in
set_option maxRecDepth 100000 in
/-- Table.letterOf(cells, at, i) -/
theorem c_X11_letterOf (l : Launch) (dC : Nat → ClassId) (dI : Nat → Nat → Nat) (sz : Nat) (cJ : ClassId) (ca nC : Nat) (cf : Nat → Int64) (p0 p1 : Int32) (hin : vp_in (p0 + 1) nC ∧ vp_in (p0 + 2) nC) : Met l yX11_letterOf wsX11_letterOf ({ frames := 0, cells := 0, slots := 0, locals := 0 }) (va_Pc [.ref ca, .int p0, .int p1] (fun U => U.heap.size = sz ∧ va_P (dC, dI) vwCl [(ca, .inl (cJ, nC, .inr (.inl cf)))] U.heap ∧ va_K (dC, dI) vwCl [(cJ, .long)] U ∧ va_D (fun _ => True) [(ca, .inl (cJ, nC, .inr (.inl cf)))])) (va_Qi (fun (r : Int32) (_ : Unit) => r = qh_letter cf p0 p1) (fun (_ : Unit) (t : State) => va_P (dC, dI) vwCl [(ca, .inl (cJ, nC, .inr (.inl cf)))] t.heap ∧ va_K (dC, dI) vwCl [(cJ, .long)] t ∧ va_D (va_A [(ca, .inl (cJ, nC, .inr (.inl cf)))] sz) [(ca, .inl (cJ, nC, .inr (.inl cf)))]) (va_A [(ca, .inl (cJ, nC, .inr (.inl cf)))] sz)) 0 0 (va_A [(ca, .inl (cJ, nC, .inr (.inl cf)))] sz) := by
  refine Met.ofW (cc := cX11_letterOf) (maxL := 5) (ret := (some .int)) (by decide) rfl ?_
  intro p e s m args below meth c s₁ B hml hv
  obtain ⟨rfl, hsz, hP, hK, hD0⟩ := hv
  have hx := B.exec
  have hb := B.bytes
  have hr := B.returns
  have hts := atoms_spec (ws := wsX11_letterOf) B.pre
  have hown : s.vm.findClass RX11 = some m.cls := findClass_of_methodNamed B.named
  have hlocks := B.notSynchronized
  subst hsz
  have hD := hD0.self (sz := s.heap.size)
  generalize hAe : va_A [(ca, .inl (cJ, nC, .inr (.inl cf)))] s.heap.size = A at hD ⊢
  have hA : ∀ q : Nat, s.heap.size ≤ q → A q := fun q h => by rw [← hAe]; exact Or.inr h
  have hS : va_S A s.heap s.heap [] := va_S.rf
  have hP : va_P (dC, dI) vwCl [(ca, .inl (cJ, nC, .inr (.inl cf)))] s.heap := hP
  have hl := lv_entry ([.ref ca, .int p0, .int p1]) (n := 5) (Nat.le_of_ble_eq_true rfl)
  rw [lg_entry_eq]
  generalize (lg_sl ([.ref ca, .int p0, .int p1]) ++ List.replicate (5 - (lg_sl ([.ref ca, .int p0, .int p1])).length) Slot.unset).toArray = ls at hl ⊢
  have hl : lv_has ls 5 [(0, .ref ca), (1, .int p0), (2, .int p1)] := hl
  refine lv_iload_n hx hb dX11_letterOf_0 rfl (lv_at hl 2 rfl) ?_
  refine lv_if_lt (tgt := 10) hx hb dX11_letterOf_1 (by decide) (fun c_1 => ?_) (fun c_1 => ?_)
  · skip
    refine lv_iconst (v := 0) hx hb dX11_letterOf_10 (by decide) ?_
    have hP9 := hP.sub (ws' := [(ca, .inl (cJ, nC, .inr (.inl cf)))]) [0] rfl
    have hD9 := hD.sub (ws' := [(ca, .inl (cJ, nC, .inr (.inl cf)))]) [0] (by decide) rfl
    have hK9 := hK.sub (tys' := [(cJ, .long)]) [0] rfl
    exact W.iret (v := 0) hx hb hr (fun t ht hW => ⟨⟨0, (), rfl, (by subst_vars; unfold qh_letter; try (first | rw [if_pos c_1] | rw [if_neg c_1]); try rfl), by rw [ht]; exact hP9, va_K.moved hW.alike hK9, hD9⟩, hS.F ht⟩) hS.2.2 dX11_letterOf_11
  · skip
    refine lv_iload_n hx hb dX11_letterOf_4 rfl (lv_at hl 2 rfl) ?_
    refine lv_bipush (v := 12) hx hb dX11_letterOf_5 (by decide) ?_
    refine lv_icmp_lt (tgt := 12) hx hb dX11_letterOf_7 (by decide) (fun c_2 => ?_) (fun c_2 => ?_)
    · skip
      refine lv_iload_n hx hb dX11_letterOf_12 rfl (lv_at hl 2 rfl) ?_
      refine lv_bipush (v := 8) hx hb dX11_letterOf_13 (by decide) ?_
      refine lv_icmp_ge (tgt := 34) hx hb dX11_letterOf_15 (by decide) (fun c_3 => ?_) (fun c_3 => ?_)
      · skip
        refine lv_aload_n hx hb dX11_letterOf_34 rfl (lv_at hl 0 rfl) ?_
        refine lv_iload_n hx hb dX11_letterOf_35 rfl (lv_at hl 1 rfl) ?_
        refine lv_iconst (v := 2) hx hb dX11_letterOf_36 (by decide) ?_
        refine lv_iadd hx hb dX11_letterOf_37 ?_
        refine va_lald hx hb hK hP 0 0 rfl rfl (hin.2) dX11_letterOf_38 ?_
        refine lv_bipush (v := 56) hx hb dX11_letterOf_39 (by decide) ?_
        refine lv_bipush (v := 8) hx hb dX11_letterOf_41 (by decide) ?_
        refine lv_iload_n hx hb dX11_letterOf_43 rfl (lv_at hl 2 rfl) ?_
        refine lv_bipush (v := 8) hx hb dX11_letterOf_44 (by decide) ?_
        refine lv_isub hx hb dX11_letterOf_46 ?_
        refine lv_imul hx hb dX11_letterOf_47 ?_
        refine lv_isub hx hb dX11_letterOf_48 ?_
        refine lv_lushr hx hb dX11_letterOf_49 rfl ?_
        refine lv_topl (fun x_4 ex_4 => ?_)
        refine lv_lstore_n (lv' := [(3, .long x_4), (0, .ref ca), (1, .int p0), (2, .int p1)]) hx hb dX11_letterOf_50 rfl hl (by decide) rfl (fun ls hl => ?_)
        refine lv_lload_n hx hb dX11_letterOf_51 rfl (lv_at hl 0 rfl) ?_
        refine lv_ldc2 (own := RX11) (v := 255) hx hb hown (hts (.constantLong RX11 75 (255)) (by decide +kernel)) dX11_letterOf_52 ?_
        refine lv_land hx hb dX11_letterOf_55 ?_
        refine lv_l2i hx hb dX11_letterOf_56 rfl ?_
        have hP9 := hP.sub (ws' := [(ca, .inl (cJ, nC, .inr (.inl cf)))]) [0] rfl
        have hD9 := hD.sub (ws' := [(ca, .inl (cJ, nC, .inr (.inl cf)))]) [0] (by decide) rfl
        have hK9 := hK.sub (tys' := [(cJ, .long)]) [0] rfl
        exact W.iret (v := (x_4 &&& 255).toInt32) hx hb hr (fun t ht hW => ⟨⟨(x_4 &&& 255).toInt32, (), rfl, (by subst_vars; unfold qh_letter; try (first | rw [if_pos c_1] | rw [if_neg c_1]); try (first | rw [if_pos c_2] | rw [if_neg c_2]); try (first | rw [if_pos c_3] | rw [if_neg c_3]); try rfl), by rw [ht]; exact hP9, va_K.moved hW.alike hK9, hD9⟩, hS.F ht⟩) hS.2.2 dX11_letterOf_57
      · skip
        refine lv_aload_n hx hb dX11_letterOf_18 rfl (lv_at hl 0 rfl) ?_
        refine lv_iload_n hx hb dX11_letterOf_19 rfl (lv_at hl 1 rfl) ?_
        refine lv_iconst (v := 1) hx hb dX11_letterOf_20 (by decide) ?_
        refine lv_iadd hx hb dX11_letterOf_21 ?_
        refine va_lald hx hb hK hP 0 0 rfl rfl (hin.1) dX11_letterOf_22 ?_
        refine lv_bipush (v := 56) hx hb dX11_letterOf_23 (by decide) ?_
        refine lv_bipush (v := 8) hx hb dX11_letterOf_25 (by decide) ?_
        refine lv_iload_n hx hb dX11_letterOf_27 rfl (lv_at hl 2 rfl) ?_
        refine lv_imul hx hb dX11_letterOf_28 ?_
        refine lv_isub hx hb dX11_letterOf_29 ?_
        refine lv_lushr hx hb dX11_letterOf_30 rfl ?_
        refine lv_goto (tgt := 50) hx hb dX11_letterOf_31 (by decide) ?_
        refine lv_topl (fun x_5 ex_5 => ?_)
        refine lv_lstore_n (lv' := [(3, .long x_5), (0, .ref ca), (1, .int p0), (2, .int p1)]) hx hb dX11_letterOf_50 rfl hl (by decide) rfl (fun ls hl => ?_)
        refine lv_lload_n hx hb dX11_letterOf_51 rfl (lv_at hl 0 rfl) ?_
        refine lv_ldc2 (own := RX11) (v := 255) hx hb hown (hts (.constantLong RX11 75 (255)) (by decide +kernel)) dX11_letterOf_52 ?_
        refine lv_land hx hb dX11_letterOf_55 ?_
        refine lv_l2i hx hb dX11_letterOf_56 rfl ?_
        have hP9 := hP.sub (ws' := [(ca, .inl (cJ, nC, .inr (.inl cf)))]) [0] rfl
        have hD9 := hD.sub (ws' := [(ca, .inl (cJ, nC, .inr (.inl cf)))]) [0] (by decide) rfl
        have hK9 := hK.sub (tys' := [(cJ, .long)]) [0] rfl
        exact W.iret (v := (x_5 &&& 255).toInt32) hx hb hr (fun t ht hW => ⟨⟨(x_5 &&& 255).toInt32, (), rfl, (by subst_vars; unfold qh_letter; try (first | rw [if_pos c_1] | rw [if_neg c_1]); try (first | rw [if_pos c_2] | rw [if_neg c_2]); try (first | rw [if_pos c_3] | rw [if_neg c_3]); try rfl), by rw [ht]; exact hP9, va_K.moved hW.alike hK9, hD9⟩, hS.F ht⟩) hS.2.2 dX11_letterOf_57
    · skip
      refine lv_iconst (v := 0) hx hb dX11_letterOf_10 (by decide) ?_
      have hP9 := hP.sub (ws' := [(ca, .inl (cJ, nC, .inr (.inl cf)))]) [0] rfl
      have hD9 := hD.sub (ws' := [(ca, .inl (cJ, nC, .inr (.inl cf)))]) [0] (by decide) rfl
      have hK9 := hK.sub (tys' := [(cJ, .long)]) [0] rfl
      exact W.iret (v := 0) hx hb hr (fun t ht hW => ⟨⟨0, (), rfl, (by subst_vars; unfold qh_letter; try (first | rw [if_pos c_1] | rw [if_neg c_1]); try (first | rw [if_pos c_2] | rw [if_neg c_2]); try rfl), by rw [ht]; exact hP9, va_K.moved hW.alike hK9, hD9⟩, hS.F ht⟩) hS.2.2 dX11_letterOf_11
set_option maxHeartbeats 4000000 in
set_option maxRecDepth 100000 in
/-- Table.lettersOf(cells, at) -/
theorem c_X11_lettersOf (l : Launch) (dC : Nat → ClassId) (dI : Nat → Nat → Nat) (sz : Nat) (cJ : ClassId) (ca nC : Nat) (cf : Nat → Int64) (p0 : Int32) (hin : vp_in (p0 + 1) nC ∧ vp_in (p0 + 2) nC) : Met l yX11_lettersOf wsX11_lettersOf ({ frames := 1, cells := 0, slots := 0, locals := 40 }) (va_Pc [.ref ca, .int p0] (fun U => U.heap.size = sz ∧ va_P (dC, dI) vwCl [(ca, .inl (cJ, nC, .inr (.inl cf)))] U.heap ∧ va_K (dC, dI) vwCl [(cJ, .long)] U ∧ va_D (fun _ => True) [(ca, .inl (cJ, nC, .inr (.inl cf)))])) (va_Qi (fun (r : Int32) (_ : Unit) => r = qh_letters cf p0) (fun (_ : Unit) (t : State) => va_P (dC, dI) vwCl [(ca, .inl (cJ, nC, .inr (.inl cf)))] t.heap ∧ va_K (dC, dI) vwCl [(cJ, .long)] t ∧ va_D (va_A [(ca, .inl (cJ, nC, .inr (.inl cf)))] sz) [(ca, .inl (cJ, nC, .inr (.inl cf)))]) (va_A [(ca, .inl (cJ, nC, .inr (.inl cf)))] sz)) 0 0 (va_A [(ca, .inl (cJ, nC, .inr (.inl cf)))] sz) := by
  refine Met.ofW (cc := cX11_lettersOf) (maxL := 3) (ret := (some .int)) (by decide) rfl ?_
  intro p e s m args below meth c s₁ B hml hv
  obtain ⟨rfl, hsz, hP, hK, hD0⟩ := hv
  have hx := B.exec
  have hb := B.bytes
  have hr := B.returns
  have hts := atoms_spec (ws := wsX11_lettersOf) B.pre
  have hown : s.vm.findClass RX11 = some m.cls := findClass_of_methodNamed B.named
  have hlocks := B.notSynchronized
  subst hsz
  have hD := hD0.self (sz := s.heap.size)
  generalize hAe : va_A [(ca, .inl (cJ, nC, .inr (.inl cf)))] s.heap.size = A at hD ⊢
  have hA : ∀ q : Nat, s.heap.size ≤ q → A q := fun q h => by rw [← hAe]; exact Or.inr h
  have hS : va_S A s.heap s.heap [] := va_S.rf
  have hP : va_P (dC, dI) vwCl [(ca, .inl (cJ, nC, .inr (.inl cf)))] s.heap := hP
  have hl := lv_entry ([.ref ca, .int p0]) (n := 3) (Nat.le_of_ble_eq_true rfl)
  rw [lg_entry_eq]
  generalize (lg_sl ([.ref ca, .int p0]) ++ List.replicate (3 - (lg_sl ([.ref ca, .int p0])).length) Slot.unset).toArray = ls at hl ⊢
  have hl : lv_has ls 3 [(0, .ref ca), (1, .int p0)] := hl
  refine lv_iconst (v := 0) hx hb dX11_lettersOf_0 (by decide) ?_
  refine lv_istore_n (lv' := [(2, .int 0), (0, .ref ca), (1, .int p0)]) hx hb dX11_lettersOf_1 rfl hl (by decide) rfl (fun ls hl => ?_)
  refine lv_iload_n hx hb dX11_lettersOf_2 rfl (lv_at hl 0 rfl) ?_
  refine lv_bipush (v := 12) hx hb dX11_lettersOf_3 (by decide) ?_
  refine lv_icmp_ge (tgt := 23) hx hb dX11_lettersOf_5 (by decide) (fun c_1 => absurd c_1 (by decide)) (fun _ => ?_)
  refine lv_aload_n hx hb dX11_lettersOf_8 rfl (lv_at hl 1 rfl) ?_
  refine lv_iload_n hx hb dX11_lettersOf_9 rfl (lv_at hl 2 rfl) ?_
  refine lv_iload_n hx hb dX11_lettersOf_10 rfl (lv_at hl 0 rfl) ?_
  have hPc := hP.sub (ws' := [(ca, .inl (cJ, nC, .inr (.inl cf)))]) [0] rfl
  have hDc := hD.sub (ws' := [(ca, .inl (cJ, nC, .inr (.inl cf)))]) [0] (by decide) rfl
  have hKc := hK.sub (tys' := [(cJ, .long)]) [0] rfl
  have hFc := va_free (wc := [(ca, .inl (cJ, nC, .inr (.inl cf)))]) hD hS hA [0] rfl
  refine va_calli (va_runS (As := [.ref ca, .int p0, .int 0]) (rest := []) ⟨hx, hb, hml, hown, hts⟩ (c_X11_letterOf l dC dI s.heap.size cJ ca nC cf p0 0 hin) (va_cwS 3 hts gX11_lettersOf_X11_letterOf rfl rfl rfl (by decide +kernel) ⟨Nat.le_of_ble_eq_true rfl, Nat.le_of_ble_eq_true rfl⟩) ⟨fun a U g mk q => by obtain ⟨q0, q1, qP, qK, qD⟩ := q; exact ⟨q0, q1, qP, va_K.moved (u := U) (U := U.calling g mk a) (Vm.Alike.refl U.vm) qK, qD⟩, fun U hU hW => ⟨rfl, by rw [hU], by rw [hU]; exact hPc, va_K.moved hW.alike hKc, hDc.weaken (fun _ _ _ _ => trivial)⟩⟩ rfl rfl hl.1 rfl (lv_room (Nat.le_of_ble_eq_true rfl)) dX11_lettersOf_11 ⟨Nat.le_of_ble_eq_true rfl, Nat.le_of_ble_eq_true rfl⟩) hS (fun q _ h => hFc q h) hFc (fun r_2 u t H1 locs ht hvm hw hB hz1 hk1 hS => ?_)
  obtain ⟨hP1, hK1, hD1⟩ := hB
  rw [ht] at hP1
  obtain ⟨hP, hD⟩ := va_join (wr := []) (w1 := [(ca, .inl (cJ, nC, .inr (.inl cf)))]) hP hD [0] [] rfl rfl (by decide) (by decide) hk1 hFc hP1 hD1
  generalize H1 = H at hP hS ⊢
  have hP := hP.sub (ws' := [(ca, .inl (cJ, nC, .inr (.inl cf)))]) [0] rfl
  have hD := hD.sub (ws' := [(ca, .inl (cJ, nC, .inr (.inl cf)))]) [0] (by decide) rfl
  have hw : r_2 = qh_letter cf p0 0 := hw
  subst hw
  refine lv_if_eq (tgt := 23) hx hb dX11_lettersOf_14 (by decide) (fun c_3 => ?_) (fun c_3 => ?_)
  · skip
    refine lv_iload_n hx hb dX11_lettersOf_23 rfl (lv_at hl 0 rfl) ?_
    have hP9 := hP.sub (ws' := [(ca, .inl (cJ, nC, .inr (.inl cf)))]) [0] rfl
    have hD9 := hD.sub (ws' := [(ca, .inl (cJ, nC, .inr (.inl cf)))]) [0] (by decide) rfl
    have hK9 := hK.sub (tys' := [(cJ, .long)]) [0] rfl
    exact W.iret (v := 0) hx hb hr (fun t ht hW => ⟨⟨0, (), rfl, (by unfold qh_letters; try (first | rw [if_pos c_3] | rw [if_neg c_3]); try rfl), by rw [ht]; exact hP9, va_K.moved hW.alike hK9, hD9⟩, hS.F ht⟩) hS.2.2 dX11_lettersOf_24
  · skip
    refine lv_iinc (v := 1) (lv' := [(2, .int 1), (0, .ref ca), (1, .int p0)]) hx hb dX11_lettersOf_17 hl (k := 0) rfl (by decide) (by decide) rfl (fun ls hl => ?_)
    refine lv_goto (tgt := 2) hx hb dX11_lettersOf_20 (by decide) ?_
    refine lv_iload_n hx hb dX11_lettersOf_2 rfl (lv_at hl 0 rfl) ?_
    refine lv_bipush (v := 12) hx hb dX11_lettersOf_3 (by decide) ?_
    refine lv_icmp_ge (tgt := 23) hx hb dX11_lettersOf_5 (by decide) (fun c_4 => absurd c_4 (by decide)) (fun _ => ?_)
    refine lv_aload_n hx hb dX11_lettersOf_8 rfl (lv_at hl 1 rfl) ?_
    refine lv_iload_n hx hb dX11_lettersOf_9 rfl (lv_at hl 2 rfl) ?_
    refine lv_iload_n hx hb dX11_lettersOf_10 rfl (lv_at hl 0 rfl) ?_
    have hPc := hP.sub (ws' := [(ca, .inl (cJ, nC, .inr (.inl cf)))]) [0] rfl
    have hDc := hD.sub (ws' := [(ca, .inl (cJ, nC, .inr (.inl cf)))]) [0] (by decide) rfl
    have hKc := hK.sub (tys' := [(cJ, .long)]) [0] rfl
    have hFc := va_free (wc := [(ca, .inl (cJ, nC, .inr (.inl cf)))]) hD hS hA [0] rfl
    refine va_calli (va_runS (As := [.ref ca, .int p0, .int 1]) (rest := []) ⟨hx, hb, hml, hown, hts⟩ (c_X11_letterOf l dC dI H.size cJ ca nC cf p0 1 hin) (va_cwS 3 hts gX11_lettersOf_X11_letterOf rfl rfl rfl (by decide +kernel) ⟨Nat.le_of_ble_eq_true rfl, Nat.le_of_ble_eq_true rfl⟩) ⟨fun a U g mk q => by obtain ⟨q0, q1, qP, qK, qD⟩ := q; exact ⟨q0, q1, qP, va_K.moved (u := U) (U := U.calling g mk a) (Vm.Alike.refl U.vm) qK, qD⟩, fun U hU hW => ⟨rfl, by rw [hU], by rw [hU]; exact hPc, va_K.moved hW.alike hKc, hDc.weaken (fun _ _ _ _ => trivial)⟩⟩ rfl rfl hl.1 rfl (lv_room (Nat.le_of_ble_eq_true rfl)) dX11_lettersOf_11 ⟨Nat.le_of_ble_eq_true rfl, Nat.le_of_ble_eq_true rfl⟩) hS (fun q _ h => hFc q h) hFc (fun r_5 u t H1 locs ht hvm hw hB hz1 hk1 hS => ?_)
    obtain ⟨hP1, hK1, hD1⟩ := hB
    rw [ht] at hP1
    obtain ⟨hP, hD⟩ := va_join (wr := []) (w1 := [(ca, .inl (cJ, nC, .inr (.inl cf)))]) hP hD [0] [] rfl rfl (by decide) (by decide) hk1 hFc hP1 hD1
    generalize H1 = H at hP hS ⊢
    have hP := hP.sub (ws' := [(ca, .inl (cJ, nC, .inr (.inl cf)))]) [0] rfl
    have hD := hD.sub (ws' := [(ca, .inl (cJ, nC, .inr (.inl cf)))]) [0] (by decide) rfl
    have hw : r_5 = qh_letter cf p0 1 := hw
    subst hw
    refine lv_if_eq (tgt := 23) hx hb dX11_lettersOf_14 (by decide) (fun c_6 => ?_) (fun c_6 => ?_)
    · skip
      refine lv_iload_n hx hb dX11_lettersOf_23 rfl (lv_at hl 0 rfl) ?_
      have hP9 := hP.sub (ws' := [(ca, .inl (cJ, nC, .inr (.inl cf)))]) [0] rfl
      have hD9 := hD.sub (ws' := [(ca, .inl (cJ, nC, .inr (.inl cf)))]) [0] (by decide) rfl
      have hK9 := hK.sub (tys' := [(cJ, .long)]) [0] rfl
      exact W.iret (v := 1) hx hb hr (fun t ht hW => ⟨⟨1, (), rfl, (by unfold qh_letters; try (first | rw [if_pos c_3] | rw [if_neg c_3]); try (first | rw [if_pos c_6] | rw [if_neg c_6]); try rfl), by rw [ht]; exact hP9, va_K.moved hW.alike hK9, hD9⟩, hS.F ht⟩) hS.2.2 dX11_lettersOf_24
    · skip
      refine lv_iinc (v := 2) (lv' := [(2, .int 2), (0, .ref ca), (1, .int p0)]) hx hb dX11_lettersOf_17 hl (k := 0) rfl (by decide) (by decide) rfl (fun ls hl => ?_)
      refine lv_goto (tgt := 2) hx hb dX11_lettersOf_20 (by decide) ?_
      refine lv_iload_n hx hb dX11_lettersOf_2 rfl (lv_at hl 0 rfl) ?_
      refine lv_bipush (v := 12) hx hb dX11_lettersOf_3 (by decide) ?_
      refine lv_icmp_ge (tgt := 23) hx hb dX11_lettersOf_5 (by decide) (fun c_7 => absurd c_7 (by decide)) (fun _ => ?_)
      refine lv_aload_n hx hb dX11_lettersOf_8 rfl (lv_at hl 1 rfl) ?_
      refine lv_iload_n hx hb dX11_lettersOf_9 rfl (lv_at hl 2 rfl) ?_
      refine lv_iload_n hx hb dX11_lettersOf_10 rfl (lv_at hl 0 rfl) ?_
      have hPc := hP.sub (ws' := [(ca, .inl (cJ, nC, .inr (.inl cf)))]) [0] rfl
      have hDc := hD.sub (ws' := [(ca, .inl (cJ, nC, .inr (.inl cf)))]) [0] (by decide) rfl
      have hKc := hK.sub (tys' := [(cJ, .long)]) [0] rfl
      have hFc := va_free (wc := [(ca, .inl (cJ, nC, .inr (.inl cf)))]) hD hS hA [0] rfl
      refine va_calli (va_runS (As := [.ref ca, .int p0, .int 2]) (rest := []) ⟨hx, hb, hml, hown, hts⟩ (c_X11_letterOf l dC dI H.size cJ ca nC cf p0 2 hin) (va_cwS 3 hts gX11_lettersOf_X11_letterOf rfl rfl rfl (by decide +kernel) ⟨Nat.le_of_ble_eq_true rfl, Nat.le_of_ble_eq_true rfl⟩) ⟨fun a U g mk q => by obtain ⟨q0, q1, qP, qK, qD⟩ := q; exact ⟨q0, q1, qP, va_K.moved (u := U) (U := U.calling g mk a) (Vm.Alike.refl U.vm) qK, qD⟩, fun U hU hW => ⟨rfl, by rw [hU], by rw [hU]; exact hPc, va_K.moved hW.alike hKc, hDc.weaken (fun _ _ _ _ => trivial)⟩⟩ rfl rfl hl.1 rfl (lv_room (Nat.le_of_ble_eq_true rfl)) dX11_lettersOf_11 ⟨Nat.le_of_ble_eq_true rfl, Nat.le_of_ble_eq_true rfl⟩) hS (fun q _ h => hFc q h) hFc (fun r_8 u t H1 locs ht hvm hw hB hz1 hk1 hS => ?_)
      obtain ⟨hP1, hK1, hD1⟩ := hB
      rw [ht] at hP1
      obtain ⟨hP, hD⟩ := va_join (wr := []) (w1 := [(ca, .inl (cJ, nC, .inr (.inl cf)))]) hP hD [0] [] rfl rfl (by decide) (by decide) hk1 hFc hP1 hD1
      generalize H1 = H at hP hS ⊢
      have hP := hP.sub (ws' := [(ca, .inl (cJ, nC, .inr (.inl cf)))]) [0] rfl
      have hD := hD.sub (ws' := [(ca, .inl (cJ, nC, .inr (.inl cf)))]) [0] (by decide) rfl
      have hw : r_8 = qh_letter cf p0 2 := hw
      subst hw
      refine lv_if_eq (tgt := 23) hx hb dX11_lettersOf_14 (by decide) (fun c_9 => ?_) (fun c_9 => ?_)
      · skip
        refine lv_iload_n hx hb dX11_lettersOf_23 rfl (lv_at hl 0 rfl) ?_
        have hP9 := hP.sub (ws' := [(ca, .inl (cJ, nC, .inr (.inl cf)))]) [0] rfl
        have hD9 := hD.sub (ws' := [(ca, .inl (cJ, nC, .inr (.inl cf)))]) [0] (by decide) rfl
        have hK9 := hK.sub (tys' := [(cJ, .long)]) [0] rfl
        exact W.iret (v := 2) hx hb hr (fun t ht hW => ⟨⟨2, (), rfl, (by unfold qh_letters; try (first | rw [if_pos c_3] | rw [if_neg c_3]); try (first | rw [if_pos c_6] | rw [if_neg c_6]); try (first | rw [if_pos c_9] | rw [if_neg c_9]); try rfl), by rw [ht]; exact hP9, va_K.moved hW.alike hK9, hD9⟩, hS.F ht⟩) hS.2.2 dX11_lettersOf_24
      · skip
        refine lv_iinc (v := 3) (lv' := [(2, .int 3), (0, .ref ca), (1, .int p0)]) hx hb dX11_lettersOf_17 hl (k := 0) rfl (by decide) (by decide) rfl (fun ls hl => ?_)
        refine lv_goto (tgt := 2) hx hb dX11_lettersOf_20 (by decide) ?_
        refine lv_iload_n hx hb dX11_lettersOf_2 rfl (lv_at hl 0 rfl) ?_
        refine lv_bipush (v := 12) hx hb dX11_lettersOf_3 (by decide) ?_
        refine lv_icmp_ge (tgt := 23) hx hb dX11_lettersOf_5 (by decide) (fun c_10 => absurd c_10 (by decide)) (fun _ => ?_)
        refine lv_aload_n hx hb dX11_lettersOf_8 rfl (lv_at hl 1 rfl) ?_
        refine lv_iload_n hx hb dX11_lettersOf_9 rfl (lv_at hl 2 rfl) ?_
        refine lv_iload_n hx hb dX11_lettersOf_10 rfl (lv_at hl 0 rfl) ?_
        have hPc := hP.sub (ws' := [(ca, .inl (cJ, nC, .inr (.inl cf)))]) [0] rfl
        have hDc := hD.sub (ws' := [(ca, .inl (cJ, nC, .inr (.inl cf)))]) [0] (by decide) rfl
        have hKc := hK.sub (tys' := [(cJ, .long)]) [0] rfl
        have hFc := va_free (wc := [(ca, .inl (cJ, nC, .inr (.inl cf)))]) hD hS hA [0] rfl
        refine va_calli (va_runS (As := [.ref ca, .int p0, .int 3]) (rest := []) ⟨hx, hb, hml, hown, hts⟩ (c_X11_letterOf l dC dI H.size cJ ca nC cf p0 3 hin) (va_cwS 3 hts gX11_lettersOf_X11_letterOf rfl rfl rfl (by decide +kernel) ⟨Nat.le_of_ble_eq_true rfl, Nat.le_of_ble_eq_true rfl⟩) ⟨fun a U g mk q => by obtain ⟨q0, q1, qP, qK, qD⟩ := q; exact ⟨q0, q1, qP, va_K.moved (u := U) (U := U.calling g mk a) (Vm.Alike.refl U.vm) qK, qD⟩, fun U hU hW => ⟨rfl, by rw [hU], by rw [hU]; exact hPc, va_K.moved hW.alike hKc, hDc.weaken (fun _ _ _ _ => trivial)⟩⟩ rfl rfl hl.1 rfl (lv_room (Nat.le_of_ble_eq_true rfl)) dX11_lettersOf_11 ⟨Nat.le_of_ble_eq_true rfl, Nat.le_of_ble_eq_true rfl⟩) hS (fun q _ h => hFc q h) hFc (fun r_11 u t H1 locs ht hvm hw hB hz1 hk1 hS => ?_)
        obtain ⟨hP1, hK1, hD1⟩ := hB
        rw [ht] at hP1
        obtain ⟨hP, hD⟩ := va_join (wr := []) (w1 := [(ca, .inl (cJ, nC, .inr (.inl cf)))]) hP hD [0] [] rfl rfl (by decide) (by decide) hk1 hFc hP1 hD1
        generalize H1 = H at hP hS ⊢
        have hP := hP.sub (ws' := [(ca, .inl (cJ, nC, .inr (.inl cf)))]) [0] rfl
        have hD := hD.sub (ws' := [(ca, .inl (cJ, nC, .inr (.inl cf)))]) [0] (by decide) rfl
        have hw : r_11 = qh_letter cf p0 3 := hw
        subst hw
        refine lv_if_eq (tgt := 23) hx hb dX11_lettersOf_14 (by decide) (fun c_12 => ?_) (fun c_12 => ?_)
        · skip
          refine lv_iload_n hx hb dX11_lettersOf_23 rfl (lv_at hl 0 rfl) ?_
          have hP9 := hP.sub (ws' := [(ca, .inl (cJ, nC, .inr (.inl cf)))]) [0] rfl
          have hD9 := hD.sub (ws' := [(ca, .inl (cJ, nC, .inr (.inl cf)))]) [0] (by decide) rfl
          have hK9 := hK.sub (tys' := [(cJ, .long)]) [0] rfl
          exact W.iret (v := 3) hx hb hr (fun t ht hW => ⟨⟨3, (), rfl, (by unfold qh_letters; try (first | rw [if_pos c_3] | rw [if_neg c_3]); try (first | rw [if_pos c_6] | rw [if_neg c_6]); try (first | rw [if_pos c_9] | rw [if_neg c_9]); try (first | rw [if_pos c_12] | rw [if_neg c_12]); try rfl), by rw [ht]; exact hP9, va_K.moved hW.alike hK9, hD9⟩, hS.F ht⟩) hS.2.2 dX11_lettersOf_24
        · skip
          refine lv_iinc (v := 4) (lv' := [(2, .int 4), (0, .ref ca), (1, .int p0)]) hx hb dX11_lettersOf_17 hl (k := 0) rfl (by decide) (by decide) rfl (fun ls hl => ?_)
          refine lv_goto (tgt := 2) hx hb dX11_lettersOf_20 (by decide) ?_
          refine lv_iload_n hx hb dX11_lettersOf_2 rfl (lv_at hl 0 rfl) ?_
          refine lv_bipush (v := 12) hx hb dX11_lettersOf_3 (by decide) ?_
          refine lv_icmp_ge (tgt := 23) hx hb dX11_lettersOf_5 (by decide) (fun c_13 => absurd c_13 (by decide)) (fun _ => ?_)
          refine lv_aload_n hx hb dX11_lettersOf_8 rfl (lv_at hl 1 rfl) ?_
          refine lv_iload_n hx hb dX11_lettersOf_9 rfl (lv_at hl 2 rfl) ?_
          refine lv_iload_n hx hb dX11_lettersOf_10 rfl (lv_at hl 0 rfl) ?_
          have hPc := hP.sub (ws' := [(ca, .inl (cJ, nC, .inr (.inl cf)))]) [0] rfl
          have hDc := hD.sub (ws' := [(ca, .inl (cJ, nC, .inr (.inl cf)))]) [0] (by decide) rfl
          have hKc := hK.sub (tys' := [(cJ, .long)]) [0] rfl
          have hFc := va_free (wc := [(ca, .inl (cJ, nC, .inr (.inl cf)))]) hD hS hA [0] rfl
          refine va_calli (va_runS (As := [.ref ca, .int p0, .int 4]) (rest := []) ⟨hx, hb, hml, hown, hts⟩ (c_X11_letterOf l dC dI H.size cJ ca nC cf p0 4 hin) (va_cwS 3 hts gX11_lettersOf_X11_letterOf rfl rfl rfl (by decide +kernel) ⟨Nat.le_of_ble_eq_true rfl, Nat.le_of_ble_eq_true rfl⟩) ⟨fun a U g mk q => by obtain ⟨q0, q1, qP, qK, qD⟩ := q; exact ⟨q0, q1, qP, va_K.moved (u := U) (U := U.calling g mk a) (Vm.Alike.refl U.vm) qK, qD⟩, fun U hU hW => ⟨rfl, by rw [hU], by rw [hU]; exact hPc, va_K.moved hW.alike hKc, hDc.weaken (fun _ _ _ _ => trivial)⟩⟩ rfl rfl hl.1 rfl (lv_room (Nat.le_of_ble_eq_true rfl)) dX11_lettersOf_11 ⟨Nat.le_of_ble_eq_true rfl, Nat.le_of_ble_eq_true rfl⟩) hS (fun q _ h => hFc q h) hFc (fun r_14 u t H1 locs ht hvm hw hB hz1 hk1 hS => ?_)
          obtain ⟨hP1, hK1, hD1⟩ := hB
          rw [ht] at hP1
          obtain ⟨hP, hD⟩ := va_join (wr := []) (w1 := [(ca, .inl (cJ, nC, .inr (.inl cf)))]) hP hD [0] [] rfl rfl (by decide) (by decide) hk1 hFc hP1 hD1
          generalize H1 = H at hP hS ⊢
          have hP := hP.sub (ws' := [(ca, .inl (cJ, nC, .inr (.inl cf)))]) [0] rfl
          have hD := hD.sub (ws' := [(ca, .inl (cJ, nC, .inr (.inl cf)))]) [0] (by decide) rfl
          have hw : r_14 = qh_letter cf p0 4 := hw
          subst hw
          refine lv_if_eq (tgt := 23) hx hb dX11_lettersOf_14 (by decide) (fun c_15 => ?_) (fun c_15 => ?_)
          · skip
            refine lv_iload_n hx hb dX11_lettersOf_23 rfl (lv_at hl 0 rfl) ?_
            have hP9 := hP.sub (ws' := [(ca, .inl (cJ, nC, .inr (.inl cf)))]) [0] rfl
            have hD9 := hD.sub (ws' := [(ca, .inl (cJ, nC, .inr (.inl cf)))]) [0] (by decide) rfl
            have hK9 := hK.sub (tys' := [(cJ, .long)]) [0] rfl
            exact W.iret (v := 4) hx hb hr (fun t ht hW => ⟨⟨4, (), rfl, (by unfold qh_letters; try (first | rw [if_pos c_3] | rw [if_neg c_3]); try (first | rw [if_pos c_6] | rw [if_neg c_6]); try (first | rw [if_pos c_9] | rw [if_neg c_9]); try (first | rw [if_pos c_12] | rw [if_neg c_12]); try (first | rw [if_pos c_15] | rw [if_neg c_15]); try rfl), by rw [ht]; exact hP9, va_K.moved hW.alike hK9, hD9⟩, hS.F ht⟩) hS.2.2 dX11_lettersOf_24
          · skip
            refine lv_iinc (v := 5) (lv' := [(2, .int 5), (0, .ref ca), (1, .int p0)]) hx hb dX11_lettersOf_17 hl (k := 0) rfl (by decide) (by decide) rfl (fun ls hl => ?_)
            refine lv_goto (tgt := 2) hx hb dX11_lettersOf_20 (by decide) ?_
            refine lv_iload_n hx hb dX11_lettersOf_2 rfl (lv_at hl 0 rfl) ?_
            refine lv_bipush (v := 12) hx hb dX11_lettersOf_3 (by decide) ?_
            refine lv_icmp_ge (tgt := 23) hx hb dX11_lettersOf_5 (by decide) (fun c_16 => absurd c_16 (by decide)) (fun _ => ?_)
            refine lv_aload_n hx hb dX11_lettersOf_8 rfl (lv_at hl 1 rfl) ?_
            refine lv_iload_n hx hb dX11_lettersOf_9 rfl (lv_at hl 2 rfl) ?_
            refine lv_iload_n hx hb dX11_lettersOf_10 rfl (lv_at hl 0 rfl) ?_
            have hPc := hP.sub (ws' := [(ca, .inl (cJ, nC, .inr (.inl cf)))]) [0] rfl
            have hDc := hD.sub (ws' := [(ca, .inl (cJ, nC, .inr (.inl cf)))]) [0] (by decide) rfl
            have hKc := hK.sub (tys' := [(cJ, .long)]) [0] rfl
            have hFc := va_free (wc := [(ca, .inl (cJ, nC, .inr (.inl cf)))]) hD hS hA [0] rfl
            refine va_calli (va_runS (As := [.ref ca, .int p0, .int 5]) (rest := []) ⟨hx, hb, hml, hown, hts⟩ (c_X11_letterOf l dC dI H.size cJ ca nC cf p0 5 hin) (va_cwS 3 hts gX11_lettersOf_X11_letterOf rfl rfl rfl (by decide +kernel) ⟨Nat.le_of_ble_eq_true rfl, Nat.le_of_ble_eq_true rfl⟩) ⟨fun a U g mk q => by obtain ⟨q0, q1, qP, qK, qD⟩ := q; exact ⟨q0, q1, qP, va_K.moved (u := U) (U := U.calling g mk a) (Vm.Alike.refl U.vm) qK, qD⟩, fun U hU hW => ⟨rfl, by rw [hU], by rw [hU]; exact hPc, va_K.moved hW.alike hKc, hDc.weaken (fun _ _ _ _ => trivial)⟩⟩ rfl rfl hl.1 rfl (lv_room (Nat.le_of_ble_eq_true rfl)) dX11_lettersOf_11 ⟨Nat.le_of_ble_eq_true rfl, Nat.le_of_ble_eq_true rfl⟩) hS (fun q _ h => hFc q h) hFc (fun r_17 u t H1 locs ht hvm hw hB hz1 hk1 hS => ?_)
            obtain ⟨hP1, hK1, hD1⟩ := hB
            rw [ht] at hP1
            obtain ⟨hP, hD⟩ := va_join (wr := []) (w1 := [(ca, .inl (cJ, nC, .inr (.inl cf)))]) hP hD [0] [] rfl rfl (by decide) (by decide) hk1 hFc hP1 hD1
            generalize H1 = H at hP hS ⊢
            have hP := hP.sub (ws' := [(ca, .inl (cJ, nC, .inr (.inl cf)))]) [0] rfl
            have hD := hD.sub (ws' := [(ca, .inl (cJ, nC, .inr (.inl cf)))]) [0] (by decide) rfl
            have hw : r_17 = qh_letter cf p0 5 := hw
            subst hw
            refine lv_if_eq (tgt := 23) hx hb dX11_lettersOf_14 (by decide) (fun c_18 => ?_) (fun c_18 => ?_)
            · skip
              refine lv_iload_n hx hb dX11_lettersOf_23 rfl (lv_at hl 0 rfl) ?_
              have hP9 := hP.sub (ws' := [(ca, .inl (cJ, nC, .inr (.inl cf)))]) [0] rfl
              have hD9 := hD.sub (ws' := [(ca, .inl (cJ, nC, .inr (.inl cf)))]) [0] (by decide) rfl
              have hK9 := hK.sub (tys' := [(cJ, .long)]) [0] rfl
              exact W.iret (v := 5) hx hb hr (fun t ht hW => ⟨⟨5, (), rfl, (by unfold qh_letters; try (first | rw [if_pos c_3] | rw [if_neg c_3]); try (first | rw [if_pos c_6] | rw [if_neg c_6]); try (first | rw [if_pos c_9] | rw [if_neg c_9]); try (first | rw [if_pos c_12] | rw [if_neg c_12]); try (first | rw [if_pos c_15] | rw [if_neg c_15]); try (first | rw [if_pos c_18] | rw [if_neg c_18]); try rfl), by rw [ht]; exact hP9, va_K.moved hW.alike hK9, hD9⟩, hS.F ht⟩) hS.2.2 dX11_lettersOf_24
            · skip
              refine lv_iinc (v := 6) (lv' := [(2, .int 6), (0, .ref ca), (1, .int p0)]) hx hb dX11_lettersOf_17 hl (k := 0) rfl (by decide) (by decide) rfl (fun ls hl => ?_)
              refine lv_goto (tgt := 2) hx hb dX11_lettersOf_20 (by decide) ?_
              refine lv_iload_n hx hb dX11_lettersOf_2 rfl (lv_at hl 0 rfl) ?_
              refine lv_bipush (v := 12) hx hb dX11_lettersOf_3 (by decide) ?_
              refine lv_icmp_ge (tgt := 23) hx hb dX11_lettersOf_5 (by decide) (fun c_19 => absurd c_19 (by decide)) (fun _ => ?_)
              refine lv_aload_n hx hb dX11_lettersOf_8 rfl (lv_at hl 1 rfl) ?_
              refine lv_iload_n hx hb dX11_lettersOf_9 rfl (lv_at hl 2 rfl) ?_
              refine lv_iload_n hx hb dX11_lettersOf_10 rfl (lv_at hl 0 rfl) ?_
              have hPc := hP.sub (ws' := [(ca, .inl (cJ, nC, .inr (.inl cf)))]) [0] rfl
              have hDc := hD.sub (ws' := [(ca, .inl (cJ, nC, .inr (.inl cf)))]) [0] (by decide) rfl
              have hKc := hK.sub (tys' := [(cJ, .long)]) [0] rfl
              have hFc := va_free (wc := [(ca, .inl (cJ, nC, .inr (.inl cf)))]) hD hS hA [0] rfl
              refine va_calli (va_runS (As := [.ref ca, .int p0, .int 6]) (rest := []) ⟨hx, hb, hml, hown, hts⟩ (c_X11_letterOf l dC dI H.size cJ ca nC cf p0 6 hin) (va_cwS 3 hts gX11_lettersOf_X11_letterOf rfl rfl rfl (by decide +kernel) ⟨Nat.le_of_ble_eq_true rfl, Nat.le_of_ble_eq_true rfl⟩) ⟨fun a U g mk q => by obtain ⟨q0, q1, qP, qK, qD⟩ := q; exact ⟨q0, q1, qP, va_K.moved (u := U) (U := U.calling g mk a) (Vm.Alike.refl U.vm) qK, qD⟩, fun U hU hW => ⟨rfl, by rw [hU], by rw [hU]; exact hPc, va_K.moved hW.alike hKc, hDc.weaken (fun _ _ _ _ => trivial)⟩⟩ rfl rfl hl.1 rfl (lv_room (Nat.le_of_ble_eq_true rfl)) dX11_lettersOf_11 ⟨Nat.le_of_ble_eq_true rfl, Nat.le_of_ble_eq_true rfl⟩) hS (fun q _ h => hFc q h) hFc (fun r_20 u t H1 locs ht hvm hw hB hz1 hk1 hS => ?_)
              obtain ⟨hP1, hK1, hD1⟩ := hB
              rw [ht] at hP1
              obtain ⟨hP, hD⟩ := va_join (wr := []) (w1 := [(ca, .inl (cJ, nC, .inr (.inl cf)))]) hP hD [0] [] rfl rfl (by decide) (by decide) hk1 hFc hP1 hD1
              generalize H1 = H at hP hS ⊢
              have hP := hP.sub (ws' := [(ca, .inl (cJ, nC, .inr (.inl cf)))]) [0] rfl
              have hD := hD.sub (ws' := [(ca, .inl (cJ, nC, .inr (.inl cf)))]) [0] (by decide) rfl
              have hw : r_20 = qh_letter cf p0 6 := hw
              subst hw
              refine lv_if_eq (tgt := 23) hx hb dX11_lettersOf_14 (by decide) (fun c_21 => ?_) (fun c_21 => ?_)
              · skip
                refine lv_iload_n hx hb dX11_lettersOf_23 rfl (lv_at hl 0 rfl) ?_
                have hP9 := hP.sub (ws' := [(ca, .inl (cJ, nC, .inr (.inl cf)))]) [0] rfl
                have hD9 := hD.sub (ws' := [(ca, .inl (cJ, nC, .inr (.inl cf)))]) [0] (by decide) rfl
                have hK9 := hK.sub (tys' := [(cJ, .long)]) [0] rfl
                exact W.iret (v := 6) hx hb hr (fun t ht hW => ⟨⟨6, (), rfl, (by unfold qh_letters; try (first | rw [if_pos c_3] | rw [if_neg c_3]); try (first | rw [if_pos c_6] | rw [if_neg c_6]); try (first | rw [if_pos c_9] | rw [if_neg c_9]); try (first | rw [if_pos c_12] | rw [if_neg c_12]); try (first | rw [if_pos c_15] | rw [if_neg c_15]); try (first | rw [if_pos c_18] | rw [if_neg c_18]); try (first | rw [if_pos c_21] | rw [if_neg c_21]); try rfl), by rw [ht]; exact hP9, va_K.moved hW.alike hK9, hD9⟩, hS.F ht⟩) hS.2.2 dX11_lettersOf_24
              · skip
                refine lv_iinc (v := 7) (lv' := [(2, .int 7), (0, .ref ca), (1, .int p0)]) hx hb dX11_lettersOf_17 hl (k := 0) rfl (by decide) (by decide) rfl (fun ls hl => ?_)
                refine lv_goto (tgt := 2) hx hb dX11_lettersOf_20 (by decide) ?_
                refine lv_iload_n hx hb dX11_lettersOf_2 rfl (lv_at hl 0 rfl) ?_
                refine lv_bipush (v := 12) hx hb dX11_lettersOf_3 (by decide) ?_
                refine lv_icmp_ge (tgt := 23) hx hb dX11_lettersOf_5 (by decide) (fun c_22 => absurd c_22 (by decide)) (fun _ => ?_)
                refine lv_aload_n hx hb dX11_lettersOf_8 rfl (lv_at hl 1 rfl) ?_
                refine lv_iload_n hx hb dX11_lettersOf_9 rfl (lv_at hl 2 rfl) ?_
                refine lv_iload_n hx hb dX11_lettersOf_10 rfl (lv_at hl 0 rfl) ?_
                have hPc := hP.sub (ws' := [(ca, .inl (cJ, nC, .inr (.inl cf)))]) [0] rfl
                have hDc := hD.sub (ws' := [(ca, .inl (cJ, nC, .inr (.inl cf)))]) [0] (by decide) rfl
                have hKc := hK.sub (tys' := [(cJ, .long)]) [0] rfl
                have hFc := va_free (wc := [(ca, .inl (cJ, nC, .inr (.inl cf)))]) hD hS hA [0] rfl
                refine va_calli (va_runS (As := [.ref ca, .int p0, .int 7]) (rest := []) ⟨hx, hb, hml, hown, hts⟩ (c_X11_letterOf l dC dI H.size cJ ca nC cf p0 7 hin) (va_cwS 3 hts gX11_lettersOf_X11_letterOf rfl rfl rfl (by decide +kernel) ⟨Nat.le_of_ble_eq_true rfl, Nat.le_of_ble_eq_true rfl⟩) ⟨fun a U g mk q => by obtain ⟨q0, q1, qP, qK, qD⟩ := q; exact ⟨q0, q1, qP, va_K.moved (u := U) (U := U.calling g mk a) (Vm.Alike.refl U.vm) qK, qD⟩, fun U hU hW => ⟨rfl, by rw [hU], by rw [hU]; exact hPc, va_K.moved hW.alike hKc, hDc.weaken (fun _ _ _ _ => trivial)⟩⟩ rfl rfl hl.1 rfl (lv_room (Nat.le_of_ble_eq_true rfl)) dX11_lettersOf_11 ⟨Nat.le_of_ble_eq_true rfl, Nat.le_of_ble_eq_true rfl⟩) hS (fun q _ h => hFc q h) hFc (fun r_23 u t H1 locs ht hvm hw hB hz1 hk1 hS => ?_)
                obtain ⟨hP1, hK1, hD1⟩ := hB
                rw [ht] at hP1
                obtain ⟨hP, hD⟩ := va_join (wr := []) (w1 := [(ca, .inl (cJ, nC, .inr (.inl cf)))]) hP hD [0] [] rfl rfl (by decide) (by decide) hk1 hFc hP1 hD1
                generalize H1 = H at hP hS ⊢
                have hP := hP.sub (ws' := [(ca, .inl (cJ, nC, .inr (.inl cf)))]) [0] rfl
                have hD := hD.sub (ws' := [(ca, .inl (cJ, nC, .inr (.inl cf)))]) [0] (by decide) rfl
                have hw : r_23 = qh_letter cf p0 7 := hw
                subst hw
                refine lv_if_eq (tgt := 23) hx hb dX11_lettersOf_14 (by decide) (fun c_24 => ?_) (fun c_24 => ?_)
                · skip
                  refine lv_iload_n hx hb dX11_lettersOf_23 rfl (lv_at hl 0 rfl) ?_
                  have hP9 := hP.sub (ws' := [(ca, .inl (cJ, nC, .inr (.inl cf)))]) [0] rfl
                  have hD9 := hD.sub (ws' := [(ca, .inl (cJ, nC, .inr (.inl cf)))]) [0] (by decide) rfl
                  have hK9 := hK.sub (tys' := [(cJ, .long)]) [0] rfl
                  exact W.iret (v := 7) hx hb hr (fun t ht hW => ⟨⟨7, (), rfl, (by unfold qh_letters; try (first | rw [if_pos c_3] | rw [if_neg c_3]); try (first | rw [if_pos c_6] | rw [if_neg c_6]); try (first | rw [if_pos c_9] | rw [if_neg c_9]); try (first | rw [if_pos c_12] | rw [if_neg c_12]); try (first | rw [if_pos c_15] | rw [if_neg c_15]); try (first | rw [if_pos c_18] | rw [if_neg c_18]); try (first | rw [if_pos c_21] | rw [if_neg c_21]); try (first | rw [if_pos c_24] | rw [if_neg c_24]); try rfl), by rw [ht]; exact hP9, va_K.moved hW.alike hK9, hD9⟩, hS.F ht⟩) hS.2.2 dX11_lettersOf_24
                · skip
                  refine lv_iinc (v := 8) (lv' := [(2, .int 8), (0, .ref ca), (1, .int p0)]) hx hb dX11_lettersOf_17 hl (k := 0) rfl (by decide) (by decide) rfl (fun ls hl => ?_)
                  refine lv_goto (tgt := 2) hx hb dX11_lettersOf_20 (by decide) ?_
                  refine lv_iload_n hx hb dX11_lettersOf_2 rfl (lv_at hl 0 rfl) ?_
                  refine lv_bipush (v := 12) hx hb dX11_lettersOf_3 (by decide) ?_
                  refine lv_icmp_ge (tgt := 23) hx hb dX11_lettersOf_5 (by decide) (fun c_25 => absurd c_25 (by decide)) (fun _ => ?_)
                  refine lv_aload_n hx hb dX11_lettersOf_8 rfl (lv_at hl 1 rfl) ?_
                  refine lv_iload_n hx hb dX11_lettersOf_9 rfl (lv_at hl 2 rfl) ?_
                  refine lv_iload_n hx hb dX11_lettersOf_10 rfl (lv_at hl 0 rfl) ?_
                  have hPc := hP.sub (ws' := [(ca, .inl (cJ, nC, .inr (.inl cf)))]) [0] rfl
                  have hDc := hD.sub (ws' := [(ca, .inl (cJ, nC, .inr (.inl cf)))]) [0] (by decide) rfl
                  have hKc := hK.sub (tys' := [(cJ, .long)]) [0] rfl
                  have hFc := va_free (wc := [(ca, .inl (cJ, nC, .inr (.inl cf)))]) hD hS hA [0] rfl
                  refine va_calli (va_runS (As := [.ref ca, .int p0, .int 8]) (rest := []) ⟨hx, hb, hml, hown, hts⟩ (c_X11_letterOf l dC dI H.size cJ ca nC cf p0 8 hin) (va_cwS 3 hts gX11_lettersOf_X11_letterOf rfl rfl rfl (by decide +kernel) ⟨Nat.le_of_ble_eq_true rfl, Nat.le_of_ble_eq_true rfl⟩) ⟨fun a U g mk q => by obtain ⟨q0, q1, qP, qK, qD⟩ := q; exact ⟨q0, q1, qP, va_K.moved (u := U) (U := U.calling g mk a) (Vm.Alike.refl U.vm) qK, qD⟩, fun U hU hW => ⟨rfl, by rw [hU], by rw [hU]; exact hPc, va_K.moved hW.alike hKc, hDc.weaken (fun _ _ _ _ => trivial)⟩⟩ rfl rfl hl.1 rfl (lv_room (Nat.le_of_ble_eq_true rfl)) dX11_lettersOf_11 ⟨Nat.le_of_ble_eq_true rfl, Nat.le_of_ble_eq_true rfl⟩) hS (fun q _ h => hFc q h) hFc (fun r_26 u t H1 locs ht hvm hw hB hz1 hk1 hS => ?_)
                  obtain ⟨hP1, hK1, hD1⟩ := hB
                  rw [ht] at hP1
                  obtain ⟨hP, hD⟩ := va_join (wr := []) (w1 := [(ca, .inl (cJ, nC, .inr (.inl cf)))]) hP hD [0] [] rfl rfl (by decide) (by decide) hk1 hFc hP1 hD1
                  generalize H1 = H at hP hS ⊢
                  have hP := hP.sub (ws' := [(ca, .inl (cJ, nC, .inr (.inl cf)))]) [0] rfl
                  have hD := hD.sub (ws' := [(ca, .inl (cJ, nC, .inr (.inl cf)))]) [0] (by decide) rfl
                  have hw : r_26 = qh_letter cf p0 8 := hw
                  subst hw
                  refine lv_if_eq (tgt := 23) hx hb dX11_lettersOf_14 (by decide) (fun c_27 => ?_) (fun c_27 => ?_)
                  · skip
                    refine lv_iload_n hx hb dX11_lettersOf_23 rfl (lv_at hl 0 rfl) ?_
                    have hP9 := hP.sub (ws' := [(ca, .inl (cJ, nC, .inr (.inl cf)))]) [0] rfl
                    have hD9 := hD.sub (ws' := [(ca, .inl (cJ, nC, .inr (.inl cf)))]) [0] (by decide) rfl
                    have hK9 := hK.sub (tys' := [(cJ, .long)]) [0] rfl
                    exact W.iret (v := 8) hx hb hr (fun t ht hW => ⟨⟨8, (), rfl, (by unfold qh_letters; try (first | rw [if_pos c_3] | rw [if_neg c_3]); try (first | rw [if_pos c_6] | rw [if_neg c_6]); try (first | rw [if_pos c_9] | rw [if_neg c_9]); try (first | rw [if_pos c_12] | rw [if_neg c_12]); try (first | rw [if_pos c_15] | rw [if_neg c_15]); try (first | rw [if_pos c_18] | rw [if_neg c_18]); try (first | rw [if_pos c_21] | rw [if_neg c_21]); try (first | rw [if_pos c_24] | rw [if_neg c_24]); try (first | rw [if_pos c_27] | rw [if_neg c_27]); try rfl), by rw [ht]; exact hP9, va_K.moved hW.alike hK9, hD9⟩, hS.F ht⟩) hS.2.2 dX11_lettersOf_24
                  · skip
                    refine lv_iinc (v := 9) (lv' := [(2, .int 9), (0, .ref ca), (1, .int p0)]) hx hb dX11_lettersOf_17 hl (k := 0) rfl (by decide) (by decide) rfl (fun ls hl => ?_)
                    refine lv_goto (tgt := 2) hx hb dX11_lettersOf_20 (by decide) ?_
                    refine lv_iload_n hx hb dX11_lettersOf_2 rfl (lv_at hl 0 rfl) ?_
                    refine lv_bipush (v := 12) hx hb dX11_lettersOf_3 (by decide) ?_
                    refine lv_icmp_ge (tgt := 23) hx hb dX11_lettersOf_5 (by decide) (fun c_28 => absurd c_28 (by decide)) (fun _ => ?_)
                    refine lv_aload_n hx hb dX11_lettersOf_8 rfl (lv_at hl 1 rfl) ?_
                    refine lv_iload_n hx hb dX11_lettersOf_9 rfl (lv_at hl 2 rfl) ?_
                    refine lv_iload_n hx hb dX11_lettersOf_10 rfl (lv_at hl 0 rfl) ?_
                    have hPc := hP.sub (ws' := [(ca, .inl (cJ, nC, .inr (.inl cf)))]) [0] rfl
                    have hDc := hD.sub (ws' := [(ca, .inl (cJ, nC, .inr (.inl cf)))]) [0] (by decide) rfl
                    have hKc := hK.sub (tys' := [(cJ, .long)]) [0] rfl
                    have hFc := va_free (wc := [(ca, .inl (cJ, nC, .inr (.inl cf)))]) hD hS hA [0] rfl
                    refine va_calli (va_runS (As := [.ref ca, .int p0, .int 9]) (rest := []) ⟨hx, hb, hml, hown, hts⟩ (c_X11_letterOf l dC dI H.size cJ ca nC cf p0 9 hin) (va_cwS 3 hts gX11_lettersOf_X11_letterOf rfl rfl rfl (by decide +kernel) ⟨Nat.le_of_ble_eq_true rfl, Nat.le_of_ble_eq_true rfl⟩) ⟨fun a U g mk q => by obtain ⟨q0, q1, qP, qK, qD⟩ := q; exact ⟨q0, q1, qP, va_K.moved (u := U) (U := U.calling g mk a) (Vm.Alike.refl U.vm) qK, qD⟩, fun U hU hW => ⟨rfl, by rw [hU], by rw [hU]; exact hPc, va_K.moved hW.alike hKc, hDc.weaken (fun _ _ _ _ => trivial)⟩⟩ rfl rfl hl.1 rfl (lv_room (Nat.le_of_ble_eq_true rfl)) dX11_lettersOf_11 ⟨Nat.le_of_ble_eq_true rfl, Nat.le_of_ble_eq_true rfl⟩) hS (fun q _ h => hFc q h) hFc (fun r_29 u t H1 locs ht hvm hw hB hz1 hk1 hS => ?_)
                    obtain ⟨hP1, hK1, hD1⟩ := hB
                    rw [ht] at hP1
                    obtain ⟨hP, hD⟩ := va_join (wr := []) (w1 := [(ca, .inl (cJ, nC, .inr (.inl cf)))]) hP hD [0] [] rfl rfl (by decide) (by decide) hk1 hFc hP1 hD1
                    generalize H1 = H at hP hS ⊢
                    have hP := hP.sub (ws' := [(ca, .inl (cJ, nC, .inr (.inl cf)))]) [0] rfl
                    have hD := hD.sub (ws' := [(ca, .inl (cJ, nC, .inr (.inl cf)))]) [0] (by decide) rfl
                    have hw : r_29 = qh_letter cf p0 9 := hw
                    subst hw
                    refine lv_if_eq (tgt := 23) hx hb dX11_lettersOf_14 (by decide) (fun c_30 => ?_) (fun c_30 => ?_)
                    · skip
                      refine lv_iload_n hx hb dX11_lettersOf_23 rfl (lv_at hl 0 rfl) ?_
                      have hP9 := hP.sub (ws' := [(ca, .inl (cJ, nC, .inr (.inl cf)))]) [0] rfl
                      have hD9 := hD.sub (ws' := [(ca, .inl (cJ, nC, .inr (.inl cf)))]) [0] (by decide) rfl
                      have hK9 := hK.sub (tys' := [(cJ, .long)]) [0] rfl
                      exact W.iret (v := 9) hx hb hr (fun t ht hW => ⟨⟨9, (), rfl, (by unfold qh_letters; try (first | rw [if_pos c_3] | rw [if_neg c_3]); try (first | rw [if_pos c_6] | rw [if_neg c_6]); try (first | rw [if_pos c_9] | rw [if_neg c_9]); try (first | rw [if_pos c_12] | rw [if_neg c_12]); try (first | rw [if_pos c_15] | rw [if_neg c_15]); try (first | rw [if_pos c_18] | rw [if_neg c_18]); try (first | rw [if_pos c_21] | rw [if_neg c_21]); try (first | rw [if_pos c_24] | rw [if_neg c_24]); try (first | rw [if_pos c_27] | rw [if_neg c_27]); try (first | rw [if_pos c_30] | rw [if_neg c_30]); try rfl), by rw [ht]; exact hP9, va_K.moved hW.alike hK9, hD9⟩, hS.F ht⟩) hS.2.2 dX11_lettersOf_24
                    · skip
                      refine lv_iinc (v := 10) (lv' := [(2, .int 10), (0, .ref ca), (1, .int p0)]) hx hb dX11_lettersOf_17 hl (k := 0) rfl (by decide) (by decide) rfl (fun ls hl => ?_)
                      refine lv_goto (tgt := 2) hx hb dX11_lettersOf_20 (by decide) ?_
                      refine lv_iload_n hx hb dX11_lettersOf_2 rfl (lv_at hl 0 rfl) ?_
                      refine lv_bipush (v := 12) hx hb dX11_lettersOf_3 (by decide) ?_
                      refine lv_icmp_ge (tgt := 23) hx hb dX11_lettersOf_5 (by decide) (fun c_31 => absurd c_31 (by decide)) (fun _ => ?_)
                      refine lv_aload_n hx hb dX11_lettersOf_8 rfl (lv_at hl 1 rfl) ?_
                      refine lv_iload_n hx hb dX11_lettersOf_9 rfl (lv_at hl 2 rfl) ?_
                      refine lv_iload_n hx hb dX11_lettersOf_10 rfl (lv_at hl 0 rfl) ?_
                      have hPc := hP.sub (ws' := [(ca, .inl (cJ, nC, .inr (.inl cf)))]) [0] rfl
                      have hDc := hD.sub (ws' := [(ca, .inl (cJ, nC, .inr (.inl cf)))]) [0] (by decide) rfl
                      have hKc := hK.sub (tys' := [(cJ, .long)]) [0] rfl
                      have hFc := va_free (wc := [(ca, .inl (cJ, nC, .inr (.inl cf)))]) hD hS hA [0] rfl
                      refine va_calli (va_runS (As := [.ref ca, .int p0, .int 10]) (rest := []) ⟨hx, hb, hml, hown, hts⟩ (c_X11_letterOf l dC dI H.size cJ ca nC cf p0 10 hin) (va_cwS 3 hts gX11_lettersOf_X11_letterOf rfl rfl rfl (by decide +kernel) ⟨Nat.le_of_ble_eq_true rfl, Nat.le_of_ble_eq_true rfl⟩) ⟨fun a U g mk q => by obtain ⟨q0, q1, qP, qK, qD⟩ := q; exact ⟨q0, q1, qP, va_K.moved (u := U) (U := U.calling g mk a) (Vm.Alike.refl U.vm) qK, qD⟩, fun U hU hW => ⟨rfl, by rw [hU], by rw [hU]; exact hPc, va_K.moved hW.alike hKc, hDc.weaken (fun _ _ _ _ => trivial)⟩⟩ rfl rfl hl.1 rfl (lv_room (Nat.le_of_ble_eq_true rfl)) dX11_lettersOf_11 ⟨Nat.le_of_ble_eq_true rfl, Nat.le_of_ble_eq_true rfl⟩) hS (fun q _ h => hFc q h) hFc (fun r_32 u t H1 locs ht hvm hw hB hz1 hk1 hS => ?_)
                      obtain ⟨hP1, hK1, hD1⟩ := hB
                      rw [ht] at hP1
                      obtain ⟨hP, hD⟩ := va_join (wr := []) (w1 := [(ca, .inl (cJ, nC, .inr (.inl cf)))]) hP hD [0] [] rfl rfl (by decide) (by decide) hk1 hFc hP1 hD1
                      generalize H1 = H at hP hS ⊢
                      have hP := hP.sub (ws' := [(ca, .inl (cJ, nC, .inr (.inl cf)))]) [0] rfl
                      have hD := hD.sub (ws' := [(ca, .inl (cJ, nC, .inr (.inl cf)))]) [0] (by decide) rfl
                      have hw : r_32 = qh_letter cf p0 10 := hw
                      subst hw
                      refine lv_if_eq (tgt := 23) hx hb dX11_lettersOf_14 (by decide) (fun c_33 => ?_) (fun c_33 => ?_)
                      · skip
                        refine lv_iload_n hx hb dX11_lettersOf_23 rfl (lv_at hl 0 rfl) ?_
                        have hP9 := hP.sub (ws' := [(ca, .inl (cJ, nC, .inr (.inl cf)))]) [0] rfl
                        have hD9 := hD.sub (ws' := [(ca, .inl (cJ, nC, .inr (.inl cf)))]) [0] (by decide) rfl
                        have hK9 := hK.sub (tys' := [(cJ, .long)]) [0] rfl
                        exact W.iret (v := 10) hx hb hr (fun t ht hW => ⟨⟨10, (), rfl, (by unfold qh_letters; try (first | rw [if_pos c_3] | rw [if_neg c_3]); try (first | rw [if_pos c_6] | rw [if_neg c_6]); try (first | rw [if_pos c_9] | rw [if_neg c_9]); try (first | rw [if_pos c_12] | rw [if_neg c_12]); try (first | rw [if_pos c_15] | rw [if_neg c_15]); try (first | rw [if_pos c_18] | rw [if_neg c_18]); try (first | rw [if_pos c_21] | rw [if_neg c_21]); try (first | rw [if_pos c_24] | rw [if_neg c_24]); try (first | rw [if_pos c_27] | rw [if_neg c_27]); try (first | rw [if_pos c_30] | rw [if_neg c_30]); try (first | rw [if_pos c_33] | rw [if_neg c_33]); try rfl), by rw [ht]; exact hP9, va_K.moved hW.alike hK9, hD9⟩, hS.F ht⟩) hS.2.2 dX11_lettersOf_24
                      · skip
                        refine lv_iinc (v := 11) (lv' := [(2, .int 11), (0, .ref ca), (1, .int p0)]) hx hb dX11_lettersOf_17 hl (k := 0) rfl (by decide) (by decide) rfl (fun ls hl => ?_)
                        refine lv_goto (tgt := 2) hx hb dX11_lettersOf_20 (by decide) ?_
                        refine lv_iload_n hx hb dX11_lettersOf_2 rfl (lv_at hl 0 rfl) ?_
                        refine lv_bipush (v := 12) hx hb dX11_lettersOf_3 (by decide) ?_
                        refine lv_icmp_ge (tgt := 23) hx hb dX11_lettersOf_5 (by decide) (fun c_34 => absurd c_34 (by decide)) (fun _ => ?_)
                        refine lv_aload_n hx hb dX11_lettersOf_8 rfl (lv_at hl 1 rfl) ?_
                        refine lv_iload_n hx hb dX11_lettersOf_9 rfl (lv_at hl 2 rfl) ?_
                        refine lv_iload_n hx hb dX11_lettersOf_10 rfl (lv_at hl 0 rfl) ?_
                        have hPc := hP.sub (ws' := [(ca, .inl (cJ, nC, .inr (.inl cf)))]) [0] rfl
                        have hDc := hD.sub (ws' := [(ca, .inl (cJ, nC, .inr (.inl cf)))]) [0] (by decide) rfl
                        have hKc := hK.sub (tys' := [(cJ, .long)]) [0] rfl
                        have hFc := va_free (wc := [(ca, .inl (cJ, nC, .inr (.inl cf)))]) hD hS hA [0] rfl
                        refine va_calli (va_runS (As := [.ref ca, .int p0, .int 11]) (rest := []) ⟨hx, hb, hml, hown, hts⟩ (c_X11_letterOf l dC dI H.size cJ ca nC cf p0 11 hin) (va_cwS 3 hts gX11_lettersOf_X11_letterOf rfl rfl rfl (by decide +kernel) ⟨Nat.le_of_ble_eq_true rfl, Nat.le_of_ble_eq_true rfl⟩) ⟨fun a U g mk q => by obtain ⟨q0, q1, qP, qK, qD⟩ := q; exact ⟨q0, q1, qP, va_K.moved (u := U) (U := U.calling g mk a) (Vm.Alike.refl U.vm) qK, qD⟩, fun U hU hW => ⟨rfl, by rw [hU], by rw [hU]; exact hPc, va_K.moved hW.alike hKc, hDc.weaken (fun _ _ _ _ => trivial)⟩⟩ rfl rfl hl.1 rfl (lv_room (Nat.le_of_ble_eq_true rfl)) dX11_lettersOf_11 ⟨Nat.le_of_ble_eq_true rfl, Nat.le_of_ble_eq_true rfl⟩) hS (fun q _ h => hFc q h) hFc (fun r_35 u t H1 locs ht hvm hw hB hz1 hk1 hS => ?_)
                        obtain ⟨hP1, hK1, hD1⟩ := hB
                        rw [ht] at hP1
                        obtain ⟨hP, hD⟩ := va_join (wr := []) (w1 := [(ca, .inl (cJ, nC, .inr (.inl cf)))]) hP hD [0] [] rfl rfl (by decide) (by decide) hk1 hFc hP1 hD1
                        generalize H1 = H at hP hS ⊢
                        have hP := hP.sub (ws' := [(ca, .inl (cJ, nC, .inr (.inl cf)))]) [0] rfl
                        have hD := hD.sub (ws' := [(ca, .inl (cJ, nC, .inr (.inl cf)))]) [0] (by decide) rfl
                        have hw : r_35 = qh_letter cf p0 11 := hw
                        subst hw
                        refine lv_if_eq (tgt := 23) hx hb dX11_lettersOf_14 (by decide) (fun c_36 => ?_) (fun c_36 => ?_)
                        · skip
                          refine lv_iload_n hx hb dX11_lettersOf_23 rfl (lv_at hl 0 rfl) ?_
                          have hP9 := hP.sub (ws' := [(ca, .inl (cJ, nC, .inr (.inl cf)))]) [0] rfl
                          have hD9 := hD.sub (ws' := [(ca, .inl (cJ, nC, .inr (.inl cf)))]) [0] (by decide) rfl
                          have hK9 := hK.sub (tys' := [(cJ, .long)]) [0] rfl
                          exact W.iret (v := 11) hx hb hr (fun t ht hW => ⟨⟨11, (), rfl, (by unfold qh_letters; try (first | rw [if_pos c_3] | rw [if_neg c_3]); try (first | rw [if_pos c_6] | rw [if_neg c_6]); try (first | rw [if_pos c_9] | rw [if_neg c_9]); try (first | rw [if_pos c_12] | rw [if_neg c_12]); try (first | rw [if_pos c_15] | rw [if_neg c_15]); try (first | rw [if_pos c_18] | rw [if_neg c_18]); try (first | rw [if_pos c_21] | rw [if_neg c_21]); try (first | rw [if_pos c_24] | rw [if_neg c_24]); try (first | rw [if_pos c_27] | rw [if_neg c_27]); try (first | rw [if_pos c_30] | rw [if_neg c_30]); try (first | rw [if_pos c_33] | rw [if_neg c_33]); try (first | rw [if_pos c_36] | rw [if_neg c_36]); try rfl), by rw [ht]; exact hP9, va_K.moved hW.alike hK9, hD9⟩, hS.F ht⟩) hS.2.2 dX11_lettersOf_24
                        · skip
                          refine lv_iinc (v := 12) (lv' := [(2, .int 12), (0, .ref ca), (1, .int p0)]) hx hb dX11_lettersOf_17 hl (k := 0) rfl (by decide) (by decide) rfl (fun ls hl => ?_)
                          refine lv_goto (tgt := 2) hx hb dX11_lettersOf_20 (by decide) ?_
                          refine lv_iload_n hx hb dX11_lettersOf_2 rfl (lv_at hl 0 rfl) ?_
                          refine lv_bipush (v := 12) hx hb dX11_lettersOf_3 (by decide) ?_
                          refine lv_icmp_ge (tgt := 23) hx hb dX11_lettersOf_5 (by decide) (fun _ => ?_) (fun c_37 => absurd (by decide) c_37)
                          refine lv_iload_n hx hb dX11_lettersOf_23 rfl (lv_at hl 0 rfl) ?_
                          have hP9 := hP.sub (ws' := [(ca, .inl (cJ, nC, .inr (.inl cf)))]) [0] rfl
                          have hD9 := hD.sub (ws' := [(ca, .inl (cJ, nC, .inr (.inl cf)))]) [0] (by decide) rfl
                          have hK9 := hK.sub (tys' := [(cJ, .long)]) [0] rfl
                          exact W.iret (v := 12) hx hb hr (fun t ht hW => ⟨⟨12, (), rfl, (by unfold qh_letters; try (first | rw [if_pos c_3] | rw [if_neg c_3]); try (first | rw [if_pos c_6] | rw [if_neg c_6]); try (first | rw [if_pos c_9] | rw [if_neg c_9]); try (first | rw [if_pos c_12] | rw [if_neg c_12]); try (first | rw [if_pos c_15] | rw [if_neg c_15]); try (first | rw [if_pos c_18] | rw [if_neg c_18]); try (first | rw [if_pos c_21] | rw [if_neg c_21]); try (first | rw [if_pos c_24] | rw [if_neg c_24]); try (first | rw [if_pos c_27] | rw [if_neg c_27]); try (first | rw [if_pos c_30] | rw [if_neg c_30]); try (first | rw [if_pos c_33] | rw [if_neg c_33]); try (first | rw [if_pos c_36] | rw [if_neg c_36]); try rfl), by rw [ht]; exact hP9, va_K.moved hW.alike hK9, hD9⟩, hS.F ht⟩) hS.2.2 dX11_lettersOf_24
set_option maxHeartbeats 4000000 in
set_option maxRecDepth 100000 in
/-- kind(session, row, column) -/
theorem c_X12_kind (l : Launch) (hl9 : l.stackTraces = false) (dC : Nat → ClassId) (dI : Nat → Nat → Nat) (sz : Nat) (h0 ss tb pa ck ev pn lk jo orw nrw : Nat) (g10 g11 g12 g13 g14 g15 : Int32) (a0 tx cd ca pl : Nat) (f4 f5 f6 f7 f8 f9 f10 f11 f12 f13 f14 f15 : Int32) (p0 p1 p2 : Int32) (cSs : ClassId) (sf : Nat → Option Nat) (hf : ¬ p0 < 0 → p0 < 4 → sf p0.toNatClampNeg = some a0) (cJ : ClassId) (cf : Nat → Int64) (hin : ((¬ p0 < 0 ∧ p0 < 4) ∧ (¬ p1 < 0 ∧ ¬ f8 ≤ p1) ∧ (¬ p2 < 0 ∧ p2 < f9)) → vp_in ((p1 * f9 + p2) * 3) 10800 ∧ vp_in ((p1 * f9 + p2) * 3 + 1) 10800 ∧ vp_in ((p1 * f9 + p2) * 3 + 2) 10800) (sS sC : Nat) : vx_Met l yX12_kind wsX12_kind ({ frames := 8, cells := 2, slots := 12, locals := 160 }) (va_Pc [.ref h0, .int p0, .int p1, .int p2] (fun U => U.heap.size = sz ∧ va_P (dC, dI) vwCl [(h0, .inr (17, [.ref ss, .ref tb, .ref pa, .ref ck, .ref ev, .ref pn, .ref lk, .ref jo, .ref orw, .ref nrw, .int g10, .int g11, .int g12, .int g13, .int g14, .int g15])), (ss, .inl (cSs, 4, .inr (.inr (.inr (.inr sf))))), (a0, .inr (15, [.ref tx, .ref cd, .ref ca, .ref pl, .int f4, .int f5, .int f6, .int f7, .int f8, .int f9, .int f10, .int f11, .int f12, .int f13, .int f14, .int f15])), (ca, .inl (cJ, 10800, .inr (.inl cf)))] U.heap ∧ va_K (dC, dI) vwCl [(cSs, .object RX10), (cJ, .long)] U ∧ va_D (fun _ => True) [(h0, .inr (17, [.ref ss, .ref tb, .ref pa, .ref ck, .ref ev, .ref pn, .ref lk, .ref jo, .ref orw, .ref nrw, .int g10, .int g11, .int g12, .int g13, .int g14, .int g15])), (ss, .inl (cSs, 4, .inr (.inr (.inr (.inr sf))))), (a0, .inr (15, [.ref tx, .ref cd, .ref ca, .ref pl, .int f4, .int f5, .int f6, .int f7, .int f8, .int f9, .int f10, .int f11, .int f12, .int f13, .int f14, .int f15])), (ca, .inl (cJ, 10800, .inr (.inl cf)))] ∧ vk_R RX12 316 "no such session" sS U ∧ vk_R RX12 324 "no such row or column" sC U ∧ qh_E "java/lang/IndexOutOfBoundsException" "(Ljava/lang/String;)V" U ∧ qh_T (va_A [(h0, .inr (17, [.ref ss, .ref tb, .ref pa, .ref ck, .ref ev, .ref pn, .ref lk, .ref jo, .ref orw, .ref nrw, .int g10, .int g11, .int g12, .int g13, .int g14, .int g15])), (ss, .inl (cSs, 4, .inr (.inr (.inr (.inr sf))))), (a0, .inr (15, [.ref tx, .ref cd, .ref ca, .ref pl, .int f4, .int f5, .int f6, .int f7, .int f8, .int f9, .int f10, .int f11, .int f12, .int f13, .int f14, .int f15])), (ca, .inl (cJ, 10800, .inr (.inl cf)))] sz) U U.heap)) (va_Qi (fun (r : Int32) (_ : Unit) => ((¬ p0 < 0 ∧ p0 < 4) ∧ (¬ p1 < 0 ∧ ¬ f8 ≤ p1) ∧ (¬ p2 < 0 ∧ p2 < f9)) ∧ r = (cf ((p1 * f9 + p2) * 3).toNatClampNeg).toInt32) (fun (_ : Unit) (t : State) => va_P (dC, dI) vwCl [(h0, .inr (17, [.ref ss, .ref tb, .ref pa, .ref ck, .ref ev, .ref pn, .ref lk, .ref jo, .ref orw, .ref nrw, .int g10, .int g11, .int g12, .int g13, .int g14, .int g15])), (ss, .inl (cSs, 4, .inr (.inr (.inr (.inr sf))))), (a0, .inr (15, [.ref tx, .ref cd, .ref ca, .ref pl, .int f4, .int f5, .int f6, .int f7, .int f8, .int f9, .int f10, .int f11, .int f12, .int f13, .int f14, .int f15])), (ca, .inl (cJ, 10800, .inr (.inl cf)))] t.heap ∧ va_K (dC, dI) vwCl [(cSs, .object RX10), (cJ, .long)] t ∧ va_D (va_A [(h0, .inr (17, [.ref ss, .ref tb, .ref pa, .ref ck, .ref ev, .ref pn, .ref lk, .ref jo, .ref orw, .ref nrw, .int g10, .int g11, .int g12, .int g13, .int g14, .int g15])), (ss, .inl (cSs, 4, .inr (.inr (.inr (.inr sf))))), (a0, .inr (15, [.ref tx, .ref cd, .ref ca, .ref pl, .int f4, .int f5, .int f6, .int f7, .int f8, .int f9, .int f10, .int f11, .int f12, .int f13, .int f14, .int f15])), (ca, .inl (cJ, 10800, .inr (.inl cf)))] sz) [(h0, .inr (17, [.ref ss, .ref tb, .ref pa, .ref ck, .ref ev, .ref pn, .ref lk, .ref jo, .ref orw, .ref nrw, .int g10, .int g11, .int g12, .int g13, .int g14, .int g15])), (ss, .inl (cSs, 4, .inr (.inr (.inr (.inr sf))))), (a0, .inr (15, [.ref tx, .ref cd, .ref ca, .ref pl, .int f4, .int f5, .int f6, .int f7, .int f8, .int f9, .int f10, .int f11, .int f12, .int f13, .int f14, .int f15])), (ca, .inl (cJ, 10800, .inr (.inl cf)))]) (va_A [(h0, .inr (17, [.ref ss, .ref tb, .ref pa, .ref ck, .ref ev, .ref pn, .ref lk, .ref jo, .ref orw, .ref nrw, .int g10, .int g11, .int g12, .int g13, .int g14, .int g15])), (ss, .inl (cSs, 4, .inr (.inr (.inr (.inr sf))))), (a0, .inr (15, [.ref tx, .ref cd, .ref ca, .ref pl, .int f4, .int f5, .int f6, .int f7, .int f8, .int f9, .int f10, .int f11, .int f12, .int f13, .int f14, .int f15])), (ca, .inl (cJ, 10800, .inr (.inl cf)))] sz)) (vx_X (fun (_ : Unit) => ¬ ((¬ p0 < 0 ∧ p0 < 4) ∧ (¬ p1 < 0 ∧ ¬ f8 ≤ p1) ∧ (¬ p2 < 0 ∧ p2 < f9))) (fun E (_ : Unit) t => E = "java/lang/IndexOutOfBoundsException" ∧ va_P (dC, dI) vwCl [(h0, .inr (17, [.ref ss, .ref tb, .ref pa, .ref ck, .ref ev, .ref pn, .ref lk, .ref jo, .ref orw, .ref nrw, .int g10, .int g11, .int g12, .int g13, .int g14, .int g15])), (ss, .inl (cSs, 4, .inr (.inr (.inr (.inr sf))))), (a0, .inr (15, [.ref tx, .ref cd, .ref ca, .ref pl, .int f4, .int f5, .int f6, .int f7, .int f8, .int f9, .int f10, .int f11, .int f12, .int f13, .int f14, .int f15])), (ca, .inl (cJ, 10800, .inr (.inl cf)))] t.heap ∧ va_K (dC, dI) vwCl [(cSs, .object RX10), (cJ, .long)] t ∧ va_D (va_A [(h0, .inr (17, [.ref ss, .ref tb, .ref pa, .ref ck, .ref ev, .ref pn, .ref lk, .ref jo, .ref orw, .ref nrw, .int g10, .int g11, .int g12, .int g13, .int g14, .int g15])), (ss, .inl (cSs, 4, .inr (.inr (.inr (.inr sf))))), (a0, .inr (15, [.ref tx, .ref cd, .ref ca, .ref pl, .int f4, .int f5, .int f6, .int f7, .int f8, .int f9, .int f10, .int f11, .int f12, .int f13, .int f14, .int f15])), (ca, .inl (cJ, 10800, .inr (.inl cf)))] sz) [(h0, .inr (17, [.ref ss, .ref tb, .ref pa, .ref ck, .ref ev, .ref pn, .ref lk, .ref jo, .ref orw, .ref nrw, .int g10, .int g11, .int g12, .int g13, .int g14, .int g15])), (ss, .inl (cSs, 4, .inr (.inr (.inr (.inr sf))))), (a0, .inr (15, [.ref tx, .ref cd, .ref ca, .ref pl, .int f4, .int f5, .int f6, .int f7, .int f8, .int f9, .int f10, .int f11, .int f12, .int f13, .int f14, .int f15])), (ca, .inl (cJ, 10800, .inr (.inl cf)))]) (va_A [(h0, .inr (17, [.ref ss, .ref tb, .ref pa, .ref ck, .ref ev, .ref pn, .ref lk, .ref jo, .ref orw, .ref nrw, .int g10, .int g11, .int g12, .int g13, .int g14, .int g15])), (ss, .inl (cSs, 4, .inr (.inr (.inr (.inr sf))))), (a0, .inr (15, [.ref tx, .ref cd, .ref ca, .ref pl, .int f4, .int f5, .int f6, .int f7, .int f8, .int f9, .int f10, .int f11, .int f12, .int f13, .int f14, .int f15])), (ca, .inl (cJ, 10800, .inr (.inl cf)))] sz)) 2 12 (va_A [(h0, .inr (17, [.ref ss, .ref tb, .ref pa, .ref ck, .ref ev, .ref pn, .ref lk, .ref jo, .ref orw, .ref nrw, .int g10, .int g11, .int g12, .int g13, .int g14, .int g15])), (ss, .inl (cSs, 4, .inr (.inr (.inr (.inr sf))))), (a0, .inr (15, [.ref tx, .ref cd, .ref ca, .ref pl, .int f4, .int f5, .int f6, .int f7, .int f8, .int f9, .int f10, .int f11, .int f12, .int f13, .int f14, .int f15])), (ca, .inl (cJ, 10800, .inr (.inl cf)))] sz) := by
  refine vx_ofW (cc := cX12_kind) (maxL := 5) (ret := (some .int)) (by decide) rfl ?_
  intro p e s m args below meth c s₁ B hml hEx hv
  obtain ⟨rfl, hsz, hP, hK, hD0, hE0, hE1, hE2, hE3⟩ := hv
  have hx := B.exec
  have hb := B.bytes
  have hr := B.returns
  have hts := atoms_spec (ws := wsX12_kind) B.pre
  have hown : s.vm.findClass RX12 = some m.cls := findClass_of_methodNamed B.named
  have hlocks := B.notSynchronized
  subst hsz
  have hD := hD0.self (sz := s.heap.size)
  generalize hAe : va_A [(h0, .inr (17, [.ref ss, .ref tb, .ref pa, .ref ck, .ref ev, .ref pn, .ref lk, .ref jo, .ref orw, .ref nrw, .int g10, .int g11, .int g12, .int g13, .int g14, .int g15])), (ss, .inl (cSs, 4, .inr (.inr (.inr (.inr sf))))), (a0, .inr (15, [.ref tx, .ref cd, .ref ca, .ref pl, .int f4, .int f5, .int f6, .int f7, .int f8, .int f9, .int f10, .int f11, .int f12, .int f13, .int f14, .int f15])), (ca, .inl (cJ, 10800, .inr (.inl cf)))] s.heap.size = A at hD hE3 ⊢
  have hA : ∀ q : Nat, s.heap.size ≤ q → A q := fun q h => by rw [← hAe]; exact Or.inr h
  have hS : va_S A s.heap s.heap [] := va_S.rf
  have hP : va_P (dC, dI) vwCl [(h0, .inr (17, [.ref ss, .ref tb, .ref pa, .ref ck, .ref ev, .ref pn, .ref lk, .ref jo, .ref orw, .ref nrw, .int g10, .int g11, .int g12, .int g13, .int g14, .int g15])), (ss, .inl (cSs, 4, .inr (.inr (.inr (.inr sf))))), (a0, .inr (15, [.ref tx, .ref cd, .ref ca, .ref pl, .int f4, .int f5, .int f6, .int f7, .int f8, .int f9, .int f10, .int f11, .int f12, .int f13, .int f14, .int f15])), (ca, .inl (cJ, 10800, .inr (.inl cf)))] s.heap := hP
  have hl := lv_entry ([.ref h0, .int p0, .int p1, .int p2]) (n := 5) (Nat.le_of_ble_eq_true rfl)
  rw [lg_entry_eq]
  generalize (lg_sl ([.ref h0, .int p0, .int p1, .int p2]) ++ List.replicate (5 - (lg_sl ([.ref h0, .int p0, .int p1, .int p2])).length) Slot.unset).toArray = ls at hl ⊢
  have hl : lv_has ls 5 [(0, .ref h0), (1, .int p0), (2, .int p1), (3, .int p2)] := hl
  refine lv_aload_n hx hb dX12_kind_0 rfl (lv_at hl 0 rfl) ?_
  refine lv_iload_n hx hb dX12_kind_1 rfl (lv_at hl 1 rfl) ?_
  refine lv_iload_n hx hb dX12_kind_2 rfl (lv_at hl 2 rfl) ?_
  refine lv_iload_n hx hb dX12_kind_3 rfl (lv_at hl 3 rfl) ?_
  have hPc := hP.sub (ws' := [(h0, .inr (17, [.ref ss, .ref tb, .ref pa, .ref ck, .ref ev, .ref pn, .ref lk, .ref jo, .ref orw, .ref nrw, .int g10, .int g11, .int g12, .int g13, .int g14, .int g15])), (ss, .inl (cSs, 4, .inr (.inr (.inr (.inr sf))))), (a0, .inr (15, [.ref tx, .ref cd, .ref ca, .ref pl, .int f4, .int f5, .int f6, .int f7, .int f8, .int f9, .int f10, .int f11, .int f12, .int f13, .int f14, .int f15]))]) [0, 1, 2] rfl
  have hDc := hD.sub (ws' := [(h0, .inr (17, [.ref ss, .ref tb, .ref pa, .ref ck, .ref ev, .ref pn, .ref lk, .ref jo, .ref orw, .ref nrw, .int g10, .int g11, .int g12, .int g13, .int g14, .int g15])), (ss, .inl (cSs, 4, .inr (.inr (.inr (.inr sf))))), (a0, .inr (15, [.ref tx, .ref cd, .ref ca, .ref pl, .int f4, .int f5, .int f6, .int f7, .int f8, .int f9, .int f10, .int f11, .int f12, .int f13, .int f14, .int f15]))]) [0, 1, 2] (by decide) rfl
  have hKc := hK.sub (tys' := [(cSs, .object RX10)]) [0] rfl
  have hFc := va_free (wc := [(h0, .inr (17, [.ref ss, .ref tb, .ref pa, .ref ck, .ref ev, .ref pn, .ref lk, .ref jo, .ref orw, .ref nrw, .int g10, .int g11, .int g12, .int g13, .int g14, .int g15])), (ss, .inl (cSs, 4, .inr (.inr (.inr (.inr sf))))), (a0, .inr (15, [.ref tx, .ref cd, .ref ca, .ref pl, .int f4, .int f5, .int f6, .int f7, .int f8, .int f9, .int f10, .int f11, .int f12, .int f13, .int f14, .int f15]))]) hD hS hA [0, 1, 2] rfl
  refine vx_calli (vx_runV (As := [.int p0, .int p1, .int p2]) (rest := []) ⟨hx, hb, hml, hown, hts⟩ (c_X12_cellOf l hl9 dC dI s.heap.size h0 ss tb pa ck ev pn lk jo orw nrw g10 g11 g12 g13 g14 g15 a0 tx cd ca pl f4 f5 f6 f7 f8 f9 f10 f11 f12 f13 f14 f15 p0 p1 p2 cSs sf hf sS sC) (cwV 3 hts gX12_kind_X12_cellOf rfl rfl rfl (by decide +kernel) ⟨Nat.le_of_ble_eq_true rfl, Nat.le_of_ble_eq_true rfl⟩) ⟨fun a U g mk q => by obtain ⟨q0, q1, qP, qK, qD, qE0, qE1, qE2, qE3⟩ := q; exact ⟨q0, q1, qP, va_K.moved (u := U) (U := U.calling g mk a) (Vm.Alike.refl U.vm) qK, qD, vk_R.same rfl qE0, vk_R.same rfl qE1, qh_E.same rfl qE2, qh_T.moved (u := U) (U := U.calling g mk a) (Vm.Alike.refl U.vm) qE3⟩, va_recv hKc hPc (ci := 17) (q0 := 0) rfl rfl, fun U hU hW => ⟨rfl, by rw [hU], by rw [hU]; exact hPc, va_K.moved hW.alike hKc, hDc.weaken (fun _ _ _ _ => trivial), vk_R.warm hW hE0, vk_R.warm hW hE1, qh_E.warm hW hE2, by rw [hU]; exact qh_T.moved hW.alike (qh_T.narrow (qh_T.kept hE3 hS.2.1) (fun q h => hFc q h))⟩⟩ rfl rfl hl.1 rfl (lv_room (Nat.le_of_ble_eq_true rfl)) dX12_kind_4 ⟨Nat.le_of_ble_eq_true rfl, Nat.le_of_ble_eq_true rfl⟩) hS (fun q _ h => hFc q h) hFc (fun q _ h => hFc q h) (fun E ce q9 u t H1 locs ht hvm hw hB hz1 hk1 hS hce hcv hcl => ?_) (fun r_1 u t H1 locs ht hvm hw hB hz1 hk1 hS => ?_)
  · skip
    obtain ⟨rfl, hP1, hK1, hD1⟩ := hB
    rw [ht] at hP1
    obtain ⟨hP, hD⟩ := va_join (wr := [(ca, .inl (cJ, 10800, .inr (.inl cf)))]) (w1 := [(h0, .inr (17, [.ref ss, .ref tb, .ref pa, .ref ck, .ref ev, .ref pn, .ref lk, .ref jo, .ref orw, .ref nrw, .int g10, .int g11, .int g12, .int g13, .int g14, .int g15])), (ss, .inl (cSs, 4, .inr (.inr (.inr (.inr sf))))), (a0, .inr (15, [.ref tx, .ref cd, .ref ca, .ref pl, .int f4, .int f5, .int f6, .int f7, .int f8, .int f9, .int f10, .int f11, .int f12, .int f13, .int f14, .int f15]))]) hP hD [0, 1, 2] [3] rfl rfl (by decide) (by decide) hk1 hFc hP1 hD1
    generalize H1 = H at hP hS hce ⊢
    have hP := hP.sub (ws' := [(h0, .inr (17, [.ref ss, .ref tb, .ref pa, .ref ck, .ref ev, .ref pn, .ref lk, .ref jo, .ref orw, .ref nrw, .int g10, .int g11, .int g12, .int g13, .int g14, .int g15])), (ss, .inl (cSs, 4, .inr (.inr (.inr (.inr sf))))), (a0, .inr (15, [.ref tx, .ref cd, .ref ca, .ref pl, .int f4, .int f5, .int f6, .int f7, .int f8, .int f9, .int f10, .int f11, .int f12, .int f13, .int f14, .int f15])), (ca, .inl (cJ, 10800, .inr (.inl cf)))]) [1, 2, 3, 0] rfl
    have hD := hD.sub (ws' := [(h0, .inr (17, [.ref ss, .ref tb, .ref pa, .ref ck, .ref ev, .ref pn, .ref lk, .ref jo, .ref orw, .ref nrw, .int g10, .int g11, .int g12, .int g13, .int g14, .int g15])), (ss, .inl (cSs, 4, .inr (.inr (.inr (.inr sf))))), (a0, .inr (15, [.ref tx, .ref cd, .ref ca, .ref pl, .int f4, .int f5, .int f6, .int f7, .int f8, .int f9, .int f10, .int f11, .int f12, .int f13, .int f14, .int f15])), (ca, .inl (cJ, 10800, .inr (.inl cf)))]) [1, 2, 3, 0] (by decide) rfl
    have hP9 := hP.sub (ws' := [(h0, .inr (17, [.ref ss, .ref tb, .ref pa, .ref ck, .ref ev, .ref pn, .ref lk, .ref jo, .ref orw, .ref nrw, .int g10, .int g11, .int g12, .int g13, .int g14, .int g15])), (ss, .inl (cSs, 4, .inr (.inr (.inr (.inr sf))))), (a0, .inr (15, [.ref tx, .ref cd, .ref ca, .ref pl, .int f4, .int f5, .int f6, .int f7, .int f8, .int f9, .int f10, .int f11, .int f12, .int f13, .int f14, .int f15])), (ca, .inl (cJ, 10800, .inr (.inl cf)))]) [0, 1, 2, 3] rfl
    have hD9 := hD.sub (ws' := [(h0, .inr (17, [.ref ss, .ref tb, .ref pa, .ref ck, .ref ev, .ref pn, .ref lk, .ref jo, .ref orw, .ref nrw, .int g10, .int g11, .int g12, .int g13, .int g14, .int g15])), (ss, .inl (cSs, 4, .inr (.inr (.inr (.inr sf))))), (a0, .inr (15, [.ref tx, .ref cd, .ref ca, .ref pl, .int f4, .int f5, .int f6, .int f7, .int f8, .int f9, .int f10, .int f11, .int f12, .int f13, .int f14, .int f15])), (ca, .inl (cJ, 10800, .inr (.inl cf)))]) [0, 1, 2, 3] (by decide) rfl
    have hK9 := hK.sub (tys' := [(cSs, .object RX10), (cJ, .long)]) [0, 1] rfl
    exact vx_out (E := "java/lang/IndexOutOfBoundsException") (fun x hx => (hEx x hx).elim) hlocks hce hcv hcl (fun t ht ha => ⟨(), hw, ⟨rfl, by rw [ht]; exact hP9, va_K.moved ha hK9, hD9⟩, hS.F ht⟩) hS.2.2 (Nat.le_of_ble_eq_true rfl) (Nat.le_of_ble_eq_true rfl)
  obtain ⟨hP1, hK1, hD1⟩ := hB
  rw [ht] at hP1
  obtain ⟨hP, hD⟩ := va_join (wr := [(ca, .inl (cJ, 10800, .inr (.inl cf)))]) (w1 := [(h0, .inr (17, [.ref ss, .ref tb, .ref pa, .ref ck, .ref ev, .ref pn, .ref lk, .ref jo, .ref orw, .ref nrw, .int g10, .int g11, .int g12, .int g13, .int g14, .int g15])), (ss, .inl (cSs, 4, .inr (.inr (.inr (.inr sf))))), (a0, .inr (15, [.ref tx, .ref cd, .ref ca, .ref pl, .int f4, .int f5, .int f6, .int f7, .int f8, .int f9, .int f10, .int f11, .int f12, .int f13, .int f14, .int f15]))]) hP hD [0, 1, 2] [3] rfl rfl (by decide) (by decide) hk1 hFc hP1 hD1
  generalize H1 = H at hP hS ⊢
  have hP := hP.sub (ws' := [(h0, .inr (17, [.ref ss, .ref tb, .ref pa, .ref ck, .ref ev, .ref pn, .ref lk, .ref jo, .ref orw, .ref nrw, .int g10, .int g11, .int g12, .int g13, .int g14, .int g15])), (ss, .inl (cSs, 4, .inr (.inr (.inr (.inr sf))))), (a0, .inr (15, [.ref tx, .ref cd, .ref ca, .ref pl, .int f4, .int f5, .int f6, .int f7, .int f8, .int f9, .int f10, .int f11, .int f12, .int f13, .int f14, .int f15])), (ca, .inl (cJ, 10800, .inr (.inl cf)))]) [1, 2, 3, 0] rfl
  have hD := hD.sub (ws' := [(h0, .inr (17, [.ref ss, .ref tb, .ref pa, .ref ck, .ref ev, .ref pn, .ref lk, .ref jo, .ref orw, .ref nrw, .int g10, .int g11, .int g12, .int g13, .int g14, .int g15])), (ss, .inl (cSs, 4, .inr (.inr (.inr (.inr sf))))), (a0, .inr (15, [.ref tx, .ref cd, .ref ca, .ref pl, .int f4, .int f5, .int f6, .int f7, .int f8, .int f9, .int f10, .int f11, .int f12, .int f13, .int f14, .int f15])), (ca, .inl (cJ, 10800, .inr (.inl cf)))]) [1, 2, 3, 0] (by decide) rfl
  have hw_2 := hw
  refine lv_istore (lv' := [(4, .int r_1), (0, .ref h0), (1, .int p0), (2, .int p1), (3, .int p2)]) hx hb dX12_kind_7 hl (by decide) rfl (fun ls hl => ?_)
  refine lv_aload_n hx hb dX12_kind_9 rfl (lv_at hl 1 rfl) ?_
  refine va_get (D := (dC, dI)) (ci := 17) (v := .ref ss) (C := RX12) (T := TX12) (N := 16) hx hb hts (by decide +kernel) hown hK hP 0 rfl rfl 0 (by decide) (hts (.fieldLink RX12 11 "QueryHall" "sessions" "[LQueryHall$Session;") (by decide +kernel)) (fun _ h9 => h9) rfl dX12_kind_10 ?_
  refine lv_iload_n hx hb dX12_kind_13 rfl (lv_at hl 2 rfl) ?_
  refine va_aldq hx hb hK hP 1 0 rfl rfl (qh_in (y := 4) rfl hw_2.1.1.1 hw_2.1.1.2) dX12_kind_14 ?_
  refine W.eq (g2 := F0 m 15 ls [.ref a0]) (by rw [hf hw_2.1.1.1 hw_2.1.1.2]; rfl) ?_
  refine va_get (D := (dC, dI)) (ci := 15) (v := .ref ca) (C := RX10) (T := TX10) (N := 16) hx hb hts (by decide +kernel) hown hK hP 2 rfl rfl 2 (by decide) (hts (.fieldLink RX12 183 "QueryHall$Session" "cells" "[J") (by decide +kernel)) (fun _ h9 => h9) rfl dX12_kind_15 ?_
  refine lv_iload hx hb dX12_kind_18 (lv_at hl 0 rfl) ?_
  refine va_lald hx hb hK hP 3 1 rfl rfl (by rw [hw_2.2]; exact (hin hw_2.1).1) dX12_kind_20 ?_
  refine lv_l2i hx hb dX12_kind_21 rfl ?_
  have hP9 := hP.sub (ws' := [(h0, .inr (17, [.ref ss, .ref tb, .ref pa, .ref ck, .ref ev, .ref pn, .ref lk, .ref jo, .ref orw, .ref nrw, .int g10, .int g11, .int g12, .int g13, .int g14, .int g15])), (ss, .inl (cSs, 4, .inr (.inr (.inr (.inr sf))))), (a0, .inr (15, [.ref tx, .ref cd, .ref ca, .ref pl, .int f4, .int f5, .int f6, .int f7, .int f8, .int f9, .int f10, .int f11, .int f12, .int f13, .int f14, .int f15])), (ca, .inl (cJ, 10800, .inr (.inl cf)))]) [0, 1, 2, 3] rfl
  have hD9 := hD.sub (ws' := [(h0, .inr (17, [.ref ss, .ref tb, .ref pa, .ref ck, .ref ev, .ref pn, .ref lk, .ref jo, .ref orw, .ref nrw, .int g10, .int g11, .int g12, .int g13, .int g14, .int g15])), (ss, .inl (cSs, 4, .inr (.inr (.inr (.inr sf))))), (a0, .inr (15, [.ref tx, .ref cd, .ref ca, .ref pl, .int f4, .int f5, .int f6, .int f7, .int f8, .int f9, .int f10, .int f11, .int f12, .int f13, .int f14, .int f15])), (ca, .inl (cJ, 10800, .inr (.inl cf)))]) [0, 1, 2, 3] (by decide) rfl
  have hK9 := hK.sub (tys' := [(cSs, .object RX10), (cJ, .long)]) [0, 1] rfl
  refine W.widen (k := 2) (n := 12) (Nat.le_of_ble_eq_true rfl) (Nat.le_of_ble_eq_true rfl) ?_
  exact vx_ret (W.iret (v := (cf r_1.toNatClampNeg).toInt32) hx hb hr (fun t ht hW => ⟨⟨(cf r_1.toNatClampNeg).toInt32, (), rfl, ⟨hw_2.1, by subst_vars; rw [hw_2.2]⟩, by rw [ht]; exact hP9, va_K.moved hW.alike hK9, hD9⟩, hS.F ht⟩) hS.2.2 dX12_kind_22)
