abbrev cX11_compare : ByteArray := prog_13_method_6_code
def yX11_compare : MethodName := ⟨RX11, "compare", "([JI[JI)I"⟩
abbrev cX21_give : ByteArray := prog_15_method_58_code
def yX21_give : MethodName := ⟨RX21, "give", "(IJJ)V"⟩
abbrev cX21_compare : ByteArray := prog_15_method_60_code
def yX21_compare : MethodName := ⟨RX21, "compare", "(JJJJ)I"⟩
abbrev cX21_isTrue : ByteArray := prog_15_method_61_code
def yX21_isTrue : MethodName := ⟨RX21, "isTrue", "()Z"⟩
abbrev cX21_covers : ByteArray := prog_15_method_86_code
def yX21_covers : MethodName := ⟨RX21, "covers", "(II)Z"⟩
def RJ13 : String := "java/lang/Long"
abbrev cJ13_compare_74951 : ByteArray := prog_36_method_42_code
def yJ13_compare_74951 : MethodName := ⟨RJ13, "compare", "(JJ)I"⟩
def wsJ13_compare_74951 : List Cond := .code yJ13_compare_74951 cJ13_compare_74951 4 (some .int) :: ([])
def wsX11_compare : List Cond := .code yX11_compare cX11_compare 6 (some .int) :: ([.methodLink RX11 70 yJ13_compare_74951, .static yJ13_compare_74951, .initialized RJ13, .code yJ13_compare_74951 cJ13_compare_74951 4 (some .int)] ++ (vx_atM "java/lang/ArrayIndexOutOfBoundsException" ["java/lang/IndexOutOfBoundsException", "java/lang/RuntimeException", "java/lang/Exception"]).filter goodWord)
def wsX21_give : List Cond := .code yX21_give cX21_give 6 none :: ([.fieldLink RX21 663 "QueryHallModel" "rKind" "I", .fieldLink RX21 666 "QueryHallModel" "rHigh" "J", .fieldLink RX21 669 "QueryHallModel" "rLow" "J"] ++ wsX210)
def wsX21_compare : List Cond := .code yX21_compare cX21_compare 8 (some .int) :: ([])
def wsX21_isTrue : List Cond := .code yX21_isTrue cX21_isTrue 1 (some .boolean) :: ([.fieldLink RX21 663 "QueryHallModel" "rKind" "I", .fieldLink RX21 666 "QueryHallModel" "rHigh" "J"] ++ wsX210)
def wsX21_covers : List Cond := .code yX21_covers cX21_covers 2 (some .boolean) :: ([])
set_option maxRecDepth 20000 in
theorem ggX11_compare_J13_compare_74951 : GoodIn wsX11_compare wsJ13_compare_74951 := goodIn_r _ [4] (by decide +kernel) (by decide +kernel)
set_option maxRecDepth 20000 in
theorem gX11_compare_J13_compare_74951 : GoodIn wsX11_compare (va_wsS RX11 70 yJ13_compare_74951 wsJ13_compare_74951) := goodIn_app (goodIn_of _ (by decide +kernel)) ggX11_compare_J13_compare_74951
theorem dX11_compare_0 : decode cX11_compare 0 = .ok (.iload_n 1, 1) := by decide +kernel
theorem dX11_compare_1 : decode cX11_compare 1 = .ok (.iconst 3, 1) := by decide +kernel
theorem dX11_compare_2 : decode cX11_compare 2 = .ok (.imul, 1) := by decide +kernel
theorem dX11_compare_3 : decode cX11_compare 3 = .ok (.istore 4, 2) := by decide +kernel
theorem dX11_compare_5 : decode cX11_compare 5 = .ok (.iload_n 3, 1) := by decide +kernel
theorem dX11_compare_6 : decode cX11_compare 6 = .ok (.iconst 3, 1) := by decide +kernel
theorem dX11_compare_7 : decode cX11_compare 7 = .ok (.imul, 1) := by decide +kernel
theorem dX11_compare_8 : decode cX11_compare 8 = .ok (.istore 5, 2) := by decide +kernel
theorem dX11_compare_10 : decode cX11_compare 10 = .ok (.aload_n 0, 1) := by decide +kernel
theorem dX11_compare_11 : decode cX11_compare 11 = .ok (.iload 4, 2) := by decide +kernel
theorem dX11_compare_13 : decode cX11_compare 13 = .ok (.laload, 1) := by decide +kernel
theorem dX11_compare_14 : decode cX11_compare 14 = .ok (.aload_n 2, 1) := by decide +kernel
theorem dX11_compare_15 : decode cX11_compare 15 = .ok (.iload 5, 2) := by decide +kernel
theorem dX11_compare_17 : decode cX11_compare 17 = .ok (.laload, 1) := by decide +kernel
theorem dX11_compare_18 : decode cX11_compare 18 = .ok (.lcmp, 1) := by decide +kernel
theorem dX11_compare_19 : decode cX11_compare 19 = .ok (.ifCond .eq 21, 3) := by decide +kernel
theorem dX11_compare_22 : decode cX11_compare 22 = .ok (.aload_n 0, 1) := by decide +kernel
theorem dX11_compare_23 : decode cX11_compare 23 = .ok (.iload 4, 2) := by decide +kernel
theorem dX11_compare_25 : decode cX11_compare 25 = .ok (.laload, 1) := by decide +kernel
theorem dX11_compare_26 : decode cX11_compare 26 = .ok (.aload_n 2, 1) := by decide +kernel
theorem dX11_compare_27 : decode cX11_compare 27 = .ok (.iload 5, 2) := by decide +kernel
theorem dX11_compare_29 : decode cX11_compare 29 = .ok (.laload, 1) := by decide +kernel
theorem dX11_compare_30 : decode cX11_compare 30 = .ok (.lcmp, 1) := by decide +kernel
theorem dX11_compare_31 : decode cX11_compare 31 = .ok (.ifCond .ge 7, 3) := by decide +kernel
theorem dX11_compare_34 : decode cX11_compare 34 = .ok (.iconst (-1), 1) := by decide +kernel
theorem dX11_compare_35 : decode cX11_compare 35 = .ok (.goto 4, 3) := by decide +kernel
theorem dX11_compare_38 : decode cX11_compare 38 = .ok (.iconst 1, 1) := by decide +kernel
theorem dX11_compare_39 : decode cX11_compare 39 = .ok (.ireturn, 1) := by decide +kernel
theorem dX11_compare_40 : decode cX11_compare 40 = .ok (.aload_n 0, 1) := by decide +kernel
theorem dX11_compare_41 : decode cX11_compare 41 = .ok (.iload 4, 2) := by decide +kernel
theorem dX11_compare_43 : decode cX11_compare 43 = .ok (.iconst 1, 1) := by decide +kernel
theorem dX11_compare_44 : decode cX11_compare 44 = .ok (.iadd, 1) := by decide +kernel
theorem dX11_compare_45 : decode cX11_compare 45 = .ok (.laload, 1) := by decide +kernel
theorem dX11_compare_46 : decode cX11_compare 46 = .ok (.aload_n 2, 1) := by decide +kernel
theorem dX11_compare_47 : decode cX11_compare 47 = .ok (.iload 5, 2) := by decide +kernel
theorem dX11_compare_49 : decode cX11_compare 49 = .ok (.iconst 1, 1) := by decide +kernel
theorem dX11_compare_50 : decode cX11_compare 50 = .ok (.iadd, 1) := by decide +kernel
theorem dX11_compare_51 : decode cX11_compare 51 = .ok (.laload, 1) := by decide +kernel
theorem dX11_compare_52 : decode cX11_compare 52 = .ok (.lcmp, 1) := by decide +kernel
theorem dX11_compare_53 : decode cX11_compare 53 = .ok (.ifCond .eq 25, 3) := by decide +kernel
theorem dX11_compare_56 : decode cX11_compare 56 = .ok (.aload_n 0, 1) := by decide +kernel
theorem dX11_compare_57 : decode cX11_compare 57 = .ok (.iload 4, 2) := by decide +kernel
theorem dX11_compare_59 : decode cX11_compare 59 = .ok (.iconst 1, 1) := by decide +kernel
theorem dX11_compare_60 : decode cX11_compare 60 = .ok (.iadd, 1) := by decide +kernel
theorem dX11_compare_61 : decode cX11_compare 61 = .ok (.laload, 1) := by decide +kernel
theorem dX11_compare_62 : decode cX11_compare 62 = .ok (.aload_n 2, 1) := by decide +kernel
theorem dX11_compare_63 : decode cX11_compare 63 = .ok (.iload 5, 2) := by decide +kernel
theorem dX11_compare_65 : decode cX11_compare 65 = .ok (.iconst 1, 1) := by decide +kernel
theorem dX11_compare_66 : decode cX11_compare 66 = .ok (.iadd, 1) := by decide +kernel
theorem dX11_compare_67 : decode cX11_compare 67 = .ok (.laload, 1) := by decide +kernel
theorem dX11_compare_68 : decode cX11_compare 68 = .ok (.lcmp, 1) := by decide +kernel
theorem dX11_compare_69 : decode cX11_compare 69 = .ok (.ifCond .ge 7, 3) := by decide +kernel
theorem dX11_compare_72 : decode cX11_compare 72 = .ok (.iconst (-1), 1) := by decide +kernel
theorem dX11_compare_73 : decode cX11_compare 73 = .ok (.goto 4, 3) := by decide +kernel
theorem dX11_compare_76 : decode cX11_compare 76 = .ok (.iconst 1, 1) := by decide +kernel
theorem dX11_compare_77 : decode cX11_compare 77 = .ok (.ireturn, 1) := by decide +kernel
theorem dX11_compare_78 : decode cX11_compare 78 = .ok (.aload_n 0, 1) := by decide +kernel
theorem dX11_compare_79 : decode cX11_compare 79 = .ok (.iload 4, 2) := by decide +kernel
theorem dX11_compare_81 : decode cX11_compare 81 = .ok (.iconst 2, 1) := by decide +kernel
theorem dX11_compare_82 : decode cX11_compare 82 = .ok (.iadd, 1) := by decide +kernel
theorem dX11_compare_83 : decode cX11_compare 83 = .ok (.laload, 1) := by decide +kernel
theorem dX11_compare_84 : decode cX11_compare 84 = .ok (.aload_n 2, 1) := by decide +kernel
theorem dX11_compare_85 : decode cX11_compare 85 = .ok (.iload 5, 2) := by decide +kernel
theorem dX11_compare_87 : decode cX11_compare 87 = .ok (.iconst 2, 1) := by decide +kernel
theorem dX11_compare_88 : decode cX11_compare 88 = .ok (.iadd, 1) := by decide +kernel
theorem dX11_compare_89 : decode cX11_compare 89 = .ok (.laload, 1) := by decide +kernel
theorem dX11_compare_90 : decode cX11_compare 90 = .ok (.invokestatic 70, 3) := by decide +kernel
theorem dX11_compare_93 : decode cX11_compare 93 = .ok (.ireturn, 1) := by decide +kernel
theorem dX21_give_0 : decode cX21_give 0 = .ok (.aload_n 0, 1) := by decide +kernel
theorem dX21_give_1 : decode cX21_give 1 = .ok (.iload_n 1, 1) := by decide +kernel
theorem dX21_give_2 : decode cX21_give 2 = .ok (.putfield 663, 3) := by decide +kernel
theorem dX21_give_5 : decode cX21_give 5 = .ok (.aload_n 0, 1) := by decide +kernel
theorem dX21_give_6 : decode cX21_give 6 = .ok (.lload_n 2, 1) := by decide +kernel
theorem dX21_give_7 : decode cX21_give 7 = .ok (.putfield 666, 3) := by decide +kernel
theorem dX21_give_10 : decode cX21_give 10 = .ok (.aload_n 0, 1) := by decide +kernel
theorem dX21_give_11 : decode cX21_give 11 = .ok (.lload 4, 2) := by decide +kernel
theorem dX21_give_13 : decode cX21_give 13 = .ok (.putfield 669, 3) := by decide +kernel
theorem dX21_give_16 : decode cX21_give 16 = .ok (.return_, 1) := by decide +kernel
theorem dX21_compare_0 : decode cX21_compare 0 = .ok (.lload_n 0, 1) := by decide +kernel
theorem dX21_compare_1 : decode cX21_compare 1 = .ok (.lload 4, 2) := by decide +kernel
theorem dX21_compare_3 : decode cX21_compare 3 = .ok (.lcmp, 1) := by decide +kernel
theorem dX21_compare_4 : decode cX21_compare 4 = .ok (.ifCond .ge 7, 3) := by decide +kernel
theorem dX21_compare_7 : decode cX21_compare 7 = .ok (.iconst (-1), 1) := by decide +kernel
theorem dX21_compare_8 : decode cX21_compare 8 = .ok (.goto 37, 3) := by decide +kernel
theorem dX21_compare_11 : decode cX21_compare 11 = .ok (.lload_n 0, 1) := by decide +kernel
theorem dX21_compare_12 : decode cX21_compare 12 = .ok (.lload 4, 2) := by decide +kernel
theorem dX21_compare_14 : decode cX21_compare 14 = .ok (.lcmp, 1) := by decide +kernel
theorem dX21_compare_15 : decode cX21_compare 15 = .ok (.ifCond .le 7, 3) := by decide +kernel
theorem dX21_compare_18 : decode cX21_compare 18 = .ok (.iconst 1, 1) := by decide +kernel
theorem dX21_compare_19 : decode cX21_compare 19 = .ok (.goto 26, 3) := by decide +kernel
theorem dX21_compare_22 : decode cX21_compare 22 = .ok (.lload_n 2, 1) := by decide +kernel
theorem dX21_compare_23 : decode cX21_compare 23 = .ok (.lload 6, 2) := by decide +kernel
theorem dX21_compare_25 : decode cX21_compare 25 = .ok (.lcmp, 1) := by decide +kernel
theorem dX21_compare_26 : decode cX21_compare 26 = .ok (.ifCond .ge 7, 3) := by decide +kernel
theorem dX21_compare_29 : decode cX21_compare 29 = .ok (.iconst (-1), 1) := by decide +kernel
theorem dX21_compare_30 : decode cX21_compare 30 = .ok (.goto 15, 3) := by decide +kernel
theorem dX21_compare_33 : decode cX21_compare 33 = .ok (.lload_n 2, 1) := by decide +kernel
theorem dX21_compare_34 : decode cX21_compare 34 = .ok (.lload 6, 2) := by decide +kernel
theorem dX21_compare_36 : decode cX21_compare 36 = .ok (.lcmp, 1) := by decide +kernel
theorem dX21_compare_37 : decode cX21_compare 37 = .ok (.ifCond .le 7, 3) := by decide +kernel
theorem dX21_compare_40 : decode cX21_compare 40 = .ok (.iconst 1, 1) := by decide +kernel
theorem dX21_compare_41 : decode cX21_compare 41 = .ok (.goto 4, 3) := by decide +kernel
theorem dX21_compare_44 : decode cX21_compare 44 = .ok (.iconst 0, 1) := by decide +kernel
theorem dX21_compare_45 : decode cX21_compare 45 = .ok (.ireturn, 1) := by decide +kernel
theorem dX21_isTrue_0 : decode cX21_isTrue 0 = .ok (.aload_n 0, 1) := by decide +kernel
theorem dX21_isTrue_1 : decode cX21_isTrue 1 = .ok (.getfield 663, 3) := by decide +kernel
theorem dX21_isTrue_4 : decode cX21_isTrue 4 = .ok (.iconst 2, 1) := by decide +kernel
theorem dX21_isTrue_5 : decode cX21_isTrue 5 = .ok (.if_icmp .ne 16, 3) := by decide +kernel
theorem dX21_isTrue_8 : decode cX21_isTrue 8 = .ok (.aload_n 0, 1) := by decide +kernel
theorem dX21_isTrue_9 : decode cX21_isTrue 9 = .ok (.getfield 666, 3) := by decide +kernel
theorem dX21_isTrue_12 : decode cX21_isTrue 12 = .ok (.lconst 1, 1) := by decide +kernel
theorem dX21_isTrue_13 : decode cX21_isTrue 13 = .ok (.lcmp, 1) := by decide +kernel
theorem dX21_isTrue_14 : decode cX21_isTrue 14 = .ok (.ifCond .ne 7, 3) := by decide +kernel
theorem dX21_isTrue_17 : decode cX21_isTrue 17 = .ok (.iconst 1, 1) := by decide +kernel
theorem dX21_isTrue_18 : decode cX21_isTrue 18 = .ok (.goto 4, 3) := by decide +kernel
theorem dX21_isTrue_21 : decode cX21_isTrue 21 = .ok (.iconst 0, 1) := by decide +kernel
theorem dX21_isTrue_22 : decode cX21_isTrue 22 = .ok (.ireturn, 1) := by decide +kernel
theorem dX21_covers_0 : decode cX21_covers 0 = .ok (.iload_n 0, 1) := by decide +kernel
theorem dX21_covers_1 : decode cX21_covers 1 = .ok (.iload_n 1, 1) := by decide +kernel
theorem dX21_covers_2 : decode cX21_covers 2 = .ok (.if_icmp .eq 28, 3) := by decide +kernel
theorem dX21_covers_5 : decode cX21_covers 5 = .ok (.iload_n 0, 1) := by decide +kernel
theorem dX21_covers_6 : decode cX21_covers 6 = .ok (.iconst 5, 1) := by decide +kernel
theorem dX21_covers_7 : decode cX21_covers 7 = .ok (.if_icmp .eq 23, 3) := by decide +kernel
theorem dX21_covers_10 : decode cX21_covers 10 = .ok (.iload_n 1, 1) := by decide +kernel
theorem dX21_covers_11 : decode cX21_covers 11 = .ok (.iconst 1, 1) := by decide +kernel
theorem dX21_covers_12 : decode cX21_covers 12 = .ok (.if_icmp .ne 8, 3) := by decide +kernel
theorem dX21_covers_15 : decode cX21_covers 15 = .ok (.iload_n 0, 1) := by decide +kernel
theorem dX21_covers_16 : decode cX21_covers 16 = .ok (.iconst 1, 1) := by decide +kernel
theorem dX21_covers_17 : decode cX21_covers 17 = .ok (.if_icmp .gt 13, 3) := by decide +kernel
theorem dX21_covers_20 : decode cX21_covers 20 = .ok (.iload_n 0, 1) := by decide +kernel
theorem dX21_covers_21 : decode cX21_covers 21 = .ok (.iconst 4, 1) := by decide +kernel
theorem dX21_covers_22 : decode cX21_covers 22 = .ok (.if_icmp .ne 12, 3) := by decide +kernel
theorem dX21_covers_25 : decode cX21_covers 25 = .ok (.iload_n 1, 1) := by decide +kernel
theorem dX21_covers_26 : decode cX21_covers 26 = .ok (.iconst 4, 1) := by decide +kernel
theorem dX21_covers_27 : decode cX21_covers 27 = .ok (.if_icmp .ge 7, 3) := by decide +kernel
theorem dX21_covers_30 : decode cX21_covers 30 = .ok (.iconst 1, 1) := by decide +kernel
theorem dX21_covers_31 : decode cX21_covers 31 = .ok (.goto 4, 3) := by decide +kernel
theorem dX21_covers_34 : decode cX21_covers 34 = .ok (.iconst 0, 1) := by decide +kernel
theorem dX21_covers_35 : decode cX21_covers 35 = .ok (.ireturn, 1) := by decide +kernel
theorem dJ13_compare_74951_0 : decode cJ13_compare_74951 0 = .ok (.lload_n 0, 1) := by decide +kernel
theorem dJ13_compare_74951_1 : decode cJ13_compare_74951 1 = .ok (.lload_n 2, 1) := by decide +kernel
theorem dJ13_compare_74951_2 : decode cJ13_compare_74951 2 = .ok (.lcmp, 1) := by decide +kernel
theorem dJ13_compare_74951_3 : decode cJ13_compare_74951 3 = .ok (.ifCond .ge 7, 3) := by decide +kernel
theorem dJ13_compare_74951_6 : decode cJ13_compare_74951 6 = .ok (.iconst (-1), 1) := by decide +kernel
theorem dJ13_compare_74951_7 : decode cJ13_compare_74951 7 = .ok (.goto 14, 3) := by decide +kernel
theorem dJ13_compare_74951_10 : decode cJ13_compare_74951 10 = .ok (.lload_n 0, 1) := by decide +kernel
theorem dJ13_compare_74951_11 : decode cJ13_compare_74951 11 = .ok (.lload_n 2, 1) := by decide +kernel
theorem dJ13_compare_74951_12 : decode cJ13_compare_74951 12 = .ok (.lcmp, 1) := by decide +kernel
theorem dJ13_compare_74951_13 : decode cJ13_compare_74951 13 = .ok (.ifCond .ne 7, 3) := by decide +kernel
theorem dJ13_compare_74951_16 : decode cJ13_compare_74951 16 = .ok (.iconst 0, 1) := by decide +kernel
theorem dJ13_compare_74951_17 : decode cJ13_compare_74951 17 = .ok (.goto 4, 3) := by decide +kernel
theorem dJ13_compare_74951_20 : decode cJ13_compare_74951 20 = .ok (.iconst 1, 1) := by decide +kernel
theorem dJ13_compare_74951_21 : decode cJ13_compare_74951 21 = .ok (.ireturn, 1) := by decide +kernel

/-- Table.compare, of the cells at places x and y (times 3) -/
def qh_tcmp (f g : Nat → Int64) (x y : Int32) : Int32 := if lg_cmp (f x.toNatClampNeg) (g y.toNatClampNeg) = 0 then (if lg_cmp (f (x + 1).toNatClampNeg) (g (y + 1).toNatClampNeg) = 0 then (if 0 ≤ lg_cmp (f (x + 2).toNatClampNeg) (g (y + 2).toNatClampNeg) then (if lg_cmp (f (x + 2).toNatClampNeg) (g (y + 2).toNatClampNeg) = 0 then 0 else 1) else -1) else (if 0 ≤ lg_cmp (f (x + 1).toNatClampNeg) (g (y + 1).toNatClampNeg) then 1 else -1)) else (if 0 ≤ lg_cmp (f x.toNatClampNeg) (g y.toNatClampNeg) then 1 else -1)
set_option maxHeartbeats 4000000 in
set_option maxRecDepth 100000 in
/-- Long.compare -/
theorem c_J13_compare_74951 (l : Launch) (dC : Nat → ClassId) (dI : Nat → Nat → Nat) (sz : Nat) (p0 p1 : Int64) : Met l yJ13_compare_74951 wsJ13_compare_74951 ({ frames := 0, cells := 0, slots := 0, locals := 0 }) (va_Pc [.long p0, .long p1] (fun U => U.heap.size = sz ∧ va_P (dC, dI) vwCl [] U.heap ∧ va_K (dC, dI) vwCl [] U ∧ va_D (fun _ => True) [])) (va_Qi (fun (r : Int32) (_ : Unit) => r = (if 0 ≤ lg_cmp p0 p1 then (if lg_cmp p0 p1 = 0 then 0 else 1) else -1)) (fun (_ : Unit) (t : State) => va_P (dC, dI) vwCl [] t.heap ∧ va_K (dC, dI) vwCl [] t ∧ va_D (va_A [] sz) []) (va_A [] sz)) 0 0 (va_A [] sz) := by
  refine Met.ofW (cc := cJ13_compare_74951) (maxL := 4) (ret := (some .int)) (by decide) rfl ?_
  intro p e s m args below meth c s₁ B hml hv
  obtain ⟨rfl, hsz, hP, hK, hD0⟩ := hv
  have hx := B.exec
  have hb := B.bytes
  have hr := B.returns
  have hts := atoms_spec (ws := wsJ13_compare_74951) B.pre
  have hown : s.vm.findClass RJ13 = some m.cls := findClass_of_methodNamed B.named
  have hlocks := B.notSynchronized
  subst hsz
  have hD := hD0.self (sz := s.heap.size)
  generalize hAe : va_A [] s.heap.size = A at hD ⊢
  have hA : ∀ q : Nat, s.heap.size ≤ q → A q := fun q h => by rw [← hAe]; exact Or.inr h
  have hS : va_S A s.heap s.heap [] := va_S.rf
  have hP : va_P (dC, dI) vwCl [] s.heap := hP
  have hl := lv_entry ([.long p0, .long p1]) (n := 4) (Nat.le_of_ble_eq_true rfl)
  rw [lg_entry_eq]
  generalize (lg_sl ([.long p0, .long p1]) ++ List.replicate (4 - (lg_sl ([.long p0, .long p1])).length) Slot.unset).toArray = ls at hl ⊢
  have hl : lv_has ls 4 [(0, .long p0), (2, .long p1)] := hl
  refine lv_lload_n hx hb dJ13_compare_74951_0 rfl (lv_at hl 0 rfl) ?_
  refine lv_lload_n hx hb dJ13_compare_74951_1 rfl (lv_at hl 1 rfl) ?_
  refine W.lcmp hx hb dJ13_compare_74951_2 ?_
  refine lv_if_ge (tgt := 10) hx hb dJ13_compare_74951_3 (by decide) (fun c_1 => ?_) (fun c_1 => ?_)
  · skip
    refine lv_lload_n hx hb dJ13_compare_74951_10 rfl (lv_at hl 0 rfl) ?_
    refine lv_lload_n hx hb dJ13_compare_74951_11 rfl (lv_at hl 1 rfl) ?_
    refine W.lcmp hx hb dJ13_compare_74951_12 ?_
    refine lv_if_ne (tgt := 20) hx hb dJ13_compare_74951_13 (by decide) (fun c_2 => ?_) (fun c_2 => ?_)
    · skip
      refine lv_iconst (v := 1) hx hb dJ13_compare_74951_20 (by decide) ?_
      have hP9 := hP.sub (ws' := []) [] rfl
      have hD9 := hD.sub (ws' := []) [] (by decide) rfl
      have hK9 := hK.sub (tys' := []) [] rfl
      exact W.iret (v := 1) hx hb hr (fun t ht hW => ⟨⟨1, (), rfl, (by show (_ : Int32) = _; (first | rw [if_pos c_1] | rw [if_neg c_1]); (first | rw [if_pos c_2] | rw [if_neg c_2])), by rw [ht]; exact hP9, va_K.moved hW.alike hK9, hD9⟩, hS.F ht⟩) hS.2.2 dJ13_compare_74951_21
    · skip
      refine lv_iconst (v := 0) hx hb dJ13_compare_74951_16 (by decide) ?_
      refine lv_goto (tgt := 21) hx hb dJ13_compare_74951_17 (by decide) ?_
      have hP9 := hP.sub (ws' := []) [] rfl
      have hD9 := hD.sub (ws' := []) [] (by decide) rfl
      have hK9 := hK.sub (tys' := []) [] rfl
      exact W.iret (v := 0) hx hb hr (fun t ht hW => ⟨⟨0, (), rfl, (by show (_ : Int32) = _; (first | rw [if_pos c_1] | rw [if_neg c_1]); (first | rw [if_pos c_2] | rw [if_neg c_2])), by rw [ht]; exact hP9, va_K.moved hW.alike hK9, hD9⟩, hS.F ht⟩) hS.2.2 dJ13_compare_74951_21
  · skip
    refine lv_iconst (v := -1) hx hb dJ13_compare_74951_6 (by decide) ?_
    refine lv_goto (tgt := 21) hx hb dJ13_compare_74951_7 (by decide) ?_
    have hP9 := hP.sub (ws' := []) [] rfl
    have hD9 := hD.sub (ws' := []) [] (by decide) rfl
    have hK9 := hK.sub (tys' := []) [] rfl
    exact W.iret (v := -1) hx hb hr (fun t ht hW => ⟨⟨-1, (), rfl, (by show (_ : Int32) = _; (first | rw [if_pos c_1] | rw [if_neg c_1])), by rw [ht]; exact hP9, va_K.moved hW.alike hK9, hD9⟩, hS.F ht⟩) hS.2.2 dJ13_compare_74951_21
set_option maxHeartbeats 4000000 in
set_option maxRecDepth 100000 in
/-- Table.compare of two rows apart -/
theorem c_X11_compare (l : Launch) (dC : Nat → ClassId) (dI : Nat → Nat → Nat) (sz : Nat) (cJ : ClassId) (aa na bb nb : Nat) (af bf : Nat → Int64) (p0 p1 : Int32) (ha : vp_in (p0 * 3) na ∧ vp_in (p0 * 3 + 1) na ∧ vp_in (p0 * 3 + 2) na) (hb_ : vp_in (p1 * 3) nb ∧ vp_in (p1 * 3 + 1) nb ∧ vp_in (p1 * 3 + 2) nb) : Met l yX11_compare wsX11_compare ({ frames := 1, cells := 0, slots := 0, locals := 40 }) (va_Pc [.ref aa, .int p0, .ref bb, .int p1] (fun U => U.heap.size = sz ∧ va_P (dC, dI) vwCl [(aa, .inl (cJ, na, .inr (.inl af))), (bb, .inl (cJ, nb, .inr (.inl bf)))] U.heap ∧ va_K (dC, dI) vwCl [(cJ, .long)] U ∧ va_D (fun _ => True) [(aa, .inl (cJ, na, .inr (.inl af))), (bb, .inl (cJ, nb, .inr (.inl bf)))])) (va_Qi (fun (r : Int32) (_ : Unit) => r = qh_tcmp af bf (p0 * 3) (p1 * 3)) (fun (_ : Unit) (t : State) => va_P (dC, dI) vwCl [(aa, .inl (cJ, na, .inr (.inl af))), (bb, .inl (cJ, nb, .inr (.inl bf)))] t.heap ∧ va_K (dC, dI) vwCl [(cJ, .long)] t ∧ va_D (va_A [(aa, .inl (cJ, na, .inr (.inl af))), (bb, .inl (cJ, nb, .inr (.inl bf)))] sz) [(aa, .inl (cJ, na, .inr (.inl af))), (bb, .inl (cJ, nb, .inr (.inl bf)))]) (va_A [(aa, .inl (cJ, na, .inr (.inl af))), (bb, .inl (cJ, nb, .inr (.inl bf)))] sz)) 0 0 (va_A [(aa, .inl (cJ, na, .inr (.inl af))), (bb, .inl (cJ, nb, .inr (.inl bf)))] sz) := by
  refine Met.ofW (cc := cX11_compare) (maxL := 6) (ret := (some .int)) (by decide) rfl ?_
  intro p e s m args below meth c s₁ B hml hv
  obtain ⟨rfl, hsz, hP, hK, hD0⟩ := hv
  have hx := B.exec
  have hb := B.bytes
  have hr := B.returns
  have hts := atoms_spec (ws := wsX11_compare) B.pre
  have hown : s.vm.findClass RX11 = some m.cls := findClass_of_methodNamed B.named
  have hlocks := B.notSynchronized
  subst hsz
  have hD := hD0.self (sz := s.heap.size)
  generalize hAe : va_A [(aa, .inl (cJ, na, .inr (.inl af))), (bb, .inl (cJ, nb, .inr (.inl bf)))] s.heap.size = A at hD ⊢
  have hA : ∀ q : Nat, s.heap.size ≤ q → A q := fun q h => by rw [← hAe]; exact Or.inr h
  have hS : va_S A s.heap s.heap [] := va_S.rf
  have hP : va_P (dC, dI) vwCl [(aa, .inl (cJ, na, .inr (.inl af))), (bb, .inl (cJ, nb, .inr (.inl bf)))] s.heap := hP
  have hl := lv_entry ([.ref aa, .int p0, .ref bb, .int p1]) (n := 6) (Nat.le_of_ble_eq_true rfl)
  rw [lg_entry_eq]
  generalize (lg_sl ([.ref aa, .int p0, .ref bb, .int p1]) ++ List.replicate (6 - (lg_sl ([.ref aa, .int p0, .ref bb, .int p1])).length) Slot.unset).toArray = ls at hl ⊢
  have hl : lv_has ls 6 [(0, .ref aa), (1, .int p0), (2, .ref bb), (3, .int p1)] := hl
  refine lv_iload_n hx hb dX11_compare_0 rfl (lv_at hl 1 rfl) ?_
  refine lv_iconst (v := 3) hx hb dX11_compare_1 (by decide) ?_
  refine lv_imul hx hb dX11_compare_2 ?_
  refine lv_topi (fun x_1 ex_1 => ?_)
  refine lv_istore (lv' := [(4, .int x_1), (0, .ref aa), (1, .int p0), (2, .ref bb), (3, .int p1)]) hx hb dX11_compare_3 hl (by decide) rfl (fun ls hl => ?_)
  refine lv_iload_n hx hb dX11_compare_5 rfl (lv_at hl 4 rfl) ?_
  refine lv_iconst (v := 3) hx hb dX11_compare_6 (by decide) ?_
  refine lv_imul hx hb dX11_compare_7 ?_
  refine lv_topi (fun x_2 ex_2 => ?_)
  refine lv_istore (lv' := [(5, .int x_2), (4, .int x_1), (0, .ref aa), (1, .int p0), (2, .ref bb), (3, .int p1)]) hx hb dX11_compare_8 hl (by decide) rfl (fun ls hl => ?_)
  refine lv_aload_n hx hb dX11_compare_10 rfl (lv_at hl 2 rfl) ?_
  refine lv_iload hx hb dX11_compare_11 (lv_at hl 1 rfl) ?_
  refine va_lald hx hb hK hP 0 0 rfl rfl (by subst_vars; exact ha.1) dX11_compare_13 ?_
  refine lv_aload_n hx hb dX11_compare_14 rfl (lv_at hl 4 rfl) ?_
  refine lv_iload hx hb dX11_compare_15 (lv_at hl 0 rfl) ?_
  refine va_lald hx hb hK hP 1 0 rfl rfl (by subst_vars; exact hb_.1) dX11_compare_17 ?_
  refine W.lcmp hx hb dX11_compare_18 ?_
  refine lv_if_eq (tgt := 40) hx hb dX11_compare_19 (by decide) (fun c_3 => ?_) (fun c_3 => ?_)
  · skip
    refine lv_aload_n hx hb dX11_compare_40 rfl (lv_at hl 2 rfl) ?_
    refine lv_iload hx hb dX11_compare_41 (lv_at hl 1 rfl) ?_
    refine lv_iconst (v := 1) hx hb dX11_compare_43 (by decide) ?_
    refine lv_iadd hx hb dX11_compare_44 ?_
    refine va_lald hx hb hK hP 0 0 rfl rfl (by subst_vars; exact ha.2.1) dX11_compare_45 ?_
    refine lv_aload_n hx hb dX11_compare_46 rfl (lv_at hl 4 rfl) ?_
    refine lv_iload hx hb dX11_compare_47 (lv_at hl 0 rfl) ?_
    refine lv_iconst (v := 1) hx hb dX11_compare_49 (by decide) ?_
    refine lv_iadd hx hb dX11_compare_50 ?_
    refine va_lald hx hb hK hP 1 0 rfl rfl (by subst_vars; exact hb_.2.1) dX11_compare_51 ?_
    refine W.lcmp hx hb dX11_compare_52 ?_
    refine lv_if_eq (tgt := 78) hx hb dX11_compare_53 (by decide) (fun c_4 => ?_) (fun c_4 => ?_)
    · skip
      refine lv_aload_n hx hb dX11_compare_78 rfl (lv_at hl 2 rfl) ?_
      refine lv_iload hx hb dX11_compare_79 (lv_at hl 1 rfl) ?_
      refine lv_iconst (v := 2) hx hb dX11_compare_81 (by decide) ?_
      refine lv_iadd hx hb dX11_compare_82 ?_
      refine va_lald hx hb hK hP 0 0 rfl rfl (by subst_vars; exact ha.2.2) dX11_compare_83 ?_
      refine lv_aload_n hx hb dX11_compare_84 rfl (lv_at hl 4 rfl) ?_
      refine lv_iload hx hb dX11_compare_85 (lv_at hl 0 rfl) ?_
      refine lv_iconst (v := 2) hx hb dX11_compare_87 (by decide) ?_
      refine lv_iadd hx hb dX11_compare_88 ?_
      refine va_lald hx hb hK hP 1 0 rfl rfl (by subst_vars; exact hb_.2.2) dX11_compare_89 ?_
      have hPc := hP.sub (ws' := []) [] rfl
      have hDc := hD.sub (ws' := []) [] (by decide) rfl
      have hKc := hK.sub (tys' := []) [] rfl
      have hFc := va_free (wc := []) hD hS hA [] rfl
      refine va_calli (va_runS (As := [.long (af (x_1 + 2).toNatClampNeg), .long (bf (x_2 + 2).toNatClampNeg)]) (rest := []) ⟨hx, hb, hml, hown, hts⟩ (c_J13_compare_74951 l dC dI s.heap.size (af (x_1 + 2).toNatClampNeg) (bf (x_2 + 2).toNatClampNeg)) (va_cwS 2 hts gX11_compare_J13_compare_74951 rfl rfl rfl (by decide +kernel) ⟨Nat.le_of_ble_eq_true rfl, Nat.le_of_ble_eq_true rfl⟩) ⟨fun a U g mk q => by obtain ⟨q0, q1, qP, qK, qD⟩ := q; exact ⟨q0, q1, qP, va_K.moved (u := U) (U := U.calling g mk a) (Vm.Alike.refl U.vm) qK, qD⟩, fun U hU hW => ⟨rfl, by rw [hU], by rw [hU]; exact hPc, va_K.moved hW.alike hKc, hDc.weaken (fun _ _ _ _ => trivial)⟩⟩ rfl rfl hl.1 rfl (lv_room (Nat.le_of_ble_eq_true rfl)) dX11_compare_90 ⟨Nat.le_of_ble_eq_true rfl, Nat.le_of_ble_eq_true rfl⟩) hS (fun q _ h => hFc q h) hFc (fun r_5 u t H1 locs ht hvm hw hB hz1 hk1 hS => ?_)
      obtain ⟨hP1, hK1, hD1⟩ := hB
      rw [ht] at hP1
      obtain ⟨hP, hD⟩ := va_join (wr := [(aa, .inl (cJ, na, .inr (.inl af))), (bb, .inl (cJ, nb, .inr (.inl bf)))]) (w1 := []) hP hD [] [0, 1] rfl rfl (by decide) (by decide) hk1 hFc hP1 hD1
      generalize H1 = H at hP hS ⊢
      have hP := hP.sub (ws' := [(aa, .inl (cJ, na, .inr (.inl af))), (bb, .inl (cJ, nb, .inr (.inl bf)))]) [0, 1] rfl
      have hD := hD.sub (ws' := [(aa, .inl (cJ, na, .inr (.inl af))), (bb, .inl (cJ, nb, .inr (.inl bf)))]) [0, 1] (by decide) rfl
      have hw : r_5 = (if 0 ≤ lg_cmp (af (x_1 + 2).toNatClampNeg) (bf (x_2 + 2).toNatClampNeg) then (if lg_cmp (af (x_1 + 2).toNatClampNeg) (bf (x_2 + 2).toNatClampNeg) = 0 then 0 else 1) else -1) := hw
      subst hw
      have hP9 := hP.sub (ws' := [(aa, .inl (cJ, na, .inr (.inl af))), (bb, .inl (cJ, nb, .inr (.inl bf)))]) [0, 1] rfl
      have hD9 := hD.sub (ws' := [(aa, .inl (cJ, na, .inr (.inl af))), (bb, .inl (cJ, nb, .inr (.inl bf)))]) [0, 1] (by decide) rfl
      have hK9 := hK.sub (tys' := [(cJ, .long)]) [0] rfl
      exact W.iret (v := (if 0 ≤ lg_cmp (af (x_1 + 2).toNatClampNeg) (bf (x_2 + 2).toNatClampNeg) then (if lg_cmp (af (x_1 + 2).toNatClampNeg) (bf (x_2 + 2).toNatClampNeg) = 0 then 0 else 1) else -1)) hx hb hr (fun t ht hW => ⟨⟨(if 0 ≤ lg_cmp (af (x_1 + 2).toNatClampNeg) (bf (x_2 + 2).toNatClampNeg) then (if lg_cmp (af (x_1 + 2).toNatClampNeg) (bf (x_2 + 2).toNatClampNeg) = 0 then 0 else 1) else -1), (), rfl, (by show (_ : Int32) = _; unfold qh_tcmp; subst ex_2; subst ex_1; (first | rw [if_pos c_3] | rw [if_neg c_3]); (first | rw [if_pos c_4] | rw [if_neg c_4])), by rw [ht]; exact hP9, va_K.moved hW.alike hK9, hD9⟩, hS.F ht⟩) hS.2.2 dX11_compare_93
    · skip
      refine lv_aload_n hx hb dX11_compare_56 rfl (lv_at hl 2 rfl) ?_
      refine lv_iload hx hb dX11_compare_57 (lv_at hl 1 rfl) ?_
      refine lv_iconst (v := 1) hx hb dX11_compare_59 (by decide) ?_
      refine lv_iadd hx hb dX11_compare_60 ?_
      refine va_lald hx hb hK hP 0 0 rfl rfl (by subst_vars; exact ha.2.1) dX11_compare_61 ?_
      refine lv_aload_n hx hb dX11_compare_62 rfl (lv_at hl 4 rfl) ?_
      refine lv_iload hx hb dX11_compare_63 (lv_at hl 0 rfl) ?_
      refine lv_iconst (v := 1) hx hb dX11_compare_65 (by decide) ?_
      refine lv_iadd hx hb dX11_compare_66 ?_
      refine va_lald hx hb hK hP 1 0 rfl rfl (by subst_vars; exact hb_.2.1) dX11_compare_67 ?_
      refine W.lcmp hx hb dX11_compare_68 ?_
      refine lv_if_ge (tgt := 76) hx hb dX11_compare_69 (by decide) (fun c_6 => ?_) (fun c_6 => ?_)
      · skip
        refine lv_iconst (v := 1) hx hb dX11_compare_76 (by decide) ?_
        have hP9 := hP.sub (ws' := [(aa, .inl (cJ, na, .inr (.inl af))), (bb, .inl (cJ, nb, .inr (.inl bf)))]) [0, 1] rfl
        have hD9 := hD.sub (ws' := [(aa, .inl (cJ, na, .inr (.inl af))), (bb, .inl (cJ, nb, .inr (.inl bf)))]) [0, 1] (by decide) rfl
        have hK9 := hK.sub (tys' := [(cJ, .long)]) [0] rfl
        exact W.iret (v := 1) hx hb hr (fun t ht hW => ⟨⟨1, (), rfl, (by show (_ : Int32) = _; unfold qh_tcmp; subst ex_2; subst ex_1; (first | rw [if_pos c_3] | rw [if_neg c_3]); (first | rw [if_pos c_4] | rw [if_neg c_4]); (first | rw [if_pos c_6] | rw [if_neg c_6])), by rw [ht]; exact hP9, va_K.moved hW.alike hK9, hD9⟩, hS.F ht⟩) hS.2.2 dX11_compare_77
      · skip
        refine lv_iconst (v := -1) hx hb dX11_compare_72 (by decide) ?_
        refine lv_goto (tgt := 77) hx hb dX11_compare_73 (by decide) ?_
        have hP9 := hP.sub (ws' := [(aa, .inl (cJ, na, .inr (.inl af))), (bb, .inl (cJ, nb, .inr (.inl bf)))]) [0, 1] rfl
        have hD9 := hD.sub (ws' := [(aa, .inl (cJ, na, .inr (.inl af))), (bb, .inl (cJ, nb, .inr (.inl bf)))]) [0, 1] (by decide) rfl
        have hK9 := hK.sub (tys' := [(cJ, .long)]) [0] rfl
        exact W.iret (v := -1) hx hb hr (fun t ht hW => ⟨⟨-1, (), rfl, (by show (_ : Int32) = _; unfold qh_tcmp; subst ex_2; subst ex_1; (first | rw [if_pos c_3] | rw [if_neg c_3]); (first | rw [if_pos c_4] | rw [if_neg c_4]); (first | rw [if_pos c_6] | rw [if_neg c_6])), by rw [ht]; exact hP9, va_K.moved hW.alike hK9, hD9⟩, hS.F ht⟩) hS.2.2 dX11_compare_77
  · skip
    refine lv_aload_n hx hb dX11_compare_22 rfl (lv_at hl 2 rfl) ?_
    refine lv_iload hx hb dX11_compare_23 (lv_at hl 1 rfl) ?_
    refine va_lald hx hb hK hP 0 0 rfl rfl (by subst_vars; exact ha.1) dX11_compare_25 ?_
    refine lv_aload_n hx hb dX11_compare_26 rfl (lv_at hl 4 rfl) ?_
    refine lv_iload hx hb dX11_compare_27 (lv_at hl 0 rfl) ?_
    refine va_lald hx hb hK hP 1 0 rfl rfl (by subst_vars; exact hb_.1) dX11_compare_29 ?_
    refine W.lcmp hx hb dX11_compare_30 ?_
    refine lv_if_ge (tgt := 38) hx hb dX11_compare_31 (by decide) (fun c_7 => ?_) (fun c_7 => ?_)
    · skip
      refine lv_iconst (v := 1) hx hb dX11_compare_38 (by decide) ?_
      have hP9 := hP.sub (ws' := [(aa, .inl (cJ, na, .inr (.inl af))), (bb, .inl (cJ, nb, .inr (.inl bf)))]) [0, 1] rfl
      have hD9 := hD.sub (ws' := [(aa, .inl (cJ, na, .inr (.inl af))), (bb, .inl (cJ, nb, .inr (.inl bf)))]) [0, 1] (by decide) rfl
      have hK9 := hK.sub (tys' := [(cJ, .long)]) [0] rfl
      exact W.iret (v := 1) hx hb hr (fun t ht hW => ⟨⟨1, (), rfl, (by show (_ : Int32) = _; unfold qh_tcmp; subst ex_2; subst ex_1; (first | rw [if_pos c_3] | rw [if_neg c_3]); (first | rw [if_pos c_7] | rw [if_neg c_7])), by rw [ht]; exact hP9, va_K.moved hW.alike hK9, hD9⟩, hS.F ht⟩) hS.2.2 dX11_compare_39
    · skip
      refine lv_iconst (v := -1) hx hb dX11_compare_34 (by decide) ?_
      refine lv_goto (tgt := 39) hx hb dX11_compare_35 (by decide) ?_
      have hP9 := hP.sub (ws' := [(aa, .inl (cJ, na, .inr (.inl af))), (bb, .inl (cJ, nb, .inr (.inl bf)))]) [0, 1] rfl
      have hD9 := hD.sub (ws' := [(aa, .inl (cJ, na, .inr (.inl af))), (bb, .inl (cJ, nb, .inr (.inl bf)))]) [0, 1] (by decide) rfl
      have hK9 := hK.sub (tys' := [(cJ, .long)]) [0] rfl
      exact W.iret (v := -1) hx hb hr (fun t ht hW => ⟨⟨-1, (), rfl, (by show (_ : Int32) = _; unfold qh_tcmp; subst ex_2; subst ex_1; (first | rw [if_pos c_3] | rw [if_neg c_3]); (first | rw [if_pos c_7] | rw [if_neg c_7])), by rw [ht]; exact hP9, va_K.moved hW.alike hK9, hD9⟩, hS.F ht⟩) hS.2.2 dX11_compare_39
set_option maxHeartbeats 4000000 in
set_option maxRecDepth 100000 in
/-- the reference: compare -/
theorem c_X21_compare (l : Launch) (dC : Nat → ClassId) (dI : Nat → Nat → Nat) (sz : Nat) (p0 p1 p2 p3 : Int64) : Met l yX21_compare wsX21_compare ({ frames := 0, cells := 0, slots := 0, locals := 0 }) (va_Pc [.long p0, .long p1, .long p2, .long p3] (fun U => U.heap.size = sz ∧ va_P (dC, dI) vwCl [] U.heap ∧ va_K (dC, dI) vwCl [] U ∧ va_D (fun _ => True) [])) (va_Qi (fun (r : Int32) (_ : Unit) => r = (if 0 ≤ lg_cmp p0 p2 then (if lg_cmp p0 p2 ≤ 0 then (if 0 ≤ lg_cmp p1 p3 then (if lg_cmp p1 p3 ≤ 0 then 0 else 1) else -1) else 1) else -1)) (fun (_ : Unit) (t : State) => va_P (dC, dI) vwCl [] t.heap ∧ va_K (dC, dI) vwCl [] t ∧ va_D (va_A [] sz) []) (va_A [] sz)) 0 0 (va_A [] sz) := by
  refine Met.ofW (cc := cX21_compare) (maxL := 8) (ret := (some .int)) (by decide) rfl ?_
  intro p e s m args below meth c s₁ B hml hv
  obtain ⟨rfl, hsz, hP, hK, hD0⟩ := hv
  have hx := B.exec
  have hb := B.bytes
  have hr := B.returns
  have hts := atoms_spec (ws := wsX21_compare) B.pre
  have hown : s.vm.findClass RX21 = some m.cls := findClass_of_methodNamed B.named
  have hlocks := B.notSynchronized
  subst hsz
  have hD := hD0.self (sz := s.heap.size)
  generalize hAe : va_A [] s.heap.size = A at hD ⊢
  have hA : ∀ q : Nat, s.heap.size ≤ q → A q := fun q h => by rw [← hAe]; exact Or.inr h
  have hS : va_S A s.heap s.heap [] := va_S.rf
  have hP : va_P (dC, dI) vwCl [] s.heap := hP
  have hl := lv_entry ([.long p0, .long p1, .long p2, .long p3]) (n := 8) (Nat.le_of_ble_eq_true rfl)
  rw [lg_entry_eq]
  generalize (lg_sl ([.long p0, .long p1, .long p2, .long p3]) ++ List.replicate (8 - (lg_sl ([.long p0, .long p1, .long p2, .long p3])).length) Slot.unset).toArray = ls at hl ⊢
  have hl : lv_has ls 8 [(0, .long p0), (2, .long p1), (4, .long p2), (6, .long p3)] := hl
  refine lv_lload_n hx hb dX21_compare_0 rfl (lv_at hl 0 rfl) ?_
  refine lv_lload hx hb dX21_compare_1 (lv_at hl 2 rfl) ?_
  refine W.lcmp hx hb dX21_compare_3 ?_
  refine lv_if_ge (tgt := 11) hx hb dX21_compare_4 (by decide) (fun c_1 => ?_) (fun c_1 => ?_)
  · skip
    refine lv_lload_n hx hb dX21_compare_11 rfl (lv_at hl 0 rfl) ?_
    refine lv_lload hx hb dX21_compare_12 (lv_at hl 2 rfl) ?_
    refine W.lcmp hx hb dX21_compare_14 ?_
    refine lv_if_le (tgt := 22) hx hb dX21_compare_15 (by decide) (fun c_2 => ?_) (fun c_2 => ?_)
    · skip
      refine lv_lload_n hx hb dX21_compare_22 rfl (lv_at hl 1 rfl) ?_
      refine lv_lload hx hb dX21_compare_23 (lv_at hl 3 rfl) ?_
      refine W.lcmp hx hb dX21_compare_25 ?_
      refine lv_if_ge (tgt := 33) hx hb dX21_compare_26 (by decide) (fun c_3 => ?_) (fun c_3 => ?_)
      · skip
        refine lv_lload_n hx hb dX21_compare_33 rfl (lv_at hl 1 rfl) ?_
        refine lv_lload hx hb dX21_compare_34 (lv_at hl 3 rfl) ?_
        refine W.lcmp hx hb dX21_compare_36 ?_
        refine lv_if_le (tgt := 44) hx hb dX21_compare_37 (by decide) (fun c_4 => ?_) (fun c_4 => ?_)
        · skip
          refine lv_iconst (v := 0) hx hb dX21_compare_44 (by decide) ?_
          have hP9 := hP.sub (ws' := []) [] rfl
          have hD9 := hD.sub (ws' := []) [] (by decide) rfl
          have hK9 := hK.sub (tys' := []) [] rfl
          exact W.iret (v := 0) hx hb hr (fun t ht hW => ⟨⟨0, (), rfl, (by show (_ : Int32) = _; (first | rw [if_pos c_1] | rw [if_neg c_1]); (first | rw [if_pos c_2] | rw [if_neg c_2]); (first | rw [if_pos c_3] | rw [if_neg c_3]); (first | rw [if_pos c_4] | rw [if_neg c_4])), by rw [ht]; exact hP9, va_K.moved hW.alike hK9, hD9⟩, hS.F ht⟩) hS.2.2 dX21_compare_45
        · skip
          refine lv_iconst (v := 1) hx hb dX21_compare_40 (by decide) ?_
          refine lv_goto (tgt := 45) hx hb dX21_compare_41 (by decide) ?_
          have hP9 := hP.sub (ws' := []) [] rfl
          have hD9 := hD.sub (ws' := []) [] (by decide) rfl
          have hK9 := hK.sub (tys' := []) [] rfl
          exact W.iret (v := 1) hx hb hr (fun t ht hW => ⟨⟨1, (), rfl, (by show (_ : Int32) = _; (first | rw [if_pos c_1] | rw [if_neg c_1]); (first | rw [if_pos c_2] | rw [if_neg c_2]); (first | rw [if_pos c_3] | rw [if_neg c_3]); (first | rw [if_pos c_4] | rw [if_neg c_4])), by rw [ht]; exact hP9, va_K.moved hW.alike hK9, hD9⟩, hS.F ht⟩) hS.2.2 dX21_compare_45
      · skip
        refine lv_iconst (v := -1) hx hb dX21_compare_29 (by decide) ?_
        refine lv_goto (tgt := 45) hx hb dX21_compare_30 (by decide) ?_
        have hP9 := hP.sub (ws' := []) [] rfl
        have hD9 := hD.sub (ws' := []) [] (by decide) rfl
        have hK9 := hK.sub (tys' := []) [] rfl
        exact W.iret (v := -1) hx hb hr (fun t ht hW => ⟨⟨-1, (), rfl, (by show (_ : Int32) = _; (first | rw [if_pos c_1] | rw [if_neg c_1]); (first | rw [if_pos c_2] | rw [if_neg c_2]); (first | rw [if_pos c_3] | rw [if_neg c_3])), by rw [ht]; exact hP9, va_K.moved hW.alike hK9, hD9⟩, hS.F ht⟩) hS.2.2 dX21_compare_45
    · skip
      refine lv_iconst (v := 1) hx hb dX21_compare_18 (by decide) ?_
      refine lv_goto (tgt := 45) hx hb dX21_compare_19 (by decide) ?_
      have hP9 := hP.sub (ws' := []) [] rfl
      have hD9 := hD.sub (ws' := []) [] (by decide) rfl
      have hK9 := hK.sub (tys' := []) [] rfl
      exact W.iret (v := 1) hx hb hr (fun t ht hW => ⟨⟨1, (), rfl, (by show (_ : Int32) = _; (first | rw [if_pos c_1] | rw [if_neg c_1]); (first | rw [if_pos c_2] | rw [if_neg c_2])), by rw [ht]; exact hP9, va_K.moved hW.alike hK9, hD9⟩, hS.F ht⟩) hS.2.2 dX21_compare_45
  · skip
    refine lv_iconst (v := -1) hx hb dX21_compare_7 (by decide) ?_
    refine lv_goto (tgt := 45) hx hb dX21_compare_8 (by decide) ?_
    have hP9 := hP.sub (ws' := []) [] rfl
    have hD9 := hD.sub (ws' := []) [] (by decide) rfl
    have hK9 := hK.sub (tys' := []) [] rfl
    exact W.iret (v := -1) hx hb hr (fun t ht hW => ⟨⟨-1, (), rfl, (by show (_ : Int32) = _; (first | rw [if_pos c_1] | rw [if_neg c_1])), by rw [ht]; exact hP9, va_K.moved hW.alike hK9, hD9⟩, hS.F ht⟩) hS.2.2 dX21_compare_45
set_option maxHeartbeats 4000000 in
set_option maxRecDepth 100000 in
/-- the reference: covers -/
theorem c_X21_covers (l : Launch) (dC : Nat → ClassId) (dI : Nat → Nat → Nat) (sz : Nat) (p0 p1 : Int32) : Met l yX21_covers wsX21_covers ({ frames := 0, cells := 0, slots := 0, locals := 0 }) (va_Pc [.int p0, .int p1] (fun U => U.heap.size = sz ∧ va_P (dC, dI) vwCl [] U.heap ∧ va_K (dC, dI) vwCl [] U ∧ va_D (fun _ => True) [])) (va_Qi (fun (r : Int32) (_ : Unit) => r = (if p0 = p1 then 1 else if p0 = 5 then 1 else if p1 = 1 then (if 1 < p0 then 1 else (if p0 = 4 then (if 4 ≤ p1 then 0 else 1) else 0)) else (if p0 = 4 then (if 4 ≤ p1 then 0 else 1) else 0))) (fun (_ : Unit) (t : State) => va_P (dC, dI) vwCl [] t.heap ∧ va_K (dC, dI) vwCl [] t ∧ va_D (va_A [] sz) []) (va_A [] sz)) 0 0 (va_A [] sz) := by
  refine Met.ofW (cc := cX21_covers) (maxL := 2) (ret := (some .boolean)) (by decide) rfl ?_
  intro p e s m args below meth c s₁ B hml hv
  obtain ⟨rfl, hsz, hP, hK, hD0⟩ := hv
  have hx := B.exec
  have hb := B.bytes
  have hr := B.returns
  have hts := atoms_spec (ws := wsX21_covers) B.pre
  have hown : s.vm.findClass RX21 = some m.cls := findClass_of_methodNamed B.named
  have hlocks := B.notSynchronized
  subst hsz
  have hD := hD0.self (sz := s.heap.size)
  generalize hAe : va_A [] s.heap.size = A at hD ⊢
  have hA : ∀ q : Nat, s.heap.size ≤ q → A q := fun q h => by rw [← hAe]; exact Or.inr h
  have hS : va_S A s.heap s.heap [] := va_S.rf
  have hP : va_P (dC, dI) vwCl [] s.heap := hP
  have hl := lv_entry ([.int p0, .int p1]) (n := 2) (Nat.le_of_ble_eq_true rfl)
  rw [lg_entry_eq]
  generalize (lg_sl ([.int p0, .int p1]) ++ List.replicate (2 - (lg_sl ([.int p0, .int p1])).length) Slot.unset).toArray = ls at hl ⊢
  have hl : lv_has ls 2 [(0, .int p0), (1, .int p1)] := hl
  refine lv_iload_n hx hb dX21_covers_0 rfl (lv_at hl 0 rfl) ?_
  refine lv_iload_n hx hb dX21_covers_1 rfl (lv_at hl 1 rfl) ?_
  refine lv_icmp_eq (tgt := 30) hx hb dX21_covers_2 (by decide) (fun c_1 => ?_) (fun c_1 => ?_)
  · skip
    refine lv_iconst (v := 1) hx hb dX21_covers_30 (by decide) ?_
    refine lv_goto (tgt := 35) hx hb dX21_covers_31 (by decide) ?_
    have hP9 := hP.sub (ws' := []) [] rfl
    have hD9 := hD.sub (ws' := []) [] (by decide) rfl
    have hK9 := hK.sub (tys' := []) [] rfl
    exact W.zret (v := 1) hx hb hr rfl (fun t ht hW => ⟨⟨1, (), rfl, (by show (_ : Int32) = _; (first | rw [if_pos c_1] | rw [if_neg c_1])), by rw [ht]; exact hP9, va_K.moved hW.alike hK9, hD9⟩, hS.F ht⟩) hS.2.2 dX21_covers_35
  · skip
    refine lv_iload_n hx hb dX21_covers_5 rfl (lv_at hl 0 rfl) ?_
    refine lv_iconst (v := 5) hx hb dX21_covers_6 (by decide) ?_
    refine lv_icmp_eq (tgt := 30) hx hb dX21_covers_7 (by decide) (fun c_2 => ?_) (fun c_2 => ?_)
    · skip
      refine lv_iconst (v := 1) hx hb dX21_covers_30 (by decide) ?_
      refine lv_goto (tgt := 35) hx hb dX21_covers_31 (by decide) ?_
      have hP9 := hP.sub (ws' := []) [] rfl
      have hD9 := hD.sub (ws' := []) [] (by decide) rfl
      have hK9 := hK.sub (tys' := []) [] rfl
      exact W.zret (v := 1) hx hb hr rfl (fun t ht hW => ⟨⟨1, (), rfl, (by show (_ : Int32) = _; (first | rw [if_pos c_1] | rw [if_neg c_1]); (first | rw [if_pos c_2] | rw [if_neg c_2])), by rw [ht]; exact hP9, va_K.moved hW.alike hK9, hD9⟩, hS.F ht⟩) hS.2.2 dX21_covers_35
    · skip
      refine lv_iload_n hx hb dX21_covers_10 rfl (lv_at hl 1 rfl) ?_
      refine lv_iconst (v := 1) hx hb dX21_covers_11 (by decide) ?_
      refine lv_icmp_ne (tgt := 20) hx hb dX21_covers_12 (by decide) (fun c_3 => ?_) (fun c_3 => ?_)
      · skip
        refine lv_iload_n hx hb dX21_covers_20 rfl (lv_at hl 0 rfl) ?_
        refine lv_iconst (v := 4) hx hb dX21_covers_21 (by decide) ?_
        refine lv_icmp_ne (tgt := 34) hx hb dX21_covers_22 (by decide) (fun c_4 => ?_) (fun c_4 => ?_)
        · skip
          refine lv_iconst (v := 0) hx hb dX21_covers_34 (by decide) ?_
          have hP9 := hP.sub (ws' := []) [] rfl
          have hD9 := hD.sub (ws' := []) [] (by decide) rfl
          have hK9 := hK.sub (tys' := []) [] rfl
          exact W.zret (v := 0) hx hb hr rfl (fun t ht hW => ⟨⟨0, (), rfl, (by show (_ : Int32) = _; (first | rw [if_pos c_1] | rw [if_neg c_1]); (first | rw [if_pos c_2] | rw [if_neg c_2]); (first | rw [if_pos c_3] | rw [if_neg c_3]); (first | rw [if_pos c_4] | rw [if_neg c_4])), by rw [ht]; exact hP9, va_K.moved hW.alike hK9, hD9⟩, hS.F ht⟩) hS.2.2 dX21_covers_35
        · skip
          refine lv_iload_n hx hb dX21_covers_25 rfl (lv_at hl 1 rfl) ?_
          refine lv_iconst (v := 4) hx hb dX21_covers_26 (by decide) ?_
          refine lv_icmp_ge (tgt := 34) hx hb dX21_covers_27 (by decide) (fun c_5 => ?_) (fun c_5 => ?_)
          · skip
            refine lv_iconst (v := 0) hx hb dX21_covers_34 (by decide) ?_
            have hP9 := hP.sub (ws' := []) [] rfl
            have hD9 := hD.sub (ws' := []) [] (by decide) rfl
            have hK9 := hK.sub (tys' := []) [] rfl
            exact W.zret (v := 0) hx hb hr rfl (fun t ht hW => ⟨⟨0, (), rfl, (by show (_ : Int32) = _; (first | rw [if_pos c_1] | rw [if_neg c_1]); (first | rw [if_pos c_2] | rw [if_neg c_2]); (first | rw [if_pos c_3] | rw [if_neg c_3]); (first | rw [if_pos c_4] | rw [if_neg c_4]); (first | rw [if_pos c_5] | rw [if_neg c_5])), by rw [ht]; exact hP9, va_K.moved hW.alike hK9, hD9⟩, hS.F ht⟩) hS.2.2 dX21_covers_35
          · skip
            refine lv_iconst (v := 1) hx hb dX21_covers_30 (by decide) ?_
            refine lv_goto (tgt := 35) hx hb dX21_covers_31 (by decide) ?_
            have hP9 := hP.sub (ws' := []) [] rfl
            have hD9 := hD.sub (ws' := []) [] (by decide) rfl
            have hK9 := hK.sub (tys' := []) [] rfl
            exact W.zret (v := 1) hx hb hr rfl (fun t ht hW => ⟨⟨1, (), rfl, (by show (_ : Int32) = _; (first | rw [if_pos c_1] | rw [if_neg c_1]); (first | rw [if_pos c_2] | rw [if_neg c_2]); (first | rw [if_pos c_3] | rw [if_neg c_3]); (first | rw [if_pos c_4] | rw [if_neg c_4]); (first | rw [if_pos c_5] | rw [if_neg c_5])), by rw [ht]; exact hP9, va_K.moved hW.alike hK9, hD9⟩, hS.F ht⟩) hS.2.2 dX21_covers_35
      · skip
        refine lv_iload_n hx hb dX21_covers_15 rfl (lv_at hl 0 rfl) ?_
        refine lv_iconst (v := 1) hx hb dX21_covers_16 (by decide) ?_
        refine lv_icmp_gt (tgt := 30) hx hb dX21_covers_17 (by decide) (fun c_6 => ?_) (fun c_6 => ?_)
        · skip
          refine lv_iconst (v := 1) hx hb dX21_covers_30 (by decide) ?_
          refine lv_goto (tgt := 35) hx hb dX21_covers_31 (by decide) ?_
          have hP9 := hP.sub (ws' := []) [] rfl
          have hD9 := hD.sub (ws' := []) [] (by decide) rfl
          have hK9 := hK.sub (tys' := []) [] rfl
          exact W.zret (v := 1) hx hb hr rfl (fun t ht hW => ⟨⟨1, (), rfl, (by show (_ : Int32) = _; (first | rw [if_pos c_1] | rw [if_neg c_1]); (first | rw [if_pos c_2] | rw [if_neg c_2]); (first | rw [if_pos c_3] | rw [if_neg c_3]); (first | rw [if_pos c_6] | rw [if_neg c_6])), by rw [ht]; exact hP9, va_K.moved hW.alike hK9, hD9⟩, hS.F ht⟩) hS.2.2 dX21_covers_35
        · skip
          refine lv_iload_n hx hb dX21_covers_20 rfl (lv_at hl 0 rfl) ?_
          refine lv_iconst (v := 4) hx hb dX21_covers_21 (by decide) ?_
          refine lv_icmp_ne (tgt := 34) hx hb dX21_covers_22 (by decide) (fun c_7 => ?_) (fun c_7 => ?_)
          · skip
            refine lv_iconst (v := 0) hx hb dX21_covers_34 (by decide) ?_
            have hP9 := hP.sub (ws' := []) [] rfl
            have hD9 := hD.sub (ws' := []) [] (by decide) rfl
            have hK9 := hK.sub (tys' := []) [] rfl
            exact W.zret (v := 0) hx hb hr rfl (fun t ht hW => ⟨⟨0, (), rfl, (by show (_ : Int32) = _; (first | rw [if_pos c_1] | rw [if_neg c_1]); (first | rw [if_pos c_2] | rw [if_neg c_2]); (first | rw [if_pos c_3] | rw [if_neg c_3]); (first | rw [if_pos c_6] | rw [if_neg c_6]); (first | rw [if_pos c_7] | rw [if_neg c_7])), by rw [ht]; exact hP9, va_K.moved hW.alike hK9, hD9⟩, hS.F ht⟩) hS.2.2 dX21_covers_35
          · skip
            refine lv_iload_n hx hb dX21_covers_25 rfl (lv_at hl 1 rfl) ?_
            refine lv_iconst (v := 4) hx hb dX21_covers_26 (by decide) ?_
            refine lv_icmp_ge (tgt := 34) hx hb dX21_covers_27 (by decide) (fun c_8 => ?_) (fun c_8 => ?_)
            · skip
              refine lv_iconst (v := 0) hx hb dX21_covers_34 (by decide) ?_
              have hP9 := hP.sub (ws' := []) [] rfl
              have hD9 := hD.sub (ws' := []) [] (by decide) rfl
              have hK9 := hK.sub (tys' := []) [] rfl
              exact W.zret (v := 0) hx hb hr rfl (fun t ht hW => ⟨⟨0, (), rfl, (by show (_ : Int32) = _; (first | rw [if_pos c_1] | rw [if_neg c_1]); (first | rw [if_pos c_2] | rw [if_neg c_2]); (first | rw [if_pos c_3] | rw [if_neg c_3]); (first | rw [if_pos c_6] | rw [if_neg c_6]); (first | rw [if_pos c_7] | rw [if_neg c_7]); (first | rw [if_pos c_8] | rw [if_neg c_8])), by rw [ht]; exact hP9, va_K.moved hW.alike hK9, hD9⟩, hS.F ht⟩) hS.2.2 dX21_covers_35
            · skip
              refine lv_iconst (v := 1) hx hb dX21_covers_30 (by decide) ?_
              refine lv_goto (tgt := 35) hx hb dX21_covers_31 (by decide) ?_
              have hP9 := hP.sub (ws' := []) [] rfl
              have hD9 := hD.sub (ws' := []) [] (by decide) rfl
              have hK9 := hK.sub (tys' := []) [] rfl
              exact W.zret (v := 1) hx hb hr rfl (fun t ht hW => ⟨⟨1, (), rfl, (by show (_ : Int32) = _; (first | rw [if_pos c_1] | rw [if_neg c_1]); (first | rw [if_pos c_2] | rw [if_neg c_2]); (first | rw [if_pos c_3] | rw [if_neg c_3]); (first | rw [if_pos c_6] | rw [if_neg c_6]); (first | rw [if_pos c_7] | rw [if_neg c_7]); (first | rw [if_pos c_8] | rw [if_neg c_8])), by rw [ht]; exact hP9, va_K.moved hW.alike hK9, hD9⟩, hS.F ht⟩) hS.2.2 dX21_covers_35
set_option maxHeartbeats 4000000 in
set_option maxRecDepth 100000 in
/-- the reference: give -/
theorem c_X21_give (l : Launch) (dC : Nat → ClassId) (dI : Nat → Nat → Nat) (sz : Nat) (m0 m_textSizes m_texts m_outcomes m_whyKind m_whyPlace m_answerRows m_answerColumns m_answerKinds m_answerHigh m_answerLow m_planSteps m_plans m_statements m_waits m_transactions m_begun m_begins m_tableNames m_columnCounts m_columnNames m_columnTypes m_mustBe m_rowCounts m_kinds m_highs m_lows m_indexNames m_indexTables m_indexColumns m_recordKinds m_recordTransactions m_recordTables m_recordUndoes m_isUndone m_recordValues m_recordHigh m_recordLow m_locks m_going m_keywords m_tokenKinds m_tokenPlaces m_tokenValues m_tokenLow m_current m_passed m_passedSize m_unitOf m_unitFirst m_unit m_keyKinds m_keyHigh m_keyLow m_sorted m_newKinds m_newHigh m_newLow m_marked m_oneKind m_oneHigh m_oneLow m_unitAt m_listKinds m_listHigh m_listLow m_planAtHand m_ofItem : Nat) (m_thrown m_nextTransaction m_tables m_indexes m_last m_durable m_first m_isUp m_isLazy m_redone m_redoEnd m_goingSize m_tokens m_p m_inOn m_level m_faultKind m_faultPlace m_wrongs m_rKind m_over m_found m_some m_someNull : Int32) (m_rHigh m_rLow m_looked : Int64) (m_made : Value) (p0 : Int32) (p1 p2 : Int64) : Met l yX21_give wsX21_give ({ frames := 0, cells := 0, slots := 0, locals := 0 }) (va_Pc [.ref m0, .int p0, .long p1, .long p2] (fun U => U.heap.size = sz ∧ va_P (dC, dI) vwCl [(m0, .inr (26, [.int m_thrown, .ref m_textSizes, .ref m_texts, .ref m_outcomes, .ref m_whyKind, .ref m_whyPlace, .ref m_answerRows, .ref m_answerColumns, .ref m_answerKinds, .ref m_answerHigh, .ref m_answerLow, .ref m_planSteps, .ref m_plans, .ref m_statements, .ref m_waits, .ref m_transactions, .ref m_begun, .ref m_begins, .int m_nextTransaction, .int m_tables, .ref m_tableNames, .ref m_columnCounts, .ref m_columnNames, .ref m_columnTypes, .ref m_mustBe, .ref m_rowCounts, .ref m_kinds, .ref m_highs, .ref m_lows, .int m_indexes, .ref m_indexNames, .ref m_indexTables, .ref m_indexColumns, .int m_last, .int m_durable, .int m_first, .ref m_recordKinds, .ref m_recordTransactions, .ref m_recordTables, .ref m_recordUndoes, .ref m_isUndone, .ref m_recordValues, .ref m_recordHigh, .ref m_recordLow, .int m_isUp, .int m_isLazy, .int m_redone, .int m_redoEnd, .ref m_locks, .ref m_going, .int m_goingSize, .ref m_keywords, .int m_tokens, .ref m_tokenKinds, .ref m_tokenPlaces, .ref m_tokenValues, .ref m_tokenLow, .int m_p, .int m_inOn, .int m_level, m_made, .int m_faultKind, .int m_faultPlace, .int m_wrongs, .int m_rKind, .long m_rHigh, .long m_rLow, .int m_over, .long m_looked, .ref m_current, .ref m_passed, .ref m_passedSize, .ref m_unitOf, .ref m_unitFirst, .ref m_unit, .ref m_keyKinds, .ref m_keyHigh, .ref m_keyLow, .ref m_sorted, .int m_found, .int m_some, .int m_someNull, .ref m_newKinds, .ref m_newHigh, .ref m_newLow, .ref m_marked, .ref m_oneKind, .ref m_oneHigh, .ref m_oneLow, .ref m_unitAt, .ref m_listKinds, .ref m_listHigh, .ref m_listLow, .ref m_planAtHand, .ref m_ofItem]))] U.heap ∧ va_K (dC, dI) vwCl [] U ∧ va_D (fun _ => True) [(m0, .inr (26, [.int m_thrown, .ref m_textSizes, .ref m_texts, .ref m_outcomes, .ref m_whyKind, .ref m_whyPlace, .ref m_answerRows, .ref m_answerColumns, .ref m_answerKinds, .ref m_answerHigh, .ref m_answerLow, .ref m_planSteps, .ref m_plans, .ref m_statements, .ref m_waits, .ref m_transactions, .ref m_begun, .ref m_begins, .int m_nextTransaction, .int m_tables, .ref m_tableNames, .ref m_columnCounts, .ref m_columnNames, .ref m_columnTypes, .ref m_mustBe, .ref m_rowCounts, .ref m_kinds, .ref m_highs, .ref m_lows, .int m_indexes, .ref m_indexNames, .ref m_indexTables, .ref m_indexColumns, .int m_last, .int m_durable, .int m_first, .ref m_recordKinds, .ref m_recordTransactions, .ref m_recordTables, .ref m_recordUndoes, .ref m_isUndone, .ref m_recordValues, .ref m_recordHigh, .ref m_recordLow, .int m_isUp, .int m_isLazy, .int m_redone, .int m_redoEnd, .ref m_locks, .ref m_going, .int m_goingSize, .ref m_keywords, .int m_tokens, .ref m_tokenKinds, .ref m_tokenPlaces, .ref m_tokenValues, .ref m_tokenLow, .int m_p, .int m_inOn, .int m_level, m_made, .int m_faultKind, .int m_faultPlace, .int m_wrongs, .int m_rKind, .long m_rHigh, .long m_rLow, .int m_over, .long m_looked, .ref m_current, .ref m_passed, .ref m_passedSize, .ref m_unitOf, .ref m_unitFirst, .ref m_unit, .ref m_keyKinds, .ref m_keyHigh, .ref m_keyLow, .ref m_sorted, .int m_found, .int m_some, .int m_someNull, .ref m_newKinds, .ref m_newHigh, .ref m_newLow, .ref m_marked, .ref m_oneKind, .ref m_oneHigh, .ref m_oneLow, .ref m_unitAt, .ref m_listKinds, .ref m_listHigh, .ref m_listLow, .ref m_planAtHand, .ref m_ofItem]))])) (va_Qv (fun (_ : Unit) => True) (fun (_ : Unit) (t : State) => va_P (dC, dI) vwCl [(m0, .inr (26, [.int m_thrown, .ref m_textSizes, .ref m_texts, .ref m_outcomes, .ref m_whyKind, .ref m_whyPlace, .ref m_answerRows, .ref m_answerColumns, .ref m_answerKinds, .ref m_answerHigh, .ref m_answerLow, .ref m_planSteps, .ref m_plans, .ref m_statements, .ref m_waits, .ref m_transactions, .ref m_begun, .ref m_begins, .int m_nextTransaction, .int m_tables, .ref m_tableNames, .ref m_columnCounts, .ref m_columnNames, .ref m_columnTypes, .ref m_mustBe, .ref m_rowCounts, .ref m_kinds, .ref m_highs, .ref m_lows, .int m_indexes, .ref m_indexNames, .ref m_indexTables, .ref m_indexColumns, .int m_last, .int m_durable, .int m_first, .ref m_recordKinds, .ref m_recordTransactions, .ref m_recordTables, .ref m_recordUndoes, .ref m_isUndone, .ref m_recordValues, .ref m_recordHigh, .ref m_recordLow, .int m_isUp, .int m_isLazy, .int m_redone, .int m_redoEnd, .ref m_locks, .ref m_going, .int m_goingSize, .ref m_keywords, .int m_tokens, .ref m_tokenKinds, .ref m_tokenPlaces, .ref m_tokenValues, .ref m_tokenLow, .int m_p, .int m_inOn, .int m_level, m_made, .int m_faultKind, .int m_faultPlace, .int m_wrongs, .int p0, .long p1, .long p2, .int m_over, .long m_looked, .ref m_current, .ref m_passed, .ref m_passedSize, .ref m_unitOf, .ref m_unitFirst, .ref m_unit, .ref m_keyKinds, .ref m_keyHigh, .ref m_keyLow, .ref m_sorted, .int m_found, .int m_some, .int m_someNull, .ref m_newKinds, .ref m_newHigh, .ref m_newLow, .ref m_marked, .ref m_oneKind, .ref m_oneHigh, .ref m_oneLow, .ref m_unitAt, .ref m_listKinds, .ref m_listHigh, .ref m_listLow, .ref m_planAtHand, .ref m_ofItem]))] t.heap ∧ va_K (dC, dI) vwCl [] t ∧ va_D (va_A [(m0, .inr (26, [.int m_thrown, .ref m_textSizes, .ref m_texts, .ref m_outcomes, .ref m_whyKind, .ref m_whyPlace, .ref m_answerRows, .ref m_answerColumns, .ref m_answerKinds, .ref m_answerHigh, .ref m_answerLow, .ref m_planSteps, .ref m_plans, .ref m_statements, .ref m_waits, .ref m_transactions, .ref m_begun, .ref m_begins, .int m_nextTransaction, .int m_tables, .ref m_tableNames, .ref m_columnCounts, .ref m_columnNames, .ref m_columnTypes, .ref m_mustBe, .ref m_rowCounts, .ref m_kinds, .ref m_highs, .ref m_lows, .int m_indexes, .ref m_indexNames, .ref m_indexTables, .ref m_indexColumns, .int m_last, .int m_durable, .int m_first, .ref m_recordKinds, .ref m_recordTransactions, .ref m_recordTables, .ref m_recordUndoes, .ref m_isUndone, .ref m_recordValues, .ref m_recordHigh, .ref m_recordLow, .int m_isUp, .int m_isLazy, .int m_redone, .int m_redoEnd, .ref m_locks, .ref m_going, .int m_goingSize, .ref m_keywords, .int m_tokens, .ref m_tokenKinds, .ref m_tokenPlaces, .ref m_tokenValues, .ref m_tokenLow, .int m_p, .int m_inOn, .int m_level, m_made, .int m_faultKind, .int m_faultPlace, .int m_wrongs, .int m_rKind, .long m_rHigh, .long m_rLow, .int m_over, .long m_looked, .ref m_current, .ref m_passed, .ref m_passedSize, .ref m_unitOf, .ref m_unitFirst, .ref m_unit, .ref m_keyKinds, .ref m_keyHigh, .ref m_keyLow, .ref m_sorted, .int m_found, .int m_some, .int m_someNull, .ref m_newKinds, .ref m_newHigh, .ref m_newLow, .ref m_marked, .ref m_oneKind, .ref m_oneHigh, .ref m_oneLow, .ref m_unitAt, .ref m_listKinds, .ref m_listHigh, .ref m_listLow, .ref m_planAtHand, .ref m_ofItem]))] sz) [(m0, .inr (26, [.int m_thrown, .ref m_textSizes, .ref m_texts, .ref m_outcomes, .ref m_whyKind, .ref m_whyPlace, .ref m_answerRows, .ref m_answerColumns, .ref m_answerKinds, .ref m_answerHigh, .ref m_answerLow, .ref m_planSteps, .ref m_plans, .ref m_statements, .ref m_waits, .ref m_transactions, .ref m_begun, .ref m_begins, .int m_nextTransaction, .int m_tables, .ref m_tableNames, .ref m_columnCounts, .ref m_columnNames, .ref m_columnTypes, .ref m_mustBe, .ref m_rowCounts, .ref m_kinds, .ref m_highs, .ref m_lows, .int m_indexes, .ref m_indexNames, .ref m_indexTables, .ref m_indexColumns, .int m_last, .int m_durable, .int m_first, .ref m_recordKinds, .ref m_recordTransactions, .ref m_recordTables, .ref m_recordUndoes, .ref m_isUndone, .ref m_recordValues, .ref m_recordHigh, .ref m_recordLow, .int m_isUp, .int m_isLazy, .int m_redone, .int m_redoEnd, .ref m_locks, .ref m_going, .int m_goingSize, .ref m_keywords, .int m_tokens, .ref m_tokenKinds, .ref m_tokenPlaces, .ref m_tokenValues, .ref m_tokenLow, .int m_p, .int m_inOn, .int m_level, m_made, .int m_faultKind, .int m_faultPlace, .int m_wrongs, .int p0, .long p1, .long p2, .int m_over, .long m_looked, .ref m_current, .ref m_passed, .ref m_passedSize, .ref m_unitOf, .ref m_unitFirst, .ref m_unit, .ref m_keyKinds, .ref m_keyHigh, .ref m_keyLow, .ref m_sorted, .int m_found, .int m_some, .int m_someNull, .ref m_newKinds, .ref m_newHigh, .ref m_newLow, .ref m_marked, .ref m_oneKind, .ref m_oneHigh, .ref m_oneLow, .ref m_unitAt, .ref m_listKinds, .ref m_listHigh, .ref m_listLow, .ref m_planAtHand, .ref m_ofItem]))]) (va_A [(m0, .inr (26, [.int m_thrown, .ref m_textSizes, .ref m_texts, .ref m_outcomes, .ref m_whyKind, .ref m_whyPlace, .ref m_answerRows, .ref m_answerColumns, .ref m_answerKinds, .ref m_answerHigh, .ref m_answerLow, .ref m_planSteps, .ref m_plans, .ref m_statements, .ref m_waits, .ref m_transactions, .ref m_begun, .ref m_begins, .int m_nextTransaction, .int m_tables, .ref m_tableNames, .ref m_columnCounts, .ref m_columnNames, .ref m_columnTypes, .ref m_mustBe, .ref m_rowCounts, .ref m_kinds, .ref m_highs, .ref m_lows, .int m_indexes, .ref m_indexNames, .ref m_indexTables, .ref m_indexColumns, .int m_last, .int m_durable, .int m_first, .ref m_recordKinds, .ref m_recordTransactions, .ref m_recordTables, .ref m_recordUndoes, .ref m_isUndone, .ref m_recordValues, .ref m_recordHigh, .ref m_recordLow, .int m_isUp, .int m_isLazy, .int m_redone, .int m_redoEnd, .ref m_locks, .ref m_going, .int m_goingSize, .ref m_keywords, .int m_tokens, .ref m_tokenKinds, .ref m_tokenPlaces, .ref m_tokenValues, .ref m_tokenLow, .int m_p, .int m_inOn, .int m_level, m_made, .int m_faultKind, .int m_faultPlace, .int m_wrongs, .int m_rKind, .long m_rHigh, .long m_rLow, .int m_over, .long m_looked, .ref m_current, .ref m_passed, .ref m_passedSize, .ref m_unitOf, .ref m_unitFirst, .ref m_unit, .ref m_keyKinds, .ref m_keyHigh, .ref m_keyLow, .ref m_sorted, .int m_found, .int m_some, .int m_someNull, .ref m_newKinds, .ref m_newHigh, .ref m_newLow, .ref m_marked, .ref m_oneKind, .ref m_oneHigh, .ref m_oneLow, .ref m_unitAt, .ref m_listKinds, .ref m_listHigh, .ref m_listLow, .ref m_planAtHand, .ref m_ofItem]))] sz)) 0 0 (va_A [(m0, .inr (26, [.int m_thrown, .ref m_textSizes, .ref m_texts, .ref m_outcomes, .ref m_whyKind, .ref m_whyPlace, .ref m_answerRows, .ref m_answerColumns, .ref m_answerKinds, .ref m_answerHigh, .ref m_answerLow, .ref m_planSteps, .ref m_plans, .ref m_statements, .ref m_waits, .ref m_transactions, .ref m_begun, .ref m_begins, .int m_nextTransaction, .int m_tables, .ref m_tableNames, .ref m_columnCounts, .ref m_columnNames, .ref m_columnTypes, .ref m_mustBe, .ref m_rowCounts, .ref m_kinds, .ref m_highs, .ref m_lows, .int m_indexes, .ref m_indexNames, .ref m_indexTables, .ref m_indexColumns, .int m_last, .int m_durable, .int m_first, .ref m_recordKinds, .ref m_recordTransactions, .ref m_recordTables, .ref m_recordUndoes, .ref m_isUndone, .ref m_recordValues, .ref m_recordHigh, .ref m_recordLow, .int m_isUp, .int m_isLazy, .int m_redone, .int m_redoEnd, .ref m_locks, .ref m_going, .int m_goingSize, .ref m_keywords, .int m_tokens, .ref m_tokenKinds, .ref m_tokenPlaces, .ref m_tokenValues, .ref m_tokenLow, .int m_p, .int m_inOn, .int m_level, m_made, .int m_faultKind, .int m_faultPlace, .int m_wrongs, .int m_rKind, .long m_rHigh, .long m_rLow, .int m_over, .long m_looked, .ref m_current, .ref m_passed, .ref m_passedSize, .ref m_unitOf, .ref m_unitFirst, .ref m_unit, .ref m_keyKinds, .ref m_keyHigh, .ref m_keyLow, .ref m_sorted, .int m_found, .int m_some, .int m_someNull, .ref m_newKinds, .ref m_newHigh, .ref m_newLow, .ref m_marked, .ref m_oneKind, .ref m_oneHigh, .ref m_oneLow, .ref m_unitAt, .ref m_listKinds, .ref m_listHigh, .ref m_listLow, .ref m_planAtHand, .ref m_ofItem]))] sz) := by
  refine Met.ofW (cc := cX21_give) (maxL := 6) (ret := none) (by decide) rfl ?_
  intro p e s m args below meth c s₁ B hml hv
  obtain ⟨rfl, hsz, hP, hK, hD0⟩ := hv
  have hx := B.exec
  have hb := B.bytes
  have hr := B.returns
  have hts := atoms_spec (ws := wsX21_give) B.pre
  have hown : s.vm.findClass RX21 = some m.cls := findClass_of_methodNamed B.named
  have hlocks := B.notSynchronized
  subst hsz
  have hD := hD0.self (sz := s.heap.size)
  generalize hAe : va_A [(m0, .inr (26, [.int m_thrown, .ref m_textSizes, .ref m_texts, .ref m_outcomes, .ref m_whyKind, .ref m_whyPlace, .ref m_answerRows, .ref m_answerColumns, .ref m_answerKinds, .ref m_answerHigh, .ref m_answerLow, .ref m_planSteps, .ref m_plans, .ref m_statements, .ref m_waits, .ref m_transactions, .ref m_begun, .ref m_begins, .int m_nextTransaction, .int m_tables, .ref m_tableNames, .ref m_columnCounts, .ref m_columnNames, .ref m_columnTypes, .ref m_mustBe, .ref m_rowCounts, .ref m_kinds, .ref m_highs, .ref m_lows, .int m_indexes, .ref m_indexNames, .ref m_indexTables, .ref m_indexColumns, .int m_last, .int m_durable, .int m_first, .ref m_recordKinds, .ref m_recordTransactions, .ref m_recordTables, .ref m_recordUndoes, .ref m_isUndone, .ref m_recordValues, .ref m_recordHigh, .ref m_recordLow, .int m_isUp, .int m_isLazy, .int m_redone, .int m_redoEnd, .ref m_locks, .ref m_going, .int m_goingSize, .ref m_keywords, .int m_tokens, .ref m_tokenKinds, .ref m_tokenPlaces, .ref m_tokenValues, .ref m_tokenLow, .int m_p, .int m_inOn, .int m_level, m_made, .int m_faultKind, .int m_faultPlace, .int m_wrongs, .int m_rKind, .long m_rHigh, .long m_rLow, .int m_over, .long m_looked, .ref m_current, .ref m_passed, .ref m_passedSize, .ref m_unitOf, .ref m_unitFirst, .ref m_unit, .ref m_keyKinds, .ref m_keyHigh, .ref m_keyLow, .ref m_sorted, .int m_found, .int m_some, .int m_someNull, .ref m_newKinds, .ref m_newHigh, .ref m_newLow, .ref m_marked, .ref m_oneKind, .ref m_oneHigh, .ref m_oneLow, .ref m_unitAt, .ref m_listKinds, .ref m_listHigh, .ref m_listLow, .ref m_planAtHand, .ref m_ofItem]))] s.heap.size = A at hD ⊢
  have hA : ∀ q : Nat, s.heap.size ≤ q → A q := fun q h => by rw [← hAe]; exact Or.inr h
  have hS : va_S A s.heap s.heap [] := va_S.rf
  have hP : va_P (dC, dI) vwCl [(m0, .inr (26, [.int m_thrown, .ref m_textSizes, .ref m_texts, .ref m_outcomes, .ref m_whyKind, .ref m_whyPlace, .ref m_answerRows, .ref m_answerColumns, .ref m_answerKinds, .ref m_answerHigh, .ref m_answerLow, .ref m_planSteps, .ref m_plans, .ref m_statements, .ref m_waits, .ref m_transactions, .ref m_begun, .ref m_begins, .int m_nextTransaction, .int m_tables, .ref m_tableNames, .ref m_columnCounts, .ref m_columnNames, .ref m_columnTypes, .ref m_mustBe, .ref m_rowCounts, .ref m_kinds, .ref m_highs, .ref m_lows, .int m_indexes, .ref m_indexNames, .ref m_indexTables, .ref m_indexColumns, .int m_last, .int m_durable, .int m_first, .ref m_recordKinds, .ref m_recordTransactions, .ref m_recordTables, .ref m_recordUndoes, .ref m_isUndone, .ref m_recordValues, .ref m_recordHigh, .ref m_recordLow, .int m_isUp, .int m_isLazy, .int m_redone, .int m_redoEnd, .ref m_locks, .ref m_going, .int m_goingSize, .ref m_keywords, .int m_tokens, .ref m_tokenKinds, .ref m_tokenPlaces, .ref m_tokenValues, .ref m_tokenLow, .int m_p, .int m_inOn, .int m_level, m_made, .int m_faultKind, .int m_faultPlace, .int m_wrongs, .int m_rKind, .long m_rHigh, .long m_rLow, .int m_over, .long m_looked, .ref m_current, .ref m_passed, .ref m_passedSize, .ref m_unitOf, .ref m_unitFirst, .ref m_unit, .ref m_keyKinds, .ref m_keyHigh, .ref m_keyLow, .ref m_sorted, .int m_found, .int m_some, .int m_someNull, .ref m_newKinds, .ref m_newHigh, .ref m_newLow, .ref m_marked, .ref m_oneKind, .ref m_oneHigh, .ref m_oneLow, .ref m_unitAt, .ref m_listKinds, .ref m_listHigh, .ref m_listLow, .ref m_planAtHand, .ref m_ofItem]))] s.heap := hP
  have hl := lv_entry ([.ref m0, .int p0, .long p1, .long p2]) (n := 6) (Nat.le_of_ble_eq_true rfl)
  rw [lg_entry_eq]
  generalize (lg_sl ([.ref m0, .int p0, .long p1, .long p2]) ++ List.replicate (6 - (lg_sl ([.ref m0, .int p0, .long p1, .long p2])).length) Slot.unset).toArray = ls at hl ⊢
  have hl : lv_has ls 6 [(0, .ref m0), (1, .int p0), (2, .long p1), (4, .long p2)] := hl
  refine lv_aload_n hx hb dX21_give_0 rfl (lv_at hl 0 rfl) ?_
  refine lv_iload_n hx hb dX21_give_1 rfl (lv_at hl 1 rfl) ?_
  refine va_put (D := (dC, dI)) (ci := 26) (v := .int p0) (ty := .int) (C := RX21) (T := TX21) (N := 95) hx hb hts (by decide +kernel) tyX21 tyX21_ok nmX21 hown hK hP hD hS 0 rfl rfl 64 (by decide) (hts (.fieldLink RX21 663 "QueryHallModel" "rKind" "I") (by decide +kernel)) (fun _ h9 => h9) rfl (by decide +kernel) rfl rfl (Nat.le_of_ble_eq_true rfl) dX21_give_2 (fun H locs hP hD hS => ?_)
  have hP : va_P (dC, dI) vwCl [(m0, .inr (26, [.int m_thrown, .ref m_textSizes, .ref m_texts, .ref m_outcomes, .ref m_whyKind, .ref m_whyPlace, .ref m_answerRows, .ref m_answerColumns, .ref m_answerKinds, .ref m_answerHigh, .ref m_answerLow, .ref m_planSteps, .ref m_plans, .ref m_statements, .ref m_waits, .ref m_transactions, .ref m_begun, .ref m_begins, .int m_nextTransaction, .int m_tables, .ref m_tableNames, .ref m_columnCounts, .ref m_columnNames, .ref m_columnTypes, .ref m_mustBe, .ref m_rowCounts, .ref m_kinds, .ref m_highs, .ref m_lows, .int m_indexes, .ref m_indexNames, .ref m_indexTables, .ref m_indexColumns, .int m_last, .int m_durable, .int m_first, .ref m_recordKinds, .ref m_recordTransactions, .ref m_recordTables, .ref m_recordUndoes, .ref m_isUndone, .ref m_recordValues, .ref m_recordHigh, .ref m_recordLow, .int m_isUp, .int m_isLazy, .int m_redone, .int m_redoEnd, .ref m_locks, .ref m_going, .int m_goingSize, .ref m_keywords, .int m_tokens, .ref m_tokenKinds, .ref m_tokenPlaces, .ref m_tokenValues, .ref m_tokenLow, .int m_p, .int m_inOn, .int m_level, m_made, .int m_faultKind, .int m_faultPlace, .int m_wrongs, .int p0, .long m_rHigh, .long m_rLow, .int m_over, .long m_looked, .ref m_current, .ref m_passed, .ref m_passedSize, .ref m_unitOf, .ref m_unitFirst, .ref m_unit, .ref m_keyKinds, .ref m_keyHigh, .ref m_keyLow, .ref m_sorted, .int m_found, .int m_some, .int m_someNull, .ref m_newKinds, .ref m_newHigh, .ref m_newLow, .ref m_marked, .ref m_oneKind, .ref m_oneHigh, .ref m_oneLow, .ref m_unitAt, .ref m_listKinds, .ref m_listHigh, .ref m_listLow, .ref m_planAtHand, .ref m_ofItem]))] H := hP
  have hD : va_D A [(m0, .inr (26, [.int m_thrown, .ref m_textSizes, .ref m_texts, .ref m_outcomes, .ref m_whyKind, .ref m_whyPlace, .ref m_answerRows, .ref m_answerColumns, .ref m_answerKinds, .ref m_answerHigh, .ref m_answerLow, .ref m_planSteps, .ref m_plans, .ref m_statements, .ref m_waits, .ref m_transactions, .ref m_begun, .ref m_begins, .int m_nextTransaction, .int m_tables, .ref m_tableNames, .ref m_columnCounts, .ref m_columnNames, .ref m_columnTypes, .ref m_mustBe, .ref m_rowCounts, .ref m_kinds, .ref m_highs, .ref m_lows, .int m_indexes, .ref m_indexNames, .ref m_indexTables, .ref m_indexColumns, .int m_last, .int m_durable, .int m_first, .ref m_recordKinds, .ref m_recordTransactions, .ref m_recordTables, .ref m_recordUndoes, .ref m_isUndone, .ref m_recordValues, .ref m_recordHigh, .ref m_recordLow, .int m_isUp, .int m_isLazy, .int m_redone, .int m_redoEnd, .ref m_locks, .ref m_going, .int m_goingSize, .ref m_keywords, .int m_tokens, .ref m_tokenKinds, .ref m_tokenPlaces, .ref m_tokenValues, .ref m_tokenLow, .int m_p, .int m_inOn, .int m_level, m_made, .int m_faultKind, .int m_faultPlace, .int m_wrongs, .int p0, .long m_rHigh, .long m_rLow, .int m_over, .long m_looked, .ref m_current, .ref m_passed, .ref m_passedSize, .ref m_unitOf, .ref m_unitFirst, .ref m_unit, .ref m_keyKinds, .ref m_keyHigh, .ref m_keyLow, .ref m_sorted, .int m_found, .int m_some, .int m_someNull, .ref m_newKinds, .ref m_newHigh, .ref m_newLow, .ref m_marked, .ref m_oneKind, .ref m_oneHigh, .ref m_oneLow, .ref m_unitAt, .ref m_listKinds, .ref m_listHigh, .ref m_listLow, .ref m_planAtHand, .ref m_ofItem]))] := hD
  refine lv_aload_n hx hb dX21_give_5 rfl (lv_at hl 0 rfl) ?_
  refine lv_lload_n hx hb dX21_give_6 rfl (lv_at hl 2 rfl) ?_
  refine va_put (D := (dC, dI)) (ci := 26) (v := .long p1) (ty := .long) (C := RX21) (T := TX21) (N := 95) hx hb hts (by decide +kernel) tyX21 tyX21_ok nmX21 hown hK hP hD hS 0 rfl rfl 65 (by decide) (hts (.fieldLink RX21 666 "QueryHallModel" "rHigh" "J") (by decide +kernel)) (fun _ h9 => h9) rfl (by decide +kernel) rfl rfl (Nat.le_of_ble_eq_true rfl) dX21_give_7 (fun H locs hP hD hS => ?_)
  have hP : va_P (dC, dI) vwCl [(m0, .inr (26, [.int m_thrown, .ref m_textSizes, .ref m_texts, .ref m_outcomes, .ref m_whyKind, .ref m_whyPlace, .ref m_answerRows, .ref m_answerColumns, .ref m_answerKinds, .ref m_answerHigh, .ref m_answerLow, .ref m_planSteps, .ref m_plans, .ref m_statements, .ref m_waits, .ref m_transactions, .ref m_begun, .ref m_begins, .int m_nextTransaction, .int m_tables, .ref m_tableNames, .ref m_columnCounts, .ref m_columnNames, .ref m_columnTypes, .ref m_mustBe, .ref m_rowCounts, .ref m_kinds, .ref m_highs, .ref m_lows, .int m_indexes, .ref m_indexNames, .ref m_indexTables, .ref m_indexColumns, .int m_last, .int m_durable, .int m_first, .ref m_recordKinds, .ref m_recordTransactions, .ref m_recordTables, .ref m_recordUndoes, .ref m_isUndone, .ref m_recordValues, .ref m_recordHigh, .ref m_recordLow, .int m_isUp, .int m_isLazy, .int m_redone, .int m_redoEnd, .ref m_locks, .ref m_going, .int m_goingSize, .ref m_keywords, .int m_tokens, .ref m_tokenKinds, .ref m_tokenPlaces, .ref m_tokenValues, .ref m_tokenLow, .int m_p, .int m_inOn, .int m_level, m_made, .int m_faultKind, .int m_faultPlace, .int m_wrongs, .int p0, .long p1, .long m_rLow, .int m_over, .long m_looked, .ref m_current, .ref m_passed, .ref m_passedSize, .ref m_unitOf, .ref m_unitFirst, .ref m_unit, .ref m_keyKinds, .ref m_keyHigh, .ref m_keyLow, .ref m_sorted, .int m_found, .int m_some, .int m_someNull, .ref m_newKinds, .ref m_newHigh, .ref m_newLow, .ref m_marked, .ref m_oneKind, .ref m_oneHigh, .ref m_oneLow, .ref m_unitAt, .ref m_listKinds, .ref m_listHigh, .ref m_listLow, .ref m_planAtHand, .ref m_ofItem]))] H := hP
  have hD : va_D A [(m0, .inr (26, [.int m_thrown, .ref m_textSizes, .ref m_texts, .ref m_outcomes, .ref m_whyKind, .ref m_whyPlace, .ref m_answerRows, .ref m_answerColumns, .ref m_answerKinds, .ref m_answerHigh, .ref m_answerLow, .ref m_planSteps, .ref m_plans, .ref m_statements, .ref m_waits, .ref m_transactions, .ref m_begun, .ref m_begins, .int m_nextTransaction, .int m_tables, .ref m_tableNames, .ref m_columnCounts, .ref m_columnNames, .ref m_columnTypes, .ref m_mustBe, .ref m_rowCounts, .ref m_kinds, .ref m_highs, .ref m_lows, .int m_indexes, .ref m_indexNames, .ref m_indexTables, .ref m_indexColumns, .int m_last, .int m_durable, .int m_first, .ref m_recordKinds, .ref m_recordTransactions, .ref m_recordTables, .ref m_recordUndoes, .ref m_isUndone, .ref m_recordValues, .ref m_recordHigh, .ref m_recordLow, .int m_isUp, .int m_isLazy, .int m_redone, .int m_redoEnd, .ref m_locks, .ref m_going, .int m_goingSize, .ref m_keywords, .int m_tokens, .ref m_tokenKinds, .ref m_tokenPlaces, .ref m_tokenValues, .ref m_tokenLow, .int m_p, .int m_inOn, .int m_level, m_made, .int m_faultKind, .int m_faultPlace, .int m_wrongs, .int p0, .long p1, .long m_rLow, .int m_over, .long m_looked, .ref m_current, .ref m_passed, .ref m_passedSize, .ref m_unitOf, .ref m_unitFirst, .ref m_unit, .ref m_keyKinds, .ref m_keyHigh, .ref m_keyLow, .ref m_sorted, .int m_found, .int m_some, .int m_someNull, .ref m_newKinds, .ref m_newHigh, .ref m_newLow, .ref m_marked, .ref m_oneKind, .ref m_oneHigh, .ref m_oneLow, .ref m_unitAt, .ref m_listKinds, .ref m_listHigh, .ref m_listLow, .ref m_planAtHand, .ref m_ofItem]))] := hD
  refine lv_aload_n hx hb dX21_give_10 rfl (lv_at hl 0 rfl) ?_
  refine lv_lload hx hb dX21_give_11 (lv_at hl 3 rfl) ?_
  refine va_put (D := (dC, dI)) (ci := 26) (v := .long p2) (ty := .long) (C := RX21) (T := TX21) (N := 95) hx hb hts (by decide +kernel) tyX21 tyX21_ok nmX21 hown hK hP hD hS 0 rfl rfl 66 (by decide) (hts (.fieldLink RX21 669 "QueryHallModel" "rLow" "J") (by decide +kernel)) (fun _ h9 => h9) rfl (by decide +kernel) rfl rfl (Nat.le_of_ble_eq_true rfl) dX21_give_13 (fun H locs hP hD hS => ?_)
  have hP : va_P (dC, dI) vwCl [(m0, .inr (26, [.int m_thrown, .ref m_textSizes, .ref m_texts, .ref m_outcomes, .ref m_whyKind, .ref m_whyPlace, .ref m_answerRows, .ref m_answerColumns, .ref m_answerKinds, .ref m_answerHigh, .ref m_answerLow, .ref m_planSteps, .ref m_plans, .ref m_statements, .ref m_waits, .ref m_transactions, .ref m_begun, .ref m_begins, .int m_nextTransaction, .int m_tables, .ref m_tableNames, .ref m_columnCounts, .ref m_columnNames, .ref m_columnTypes, .ref m_mustBe, .ref m_rowCounts, .ref m_kinds, .ref m_highs, .ref m_lows, .int m_indexes, .ref m_indexNames, .ref m_indexTables, .ref m_indexColumns, .int m_last, .int m_durable, .int m_first, .ref m_recordKinds, .ref m_recordTransactions, .ref m_recordTables, .ref m_recordUndoes, .ref m_isUndone, .ref m_recordValues, .ref m_recordHigh, .ref m_recordLow, .int m_isUp, .int m_isLazy, .int m_redone, .int m_redoEnd, .ref m_locks, .ref m_going, .int m_goingSize, .ref m_keywords, .int m_tokens, .ref m_tokenKinds, .ref m_tokenPlaces, .ref m_tokenValues, .ref m_tokenLow, .int m_p, .int m_inOn, .int m_level, m_made, .int m_faultKind, .int m_faultPlace, .int m_wrongs, .int p0, .long p1, .long p2, .int m_over, .long m_looked, .ref m_current, .ref m_passed, .ref m_passedSize, .ref m_unitOf, .ref m_unitFirst, .ref m_unit, .ref m_keyKinds, .ref m_keyHigh, .ref m_keyLow, .ref m_sorted, .int m_found, .int m_some, .int m_someNull, .ref m_newKinds, .ref m_newHigh, .ref m_newLow, .ref m_marked, .ref m_oneKind, .ref m_oneHigh, .ref m_oneLow, .ref m_unitAt, .ref m_listKinds, .ref m_listHigh, .ref m_listLow, .ref m_planAtHand, .ref m_ofItem]))] H := hP
  have hD : va_D A [(m0, .inr (26, [.int m_thrown, .ref m_textSizes, .ref m_texts, .ref m_outcomes, .ref m_whyKind, .ref m_whyPlace, .ref m_answerRows, .ref m_answerColumns, .ref m_answerKinds, .ref m_answerHigh, .ref m_answerLow, .ref m_planSteps, .ref m_plans, .ref m_statements, .ref m_waits, .ref m_transactions, .ref m_begun, .ref m_begins, .int m_nextTransaction, .int m_tables, .ref m_tableNames, .ref m_columnCounts, .ref m_columnNames, .ref m_columnTypes, .ref m_mustBe, .ref m_rowCounts, .ref m_kinds, .ref m_highs, .ref m_lows, .int m_indexes, .ref m_indexNames, .ref m_indexTables, .ref m_indexColumns, .int m_last, .int m_durable, .int m_first, .ref m_recordKinds, .ref m_recordTransactions, .ref m_recordTables, .ref m_recordUndoes, .ref m_isUndone, .ref m_recordValues, .ref m_recordHigh, .ref m_recordLow, .int m_isUp, .int m_isLazy, .int m_redone, .int m_redoEnd, .ref m_locks, .ref m_going, .int m_goingSize, .ref m_keywords, .int m_tokens, .ref m_tokenKinds, .ref m_tokenPlaces, .ref m_tokenValues, .ref m_tokenLow, .int m_p, .int m_inOn, .int m_level, m_made, .int m_faultKind, .int m_faultPlace, .int m_wrongs, .int p0, .long p1, .long p2, .int m_over, .long m_looked, .ref m_current, .ref m_passed, .ref m_passedSize, .ref m_unitOf, .ref m_unitFirst, .ref m_unit, .ref m_keyKinds, .ref m_keyHigh, .ref m_keyLow, .ref m_sorted, .int m_found, .int m_some, .int m_someNull, .ref m_newKinds, .ref m_newHigh, .ref m_newLow, .ref m_marked, .ref m_oneKind, .ref m_oneHigh, .ref m_oneLow, .ref m_unitAt, .ref m_listKinds, .ref m_listHigh, .ref m_listLow, .ref m_planAtHand, .ref m_ofItem]))] := hD
  have hP9 := hP.sub (ws' := [(m0, .inr (26, [.int m_thrown, .ref m_textSizes, .ref m_texts, .ref m_outcomes, .ref m_whyKind, .ref m_whyPlace, .ref m_answerRows, .ref m_answerColumns, .ref m_answerKinds, .ref m_answerHigh, .ref m_answerLow, .ref m_planSteps, .ref m_plans, .ref m_statements, .ref m_waits, .ref m_transactions, .ref m_begun, .ref m_begins, .int m_nextTransaction, .int m_tables, .ref m_tableNames, .ref m_columnCounts, .ref m_columnNames, .ref m_columnTypes, .ref m_mustBe, .ref m_rowCounts, .ref m_kinds, .ref m_highs, .ref m_lows, .int m_indexes, .ref m_indexNames, .ref m_indexTables, .ref m_indexColumns, .int m_last, .int m_durable, .int m_first, .ref m_recordKinds, .ref m_recordTransactions, .ref m_recordTables, .ref m_recordUndoes, .ref m_isUndone, .ref m_recordValues, .ref m_recordHigh, .ref m_recordLow, .int m_isUp, .int m_isLazy, .int m_redone, .int m_redoEnd, .ref m_locks, .ref m_going, .int m_goingSize, .ref m_keywords, .int m_tokens, .ref m_tokenKinds, .ref m_tokenPlaces, .ref m_tokenValues, .ref m_tokenLow, .int m_p, .int m_inOn, .int m_level, m_made, .int m_faultKind, .int m_faultPlace, .int m_wrongs, .int p0, .long p1, .long p2, .int m_over, .long m_looked, .ref m_current, .ref m_passed, .ref m_passedSize, .ref m_unitOf, .ref m_unitFirst, .ref m_unit, .ref m_keyKinds, .ref m_keyHigh, .ref m_keyLow, .ref m_sorted, .int m_found, .int m_some, .int m_someNull, .ref m_newKinds, .ref m_newHigh, .ref m_newLow, .ref m_marked, .ref m_oneKind, .ref m_oneHigh, .ref m_oneLow, .ref m_unitAt, .ref m_listKinds, .ref m_listHigh, .ref m_listLow, .ref m_planAtHand, .ref m_ofItem]))]) [0] rfl
  have hD9 := hD.sub (ws' := [(m0, .inr (26, [.int m_thrown, .ref m_textSizes, .ref m_texts, .ref m_outcomes, .ref m_whyKind, .ref m_whyPlace, .ref m_answerRows, .ref m_answerColumns, .ref m_answerKinds, .ref m_answerHigh, .ref m_answerLow, .ref m_planSteps, .ref m_plans, .ref m_statements, .ref m_waits, .ref m_transactions, .ref m_begun, .ref m_begins, .int m_nextTransaction, .int m_tables, .ref m_tableNames, .ref m_columnCounts, .ref m_columnNames, .ref m_columnTypes, .ref m_mustBe, .ref m_rowCounts, .ref m_kinds, .ref m_highs, .ref m_lows, .int m_indexes, .ref m_indexNames, .ref m_indexTables, .ref m_indexColumns, .int m_last, .int m_durable, .int m_first, .ref m_recordKinds, .ref m_recordTransactions, .ref m_recordTables, .ref m_recordUndoes, .ref m_isUndone, .ref m_recordValues, .ref m_recordHigh, .ref m_recordLow, .int m_isUp, .int m_isLazy, .int m_redone, .int m_redoEnd, .ref m_locks, .ref m_going, .int m_goingSize, .ref m_keywords, .int m_tokens, .ref m_tokenKinds, .ref m_tokenPlaces, .ref m_tokenValues, .ref m_tokenLow, .int m_p, .int m_inOn, .int m_level, m_made, .int m_faultKind, .int m_faultPlace, .int m_wrongs, .int p0, .long p1, .long p2, .int m_over, .long m_looked, .ref m_current, .ref m_passed, .ref m_passedSize, .ref m_unitOf, .ref m_unitFirst, .ref m_unit, .ref m_keyKinds, .ref m_keyHigh, .ref m_keyLow, .ref m_sorted, .int m_found, .int m_some, .int m_someNull, .ref m_newKinds, .ref m_newHigh, .ref m_newLow, .ref m_marked, .ref m_oneKind, .ref m_oneHigh, .ref m_oneLow, .ref m_unitAt, .ref m_listKinds, .ref m_listHigh, .ref m_listLow, .ref m_planAtHand, .ref m_ofItem]))]) [0] (by decide) rfl
  have hK9 := hK.sub (tys' := []) [] rfl
  exact W.vret hx hb hr (fun t ht hW => ⟨⟨(), rfl, trivial, by rw [ht]; exact hP9, va_K.moved hW.alike hK9, hD9⟩, hS.F ht⟩) hS.2.2 dX21_give_16
set_option maxHeartbeats 4000000 in
set_option maxRecDepth 100000 in
/-- the reference: isTrue -/
theorem c_X21_isTrue (l : Launch) (dC : Nat → ClassId) (dI : Nat → Nat → Nat) (sz : Nat) (m0 m_textSizes m_texts m_outcomes m_whyKind m_whyPlace m_answerRows m_answerColumns m_answerKinds m_answerHigh m_answerLow m_planSteps m_plans m_statements m_waits m_transactions m_begun m_begins m_tableNames m_columnCounts m_columnNames m_columnTypes m_mustBe m_rowCounts m_kinds m_highs m_lows m_indexNames m_indexTables m_indexColumns m_recordKinds m_recordTransactions m_recordTables m_recordUndoes m_isUndone m_recordValues m_recordHigh m_recordLow m_locks m_going m_keywords m_tokenKinds m_tokenPlaces m_tokenValues m_tokenLow m_current m_passed m_passedSize m_unitOf m_unitFirst m_unit m_keyKinds m_keyHigh m_keyLow m_sorted m_newKinds m_newHigh m_newLow m_marked m_oneKind m_oneHigh m_oneLow m_unitAt m_listKinds m_listHigh m_listLow m_planAtHand m_ofItem : Nat) (m_thrown m_nextTransaction m_tables m_indexes m_last m_durable m_first m_isUp m_isLazy m_redone m_redoEnd m_goingSize m_tokens m_p m_inOn m_level m_faultKind m_faultPlace m_wrongs m_rKind m_over m_found m_some m_someNull : Int32) (m_rHigh m_rLow m_looked : Int64) (m_made : Value) : Met l yX21_isTrue wsX21_isTrue ({ frames := 0, cells := 0, slots := 0, locals := 0 }) (va_Pc [.ref m0] (fun U => U.heap.size = sz ∧ va_P (dC, dI) vwCl [(m0, .inr (26, [.int m_thrown, .ref m_textSizes, .ref m_texts, .ref m_outcomes, .ref m_whyKind, .ref m_whyPlace, .ref m_answerRows, .ref m_answerColumns, .ref m_answerKinds, .ref m_answerHigh, .ref m_answerLow, .ref m_planSteps, .ref m_plans, .ref m_statements, .ref m_waits, .ref m_transactions, .ref m_begun, .ref m_begins, .int m_nextTransaction, .int m_tables, .ref m_tableNames, .ref m_columnCounts, .ref m_columnNames, .ref m_columnTypes, .ref m_mustBe, .ref m_rowCounts, .ref m_kinds, .ref m_highs, .ref m_lows, .int m_indexes, .ref m_indexNames, .ref m_indexTables, .ref m_indexColumns, .int m_last, .int m_durable, .int m_first, .ref m_recordKinds, .ref m_recordTransactions, .ref m_recordTables, .ref m_recordUndoes, .ref m_isUndone, .ref m_recordValues, .ref m_recordHigh, .ref m_recordLow, .int m_isUp, .int m_isLazy, .int m_redone, .int m_redoEnd, .ref m_locks, .ref m_going, .int m_goingSize, .ref m_keywords, .int m_tokens, .ref m_tokenKinds, .ref m_tokenPlaces, .ref m_tokenValues, .ref m_tokenLow, .int m_p, .int m_inOn, .int m_level, m_made, .int m_faultKind, .int m_faultPlace, .int m_wrongs, .int m_rKind, .long m_rHigh, .long m_rLow, .int m_over, .long m_looked, .ref m_current, .ref m_passed, .ref m_passedSize, .ref m_unitOf, .ref m_unitFirst, .ref m_unit, .ref m_keyKinds, .ref m_keyHigh, .ref m_keyLow, .ref m_sorted, .int m_found, .int m_some, .int m_someNull, .ref m_newKinds, .ref m_newHigh, .ref m_newLow, .ref m_marked, .ref m_oneKind, .ref m_oneHigh, .ref m_oneLow, .ref m_unitAt, .ref m_listKinds, .ref m_listHigh, .ref m_listLow, .ref m_planAtHand, .ref m_ofItem]))] U.heap ∧ va_K (dC, dI) vwCl [] U ∧ va_D (fun _ => True) [(m0, .inr (26, [.int m_thrown, .ref m_textSizes, .ref m_texts, .ref m_outcomes, .ref m_whyKind, .ref m_whyPlace, .ref m_answerRows, .ref m_answerColumns, .ref m_answerKinds, .ref m_answerHigh, .ref m_answerLow, .ref m_planSteps, .ref m_plans, .ref m_statements, .ref m_waits, .ref m_transactions, .ref m_begun, .ref m_begins, .int m_nextTransaction, .int m_tables, .ref m_tableNames, .ref m_columnCounts, .ref m_columnNames, .ref m_columnTypes, .ref m_mustBe, .ref m_rowCounts, .ref m_kinds, .ref m_highs, .ref m_lows, .int m_indexes, .ref m_indexNames, .ref m_indexTables, .ref m_indexColumns, .int m_last, .int m_durable, .int m_first, .ref m_recordKinds, .ref m_recordTransactions, .ref m_recordTables, .ref m_recordUndoes, .ref m_isUndone, .ref m_recordValues, .ref m_recordHigh, .ref m_recordLow, .int m_isUp, .int m_isLazy, .int m_redone, .int m_redoEnd, .ref m_locks, .ref m_going, .int m_goingSize, .ref m_keywords, .int m_tokens, .ref m_tokenKinds, .ref m_tokenPlaces, .ref m_tokenValues, .ref m_tokenLow, .int m_p, .int m_inOn, .int m_level, m_made, .int m_faultKind, .int m_faultPlace, .int m_wrongs, .int m_rKind, .long m_rHigh, .long m_rLow, .int m_over, .long m_looked, .ref m_current, .ref m_passed, .ref m_passedSize, .ref m_unitOf, .ref m_unitFirst, .ref m_unit, .ref m_keyKinds, .ref m_keyHigh, .ref m_keyLow, .ref m_sorted, .int m_found, .int m_some, .int m_someNull, .ref m_newKinds, .ref m_newHigh, .ref m_newLow, .ref m_marked, .ref m_oneKind, .ref m_oneHigh, .ref m_oneLow, .ref m_unitAt, .ref m_listKinds, .ref m_listHigh, .ref m_listLow, .ref m_planAtHand, .ref m_ofItem]))])) (va_Qi (fun (r : Int32) (_ : Unit) => r = (if m_rKind = 2 then (if lg_cmp m_rHigh 1 = 0 then 1 else 0) else 0)) (fun (_ : Unit) (t : State) => va_P (dC, dI) vwCl [(m0, .inr (26, [.int m_thrown, .ref m_textSizes, .ref m_texts, .ref m_outcomes, .ref m_whyKind, .ref m_whyPlace, .ref m_answerRows, .ref m_answerColumns, .ref m_answerKinds, .ref m_answerHigh, .ref m_answerLow, .ref m_planSteps, .ref m_plans, .ref m_statements, .ref m_waits, .ref m_transactions, .ref m_begun, .ref m_begins, .int m_nextTransaction, .int m_tables, .ref m_tableNames, .ref m_columnCounts, .ref m_columnNames, .ref m_columnTypes, .ref m_mustBe, .ref m_rowCounts, .ref m_kinds, .ref m_highs, .ref m_lows, .int m_indexes, .ref m_indexNames, .ref m_indexTables, .ref m_indexColumns, .int m_last, .int m_durable, .int m_first, .ref m_recordKinds, .ref m_recordTransactions, .ref m_recordTables, .ref m_recordUndoes, .ref m_isUndone, .ref m_recordValues, .ref m_recordHigh, .ref m_recordLow, .int m_isUp, .int m_isLazy, .int m_redone, .int m_redoEnd, .ref m_locks, .ref m_going, .int m_goingSize, .ref m_keywords, .int m_tokens, .ref m_tokenKinds, .ref m_tokenPlaces, .ref m_tokenValues, .ref m_tokenLow, .int m_p, .int m_inOn, .int m_level, m_made, .int m_faultKind, .int m_faultPlace, .int m_wrongs, .int m_rKind, .long m_rHigh, .long m_rLow, .int m_over, .long m_looked, .ref m_current, .ref m_passed, .ref m_passedSize, .ref m_unitOf, .ref m_unitFirst, .ref m_unit, .ref m_keyKinds, .ref m_keyHigh, .ref m_keyLow, .ref m_sorted, .int m_found, .int m_some, .int m_someNull, .ref m_newKinds, .ref m_newHigh, .ref m_newLow, .ref m_marked, .ref m_oneKind, .ref m_oneHigh, .ref m_oneLow, .ref m_unitAt, .ref m_listKinds, .ref m_listHigh, .ref m_listLow, .ref m_planAtHand, .ref m_ofItem]))] t.heap ∧ va_K (dC, dI) vwCl [] t ∧ va_D (va_A [(m0, .inr (26, [.int m_thrown, .ref m_textSizes, .ref m_texts, .ref m_outcomes, .ref m_whyKind, .ref m_whyPlace, .ref m_answerRows, .ref m_answerColumns, .ref m_answerKinds, .ref m_answerHigh, .ref m_answerLow, .ref m_planSteps, .ref m_plans, .ref m_statements, .ref m_waits, .ref m_transactions, .ref m_begun, .ref m_begins, .int m_nextTransaction, .int m_tables, .ref m_tableNames, .ref m_columnCounts, .ref m_columnNames, .ref m_columnTypes, .ref m_mustBe, .ref m_rowCounts, .ref m_kinds, .ref m_highs, .ref m_lows, .int m_indexes, .ref m_indexNames, .ref m_indexTables, .ref m_indexColumns, .int m_last, .int m_durable, .int m_first, .ref m_recordKinds, .ref m_recordTransactions, .ref m_recordTables, .ref m_recordUndoes, .ref m_isUndone, .ref m_recordValues, .ref m_recordHigh, .ref m_recordLow, .int m_isUp, .int m_isLazy, .int m_redone, .int m_redoEnd, .ref m_locks, .ref m_going, .int m_goingSize, .ref m_keywords, .int m_tokens, .ref m_tokenKinds, .ref m_tokenPlaces, .ref m_tokenValues, .ref m_tokenLow, .int m_p, .int m_inOn, .int m_level, m_made, .int m_faultKind, .int m_faultPlace, .int m_wrongs, .int m_rKind, .long m_rHigh, .long m_rLow, .int m_over, .long m_looked, .ref m_current, .ref m_passed, .ref m_passedSize, .ref m_unitOf, .ref m_unitFirst, .ref m_unit, .ref m_keyKinds, .ref m_keyHigh, .ref m_keyLow, .ref m_sorted, .int m_found, .int m_some, .int m_someNull, .ref m_newKinds, .ref m_newHigh, .ref m_newLow, .ref m_marked, .ref m_oneKind, .ref m_oneHigh, .ref m_oneLow, .ref m_unitAt, .ref m_listKinds, .ref m_listHigh, .ref m_listLow, .ref m_planAtHand, .ref m_ofItem]))] sz) [(m0, .inr (26, [.int m_thrown, .ref m_textSizes, .ref m_texts, .ref m_outcomes, .ref m_whyKind, .ref m_whyPlace, .ref m_answerRows, .ref m_answerColumns, .ref m_answerKinds, .ref m_answerHigh, .ref m_answerLow, .ref m_planSteps, .ref m_plans, .ref m_statements, .ref m_waits, .ref m_transactions, .ref m_begun, .ref m_begins, .int m_nextTransaction, .int m_tables, .ref m_tableNames, .ref m_columnCounts, .ref m_columnNames, .ref m_columnTypes, .ref m_mustBe, .ref m_rowCounts, .ref m_kinds, .ref m_highs, .ref m_lows, .int m_indexes, .ref m_indexNames, .ref m_indexTables, .ref m_indexColumns, .int m_last, .int m_durable, .int m_first, .ref m_recordKinds, .ref m_recordTransactions, .ref m_recordTables, .ref m_recordUndoes, .ref m_isUndone, .ref m_recordValues, .ref m_recordHigh, .ref m_recordLow, .int m_isUp, .int m_isLazy, .int m_redone, .int m_redoEnd, .ref m_locks, .ref m_going, .int m_goingSize, .ref m_keywords, .int m_tokens, .ref m_tokenKinds, .ref m_tokenPlaces, .ref m_tokenValues, .ref m_tokenLow, .int m_p, .int m_inOn, .int m_level, m_made, .int m_faultKind, .int m_faultPlace, .int m_wrongs, .int m_rKind, .long m_rHigh, .long m_rLow, .int m_over, .long m_looked, .ref m_current, .ref m_passed, .ref m_passedSize, .ref m_unitOf, .ref m_unitFirst, .ref m_unit, .ref m_keyKinds, .ref m_keyHigh, .ref m_keyLow, .ref m_sorted, .int m_found, .int m_some, .int m_someNull, .ref m_newKinds, .ref m_newHigh, .ref m_newLow, .ref m_marked, .ref m_oneKind, .ref m_oneHigh, .ref m_oneLow, .ref m_unitAt, .ref m_listKinds, .ref m_listHigh, .ref m_listLow, .ref m_planAtHand, .ref m_ofItem]))]) (va_A [(m0, .inr (26, [.int m_thrown, .ref m_textSizes, .ref m_texts, .ref m_outcomes, .ref m_whyKind, .ref m_whyPlace, .ref m_answerRows, .ref m_answerColumns, .ref m_answerKinds, .ref m_answerHigh, .ref m_answerLow, .ref m_planSteps, .ref m_plans, .ref m_statements, .ref m_waits, .ref m_transactions, .ref m_begun, .ref m_begins, .int m_nextTransaction, .int m_tables, .ref m_tableNames, .ref m_columnCounts, .ref m_columnNames, .ref m_columnTypes, .ref m_mustBe, .ref m_rowCounts, .ref m_kinds, .ref m_highs, .ref m_lows, .int m_indexes, .ref m_indexNames, .ref m_indexTables, .ref m_indexColumns, .int m_last, .int m_durable, .int m_first, .ref m_recordKinds, .ref m_recordTransactions, .ref m_recordTables, .ref m_recordUndoes, .ref m_isUndone, .ref m_recordValues, .ref m_recordHigh, .ref m_recordLow, .int m_isUp, .int m_isLazy, .int m_redone, .int m_redoEnd, .ref m_locks, .ref m_going, .int m_goingSize, .ref m_keywords, .int m_tokens, .ref m_tokenKinds, .ref m_tokenPlaces, .ref m_tokenValues, .ref m_tokenLow, .int m_p, .int m_inOn, .int m_level, m_made, .int m_faultKind, .int m_faultPlace, .int m_wrongs, .int m_rKind, .long m_rHigh, .long m_rLow, .int m_over, .long m_looked, .ref m_current, .ref m_passed, .ref m_passedSize, .ref m_unitOf, .ref m_unitFirst, .ref m_unit, .ref m_keyKinds, .ref m_keyHigh, .ref m_keyLow, .ref m_sorted, .int m_found, .int m_some, .int m_someNull, .ref m_newKinds, .ref m_newHigh, .ref m_newLow, .ref m_marked, .ref m_oneKind, .ref m_oneHigh, .ref m_oneLow, .ref m_unitAt, .ref m_listKinds, .ref m_listHigh, .ref m_listLow, .ref m_planAtHand, .ref m_ofItem]))] sz)) 0 0 (va_A [(m0, .inr (26, [.int m_thrown, .ref m_textSizes, .ref m_texts, .ref m_outcomes, .ref m_whyKind, .ref m_whyPlace, .ref m_answerRows, .ref m_answerColumns, .ref m_answerKinds, .ref m_answerHigh, .ref m_answerLow, .ref m_planSteps, .ref m_plans, .ref m_statements, .ref m_waits, .ref m_transactions, .ref m_begun, .ref m_begins, .int m_nextTransaction, .int m_tables, .ref m_tableNames, .ref m_columnCounts, .ref m_columnNames, .ref m_columnTypes, .ref m_mustBe, .ref m_rowCounts, .ref m_kinds, .ref m_highs, .ref m_lows, .int m_indexes, .ref m_indexNames, .ref m_indexTables, .ref m_indexColumns, .int m_last, .int m_durable, .int m_first, .ref m_recordKinds, .ref m_recordTransactions, .ref m_recordTables, .ref m_recordUndoes, .ref m_isUndone, .ref m_recordValues, .ref m_recordHigh, .ref m_recordLow, .int m_isUp, .int m_isLazy, .int m_redone, .int m_redoEnd, .ref m_locks, .ref m_going, .int m_goingSize, .ref m_keywords, .int m_tokens, .ref m_tokenKinds, .ref m_tokenPlaces, .ref m_tokenValues, .ref m_tokenLow, .int m_p, .int m_inOn, .int m_level, m_made, .int m_faultKind, .int m_faultPlace, .int m_wrongs, .int m_rKind, .long m_rHigh, .long m_rLow, .int m_over, .long m_looked, .ref m_current, .ref m_passed, .ref m_passedSize, .ref m_unitOf, .ref m_unitFirst, .ref m_unit, .ref m_keyKinds, .ref m_keyHigh, .ref m_keyLow, .ref m_sorted, .int m_found, .int m_some, .int m_someNull, .ref m_newKinds, .ref m_newHigh, .ref m_newLow, .ref m_marked, .ref m_oneKind, .ref m_oneHigh, .ref m_oneLow, .ref m_unitAt, .ref m_listKinds, .ref m_listHigh, .ref m_listLow, .ref m_planAtHand, .ref m_ofItem]))] sz) := by
  refine Met.ofW (cc := cX21_isTrue) (maxL := 1) (ret := (some .boolean)) (by decide) rfl ?_
  intro p e s m args below meth c s₁ B hml hv
  obtain ⟨rfl, hsz, hP, hK, hD0⟩ := hv
  have hx := B.exec
  have hb := B.bytes
  have hr := B.returns
  have hts := atoms_spec (ws := wsX21_isTrue) B.pre
  have hown : s.vm.findClass RX21 = some m.cls := findClass_of_methodNamed B.named
  have hlocks := B.notSynchronized
  subst hsz
  have hD := hD0.self (sz := s.heap.size)
  generalize hAe : va_A [(m0, .inr (26, [.int m_thrown, .ref m_textSizes, .ref m_texts, .ref m_outcomes, .ref m_whyKind, .ref m_whyPlace, .ref m_answerRows, .ref m_answerColumns, .ref m_answerKinds, .ref m_answerHigh, .ref m_answerLow, .ref m_planSteps, .ref m_plans, .ref m_statements, .ref m_waits, .ref m_transactions, .ref m_begun, .ref m_begins, .int m_nextTransaction, .int m_tables, .ref m_tableNames, .ref m_columnCounts, .ref m_columnNames, .ref m_columnTypes, .ref m_mustBe, .ref m_rowCounts, .ref m_kinds, .ref m_highs, .ref m_lows, .int m_indexes, .ref m_indexNames, .ref m_indexTables, .ref m_indexColumns, .int m_last, .int m_durable, .int m_first, .ref m_recordKinds, .ref m_recordTransactions, .ref m_recordTables, .ref m_recordUndoes, .ref m_isUndone, .ref m_recordValues, .ref m_recordHigh, .ref m_recordLow, .int m_isUp, .int m_isLazy, .int m_redone, .int m_redoEnd, .ref m_locks, .ref m_going, .int m_goingSize, .ref m_keywords, .int m_tokens, .ref m_tokenKinds, .ref m_tokenPlaces, .ref m_tokenValues, .ref m_tokenLow, .int m_p, .int m_inOn, .int m_level, m_made, .int m_faultKind, .int m_faultPlace, .int m_wrongs, .int m_rKind, .long m_rHigh, .long m_rLow, .int m_over, .long m_looked, .ref m_current, .ref m_passed, .ref m_passedSize, .ref m_unitOf, .ref m_unitFirst, .ref m_unit, .ref m_keyKinds, .ref m_keyHigh, .ref m_keyLow, .ref m_sorted, .int m_found, .int m_some, .int m_someNull, .ref m_newKinds, .ref m_newHigh, .ref m_newLow, .ref m_marked, .ref m_oneKind, .ref m_oneHigh, .ref m_oneLow, .ref m_unitAt, .ref m_listKinds, .ref m_listHigh, .ref m_listLow, .ref m_planAtHand, .ref m_ofItem]))] s.heap.size = A at hD ⊢
  have hA : ∀ q : Nat, s.heap.size ≤ q → A q := fun q h => by rw [← hAe]; exact Or.inr h
  have hS : va_S A s.heap s.heap [] := va_S.rf
  have hP : va_P (dC, dI) vwCl [(m0, .inr (26, [.int m_thrown, .ref m_textSizes, .ref m_texts, .ref m_outcomes, .ref m_whyKind, .ref m_whyPlace, .ref m_answerRows, .ref m_answerColumns, .ref m_answerKinds, .ref m_answerHigh, .ref m_answerLow, .ref m_planSteps, .ref m_plans, .ref m_statements, .ref m_waits, .ref m_transactions, .ref m_begun, .ref m_begins, .int m_nextTransaction, .int m_tables, .ref m_tableNames, .ref m_columnCounts, .ref m_columnNames, .ref m_columnTypes, .ref m_mustBe, .ref m_rowCounts, .ref m_kinds, .ref m_highs, .ref m_lows, .int m_indexes, .ref m_indexNames, .ref m_indexTables, .ref m_indexColumns, .int m_last, .int m_durable, .int m_first, .ref m_recordKinds, .ref m_recordTransactions, .ref m_recordTables, .ref m_recordUndoes, .ref m_isUndone, .ref m_recordValues, .ref m_recordHigh, .ref m_recordLow, .int m_isUp, .int m_isLazy, .int m_redone, .int m_redoEnd, .ref m_locks, .ref m_going, .int m_goingSize, .ref m_keywords, .int m_tokens, .ref m_tokenKinds, .ref m_tokenPlaces, .ref m_tokenValues, .ref m_tokenLow, .int m_p, .int m_inOn, .int m_level, m_made, .int m_faultKind, .int m_faultPlace, .int m_wrongs, .int m_rKind, .long m_rHigh, .long m_rLow, .int m_over, .long m_looked, .ref m_current, .ref m_passed, .ref m_passedSize, .ref m_unitOf, .ref m_unitFirst, .ref m_unit, .ref m_keyKinds, .ref m_keyHigh, .ref m_keyLow, .ref m_sorted, .int m_found, .int m_some, .int m_someNull, .ref m_newKinds, .ref m_newHigh, .ref m_newLow, .ref m_marked, .ref m_oneKind, .ref m_oneHigh, .ref m_oneLow, .ref m_unitAt, .ref m_listKinds, .ref m_listHigh, .ref m_listLow, .ref m_planAtHand, .ref m_ofItem]))] s.heap := hP
  have hl := lv_entry ([.ref m0]) (n := 1) (Nat.le_of_ble_eq_true rfl)
  rw [lg_entry_eq]
  generalize (lg_sl ([.ref m0]) ++ List.replicate (1 - (lg_sl ([.ref m0])).length) Slot.unset).toArray = ls at hl ⊢
  have hl : lv_has ls 1 [(0, .ref m0)] := hl
  refine lv_aload_n hx hb dX21_isTrue_0 rfl (lv_at hl 0 rfl) ?_
  refine va_get (D := (dC, dI)) (ci := 26) (v := .int m_rKind) (C := RX21) (T := TX21) (N := 95) hx hb hts (by decide +kernel) hown hK hP 0 rfl rfl 64 (by decide) (hts (.fieldLink RX21 663 "QueryHallModel" "rKind" "I") (by decide +kernel)) (fun _ h9 => h9) rfl dX21_isTrue_1 ?_
  refine lv_iconst (v := 2) hx hb dX21_isTrue_4 (by decide) ?_
  refine lv_icmp_ne (tgt := 21) hx hb dX21_isTrue_5 (by decide) (fun c_1 => ?_) (fun c_1 => ?_)
  · skip
    refine lv_iconst (v := 0) hx hb dX21_isTrue_21 (by decide) ?_
    have hP9 := hP.sub (ws' := [(m0, .inr (26, [.int m_thrown, .ref m_textSizes, .ref m_texts, .ref m_outcomes, .ref m_whyKind, .ref m_whyPlace, .ref m_answerRows, .ref m_answerColumns, .ref m_answerKinds, .ref m_answerHigh, .ref m_answerLow, .ref m_planSteps, .ref m_plans, .ref m_statements, .ref m_waits, .ref m_transactions, .ref m_begun, .ref m_begins, .int m_nextTransaction, .int m_tables, .ref m_tableNames, .ref m_columnCounts, .ref m_columnNames, .ref m_columnTypes, .ref m_mustBe, .ref m_rowCounts, .ref m_kinds, .ref m_highs, .ref m_lows, .int m_indexes, .ref m_indexNames, .ref m_indexTables, .ref m_indexColumns, .int m_last, .int m_durable, .int m_first, .ref m_recordKinds, .ref m_recordTransactions, .ref m_recordTables, .ref m_recordUndoes, .ref m_isUndone, .ref m_recordValues, .ref m_recordHigh, .ref m_recordLow, .int m_isUp, .int m_isLazy, .int m_redone, .int m_redoEnd, .ref m_locks, .ref m_going, .int m_goingSize, .ref m_keywords, .int m_tokens, .ref m_tokenKinds, .ref m_tokenPlaces, .ref m_tokenValues, .ref m_tokenLow, .int m_p, .int m_inOn, .int m_level, m_made, .int m_faultKind, .int m_faultPlace, .int m_wrongs, .int m_rKind, .long m_rHigh, .long m_rLow, .int m_over, .long m_looked, .ref m_current, .ref m_passed, .ref m_passedSize, .ref m_unitOf, .ref m_unitFirst, .ref m_unit, .ref m_keyKinds, .ref m_keyHigh, .ref m_keyLow, .ref m_sorted, .int m_found, .int m_some, .int m_someNull, .ref m_newKinds, .ref m_newHigh, .ref m_newLow, .ref m_marked, .ref m_oneKind, .ref m_oneHigh, .ref m_oneLow, .ref m_unitAt, .ref m_listKinds, .ref m_listHigh, .ref m_listLow, .ref m_planAtHand, .ref m_ofItem]))]) [0] rfl
    have hD9 := hD.sub (ws' := [(m0, .inr (26, [.int m_thrown, .ref m_textSizes, .ref m_texts, .ref m_outcomes, .ref m_whyKind, .ref m_whyPlace, .ref m_answerRows, .ref m_answerColumns, .ref m_answerKinds, .ref m_answerHigh, .ref m_answerLow, .ref m_planSteps, .ref m_plans, .ref m_statements, .ref m_waits, .ref m_transactions, .ref m_begun, .ref m_begins, .int m_nextTransaction, .int m_tables, .ref m_tableNames, .ref m_columnCounts, .ref m_columnNames, .ref m_columnTypes, .ref m_mustBe, .ref m_rowCounts, .ref m_kinds, .ref m_highs, .ref m_lows, .int m_indexes, .ref m_indexNames, .ref m_indexTables, .ref m_indexColumns, .int m_last, .int m_durable, .int m_first, .ref m_recordKinds, .ref m_recordTransactions, .ref m_recordTables, .ref m_recordUndoes, .ref m_isUndone, .ref m_recordValues, .ref m_recordHigh, .ref m_recordLow, .int m_isUp, .int m_isLazy, .int m_redone, .int m_redoEnd, .ref m_locks, .ref m_going, .int m_goingSize, .ref m_keywords, .int m_tokens, .ref m_tokenKinds, .ref m_tokenPlaces, .ref m_tokenValues, .ref m_tokenLow, .int m_p, .int m_inOn, .int m_level, m_made, .int m_faultKind, .int m_faultPlace, .int m_wrongs, .int m_rKind, .long m_rHigh, .long m_rLow, .int m_over, .long m_looked, .ref m_current, .ref m_passed, .ref m_passedSize, .ref m_unitOf, .ref m_unitFirst, .ref m_unit, .ref m_keyKinds, .ref m_keyHigh, .ref m_keyLow, .ref m_sorted, .int m_found, .int m_some, .int m_someNull, .ref m_newKinds, .ref m_newHigh, .ref m_newLow, .ref m_marked, .ref m_oneKind, .ref m_oneHigh, .ref m_oneLow, .ref m_unitAt, .ref m_listKinds, .ref m_listHigh, .ref m_listLow, .ref m_planAtHand, .ref m_ofItem]))]) [0] (by decide) rfl
    have hK9 := hK.sub (tys' := []) [] rfl
    exact W.zret (v := 0) hx hb hr rfl (fun t ht hW => ⟨⟨0, (), rfl, (by show (_ : Int32) = _; (first | rw [if_pos c_1] | rw [if_neg c_1])), by rw [ht]; exact hP9, va_K.moved hW.alike hK9, hD9⟩, hS.F ht⟩) hS.2.2 dX21_isTrue_22
  · skip
    refine lv_aload_n hx hb dX21_isTrue_8 rfl (lv_at hl 0 rfl) ?_
    refine va_get (D := (dC, dI)) (ci := 26) (v := .long m_rHigh) (C := RX21) (T := TX21) (N := 95) hx hb hts (by decide +kernel) hown hK hP 0 rfl rfl 65 (by decide) (hts (.fieldLink RX21 666 "QueryHallModel" "rHigh" "J") (by decide +kernel)) (fun _ h9 => h9) rfl dX21_isTrue_9 ?_
    refine lv_lconst (v := 1) hx hb dX21_isTrue_12 (by decide) ?_
    refine W.lcmp hx hb dX21_isTrue_13 ?_
    refine lv_if_ne (tgt := 21) hx hb dX21_isTrue_14 (by decide) (fun c_2 => ?_) (fun c_2 => ?_)
    · skip
      refine lv_iconst (v := 0) hx hb dX21_isTrue_21 (by decide) ?_
      have hP9 := hP.sub (ws' := [(m0, .inr (26, [.int m_thrown, .ref m_textSizes, .ref m_texts, .ref m_outcomes, .ref m_whyKind, .ref m_whyPlace, .ref m_answerRows, .ref m_answerColumns, .ref m_answerKinds, .ref m_answerHigh, .ref m_answerLow, .ref m_planSteps, .ref m_plans, .ref m_statements, .ref m_waits, .ref m_transactions, .ref m_begun, .ref m_begins, .int m_nextTransaction, .int m_tables, .ref m_tableNames, .ref m_columnCounts, .ref m_columnNames, .ref m_columnTypes, .ref m_mustBe, .ref m_rowCounts, .ref m_kinds, .ref m_highs, .ref m_lows, .int m_indexes, .ref m_indexNames, .ref m_indexTables, .ref m_indexColumns, .int m_last, .int m_durable, .int m_first, .ref m_recordKinds, .ref m_recordTransactions, .ref m_recordTables, .ref m_recordUndoes, .ref m_isUndone, .ref m_recordValues, .ref m_recordHigh, .ref m_recordLow, .int m_isUp, .int m_isLazy, .int m_redone, .int m_redoEnd, .ref m_locks, .ref m_going, .int m_goingSize, .ref m_keywords, .int m_tokens, .ref m_tokenKinds, .ref m_tokenPlaces, .ref m_tokenValues, .ref m_tokenLow, .int m_p, .int m_inOn, .int m_level, m_made, .int m_faultKind, .int m_faultPlace, .int m_wrongs, .int m_rKind, .long m_rHigh, .long m_rLow, .int m_over, .long m_looked, .ref m_current, .ref m_passed, .ref m_passedSize, .ref m_unitOf, .ref m_unitFirst, .ref m_unit, .ref m_keyKinds, .ref m_keyHigh, .ref m_keyLow, .ref m_sorted, .int m_found, .int m_some, .int m_someNull, .ref m_newKinds, .ref m_newHigh, .ref m_newLow, .ref m_marked, .ref m_oneKind, .ref m_oneHigh, .ref m_oneLow, .ref m_unitAt, .ref m_listKinds, .ref m_listHigh, .ref m_listLow, .ref m_planAtHand, .ref m_ofItem]))]) [0] rfl
      have hD9 := hD.sub (ws' := [(m0, .inr (26, [.int m_thrown, .ref m_textSizes, .ref m_texts, .ref m_outcomes, .ref m_whyKind, .ref m_whyPlace, .ref m_answerRows, .ref m_answerColumns, .ref m_answerKinds, .ref m_answerHigh, .ref m_answerLow, .ref m_planSteps, .ref m_plans, .ref m_statements, .ref m_waits, .ref m_transactions, .ref m_begun, .ref m_begins, .int m_nextTransaction, .int m_tables, .ref m_tableNames, .ref m_columnCounts, .ref m_columnNames, .ref m_columnTypes, .ref m_mustBe, .ref m_rowCounts, .ref m_kinds, .ref m_highs, .ref m_lows, .int m_indexes, .ref m_indexNames, .ref m_indexTables, .ref m_indexColumns, .int m_last, .int m_durable, .int m_first, .ref m_recordKinds, .ref m_recordTransactions, .ref m_recordTables, .ref m_recordUndoes, .ref m_isUndone, .ref m_recordValues, .ref m_recordHigh, .ref m_recordLow, .int m_isUp, .int m_isLazy, .int m_redone, .int m_redoEnd, .ref m_locks, .ref m_going, .int m_goingSize, .ref m_keywords, .int m_tokens, .ref m_tokenKinds, .ref m_tokenPlaces, .ref m_tokenValues, .ref m_tokenLow, .int m_p, .int m_inOn, .int m_level, m_made, .int m_faultKind, .int m_faultPlace, .int m_wrongs, .int m_rKind, .long m_rHigh, .long m_rLow, .int m_over, .long m_looked, .ref m_current, .ref m_passed, .ref m_passedSize, .ref m_unitOf, .ref m_unitFirst, .ref m_unit, .ref m_keyKinds, .ref m_keyHigh, .ref m_keyLow, .ref m_sorted, .int m_found, .int m_some, .int m_someNull, .ref m_newKinds, .ref m_newHigh, .ref m_newLow, .ref m_marked, .ref m_oneKind, .ref m_oneHigh, .ref m_oneLow, .ref m_unitAt, .ref m_listKinds, .ref m_listHigh, .ref m_listLow, .ref m_planAtHand, .ref m_ofItem]))]) [0] (by decide) rfl
      have hK9 := hK.sub (tys' := []) [] rfl
      exact W.zret (v := 0) hx hb hr rfl (fun t ht hW => ⟨⟨0, (), rfl, (by show (_ : Int32) = _; (first | rw [if_pos c_1] | rw [if_neg c_1]); (first | rw [if_pos c_2] | rw [if_neg c_2])), by rw [ht]; exact hP9, va_K.moved hW.alike hK9, hD9⟩, hS.F ht⟩) hS.2.2 dX21_isTrue_22
    · skip
      refine lv_iconst (v := 1) hx hb dX21_isTrue_17 (by decide) ?_
      refine lv_goto (tgt := 22) hx hb dX21_isTrue_18 (by decide) ?_
      have hP9 := hP.sub (ws' := [(m0, .inr (26, [.int m_thrown, .ref m_textSizes, .ref m_texts, .ref m_outcomes, .ref m_whyKind, .ref m_whyPlace, .ref m_answerRows, .ref m_answerColumns, .ref m_answerKinds, .ref m_answerHigh, .ref m_answerLow, .ref m_planSteps, .ref m_plans, .ref m_statements, .ref m_waits, .ref m_transactions, .ref m_begun, .ref m_begins, .int m_nextTransaction, .int m_tables, .ref m_tableNames, .ref m_columnCounts, .ref m_columnNames, .ref m_columnTypes, .ref m_mustBe, .ref m_rowCounts, .ref m_kinds, .ref m_highs, .ref m_lows, .int m_indexes, .ref m_indexNames, .ref m_indexTables, .ref m_indexColumns, .int m_last, .int m_durable, .int m_first, .ref m_recordKinds, .ref m_recordTransactions, .ref m_recordTables, .ref m_recordUndoes, .ref m_isUndone, .ref m_recordValues, .ref m_recordHigh, .ref m_recordLow, .int m_isUp, .int m_isLazy, .int m_redone, .int m_redoEnd, .ref m_locks, .ref m_going, .int m_goingSize, .ref m_keywords, .int m_tokens, .ref m_tokenKinds, .ref m_tokenPlaces, .ref m_tokenValues, .ref m_tokenLow, .int m_p, .int m_inOn, .int m_level, m_made, .int m_faultKind, .int m_faultPlace, .int m_wrongs, .int m_rKind, .long m_rHigh, .long m_rLow, .int m_over, .long m_looked, .ref m_current, .ref m_passed, .ref m_passedSize, .ref m_unitOf, .ref m_unitFirst, .ref m_unit, .ref m_keyKinds, .ref m_keyHigh, .ref m_keyLow, .ref m_sorted, .int m_found, .int m_some, .int m_someNull, .ref m_newKinds, .ref m_newHigh, .ref m_newLow, .ref m_marked, .ref m_oneKind, .ref m_oneHigh, .ref m_oneLow, .ref m_unitAt, .ref m_listKinds, .ref m_listHigh, .ref m_listLow, .ref m_planAtHand, .ref m_ofItem]))]) [0] rfl
      have hD9 := hD.sub (ws' := [(m0, .inr (26, [.int m_thrown, .ref m_textSizes, .ref m_texts, .ref m_outcomes, .ref m_whyKind, .ref m_whyPlace, .ref m_answerRows, .ref m_answerColumns, .ref m_answerKinds, .ref m_answerHigh, .ref m_answerLow, .ref m_planSteps, .ref m_plans, .ref m_statements, .ref m_waits, .ref m_transactions, .ref m_begun, .ref m_begins, .int m_nextTransaction, .int m_tables, .ref m_tableNames, .ref m_columnCounts, .ref m_columnNames, .ref m_columnTypes, .ref m_mustBe, .ref m_rowCounts, .ref m_kinds, .ref m_highs, .ref m_lows, .int m_indexes, .ref m_indexNames, .ref m_indexTables, .ref m_indexColumns, .int m_last, .int m_durable, .int m_first, .ref m_recordKinds, .ref m_recordTransactions, .ref m_recordTables, .ref m_recordUndoes, .ref m_isUndone, .ref m_recordValues, .ref m_recordHigh, .ref m_recordLow, .int m_isUp, .int m_isLazy, .int m_redone, .int m_redoEnd, .ref m_locks, .ref m_going, .int m_goingSize, .ref m_keywords, .int m_tokens, .ref m_tokenKinds, .ref m_tokenPlaces, .ref m_tokenValues, .ref m_tokenLow, .int m_p, .int m_inOn, .int m_level, m_made, .int m_faultKind, .int m_faultPlace, .int m_wrongs, .int m_rKind, .long m_rHigh, .long m_rLow, .int m_over, .long m_looked, .ref m_current, .ref m_passed, .ref m_passedSize, .ref m_unitOf, .ref m_unitFirst, .ref m_unit, .ref m_keyKinds, .ref m_keyHigh, .ref m_keyLow, .ref m_sorted, .int m_found, .int m_some, .int m_someNull, .ref m_newKinds, .ref m_newHigh, .ref m_newLow, .ref m_marked, .ref m_oneKind, .ref m_oneHigh, .ref m_oneLow, .ref m_unitAt, .ref m_listKinds, .ref m_listHigh, .ref m_listLow, .ref m_planAtHand, .ref m_ofItem]))]) [0] (by decide) rfl
      have hK9 := hK.sub (tys' := []) [] rfl
      exact W.zret (v := 1) hx hb hr rfl (fun t ht hW => ⟨⟨1, (), rfl, (by show (_ : Int32) = _; (first | rw [if_pos c_1] | rw [if_neg c_1]); (first | rw [if_pos c_2] | rw [if_neg c_2])), by rw [ht]; exact hP9, va_K.moved hW.alike hK9, hD9⟩, hS.F ht⟩) hS.2.2 dX21_isTrue_22
